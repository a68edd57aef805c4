theorem okA.fedT {tpe : List UInt8} {es kl : List zE} {len bg n k : Nat} {ml : List zM} {b : Int64} (h : okA tpe es kl len bg ml n) (h1 : k ≤ 8) : okA (fdT tpe b k) es kl len bg ml (n + 1) := by
  unfold fdT
  by_cases q : tpe.length + k ≤ 300
  · rw [if_pos q]
    exact h.fed (by rw [List.length_map, List.length_range]; exact h1) (by rw [List.length_map, List.length_range]; exact q)
  · rw [if_neg q]
    exact h.up
theorem okA.setM {tpe : List UInt8} {es kl : List zE} {len bg n i : Nat} {ml : List zM} {x y : Int32} (h : okA tpe es kl len bg ml n) (ht : tpe.length ≤ 256) : okA [] es kl len bg (ml.set i (x, y, tpe)) (n + 1) := by
  obtain ⟨a1, a2, a3, a4, a5, a6, a7, a8, a9, b1, b2, b3⟩ := h.t0
  refine ⟨a1, a2, a3, a4, a5, a6, a7, by rw [List.length_set]; exact a8, fun k hk => ?_, b1, b2, b3⟩
  rcases List.mem_or_eq_of_mem_set hk with z | z
  · exact a9 k z
  · rw [z]; exact ht
theorem okA.made {tpe : List UInt8} {es kl : List zE} {len bg n b : Nat} {ml : List zM} (h : okA tpe es kl len bg ml n) (hn : n ≤ 512) (hb : b ≤ 40000) : okA tpe es kl (layN b (efl es) es.length).2.1 b (mkL b (efl es) es.length) (n + 1) := by
  have h1 := lay_8192 (b := b) h hn
  have hO : ∀ j, j < es.length → okE (efl es j) := fun j hj => h.2.2.1 _ (efl_mem hj)
  have h2 := mkL_few (b := b) (ef := efl es) (n := es.length) hO
  have h3 := layN_bd (b := b) (ef := efl es) (n := es.length) hO
  exact h.lst (by omega) hb (by omega) (mkL_nm (fun j hj => (hO j hj).2.1))
theorem ModC_up {g : zT} {o : Nat} {tpe : List UInt8} {es kl : List zE} {f : Nat → UInt8} {sz hd bg : Nat} {ml : List zM} {pv nc : Nat} {Mf : va_W → va_W} (h : ModC g o tpe es kl f sz hd bg ml pv nc Mf) : ModC g o tpe es kl f sz hd bg ml pv (nc + 1) Mf := by
  obtain ⟨ts, ta, ne, ans, anm, anu, asa, apl, akd, nk, akn, aks, akp, akk, alg, ni, aip, aix, aiz, aim, aod, av, hv, lf, sn, tb, nmb, inm, nsz, num, sta, pla, kin, kn, ks, kp, kk, isz, od, ipl, ist, hW, h1, h2, ⟨h3, h4⟩, h5⟩ := h
  exact ⟨ts, ta, ne, ans, anm, anu, asa, apl, akd, nk, akn, aks, akp, akk, alg, ni, aip, aix, aiz, aim, aod, av, hv, lf, sn, tb, nmb, inm, nsz, num, sta, pla, kin, kn, ks, kp, kk, isz, od, ipl, ist, hW, h1, h2, ⟨h3, by omega⟩, h5⟩
theorem ModC_sm {g : zT} {o : Nat} {tpe : List UInt8} {es kl : List zE} {f : Nat → UInt8} {sz hd bg : Nat} {ml : List zM} {pv nc : Nat} {Mf : va_W → va_W} (h : ModC g o tpe es kl f sz hd bg ml pv nc Mf) (hg : g.2.1 0 ≠ g.2.1 1) {X : va_W} : ∀ q ∈ Mf X, smallC g q → q ∈ X := by
  obtain ⟨ts, ta, ne, ans, anm, anu, asa, apl, akd, nk, akn, aks, akp, akk, alg, ni, aip, aix, aiz, aim, aod, av, hv, lf, sn, tb, nmb, inm, nsz, num, sta, pla, kin, kn, ks, kp, kk, isz, od, ipl, ist, hW, -⟩ := h
  rw [hW]
  intro q9 h8 h9
  exact (sm_cons h9 (nsm_j hg) (sm_cons h9 (nsm_j hg) (sm_cons h9 (nsm_j hg) (sm_cons h9 (nsm_j hg) (sm_cons h9 (nsm_j hg) (sm_cons h9 (nsm_b (by decide)) (sm_cons h9 (nsm_j hg) (sm_cons h9 (nsm_j hg) (sm_cons h9 (nsm_j hg) (sm_cons h9 (nsm_j hg) (sm_cons h9 (nsm_j hg) (sm_cons h9 (nsm_j hg) (sm_cons h9 (nsm_j hg) (sm_cons h9 (nsm_j hg) (sm_cons h9 (nsm_b (by decide)) (sm_cons h9 (nsm_j hg) (sm_cons h9 (nsm_j hg) (sm_cons h9 (nsm_o (by decide)) h8))))))))))))))))))
theorem RowC_T {g : zT} {ro : Nat} {tpe : List UInt8} {es kl : List zE} {rf : Nat → UInt8} {len hd bg : Nat} {ml : List zM} {pv : Nat} {T0 : va_W} {Wf : va_W → va_W} (h : RowC g ro tpe es kl rf len hd bg ml pv ([] ++ T0) Wf) : RowC g ro tpe es kl rf len hd bg ml pv T0 Wf := h
theorem g01 {g : zT} {s : State} (hG : zG g s) : g.2.1 0 ≠ g.2.1 1 := by
  intro h
  have h1 : s.vm.findClass ("[" ++ FieldType.byte.toString) = some (g.2.1 0) := (hG.2.1.2 0 _ rfl).2
  have h2 : s.vm.findClass ("[" ++ FieldType.int.toString) = some (g.2.1 1) := (hG.2.1.2 1 _ rfl).2
  rw [h] at h1
  obtain ⟨k1, a1, b1⟩ := Vm.findClass_spec h1
  obtain ⟨k2, a2, b2⟩ := Vm.findClass_spec h2
  rw [a1] at a2
  cases a2
  rw [b1] at b2
  exact absurd b2 (by decide)
