theorem frt_id : frt (fun X => X) := fun X => List.Perm.refl X
theorem frt_cons {F : va_W → va_W} (q : Nat × va_E) (h : frt F) : frt (fun X => q :: F X) := fun X => (h X).cons q
theorem frt_app {F : va_W → va_W} (B : va_W) (h : frt F) : frt (fun X => B ++ F X) := fun X => by
  show (B ++ F X).Perm ((B ++ F []) ++ X)
  rw [List.append_assoc]
  exact (h X).append_left B
theorem RowC_frt {g : zT} {ro : Nat} {tpe : List UInt8} {es kl : List zE} {rf : Nat → UInt8} {len hd bg : Nat} {ml : List zM} {pv : Nat} {T0 : va_W} {Wf : va_W → va_W} (h : RowC g ro tpe es kl rf len hd bg ml pv T0 Wf) : frt Wf := by
  obtain ⟨tp, q, dr, li, d, kli, h, rw, ly, mk, k, jd, x, kx, mx, fi, vd, ed, cap, ked, kcap, med, mcap, met, f, kfn, mfn, tb, xs, ks, ms, b0, hs, en0, ha0, hn0, he, ea, en, lf, hn, ha, st, pl, kd, na, nl, z, hW, -⟩ := h
  rw [show Wf = _ from funext hW]
  exact (frt_cons _ (frt_cons _ (frt_cons _ (frt_cons _ (frt_cons _ (frt_app _ (frt_cons _ (frt_cons _ (frt_app _ (frt_cons _ (frt_cons _ (frt_cons _ (frt_cons _ (frt_app _ (frt_cons _ (frt_cons _ frt_id))))))))))))))))
theorem ModC_frt {g : zT} {o : Nat} {tpe : List UInt8} {es kl : List zE} {f : Nat → UInt8} {sz hd bg : Nat} {ml : List zM} {pv nc : Nat} {Mf : va_W → va_W} (h : ModC g o tpe es kl f sz hd bg ml pv nc Mf) : frt Mf := by
  obtain ⟨ts, ta, ne, ans, anm, anu, asa, apl, akd, nk, akn, aks, akp, akk, alg, ni, aip, aix, aiz, aim, aod, av, hv, lf, sn, tb, nmb, inm, nsz, num, sta, pla, kin, kn, ks, kp, kk, isz, od, ipl, ist, hW, -⟩ := h
  rw [show Mf = _ from funext hW]
  exact (frt_cons _ (frt_cons _ (frt_cons _ (frt_cons _ (frt_cons _ (frt_cons _ (frt_cons _ (frt_cons _ (frt_cons _ (frt_cons _ (frt_cons _ (frt_cons _ (frt_cons _ (frt_cons _ (frt_cons _ (frt_cons _ (frt_cons _ (frt_cons _ frt_id))))))))))))))))))
theorem isMks.set {g : zT} {ws : va_W} {xs : List Nat} {ml : List zM} {n y : Nat} {k : zM} (h : isMks g ws xs ml) (hy : isMark g ws y k) : isMks g ws (xs.set n y) (ml.set n k) := by
  refine ⟨by rw [List.length_set, List.length_set]; exact h.1, fun j a q h1 h2 => ?_⟩
  by_cases hj : j = n
  · subst hj
    have hl : j < xs.length := by
      have := (List.getElem?_eq_some_iff.mp h1).1
      rwa [List.length_set] at this
    rw [List.getElem?_set_self hl] at h1
    rw [List.getElem?_set_self (by rw [← h.1]; exact hl)] at h2
    cases h1
    cases h2
    exact hy
  · rw [List.getElem?_set_ne (fun q => hj q.symm)] at h1 h2
    exact h.2 j a q h1 h2
