set_option maxHeartbeats 4000000 in
set_option maxRecDepth 100000 in
theorem c_Walk_goToEntry (l : Launch) (g : zT) (T : va_W) (k h en lf hn ha st pl kd na nl : Nat) (fi : Int32) (z : Int) (rw len hd bg mk ly rn : Nat) (rf : Nat → UInt8) (hh : (h, zo 5 [.ref rw, .int (nI len), .int (nI hd), .int (nI bg), .ref mk, .ref ly]) ∈ T) (hrw : (rw, zBy g rn rf) ∈ T) (v1 : len ≤ rn) (v2 : rn ≤ 65536) (i en2 lf2 ha2 hn2 st2 at2 : Nat) (u1 : pIt rf len 0 (i + 1) = some (en2, lf2, ha2, hn2, st2, at2)) (u2 : i < 2 ^ 20) : Met l y_Walk_goToEntry (zw y_Walk_goToEntry b_Walk_goToEntry 4 (some .boolean)) (zR 4 82 0 0) (zP g [.ref k, .int (nI i)] ((k, zo 7 [.ref h, .int (nI en), .int (nI lf), .long (lN hn), .int (nI ha), .int fi, .long (lI z), .long (lN st), .int (nI pl), .int (nI kd), .int (nI na), .int (nI nl)]) :: T)) (zQi g (fun r w => r = nI 1 ∧ ∃ fi2 : Int32, w = (k, zo 7 [.ref h, .int (nI en2), .int (nI lf2), .long (lN hn2), .int (nI ha2), .int fi2, .long (lI ((hn2 : Int) + s16 (U2 rf len (at2 + 2)))), .long (lN st2), .int (nI (U2 rf len at2)), .int (nI (U2 rf len (at2 + 4))), .int (nI (at2 + 8)), .int (nI (U2 rf len (at2 + 6) + 1))]) :: T)) 0 0 (zA g) := by
  refine zMet (by decide) (Nat.le_of_ble_eq_true rfl) ?_
  intro p e s m below meth c ls C hr hlk hnm hP hD hl
  have hx := C.1.1
  have hb := C.1.2.1
  have hS : va_S (zA g) s.heap s.heap [] := va_S.rf
  have hl : lv_has ls 4 [(0, .ref k), (1, .int (nI i))] := hl
  have L_9 : ∀ (nu : Nat) (j en lf hn ha st pl kd na nl : Nat) (fi : Int32) (z : Int) (_ : en ≤ len) (_ : lf ≤ 256) (_ : lf = 0 ∨ (ha ≤ len ∧ hn < 4294967296 ∧ st < 4294967296)) (_ : j ≤ i + 1) (_ : stepP rf len en lf ha hn st = pIt rf len 0 (j + 1)) (_ : j = 0 ∨ ∃ at3, pIt rf len 0 j = some (en, lf, ha, hn, st, at3) ∧ z = (hn : Int) + s16 (U2 rf len (at3 + 2)) ∧ pl = U2 rf len at3 ∧ kd = U2 rf len (at3 + 4) ∧ na = at3 + 8 ∧ nl = U2 rf len (at3 + 6) + 1) (_ : i + 1 - j < nu) (H : Heap) (locs : List Loc), va_P g.1 classes ((k, zo 7 [.ref h, .int (nI en), .int (nI lf), .long (lN hn), .int (nI ha), .int fi, .long (lI z), .long (lN st), .int (nI pl), .int (nI kd), .int (nI na), .int (nI nl)]) :: T) H → va_D (zA g) ((k, zo 7 [.ref h, .int (nI en), .int (nI lf), .long (lN hn), .int (nI ha), .int fi, .long (lI z), .long (lN st), .int (nI pl), .int (nI kd), .int (nI na), .int (nI nl)]) :: T) → va_S (zA g) s.heap H locs → ∀ ls : Array Slot, lv_has ls 4 [(0, .ref k), (1, .int (nI i)), (2, .int (nI 1)), (3, .int (nI j))] → W p l e (zR 4 82 0 0) s m [.ref k, .int (nI i)].toArray below meth c H locs 0 0 (MQ below (zQi g (fun r w => r = nI 1 ∧ ∃ fi2 : Int32, w = (k, zo 7 [.ref h, .int (nI en2), .int (nI lf2), .long (lN hn2), .int (nI ha2), .int fi2, .long (lI ((hn2 : Int) + s16 (U2 rf len (at2 + 2)))), .long (lN st2), .int (nI (U2 rf len at2)), .int (nI (U2 rf len (at2 + 4))), .int (nI (at2 + 8)), .int (nI (U2 rf len (at2 + 6) + 1))]) :: T)) [.ref k, .int (nI i)].toArray s 0 0 (zA g)) (F0 m 9 ls []) := by
    intro nu
    induction nu with
    | zero => intros; omega
    | succ nu ih =>
      intro j en lf hn ha st pl kd na nl fi z g1 g2 g3 g4 hI hJ hmu H locs hP hD hS ls hl
      refine lv_iload_n hx hb d_Walk_goToEntry_9 rfl (lv_at hl 3 rfl) ?_
      refine lv_iload_n hx hb d_Walk_goToEntry_10 rfl (lv_at hl 1 rfl) ?_
      refine lv_icmp_gt (tgt := 29) hx hb d_Walk_goToEntry_11 (by decide) (fun c_11 => ?_) (fun c_11 => ?_)
      · skip
        have c_11 : i < j := (nI_ltI (a := i) (b := j) (by omega) (by omega)).mp c_11
        refine lv_iload_n hx hb d_Walk_goToEntry_29 rfl (lv_at hl 2 rfl) ?_
        obtain rfl : j = i + 1 := by omega
        rcases hJ with hJ | ⟨at3, hJ, e1, e2, e3, e4, e5⟩
        · exact absurd hJ (by omega)
        rw [u1] at hJ
        cases hJ
        subst e1 e2 e3 e4 e5
        exact z_zret C hr hlk hP hD hS (by omega) (by omega) (by first | exact Or.inl rfl | exact Or.inr rfl) ⟨rfl, _, rfl⟩ d_Walk_goToEntry_30
      · skip
        have c_11 : ¬ i < j := fun q9 => c_11 ((nI_ltI (a := i) (b := j) (by omega) (by omega)).mpr q9)
        refine lv_iload_n hx hb d_Walk_goToEntry_14 rfl (lv_at hl 2 rfl) ?_
        refine lv_if_eq (tgt := 29) hx hb d_Walk_goToEntry_15 (by decide) (fun c_15 => ?_) (fun c_15 => ?_)
        · skip
          have c_15 : 1 = 0 := (nI_eq (a := 1) (b := 0) (by decide) (by decide)).mp c_15
          exact absurd c_15 (by omega)
        · skip
          have c_15 : ¬ 1 = 0 := fun q9 => c_15 ((nI_eq (a := 1) (b := 0) (by decide) (by decide)).mpr q9)
          refine lv_aload_n hx hb d_Walk_goToEntry_18 rfl (lv_at hl 0 rfl) ?_
          refine z_ki (z_runV (np := 0) C (c_Walk_step l g T k h en lf hn ha st pl kd na nl fi z rw len hd bg mk ly rn rf hh hrw v1 v2 g1 (by omega)) hP hD hS List.mem_cons_self (show classes[7]? = some (R_Walk, F_Walk, 12) from rfl) k_653 k_10 k_703 k_651 k_652 ⟨by decide, by decide, by decide⟩ ⟨Nat.le_of_ble_eq_true rfl, Nat.le_of_ble_eq_true rfl⟩ rfl hl.1 rfl (Nat.le_of_ble_eq_true rfl) d_Walk_goToEntry_19 ⟨by show _ ≤ 0; omega, by show _ ≤ 0; omega⟩) hS (fun r_19 w H locs hw hP hD hS => ?_)
          rcases hst : stepP rf len en lf ha hn st with _ | ⟨en3, lf3, ha3, hn3, st3, at3⟩
          · skip
            exact absurd (hI ▸ hst) (pIt_le (n := i + 1) (by omega) (by rw [u1]; exact fun q9 => nomatch q9))
          · skip
            obtain ⟨rfl, hw2⟩ := hw.1 _ _ _ _ _ _ hst
            rw [hw2] at hP hD
            obtain ⟨p1, p2, p3, p4, p5, p6, p7⟩ := stepP_some hst g2 g3
            refine lv_istore_n (lv' := [(2, .int (nI 1)), (0, .ref k), (1, .int (nI i)), (3, .int (nI j))]) hx hb d_Walk_goToEntry_22 rfl hl (by decide) rfl (fun ls hl => ?_)
            refine lv_iinc (v := nI (j + 1)) (lv' := [(3, .int (nI (j + 1))), (2, .int (nI 1)), (0, .ref k), (1, .int (nI i))]) hx hb d_Walk_goToEntry_23 hl (k := 3) rfl (by rw [show Int32.ofInt 1 = nI 1 by decide]; exact nI_add _ _) (by decide) rfl (fun ls hl => ?_)
            refine lv_goto (tgt := 9) hx hb d_Walk_goToEntry_26 (by decide) ?_
            exact ih _ _ _ _ _ _ _ _ _ _ _ _ p1 p2 (Or.inr ⟨p3, p4, p5⟩) (by omega) (pIt_s (hI.symm.trans hst)).symm (Or.inr ⟨at3, hI.symm.trans hst, rfl, rfl, rfl, rfl, rfl⟩) (by omega) _ _ hP hD hS ls (lv_sub hl [2, 3, 1, 0] rfl)
  refine lv_aload_n hx hb d_Walk_goToEntry_0 rfl (lv_at hl 0 rfl) ?_
  refine lv_iconst (v := nI 0) hx hb d_Walk_goToEntry_1 (by decide) ?_
  refine z_kv (z_runV (np := 1) C (c_Walk_goTo l g T k h en lf hn ha st pl kd na nl fi z 0) hP hD hS List.mem_cons_self (show classes[7]? = some (R_Walk, F_Walk, 12) from rfl) k_644 k_10 k_702 k_642 k_643 ⟨by decide, by decide, by decide⟩ ⟨Nat.le_of_ble_eq_true rfl, Nat.le_of_ble_eq_true rfl⟩ rfl hl.1 rfl (Nat.le_of_ble_eq_true rfl) d_Walk_goToEntry_2 ⟨by show _ ≤ 0; omega, by show _ ≤ 0; omega⟩) hS (fun w H locs hw hP hD hS => ?_)
  rw [hw] at hP hD
  refine lv_iconst (v := nI 1) hx hb d_Walk_goToEntry_5 (by decide) ?_
  refine lv_istore_n (lv' := [(2, .int (nI 1)), (0, .ref k), (1, .int (nI i))]) hx hb d_Walk_goToEntry_6 rfl hl (by decide) rfl (fun ls hl => ?_)
  refine lv_iconst (v := nI 0) hx hb d_Walk_goToEntry_7 (by decide) ?_
  refine lv_istore_n (lv' := [(3, .int (nI 0)), (2, .int (nI 1)), (0, .ref k), (1, .int (nI i))]) hx hb d_Walk_goToEntry_8 rfl hl (by decide) rfl (fun ls hl => ?_)
  exact L_9 _ 0 0 0 hn ha st pl kd na nl fi z (Nat.zero_le _) (Nat.zero_le _) (Or.inl rfl) (Nat.zero_le _) stepP_0 (Or.inl rfl) (Nat.lt_succ_self _) _ _ hP hD hS ls (lv_sub hl [2, 3, 1, 0] rfl)
