theorem bI_t' {p : Prop} [Decidable p] (h : p) : bI (decide p) = nI 1 := by rw [decide_eq_true h]; rfl
theorem bI_f' {p : Prop} [Decidable p] (h : ¬ p) : bI (decide p) = nI 0 := by rw [decide_eq_false h]; rfl
set_option maxHeartbeats 4000000 in
set_option maxRecDepth 100000 in
theorem c_Walk_step (l : Launch) (g : zT) (T : va_W) (k h en lf hn ha st pl kd na nl : Nat) (fi : Int32) (z : Int) (rw len hd bg mk ly rn : Nat) (rf : Nat → UInt8) (hh : (h, zo 5 [.ref rw, .int (nI len), .int (nI hd), .int (nI bg), .ref mk, .ref ly]) ∈ T) (hrw : (rw, zBy g rn rf) ∈ T) (v1 : len ≤ rn) (v2 : rn ≤ 65536) (u1 : en ≤ len) (u2 : lf < 2 ^ 20) : Met l y_Walk_step (zw y_Walk_step b_Walk_step 1 (some .boolean)) (zR 3 62 0 0) (zP g [.ref k] ((k, zo 7 [.ref h, .int (nI en), .int (nI lf), .long (lN hn), .int (nI ha), .int fi, .long (lI z), .long (lN st), .int (nI pl), .int (nI kd), .int (nI na), .int (nI nl)]) :: T)) (zQi g (fun r w => (∀ en2 lf2 ha2 hn2 st2 at2, stepP rf len en lf ha hn st = some (en2, lf2, ha2, hn2, st2, at2) → r = nI 1 ∧ w = (k, zo 7 [.ref h, .int (nI en2), .int (nI lf2), .long (lN hn2), .int (nI ha2), .int (bI (decide (lf = 0))), .long (lI ((hn2 : Int) + s16 (U2 rf len (at2 + 2)))), .long (lN st2), .int (nI (U2 rf len at2)), .int (nI (U2 rf len (at2 + 4))), .int (nI (at2 + 8)), .int (nI (U2 rf len (at2 + 6) + 1))]) :: T) ∧ (stepP rf len en lf ha hn st = none → r = nI 0 ∧ ∃ (en2 lf2 hn2 ha2 st2 pl2 kd2 na2 nl2 : Nat) (fi2 : Int32) (z2 : Int), w = (k, zo 7 [.ref h, .int (nI en2), .int (nI lf2), .long (lN hn2), .int (nI ha2), .int fi2, .long (lI z2), .long (lN st2), .int (nI pl2), .int (nI kd2), .int (nI na2), .int (nI nl2)]) :: T))) 0 0 (zA g) := by
  refine zMet (by decide) (Nat.le_of_ble_eq_true rfl) ?_
  intro p e s m below meth c ls C hr hlk hnm hP hD hl
  have hx := C.1.1
  have hb := C.1.2.1
  have hS : va_S (zA g) s.heap s.heap [] := va_S.rf
  have hl : lv_has ls 1 [(0, .ref k)] := hl
  refine lv_aload_n hx hb d_Walk_step_0 rfl (lv_at hl 0 rfl) ?_
  refine lv_aload_n hx hb d_Walk_step_1 rfl (lv_at hl 0 rfl) ?_
  refine z_get C hP List.mem_cons_self q_Walk 2 (by decide) k_173 (fun _ h9 => h9) rfl d_Walk_step_2 ?_
  refine lv_if_ne (tgt := 12) hx hb d_Walk_step_5 (by decide) (fun c_5 => ?_) (fun c_5 => ?_)
  · skip
    have c_5 : ¬ lf = 0 := fun q9 => c_5 ((nI_eq (a := lf) (b := 0) (by omega) (by decide)).mpr q9)
    refine lv_iconst (v := nI 0) hx hb d_Walk_step_12 (by decide) ?_
    refine z_put C hP hD hS 0 rfl q_Walk 5 (by decide) k_178 (fun _ h9 => h9) rfl (by first | rfl | decide) (by first | rfl | decide) (Nat.le_of_ble_eq_true rfl) d_Walk_step_13 (ws' := (k, zo 7 [.ref h, .int (nI en), .int (nI lf), .long (lN hn), .int (nI ha), .int (nI 0), .long (lI z), .long (lN st), .int (nI pl), .int (nI kd), .int (nI na), .int (nI nl)]) :: T) rfl (fun H locs hP hD hS => ?_)
    refine lv_aload_n hx hb d_Walk_step_16 rfl (lv_at hl 0 rfl) ?_
    refine z_get C hP List.mem_cons_self q_Walk 5 (by decide) k_178 (fun _ h9 => h9) rfl d_Walk_step_17 ?_
    refine lv_if_eq (tgt := 30) hx hb d_Walk_step_20 (by decide) (fun c_20 => ?_) (fun c_20 => ?_)
    · skip
      have c_20 : 0 = 0 := (nI_eq (a := 0) (b := 0) (by decide) (by decide)).mp c_20
      refine lv_aload_n hx hb d_Walk_step_30 rfl (lv_at hl 0 rfl) ?_
      refine z_ki (z_runV (np := 0) C (c_Walk_readEntry l g T k h en lf hn ha st pl kd na nl (nI 0) z rw len hd bg mk ly rn rf hh hrw v1 v2 (by omega) (by omega)) hP hD hS List.mem_cons_self (show classes[7]? = some (R_Walk, F_Walk, 12) from rfl) k_667 k_10 k_664 k_666 ks_Walk_readEntry ⟨by decide, by decide, by decide⟩ ⟨Nat.le_of_ble_eq_true rfl, Nat.le_of_ble_eq_true rfl⟩ rfl hl.1 rfl (Nat.le_of_ble_eq_true rfl) d_Walk_step_31 ⟨by show _ ≤ 0; omega, by show _ ≤ 0; omega⟩) hS (fun r_31 w H locs hw hP hD hS => ?_)
      by_cases hd9 : en + 8 ≤ len ∧ en + 9 + U2 rf len (en + 6) ≤ len
      · skip
        obtain ⟨rfl, hw2⟩ := hw.1 hd9
        rw [hw2] at hP hD
        refine lv_if_eq (tgt := 41) hx hb d_Walk_step_34 (by decide) (fun c_34 => ?_) (fun c_34 => ?_)
        · skip
          have c_34 : 1 = 0 := (nI_eq (a := 1) (b := 0) (by decide) (by decide)).mp c_34
          exact absurd c_34 (by omega)
        · skip
          have c_34 : ¬ 1 = 0 := fun q9 => c_34 ((nI_eq (a := 1) (b := 0) (by decide) (by decide)).mpr q9)
          refine lv_iconst (v := nI 1) hx hb d_Walk_step_37 (by decide) ?_
          refine lv_goto (tgt := 42) hx hb d_Walk_step_38 (by decide) ?_
          exact z_zret C hr hlk hP hD hS (by omega) (by omega) (by first | exact Or.inl rfl | exact Or.inr rfl) ⟨fun en2 lf2 ha2 hn2 st2 at2 q9 => ⟨rfl, by
          unfold stepP at q9
          rw [if_neg c_5, if_pos (by omega)] at q9
          cases q9
          rw [bI_f' c_5, show en + 8 + (U2 rf len (en + 6) + 1) = en + 9 + U2 rf len (en + 6) by omega]⟩, fun q9 => absurd q9 (by unfold stepP; rw [if_neg c_5, if_pos (by omega)]; exact fun q8 => nomatch q8)⟩ d_Walk_step_42
      · skip
        obtain ⟨rfl, z2, pl2, kd2, na2, nl2, hw2⟩ := hw.2 hd9
        rw [hw2] at hP hD
        refine lv_if_eq (tgt := 41) hx hb d_Walk_step_34 (by decide) (fun c_34 => ?_) (fun c_34 => ?_)
        · skip
          have c_34 : 0 = 0 := (nI_eq (a := 0) (b := 0) (by decide) (by decide)).mp c_34
          refine lv_iconst (v := nI 0) hx hb d_Walk_step_41 (by decide) ?_
          exact z_zret C hr hlk hP hD hS (by omega) (by omega) (by first | exact Or.inl rfl | exact Or.inr rfl) ⟨fun en2 lf2 ha2 hn2 st2 at2 q9 => absurd q9 (by unfold stepP; rw [if_neg c_5, if_neg (by omega)]; exact fun q8 => nomatch q8), fun _ => ⟨rfl, _, _, _, _, _, _, _, _, _, _, _, rfl⟩⟩ d_Walk_step_42
        · skip
          have c_34 : ¬ 0 = 0 := fun q9 => c_34 ((nI_eq (a := 0) (b := 0) (by decide) (by decide)).mpr q9)
          exact absurd c_34 (by omega)
    · skip
      have c_20 : ¬ 0 = 0 := fun q9 => c_20 ((nI_eq (a := 0) (b := 0) (by decide) (by decide)).mpr q9)
      exact absurd c_20 (by omega)
  · skip
    have c_5 : lf = 0 := (nI_eq (a := lf) (b := 0) (by omega) (by decide)).mp c_5
    refine lv_iconst (v := nI 1) hx hb d_Walk_step_8 (by decide) ?_
    refine lv_goto (tgt := 13) hx hb d_Walk_step_9 (by decide) ?_
    refine z_put C hP hD hS 0 rfl q_Walk 5 (by decide) k_178 (fun _ h9 => h9) rfl (by first | rfl | decide) (by first | rfl | decide) (Nat.le_of_ble_eq_true rfl) d_Walk_step_13 (ws' := (k, zo 7 [.ref h, .int (nI en), .int (nI lf), .long (lN hn), .int (nI ha), .int (nI 1), .long (lI z), .long (lN st), .int (nI pl), .int (nI kd), .int (nI na), .int (nI nl)]) :: T) rfl (fun H locs hP hD hS => ?_)
    refine lv_aload_n hx hb d_Walk_step_16 rfl (lv_at hl 0 rfl) ?_
    refine z_get C hP List.mem_cons_self q_Walk 5 (by decide) k_178 (fun _ h9 => h9) rfl d_Walk_step_17 ?_
    refine lv_if_eq (tgt := 30) hx hb d_Walk_step_20 (by decide) (fun c_20 => ?_) (fun c_20 => ?_)
    · skip
      have c_20 : 1 = 0 := (nI_eq (a := 1) (b := 0) (by decide) (by decide)).mp c_20
      exact absurd c_20 (by omega)
    · skip
      have c_20 : ¬ 1 = 0 := fun q9 => c_20 ((nI_eq (a := 1) (b := 0) (by decide) (by decide)).mpr q9)
      refine lv_aload_n hx hb d_Walk_step_23 rfl (lv_at hl 0 rfl) ?_
      refine z_ki (z_runV (np := 0) C (c_Walk_readHeader l g T k h en lf hn ha st pl kd na nl (nI 1) z rw len hd bg mk ly rn rf hh hrw v1 v2 u1) hP hD hS List.mem_cons_self (show classes[7]? = some (R_Walk, F_Walk, 12) from rfl) k_657 k_10 k_654 k_656 ks_Walk_readHeader ⟨by decide, by decide, by decide⟩ ⟨Nat.le_of_ble_eq_true rfl, Nat.le_of_ble_eq_true rfl⟩ rfl hl.1 rfl (Nat.le_of_ble_eq_true rfl) d_Walk_step_24 ⟨by show _ ≤ 0; omega, by show _ ≤ 0; omega⟩) hS (fun r_24 w H locs hw hP hD hS => ?_)
      by_cases hc9 : en + 12 ≤ len ∧ U4 rf len en < 256
      · skip
        obtain ⟨rfl, hw2⟩ := hw.1 hc9
        rw [hw2] at hP hD
        refine lv_if_eq (tgt := 41) hx hb d_Walk_step_27 (by decide) (fun c_27 => ?_) (fun c_27 => ?_)
        · skip
          have c_27 : 1 = 0 := (nI_eq (a := 1) (b := 0) (by decide) (by decide)).mp c_27
          exact absurd c_27 (by omega)
        · skip
          have c_27 : ¬ 1 = 0 := fun q9 => c_27 ((nI_eq (a := 1) (b := 0) (by decide) (by decide)).mpr q9)
          refine lv_aload_n hx hb d_Walk_step_30 rfl (lv_at hl 0 rfl) ?_
          refine z_ki (z_runV (np := 0) C (c_Walk_readEntry l g T k h (en + 12) (U4 rf len en + 1) (U4 rf len (en + 8)) en (U4 rf len (en + 4)) pl kd na nl (nI 1) z rw len hd bg mk ly rn rf hh hrw v1 v2 (by omega) (by omega)) hP hD hS List.mem_cons_self (show classes[7]? = some (R_Walk, F_Walk, 12) from rfl) k_667 k_10 k_664 k_666 ks_Walk_readEntry ⟨by decide, by decide, by decide⟩ ⟨Nat.le_of_ble_eq_true rfl, Nat.le_of_ble_eq_true rfl⟩ rfl hl.1 rfl (Nat.le_of_ble_eq_true rfl) d_Walk_step_31 ⟨by show _ ≤ 0; omega, by show _ ≤ 0; omega⟩) hS (fun r_31 w H locs hw hP hD hS => ?_)
          by_cases hd9 : (en + 12) + 8 ≤ len ∧ (en + 12) + 9 + U2 rf len ((en + 12) + 6) ≤ len
          · skip
            obtain ⟨rfl, hw2⟩ := hw.1 hd9
            rw [hw2] at hP hD
            refine lv_if_eq (tgt := 41) hx hb d_Walk_step_34 (by decide) (fun c_34 => ?_) (fun c_34 => ?_)
            · skip
              have c_34 : 1 = 0 := (nI_eq (a := 1) (b := 0) (by decide) (by decide)).mp c_34
              exact absurd c_34 (by omega)
            · skip
              have c_34 : ¬ 1 = 0 := fun q9 => c_34 ((nI_eq (a := 1) (b := 0) (by decide) (by decide)).mpr q9)
              refine lv_iconst (v := nI 1) hx hb d_Walk_step_37 (by decide) ?_
              refine lv_goto (tgt := 42) hx hb d_Walk_step_38 (by decide) ?_
              exact z_zret C hr hlk hP hD hS (by omega) (by omega) (by first | exact Or.inl rfl | exact Or.inr rfl) ⟨fun en2 lf2 ha2 hn2 st2 at2 q9 => ⟨rfl, by
          unfold stepP at q9
          rw [if_pos c_5, if_pos (by omega)] at q9
          cases q9
          rw [bI_t' c_5, show U4 rf len en + 1 - 1 = U4 rf len en by omega, show en + 12 + 8 + (U2 rf len (en + 12 + 6) + 1) = en + 12 + 9 + U2 rf len (en + 12 + 6) by omega]⟩, fun q9 => absurd q9 (by unfold stepP; rw [if_pos c_5, if_pos (by omega)]; exact fun q8 => nomatch q8)⟩ d_Walk_step_42
          · skip
            obtain ⟨rfl, z2, pl2, kd2, na2, nl2, hw2⟩ := hw.2 hd9
            rw [hw2] at hP hD
            refine lv_if_eq (tgt := 41) hx hb d_Walk_step_34 (by decide) (fun c_34 => ?_) (fun c_34 => ?_)
            · skip
              have c_34 : 0 = 0 := (nI_eq (a := 0) (b := 0) (by decide) (by decide)).mp c_34
              refine lv_iconst (v := nI 0) hx hb d_Walk_step_41 (by decide) ?_
              exact z_zret C hr hlk hP hD hS (by omega) (by omega) (by first | exact Or.inl rfl | exact Or.inr rfl) ⟨fun en2 lf2 ha2 hn2 st2 at2 q9 => absurd q9 (by unfold stepP; rw [if_pos c_5, if_neg (by omega)]; exact fun q8 => nomatch q8), fun _ => ⟨rfl, _, _, _, _, _, _, _, _, _, _, _, rfl⟩⟩ d_Walk_step_42
            · skip
              have c_34 : ¬ 0 = 0 := fun q9 => c_34 ((nI_eq (a := 0) (b := 0) (by decide) (by decide)).mpr q9)
              exact absurd c_34 (by omega)
      · skip
        obtain ⟨rfl, hw2⟩ := hw.2 hc9
        rw [hw2] at hP hD
        refine lv_if_eq (tgt := 41) hx hb d_Walk_step_27 (by decide) (fun c_27 => ?_) (fun c_27 => ?_)
        · skip
          have c_27 : 0 = 0 := (nI_eq (a := 0) (b := 0) (by decide) (by decide)).mp c_27
          refine lv_iconst (v := nI 0) hx hb d_Walk_step_41 (by decide) ?_
          exact z_zret C hr hlk hP hD hS (by omega) (by omega) (by first | exact Or.inl rfl | exact Or.inr rfl) ⟨fun en2 lf2 ha2 hn2 st2 at2 q9 => absurd q9 (by unfold stepP; rw [if_pos c_5, if_neg (by omega)]; exact fun q8 => nomatch q8), fun _ => ⟨rfl, _, _, _, _, _, _, _, _, _, _, _, rfl⟩⟩ d_Walk_step_42
        · skip
          have c_27 : ¬ 0 = 0 := fun q9 => c_27 ((nI_eq (a := 0) (b := 0) (by decide) (by decide)).mpr q9)
          exact absurd c_27 (by omega)
set_option maxHeartbeats 4000000 in
set_option maxRecDepth 100000 in
theorem c_Walk_compareNameWith (l : Launch) (g : zT) (T : va_W) (k h en lf hn ha st pl kd na nl : Nat) (fi : Int32) (z : Int) (rw len hd bg mk ly rn : Nat) (rf : Nat → UInt8) (hh : (h, zo 5 [.ref rw, .int (nI len), .int (nI hd), .int (nI bg), .ref mk, .ref ly]) ∈ T) (hrw : (rw, zBy g rn rf) ∈ T) (v1 : len ≤ rn) (v2 : rn ≤ 65536) (u1 : (k, zo 7 [.ref h, .int (nI en), .int (nI lf), .long (lN hn), .int (nI ha), .int fi, .long (lI z), .long (lN st), .int (nI pl), .int (nI kd), .int (nI na), .int (nI nl)]) ∈ T) (u2 : na + nl ≤ rn) (q fr ln n : Nat) (f : Nat → UInt8) (hq : (q, zBy g n f) ∈ T) (u3 : fr + ln ≤ n) (u4 : n < 2 ^ 29) : Met l y_Walk_compareNameWith (zw y_Walk_compareNameWith b_Walk_compareNameWith 4 (some .int)) (zR 2 49 0 0) (zP g [.ref k, .ref q, .int (nI fr), .int (nI ln)] (T)) (zQi g (fun r w => r = iI (cmpB (zl rf na nl) (zl f fr ln)) ∧ w = T)) 0 0 (zA g) := by
  refine zMet (by decide) (Nat.le_of_ble_eq_true rfl) ?_
  intro p e s m below meth c ls C hr hlk hnm hP hD hl
  have hx := C.1.1
  have hb := C.1.2.1
  have hS : va_S (zA g) s.heap s.heap [] := va_S.rf
  have hl : lv_has ls 4 [(0, .ref k), (1, .ref q), (2, .int (nI fr)), (3, .int (nI ln))] := hl
  refine lv_aload_n hx hb d_Walk_compareNameWith_0 rfl (lv_at hl 0 rfl) ?_
  refine z_get C hP u1 q_Walk 0 (by decide) k_171 (fun _ h9 => h9) rfl d_Walk_compareNameWith_1 ?_
  refine z_get C hP hh q_Lst 0 (by decide) k_138 (fun _ h9 => h9) rfl d_Walk_compareNameWith_4 ?_
  refine lv_aload_n hx hb d_Walk_compareNameWith_7 rfl (lv_at hl 0 rfl) ?_
  refine z_get C hP u1 q_Walk 10 (by decide) k_192 (fun _ h9 => h9) rfl d_Walk_compareNameWith_8 ?_
  refine lv_aload_n hx hb d_Walk_compareNameWith_11 rfl (lv_at hl 0 rfl) ?_
  refine z_get C hP u1 q_Walk 11 (by decide) k_194 (fun _ h9 => h9) rfl d_Walk_compareNameWith_12 ?_
  refine lv_aload_n hx hb d_Walk_compareNameWith_15 rfl (lv_at hl 1 rfl) ?_
  refine lv_iload_n hx hb d_Walk_compareNameWith_16 rfl (lv_at hl 2 rfl) ?_
  refine lv_iload_n hx hb d_Walk_compareNameWith_17 rfl (lv_at hl 3 rfl) ?_
  refine z_ki (z_runS (np := 6) C (c_Nam_compare l g T rw na nl rn q fr ln n rf f hrw hq u2 u3 (by omega) (by omega)) hP hD hS k_318 k_13 k_681 k_317 ⟨by decide, by decide, by decide⟩ ⟨Nat.le_of_ble_eq_true rfl, Nat.le_of_ble_eq_true rfl⟩ rfl hl.1 rfl (Nat.le_of_ble_eq_true rfl) d_Walk_compareNameWith_18 ⟨by show _ ≤ 0; omega, by show _ ≤ 0; omega⟩) hS (fun r_18 w H locs hw hP hD hS => ?_)
  obtain ⟨rfl, hw⟩ := hw
  rw [hw] at hP hD
  exact z_iret C hr hlk hP hD hS (by omega) (by omega) ⟨rfl, rfl⟩ d_Walk_compareNameWith_21
