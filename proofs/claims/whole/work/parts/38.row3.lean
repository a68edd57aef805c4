def bV (f : Nat → UInt8) (len i : Nat) : Nat → Int64
  | 0 => 0
  | t + 1 => (bV f len i t) <<< ((nI 8).toInt64 &&& 63) ||| lN (bz f len (8 * i + (7 - t)))
set_option maxHeartbeats 4000000 in
set_option maxRecDepth 100000 in
theorem c_Row_index_b1 (l : Launch) (g : zT) (T : va_W) (ro tp dr d h k jd : Nat) (ps : Int32) (hro : (ro, zo 0 [.ref tp, .ref dr, .ref d, .ref h, .ref k, .ref jd, .int ps]) ∈ T) (a b : Int32) (hr9 : ¬ (0 ≤ b.toInt ∧ b.toInt ≤ 2)) : Met l y_Row_index (zw y_Row_index b_Row_index 4 (some .int)) (zR 3 64 0 0) (zP g [.ref ro, .int a, .int b] (T)) (zQi g (fun r w => r = iI (-1) ∧ w = T)) 0 0 (zA g) := by
  refine zMet (by decide) (Nat.le_of_ble_eq_true rfl) ?_
  intro p e s m below meth c ls C hr hlk hnm hP hD hl
  have hx := C.1.1
  have hb := C.1.2.1
  have hS : va_S (zA g) s.heap s.heap [] := va_S.rf
  have hl : lv_has ls 4 [(0, .ref ro), (1, .int a), (2, .int b)] := hl
  have r1 := zi_rg b
  refine lv_iload_n hx hb d_Row_index_0 rfl (lv_at hl 2 rfl) ?_
  refine lv_if_lt (tgt := 9) hx hb d_Row_index_1 (by decide) (fun c_1 => ?_) (fun c_1 => ?_)
  · skip
    have c_1 : b.toInt < 0 := (zi_lt (a := b.toInt) (b := 0) (iI_of _) (nI_iI _) (by omega) (by omega) (by omega) (by omega)).mp c_1
    refine lv_iconst (v := iI (-1)) hx hb d_Row_index_9 (by decide) ?_
    exact z_iret C hr hlk hP hD hS (by omega) (by omega) ⟨rfl, rfl⟩ d_Row_index_10
  · skip
    have c_1 : ¬ b.toInt < 0 := fun q9 => c_1 ((zi_lt (a := b.toInt) (b := 0) (iI_of _) (nI_iI _) (by omega) (by omega) (by omega) (by omega)).mpr q9)
    refine lv_iload_n hx hb d_Row_index_4 rfl (lv_at hl 2 rfl) ?_
    refine lv_iconst (v := nI 2) hx hb d_Row_index_5 (by decide) ?_
    refine lv_icmp_le (tgt := 11) hx hb d_Row_index_6 (by decide) (fun c_6 => ?_) (fun c_6 => ?_)
    · skip
      have c_6 : b.toInt ≤ 2 := (zi_le (a := b.toInt) (b := 2) (iI_of _) (nI_iI _) (by omega) (by omega) (by omega) (by omega)).mp c_6
      exact absurd c_6 (by omega)
    · skip
      have c_6 : ¬ b.toInt ≤ 2 := fun q9 => c_6 ((zi_le (a := b.toInt) (b := 2) (iI_of _) (nI_iI _) (by omega) (by omega) (by omega) (by omega)).mpr q9)
      refine lv_iconst (v := iI (-1)) hx hb d_Row_index_9 (by decide) ?_
      exact z_iret C hr hlk hP hD hS (by omega) (by omega) ⟨rfl, rfl⟩ d_Row_index_10
set_option maxHeartbeats 4000000 in
set_option maxRecDepth 100000 in
theorem c_Row_index_b2 (l : Launch) (g : zT) (T : va_W) (ro tp dr d h k jd : Nat) (ps : Int32) (hro : (ro, zo 0 [.ref tp, .ref dr, .ref d, .ref h, .ref k, .ref jd, .int ps]) ∈ T) (rw len hd bg mk ly : Nat) (hh : (h, zo 5 [.ref rw, .int (nI len), .int (nI hd), .int (nI bg), .ref mk, .ref ly]) ∈ T) (med mn : Nat) (mx : Int32) (hmk : (mk, zo 3 [.int mx, .ref med, .int (nI mn)]) ∈ T) (a b : Int32) (v1 : mn < 60000) (hr9 : 0 ≤ b.toInt ∧ b.toInt ≤ 2) (hr8 : ¬ (0 ≤ a.toInt ∧ a.toInt < mn)) : Met l y_Row_index (zw y_Row_index b_Row_index 4 (some .int)) (zR 3 64 0 0) (zP g [.ref ro, .int a, .int b] (T)) (zQi g (fun r w => r = iI (-2) ∧ w = T)) 0 0 (zA g) := by
  refine zMet (by decide) (Nat.le_of_ble_eq_true rfl) ?_
  intro p e s m below meth c ls C hr hlk hnm hP hD hl
  have hx := C.1.1
  have hb := C.1.2.1
  have hS : va_S (zA g) s.heap s.heap [] := va_S.rf
  have hl : lv_has ls 4 [(0, .ref ro), (1, .int a), (2, .int b)] := hl
  have r1 := zi_rg b
  refine lv_iload_n hx hb d_Row_index_0 rfl (lv_at hl 2 rfl) ?_
  refine lv_if_lt (tgt := 9) hx hb d_Row_index_1 (by decide) (fun c_1 => ?_) (fun c_1 => ?_)
  · skip
    have c_1 : b.toInt < 0 := (zi_lt (a := b.toInt) (b := 0) (iI_of _) (nI_iI _) (by omega) (by omega) (by omega) (by omega)).mp c_1
    exact absurd c_1 (by omega)
  · skip
    have c_1 : ¬ b.toInt < 0 := fun q9 => c_1 ((zi_lt (a := b.toInt) (b := 0) (iI_of _) (nI_iI _) (by omega) (by omega) (by omega) (by omega)).mpr q9)
    refine lv_iload_n hx hb d_Row_index_4 rfl (lv_at hl 2 rfl) ?_
    refine lv_iconst (v := nI 2) hx hb d_Row_index_5 (by decide) ?_
    refine lv_icmp_le (tgt := 11) hx hb d_Row_index_6 (by decide) (fun c_6 => ?_) (fun c_6 => ?_)
    · skip
      have c_6 : b.toInt ≤ 2 := (zi_le (a := b.toInt) (b := 2) (iI_of _) (nI_iI _) (by omega) (by omega) (by omega) (by omega)).mp c_6
      refine lv_aload_n hx hb d_Row_index_11 rfl (lv_at hl 0 rfl) ?_
      refine z_get C hP hro q_Row 3 (by decide) k_246 (fun _ h9 => h9) rfl d_Row_index_12 ?_
      refine lv_iload_n hx hb d_Row_index_15 rfl (lv_at hl 1 rfl) ?_
      refine z_ki (z_runV (np := 1) C (c_Lst_hasMark l g T h rw len hd bg mk ly med mn mx hh hmk a (by omega)) hP hD hS hh (show classes[5]? = some (R_Lst, F_Lst, 6) from rfl) k_612 k_8 k_609 k_610 k_611 ⟨by decide, by decide, by decide⟩ ⟨Nat.le_of_ble_eq_true rfl, Nat.le_of_ble_eq_true rfl⟩ rfl hl.1 rfl (Nat.le_of_ble_eq_true rfl) d_Row_index_16 ⟨by show _ ≤ 0; omega, by show _ ≤ 0; omega⟩) hS (fun r_16 w H locs hw hP hD hS => ?_)
      obtain ⟨rfl, hw⟩ := hw
      rw [hw] at hP hD
      refine lv_if_ne (tgt := 25) hx hb d_Row_index_19 (by decide) (fun c_19 => ?_) (fun c_19 => ?_)
      · skip
        exact absurd (of_decide_eq_true (bI_ne.mp c_19)) hr8
      · skip
        refine lv_bipush (v := iI (-2)) hx hb d_Row_index_22 (by decide) ?_
        exact z_iret C hr hlk hP hD hS (by omega) (by omega) ⟨rfl, rfl⟩ d_Row_index_24
    · skip
      have c_6 : ¬ b.toInt ≤ 2 := fun q9 => c_6 ((zi_le (a := b.toInt) (b := 2) (iI_of _) (nI_iI _) (by omega) (by omega) (by omega) (by omega)).mpr q9)
      exact absurd c_6 (by omega)
set_option maxHeartbeats 4000000 in
set_option maxRecDepth 100000 in
theorem c_Row_index_g (l : Launch) (g : zT) (T : va_W) (ro tp dr d h k jd : Nat) (ps : Int32) (hro : (ro, zo 0 [.ref tp, .ref dr, .ref d, .ref h, .ref k, .ref jd, .int ps]) ∈ T) (rw len hd bg mk ly : Nat) (hh : (h, zo 5 [.ref rw, .int (nI len), .int (nI hd), .int (nI bg), .ref mk, .ref ly]) ∈ T) (med mn : Nat) (mx : Int32) (hmk : (mk, zo 3 [.int mx, .ref med, .int (nI mn)]) ∈ T) (mcap : Nat) (mfn : Nat → Option Nat) (mf : Nat → zM) (hmd : 0 < mn → (med, zOb g mcap mfn) ∈ T) (m1 : mn ≤ mcap) (m2 : mcap < 60000) (hM : ∀ j, j < mn → ∃ a, mfn j = some a ∧ isMark g T a (mf j) ∧ (mf j).2.2.length ≤ 300) (n : Nat) (b : Int32) (hr9 : 0 ≤ b.toInt ∧ b.toInt ≤ 2) (hr8 : n < mn) : Met l y_Row_index (zw y_Row_index b_Row_index 4 (some .int)) (zR 3 64 0 0) (zP g [.ref ro, .int (nI n), .int b] (T)) (zQi g (fun r w => r = (if b = nI 0 then (mf n).1 else if b = nI 1 then (mf n).2.1 else nI (mf n).2.2.length) ∧ w = T)) 0 0 (zA g) := by
  refine zMet (by decide) (Nat.le_of_ble_eq_true rfl) ?_
  intro p e s m below meth c ls C hr hlk hnm hP hD hl
  have hx := C.1.1
  have hb := C.1.2.1
  have hS : va_S (zA g) s.heap s.heap [] := va_S.rf
  have hl : lv_has ls 4 [(0, .ref ro), (1, .int (nI n)), (2, .int b)] := hl
  have r1 := zi_rg b
  have r2 : (nI n).toInt = (n : Int) := nI_toInt (by omega)
  refine lv_iload_n hx hb d_Row_index_0 rfl (lv_at hl 2 rfl) ?_
  refine lv_if_lt (tgt := 9) hx hb d_Row_index_1 (by decide) (fun c_1 => ?_) (fun c_1 => ?_)
  · skip
    have c_1 : b.toInt < 0 := (zi_lt (a := b.toInt) (b := 0) (iI_of _) (nI_iI _) (by omega) (by omega) (by omega) (by omega)).mp c_1
    exact absurd c_1 (by omega)
  · skip
    have c_1 : ¬ b.toInt < 0 := fun q9 => c_1 ((zi_lt (a := b.toInt) (b := 0) (iI_of _) (nI_iI _) (by omega) (by omega) (by omega) (by omega)).mpr q9)
    refine lv_iload_n hx hb d_Row_index_4 rfl (lv_at hl 2 rfl) ?_
    refine lv_iconst (v := nI 2) hx hb d_Row_index_5 (by decide) ?_
    refine lv_icmp_le (tgt := 11) hx hb d_Row_index_6 (by decide) (fun c_6 => ?_) (fun c_6 => ?_)
    · skip
      have c_6 : b.toInt ≤ 2 := (zi_le (a := b.toInt) (b := 2) (iI_of _) (nI_iI _) (by omega) (by omega) (by omega) (by omega)).mp c_6
      refine lv_aload_n hx hb d_Row_index_11 rfl (lv_at hl 0 rfl) ?_
      refine z_get C hP hro q_Row 3 (by decide) k_246 (fun _ h9 => h9) rfl d_Row_index_12 ?_
      refine lv_iload_n hx hb d_Row_index_15 rfl (lv_at hl 1 rfl) ?_
      refine z_ki (z_runV (np := 1) C (c_Lst_hasMark l g T h rw len hd bg mk ly med mn mx hh hmk (nI n) (by omega)) hP hD hS hh (show classes[5]? = some (R_Lst, F_Lst, 6) from rfl) k_612 k_8 k_609 k_610 k_611 ⟨by decide, by decide, by decide⟩ ⟨Nat.le_of_ble_eq_true rfl, Nat.le_of_ble_eq_true rfl⟩ rfl hl.1 rfl (Nat.le_of_ble_eq_true rfl) d_Row_index_16 ⟨by show _ ≤ 0; omega, by show _ ≤ 0; omega⟩) hS (fun r_16 w H locs hw hP hD hS => ?_)
      obtain ⟨rfl, hw⟩ := hw
      rw [hw] at hP hD
      refine lv_if_ne (tgt := 25) hx hb d_Row_index_19 (by decide) (fun c_19 => ?_) (fun c_19 => ?_)
      · skip
        refine lv_aload_n hx hb d_Row_index_25 rfl (lv_at hl 0 rfl) ?_
        refine z_get C hP hro q_Row 3 (by decide) k_246 (fun _ h9 => h9) rfl d_Row_index_26 ?_
        refine z_get C hP hh q_Lst 4 (by decide) k_150 (fun _ h9 => h9) rfl d_Row_index_29 ?_
        refine lv_iload_n hx hb d_Row_index_32 rfl (lv_at hl 1 rfl) ?_
        obtain ⟨a, hf, ⟨nm, nf, hm2, hm3, hz⟩, hl9⟩ := hM n hr8
        refine z_kq (z_runV (np := 1) C (c_AL_get l g T mk med mn mcap n a mx mfn hmk (hmd (by omega)) hr8 m1 (by omega) hf) hP hD hS hmk (show classes[3]? = some (R_AL, F_AL, 3) from rfl) k_304 k_6 k_613 k_302 k_303 ⟨by decide, by decide, by decide⟩ ⟨Nat.le_of_ble_eq_true rfl, Nat.le_of_ble_eq_true rfl⟩ rfl hl.1 rfl (Nat.le_of_ble_eq_true rfl) d_Row_index_33 ⟨by show _ ≤ 0; omega, by show _ ≤ 0; omega⟩) hS (fun r_33 w H locs hw hP hD hS => ?_)
        obtain ⟨rfl, hw⟩ := hw
        rw [hw] at hP hD
        refine z_cast C hP hm2 (show classes[10]? = some (R_Mark, F_Mark, 3) from rfl) k_614 k_987 d_Row_index_36 ?_
        refine lv_astore_n (lv' := [(3, .ref a), (0, .ref ro), (1, .int (nI n)), (2, .int b)]) hx hb d_Row_index_39 rfl hl (by decide) rfl (fun ls hl => ?_)
        refine lv_iload_n hx hb d_Row_index_40 rfl (lv_at hl 3 rfl) ?_
        by_cases sw_0 : b = nI 0
        · skip
          refine z_topi (y := nI 0) sw_0 ?_
          refine lv_lookup (off := 27) (tgt := 68) hx hb d_Row_index_41 (by decide) (by decide) (by decide) ?_
          refine lv_aload_n hx hb d_Row_index_68 rfl (lv_at hl 0 rfl) ?_
          refine z_get C hP hm2 q_Mark 0 (by decide) k_568 (fun _ h9 => h9) rfl d_Row_index_69 ?_
          exact z_iret C hr hlk hP hD hS (by omega) (by omega) ⟨by rw [if_pos sw_0], rfl⟩ d_Row_index_72
        by_cases sw_1 : b = nI 1
        · skip
          refine z_topi (y := nI 1) sw_1 ?_
          refine lv_lookup (off := 32) (tgt := 73) hx hb d_Row_index_41 (by decide) (by decide) (by decide) ?_
          refine lv_aload_n hx hb d_Row_index_73 rfl (lv_at hl 0 rfl) ?_
          refine z_get C hP hm2 q_Mark 1 (by decide) k_571 (fun _ h9 => h9) rfl d_Row_index_74 ?_
          exact z_iret C hr hlk hP hD hS (by omega) (by omega) ⟨by rw [if_neg sw_0, if_pos sw_1], rfl⟩ d_Row_index_77
        have sx_0 : ¬ (b).toInt = 0 := fun q9 => sw_0 (by rw [iI_of (b), q9]; rfl)
        have sx_1 : ¬ (b).toInt = 1 := fun q9 => sw_1 (by rw [iI_of (b), q9]; rfl)
        refine lv_lookup (off := 37) (tgt := 78) hx hb d_Row_index_41 (by decide) (by rw [lv_osw sw_0 (by decide)]; rw [lv_osw sw_1 (by decide)]; rfl) (by decide) ?_
        refine lv_aload_n hx hb d_Row_index_78 rfl (lv_at hl 0 rfl) ?_
        refine z_get C hP hm2 q_Mark 2 (by decide) k_575 (fun _ h9 => h9) rfl d_Row_index_79 ?_
        refine z_alenB C hP hm3 d_Row_index_82 ?_
        exact z_iret C hr hlk hP hD hS (by omega) (by omega) ⟨by rw [if_neg sw_0, if_neg sw_1], rfl⟩ d_Row_index_83
      · skip
        exact absurd (of_decide_eq_false (bI_eq.mp c_19)) (by omega)
    · skip
      have c_6 : ¬ b.toInt ≤ 2 := fun q9 => c_6 ((zi_le (a := b.toInt) (b := 2) (iI_of _) (nI_iI _) (by omega) (by omega) (by omega) (by omega)).mpr q9)
      exact absurd c_6 (by omega)
set_option maxHeartbeats 4000000 in
set_option maxRecDepth 100000 in
theorem c_Row_bytes_b (l : Launch) (g : zT) (T : va_W) (ro tp dr d h k jd : Nat) (ps : Int32) (hro : (ro, zo 0 [.ref tp, .ref dr, .ref d, .ref h, .ref k, .ref jd, .int ps]) ∈ T) (rw len hd bg mk ly : Nat) (hh : (h, zo 5 [.ref rw, .int (nI len), .int (nI hd), .int (nI bg), .ref mk, .ref ly]) ∈ T) (a : Int32) (v1 : len ≤ 65536) (hr9 : ¬ (0 ≤ a.toInt ∧ a.toInt ≤ ((len / 8 : Nat) : Int))) : Met l y_Row_bytes (zw y_Row_bytes b_Row_bytes 5 (some .long)) (zR 1 21 0 0) (zP g [.ref ro, .int a] (T)) (zQl g (fun r w => r = 0 ∧ w = T)) 0 0 (zA g) := by
  refine zMet (by decide) (Nat.le_of_ble_eq_true rfl) ?_
  intro p e s m below meth c ls C hr hlk hnm hP hD hl
  have hx := C.1.1
  have hb := C.1.2.1
  have hS : va_S (zA g) s.heap s.heap [] := va_S.rf
  have hl : lv_has ls 5 [(0, .ref ro), (1, .int a)] := hl
  have r1 := zi_rg a
  refine lv_iload_n hx hb d_Row_bytes_0 rfl (lv_at hl 1 rfl) ?_
  refine lv_if_lt (tgt := 18) hx hb d_Row_bytes_1 (by decide) (fun c_1 => ?_) (fun c_1 => ?_)
  · skip
    have c_1 : a.toInt < 0 := (zi_lt (a := a.toInt) (b := 0) (iI_of _) (nI_iI _) (by omega) (by omega) (by omega) (by omega)).mp c_1
    refine lv_lconst (v := 0) hx hb d_Row_bytes_18 (by decide) ?_
    exact z_lret C hr hlk hP hD hS (by omega) (by omega) ⟨rfl, rfl⟩ d_Row_bytes_19
  · skip
    have c_1 : ¬ a.toInt < 0 := fun q9 => c_1 ((zi_lt (a := a.toInt) (b := 0) (iI_of _) (nI_iI _) (by omega) (by omega) (by omega) (by omega)).mpr q9)
    refine lv_iload_n hx hb d_Row_bytes_4 rfl (lv_at hl 1 rfl) ?_
    refine lv_aload_n hx hb d_Row_bytes_5 rfl (lv_at hl 0 rfl) ?_
    refine z_get C hP hro q_Row 3 (by decide) k_246 (fun _ h9 => h9) rfl d_Row_bytes_6 ?_
    refine z_get C hP hh q_Lst 1 (by decide) k_143 (fun _ h9 => h9) rfl d_Row_bytes_9 ?_
    refine lv_bipush (v := nI 8) hx hb d_Row_bytes_12 (by decide) ?_
    refine z_idiv (v := nI (len / 8)) C d_Row_bytes_14 (by decide) (pk_div (by omega) (by decide) (by decide)) ?_
    refine lv_icmp_le (tgt := 20) hx hb d_Row_bytes_15 (by decide) (fun c_15 => ?_) (fun c_15 => ?_)
    · skip
      have c_15 : a.toInt ≤ ((len / 8) : Int) := (zi_le (a := a.toInt) (b := ((len / 8) : Int)) (iI_of _) (nI_iI _) (by omega) (by omega) (by omega) (by omega)).mp c_15
      exact absurd c_15 (by omega)
    · skip
      have c_15 : ¬ a.toInt ≤ ((len / 8) : Int) := fun q9 => c_15 ((zi_le (a := a.toInt) (b := ((len / 8) : Int)) (iI_of _) (nI_iI _) (by omega) (by omega) (by omega) (by omega)).mpr q9)
      refine lv_lconst (v := 0) hx hb d_Row_bytes_18 (by decide) ?_
      exact z_lret C hr hlk hP hD hS (by omega) (by omega) ⟨rfl, rfl⟩ d_Row_bytes_19
set_option maxHeartbeats 4000000 in
set_option maxRecDepth 100000 in
theorem c_Row_bytes_g (l : Launch) (g : zT) (T : va_W) (ro tp dr d h k jd : Nat) (ps : Int32) (hro : (ro, zo 0 [.ref tp, .ref dr, .ref d, .ref h, .ref k, .ref jd, .int ps]) ∈ T) (rw len hd bg mk ly : Nat) (hh : (h, zo 5 [.ref rw, .int (nI len), .int (nI hd), .int (nI bg), .ref mk, .ref ly]) ∈ T) (n rn : Nat) (rf : Nat → UInt8) (hrw : (rw, zBy g rn rf) ∈ T) (v1 : len ≤ rn) (v2 : n ≤ len / 8) (v3 : rn ≤ 65536) : Met l y_Row_bytes (zw y_Row_bytes b_Row_bytes 5 (some .long)) (zR 1 21 0 0) (zP g [.ref ro, .int (nI n)] (T)) (zQl g (fun r w => r = bV rf len n 8 ∧ w = T)) 0 0 (zA g) := by
  refine zMet (by decide) (Nat.le_of_ble_eq_true rfl) ?_
  intro p e s m below meth c ls C hr hlk hnm hP hD hl
  have hx := C.1.1
  have hb := C.1.2.1
  have hS : va_S (zA g) s.heap s.heap [] := va_S.rf
  have hl : lv_has ls 5 [(0, .ref ro), (1, .int (nI n))] := hl
  have L_26 : ∀ (nu : Nat) (j : Nat) (_ : j ≤ 8) (_ : j < nu) (H : Heap) (locs : List Loc), va_P g.1 classes (T) H → va_D (zA g) (T) → va_S (zA g) s.heap H locs → ∀ ls : Array Slot, lv_has ls 5 [(0, .ref ro), (1, .int (nI n)), (2, .long (bV rf len n (8 - j))), (4, .int (iI ((j : Int) - 1)))] → W p l e (zR 1 21 0 0) s m [.ref ro, .int (nI n)].toArray below meth c H locs 0 0 (MQ below (zQl g (fun r w => r = bV rf len n 8 ∧ w = T)) [.ref ro, .int (nI n)].toArray s 0 0 (zA g)) (F0 m 26 ls []) := by
    intro nu
    induction nu with
    | zero => intros; omega
    | succ nu ih =>
      intro j hj hmu H locs hP hD hS ls hl
      refine lv_iload hx hb d_Row_bytes_26 (lv_at hl 3 rfl) ?_
      refine lv_if_lt (tgt := 58) hx hb d_Row_bytes_28 (by decide) (fun c_28 => ?_) (fun c_28 => ?_)
      · skip
        have c_28 : ((j : Int) - 1) < 0 := (zi_lt (a := (j : Int) - 1) (b := 0) rfl (nI_iI _) (by omega) (by omega) (by omega) (by omega)).mp c_28
        refine lv_lload_n hx hb d_Row_bytes_58 rfl (lv_at hl 2 rfl) ?_
        exact z_lret C hr hlk hP hD hS (by omega) (by omega) ⟨by rw [show j = 0 by omega], rfl⟩ d_Row_bytes_59
      · skip
        have c_28 : ¬ ((j : Int) - 1) < 0 := fun q9 => c_28 ((zi_lt (a := (j : Int) - 1) (b := 0) rfl (nI_iI _) (by omega) (by omega) (by omega) (by omega)).mpr q9)
        refine lv_lload_n hx hb d_Row_bytes_31 rfl (lv_at hl 2 rfl) ?_
        refine lv_bipush (v := nI 8) hx hb d_Row_bytes_32 (by decide) ?_
        refine lv_lshl (v := (bV rf len n (8 - j)) <<< ((nI 8).toInt64 &&& 63)) hx hb d_Row_bytes_34 rfl ?_
        refine lv_aload_n hx hb d_Row_bytes_35 rfl (lv_at hl 0 rfl) ?_
        refine z_get C hP hro q_Row 3 (by decide) k_246 (fun _ h9 => h9) rfl d_Row_bytes_36 ?_
        refine lv_bipush (v := nI 8) hx hb d_Row_bytes_39 (by decide) ?_
        refine lv_iload_n hx hb d_Row_bytes_41 rfl (lv_at hl 1 rfl) ?_
        refine z_imul (v := nI (8 * n)) C d_Row_bytes_42 (pk_mul _ _) ?_
        refine lv_iload hx hb d_Row_bytes_43 (lv_at hl 3 rfl) ?_
        refine z_iadd (v := nI (8 * n + (j - 1))) C d_Row_bytes_45 (by rw [nI_iI, iI_add, nI_iI]; congr 1; omega) ?_
        refine z_ki (z_runV (np := 1) C (c_Lst_byteOrZero l g T h rw len hd bg mk ly rn rf hh hrw v1 v3 (8 * n + (j - 1)) (by omega)) hP hD hS hh (show classes[5]? = some (R_Lst, F_Lst, 6) from rfl) k_604 k_8 k_601 k_602 k_603 ⟨by decide, by decide, by decide⟩ ⟨Nat.le_of_ble_eq_true rfl, Nat.le_of_ble_eq_true rfl⟩ rfl hl.1 rfl (Nat.le_of_ble_eq_true rfl) d_Row_bytes_46 ⟨by show _ ≤ 0; omega, by show _ ≤ 0; omega⟩) hS (fun r_46 w H locs hw hP hD hS => ?_)
        obtain ⟨rfl, hw⟩ := hw
        rw [hw] at hP hD
        have bzl := bz_lt rf len (8 * n + (j - 1))
        refine lv_i2l (v := lN (bz rf len (8 * n + (j - 1)))) hx hb d_Row_bytes_49 (nI_l (by omega)) ?_
        refine z_lor (v := bV rf len n (8 - (j - 1))) C d_Row_bytes_50 (by rw [show 8 - (j - 1) = (8 - j) + 1 by omega]; show _ = _ ||| lN (bz rf len (8 * n + (7 - (8 - j)))); rw [show 7 - (8 - j) = j - 1 by omega]) ?_
        refine lv_lstore_n (lv' := [(2, .long (bV rf len n (8 - (j - 1)))), (0, .ref ro), (1, .int (nI n)), (4, .int (iI ((j : Int) - 1)))]) hx hb d_Row_bytes_51 rfl hl (by decide) rfl (fun ls hl => ?_)
        refine lv_iinc (v := iI (((j - 1 : Nat) : Int) - 1)) (lv' := [(4, .int (iI (((j - 1 : Nat) : Int) - 1))), (2, .long (bV rf len n (8 - (j - 1)))), (0, .ref ro), (1, .int (nI n))]) hx hb d_Row_bytes_52 hl (k := 3) rfl (by show iI _ + iI (-1) = _; rw [iI_add]; congr 1; omega) (by decide) rfl (fun ls hl => ?_)
        refine lv_goto (tgt := 26) hx hb d_Row_bytes_55 (by decide) ?_
        exact ih (j - 1) (by omega) (by omega) _ _ hP hD hS ls (lv_sub hl [2, 3, 1, 0] rfl)
  refine lv_iload_n hx hb d_Row_bytes_0 rfl (lv_at hl 1 rfl) ?_
  refine lv_if_lt (tgt := 18) hx hb d_Row_bytes_1 (by decide) (fun c_1 => ?_) (fun c_1 => ?_)
  · skip
    have c_1 : n < 0 := (nI_ltI (a := n) (b := 0) (by omega) (by decide)).mp c_1
    exact absurd c_1 (by omega)
  · skip
    have c_1 : ¬ n < 0 := fun q9 => c_1 ((nI_ltI (a := n) (b := 0) (by omega) (by decide)).mpr q9)
    refine lv_iload_n hx hb d_Row_bytes_4 rfl (lv_at hl 1 rfl) ?_
    refine lv_aload_n hx hb d_Row_bytes_5 rfl (lv_at hl 0 rfl) ?_
    refine z_get C hP hro q_Row 3 (by decide) k_246 (fun _ h9 => h9) rfl d_Row_bytes_6 ?_
    refine z_get C hP hh q_Lst 1 (by decide) k_143 (fun _ h9 => h9) rfl d_Row_bytes_9 ?_
    refine lv_bipush (v := nI 8) hx hb d_Row_bytes_12 (by decide) ?_
    refine z_idiv (v := nI (len / 8)) C d_Row_bytes_14 (by decide) (pk_div (by omega) (by decide) (by decide)) ?_
    refine lv_icmp_le (tgt := 20) hx hb d_Row_bytes_15 (by decide) (fun c_15 => ?_) (fun c_15 => ?_)
    · skip
      have c_15 : n ≤ (len / 8) := (nI_leI (a := n) (b := len / 8) (by omega) (by omega)).mp c_15
      refine lv_lconst (v := 0) hx hb d_Row_bytes_20 (by decide) ?_
      refine lv_lstore_n (lv' := [(2, .long 0), (0, .ref ro), (1, .int (nI n))]) hx hb d_Row_bytes_21 rfl hl (by decide) rfl (fun ls hl => ?_)
      refine lv_bipush (v := nI 7) hx hb d_Row_bytes_22 (by decide) ?_
      refine lv_istore (lv' := [(4, .int (nI 7)), (2, .long 0), (0, .ref ro), (1, .int (nI n))]) hx hb d_Row_bytes_24 hl (by decide) rfl (fun ls hl => ?_)
      exact L_26 _ 8 (Nat.le_refl _) (Nat.lt_succ_self _) _ _ hP hD hS ls (lv_sub hl [2, 3, 1, 0] rfl)
    · skip
      have c_15 : ¬ n ≤ (len / 8) := fun q9 => c_15 ((nI_leI (a := n) (b := len / 8) (by omega) (by omega)).mpr q9)
      exact absurd c_15 (by omega)
set_option maxHeartbeats 4000000 in
set_option maxRecDepth 100000 in
theorem c_Row_clear (l : Launch) (g : zT) (T : va_W) (ro tp dr d h k jd : Nat) (ps : Int32) (hro : (ro, zo 0 [.ref tp, .ref dr, .ref d, .ref h, .ref k, .ref jd, .int ps]) ∈ T) (li ed cap : Nat) (xs : List Nat) (x : Int32) (f : Nat → Option Nat) (hdr : (dr, zo 2 [.ref li]) ∈ T) (hL : zL f xs) (h1 : xs.length ≤ cap) (h3 : cap ≤ 1000) (hc : cap = 0 → ed = g.2.2.2.1) : Met l y_Row_clear (zw y_Row_clear b_Row_clear 2 (some .int)) (zR 2 43 0 0) (zP g [.ref ro] ((li, zo 3 [.int x, .ref ed, .int (nI xs.length)]) :: (wA g ed cap f ++ T))) (zQi g (fun r w => r = nI xs.length ∧ zLs g li [] 1000 T w)) 0 0 (zA g) := by
  refine zMet (by decide) (Nat.le_of_ble_eq_true rfl) ?_
  intro p e s m below meth c ls C hr hlk hnm hP hD hl
  have hx := C.1.1
  have hb := C.1.2.1
  have hS : va_S (zA g) s.heap s.heap [] := va_S.rf
  have hl : lv_has ls 2 [(0, .ref ro)] := hl
  refine lv_aload_n hx hb d_Row_clear_0 rfl (lv_at hl 0 rfl) ?_
  refine z_get C hP (List.mem_cons_of_mem _ (List.mem_append_right _ hro)) q_Row 1 (by decide) k_244 (fun _ h9 => h9) rfl d_Row_clear_1 ?_
  refine z_ki (z_runV (np := 0) C (c_Dir_count l g ((li, zo 3 [.int x, .ref ed, .int (nI xs.length)]) :: (wA g ed cap f ++ T)) dr li ed xs.length x (List.mem_cons_of_mem _ (List.mem_append_right _ hdr)) List.mem_cons_self) hP hD hS (List.mem_cons_of_mem _ (List.mem_append_right _ hdr)) (show classes[2]? = some (R_Dir, F_Dir, 1) from rfl) k_468 k_3 k_465 k_466 k_467 ⟨by decide, by decide, by decide⟩ ⟨Nat.le_of_ble_eq_true rfl, Nat.le_of_ble_eq_true rfl⟩ rfl hl.1 rfl (Nat.le_of_ble_eq_true rfl) d_Row_clear_4 ⟨by show _ ≤ 0; omega, by show _ ≤ 0; omega⟩) hS (fun r_4 w H locs hw hP hD hS => ?_)
  obtain ⟨rfl, hw⟩ := hw
  rw [hw] at hP hD
  refine lv_istore_n (lv' := [(1, .int (nI xs.length)), (0, .ref ro)]) hx hb d_Row_clear_7 rfl hl (by decide) rfl (fun ls hl => ?_)
  refine lv_aload_n hx hb d_Row_clear_8 rfl (lv_at hl 1 rfl) ?_
  refine z_get C hP (List.mem_cons_of_mem _ (List.mem_append_right _ hro)) q_Row 1 (by decide) k_244 (fun _ h9 => h9) rfl d_Row_clear_9 ?_
  refine z_kv (z_runV (np := 0) C (c_Dir_removeAll l g T dr li ed cap 1000 xs x f hdr hL h1 h3 (by omega) hc) hP hD hS (List.mem_cons_of_mem _ (List.mem_append_right _ hdr)) (show classes[2]? = some (R_Dir, F_Dir, 1) from rfl) k_492 k_3 k_489 k_490 k_491 ⟨by decide, by decide, by decide⟩ ⟨Nat.le_of_ble_eq_true rfl, Nat.le_of_ble_eq_true rfl⟩ rfl hl.1 rfl (Nat.le_of_ble_eq_true rfl) d_Row_clear_12 ⟨by show _ ≤ 0; omega, by show _ ≤ 0; omega⟩) hS (fun w H locs hw hP hD hS => ?_)
  refine lv_iload_n hx hb d_Row_clear_15 rfl (lv_at hl 0 rfl) ?_
  exact z_iret C hr hlk hP hD hS (by omega) (by omega) ⟨rfl, hw⟩ d_Row_clear_16
