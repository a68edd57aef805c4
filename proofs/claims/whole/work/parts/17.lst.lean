set_option maxHeartbeats 4000000 in
set_option maxRecDepth 100000 in
theorem c_Lst_byteOrZero (l : Launch) (g : zT) (T : va_W) (h rw len hd bg mk ly rn : Nat) (rf : Nat → UInt8) (hh : (h, zo 5 [.ref rw, .int (nI len), .int (nI hd), .int (nI bg), .ref mk, .ref ly]) ∈ T) (hrw : (rw, zBy g rn rf) ∈ T) (v1 : len ≤ rn) (v2 : rn ≤ 65536) (i : Nat) (v3 : i < 2 ^ 30) : Met l y_Lst_byteOrZero (zw y_Lst_byteOrZero b_Lst_byteOrZero 2 (some .int)) (zR 0 0 0 0) (zP g [.ref h, .int (nI i)] (T)) (zQi g (fun r w => r = nI (bz rf len i) ∧ w = T)) 0 0 (zA g) := by
  refine zMet (by decide) (Nat.le_of_ble_eq_true rfl) ?_
  intro p e s m below meth c ls C hr hlk hnm hP hD hl
  have hx := C.1.1
  have hb := C.1.2.1
  have hS : va_S (zA g) s.heap s.heap [] := va_S.rf
  have hl : lv_has ls 2 [(0, .ref h), (1, .int (nI i))] := hl
  refine lv_iload_n hx hb d_Lst_byteOrZero_0 rfl (lv_at hl 1 rfl) ?_
  refine lv_if_lt (tgt := 25) hx hb d_Lst_byteOrZero_1 (by decide) (fun c_1 => ?_) (fun c_1 => ?_)
  · skip
    have c_1 : i < 0 := (nI_ltI (a := i) (b := 0) (by omega) (by decide)).mp c_1
    exact absurd c_1 (by omega)
  · skip
    have c_1 : ¬ i < 0 := fun q9 => c_1 ((nI_ltI (a := i) (b := 0) (by omega) (by decide)).mpr q9)
    refine lv_iload_n hx hb d_Lst_byteOrZero_4 rfl (lv_at hl 1 rfl) ?_
    refine lv_aload_n hx hb d_Lst_byteOrZero_5 rfl (lv_at hl 0 rfl) ?_
    refine z_get C hP hh q_Lst 1 (by decide) k_140 (fun _ h9 => h9) rfl d_Lst_byteOrZero_6 ?_
    refine lv_icmp_ge (tgt := 25) hx hb d_Lst_byteOrZero_9 (by decide) (fun c_9 => ?_) (fun c_9 => ?_)
    · skip
      have c_9 : len ≤ i := (nI_leI (a := len) (b := i) (by omega) (by omega)).mp c_9
      refine lv_iconst (v := nI 0) hx hb d_Lst_byteOrZero_25 (by decide) ?_
      exact z_iret C hr hlk hP hD hS (by omega) (by omega) ⟨by unfold bz; first | rw [if_pos (by omega)] | rw [if_neg (by omega)], rfl⟩ d_Lst_byteOrZero_26
    · skip
      have c_9 : ¬ len ≤ i := fun q9 => c_9 ((nI_leI (a := len) (b := i) (by omega) (by omega)).mpr q9)
      refine lv_aload_n hx hb d_Lst_byteOrZero_12 rfl (lv_at hl 0 rfl) ?_
      refine z_get C hP hh q_Lst 0 (by decide) k_136 (fun _ h9 => h9) rfl d_Lst_byteOrZero_13 ?_
      refine lv_iload_n hx hb d_Lst_byteOrZero_16 rfl (lv_at hl 1 rfl) ?_
      refine z_bald C hP hrw i (by omega) (by omega) d_Lst_byteOrZero_17 ?_
      refine lv_sipush (v := nI 255) hx hb d_Lst_byteOrZero_18 (by decide) ?_
      refine z_iand (v := nI ((rf i).toNat)) C d_Lst_byteOrZero_21 (sb_and _) ?_
      refine lv_goto (tgt := 26) hx hb d_Lst_byteOrZero_22 (by decide) ?_
      exact z_iret C hr hlk hP hD hS (by omega) (by omega) ⟨by unfold bz; first | rw [if_pos (by omega)] | rw [if_neg (by omega)], rfl⟩ d_Lst_byteOrZero_26
set_option maxHeartbeats 4000000 in
set_option maxRecDepth 100000 in
theorem c_Lst_u2 (l : Launch) (g : zT) (T : va_W) (h rw len hd bg mk ly rn : Nat) (rf : Nat → UInt8) (hh : (h, zo 5 [.ref rw, .int (nI len), .int (nI hd), .int (nI bg), .ref mk, .ref ly]) ∈ T) (hrw : (rw, zBy g rn rf) ∈ T) (v1 : len ≤ rn) (v2 : rn ≤ 65536) (i : Nat) (v3 : i < 2 ^ 29) : Met l y_Lst_u2 (zw y_Lst_u2 b_Lst_u2 2 (some .int)) (zR 1 21 0 0) (zP g [.ref h, .int (nI i)] (T)) (zQi g (fun r w => r = nI (U2 rf len i) ∧ w = T)) 0 0 (zA g) := by
  refine zMet (by decide) (Nat.le_of_ble_eq_true rfl) ?_
  intro p e s m below meth c ls C hr hlk hnm hP hD hl
  have hx := C.1.1
  have hb := C.1.2.1
  have hS : va_S (zA g) s.heap s.heap [] := va_S.rf
  have hl : lv_has ls 2 [(0, .ref h), (1, .int (nI i))] := hl
  have b0 := bz_lt rf len i
  have b1 := bz_lt rf len (i + 1)
  have b2 := bz_lt rf len (i + 2)
  have b3 := bz_lt rf len (i + 3)
  refine lv_aload_n hx hb d_Lst_u2_0 rfl (lv_at hl 0 rfl) ?_
  refine lv_iload_n hx hb d_Lst_u2_1 rfl (lv_at hl 1 rfl) ?_
  refine z_ki (z_runV (np := 1) C (c_Lst_byteOrZero l g T h rw len hd bg mk ly rn rf hh hrw v1 v2 (i) (by omega)) hP hD hS hh (show classes[5]? = some (R_Lst, F_Lst, 6) from rfl) k_604 k_8 k_662 k_602 k_603 ⟨by decide, by decide, by decide⟩ ⟨Nat.le_of_ble_eq_true rfl, Nat.le_of_ble_eq_true rfl⟩ rfl hl.1 rfl (Nat.le_of_ble_eq_true rfl) d_Lst_u2_2 ⟨by show _ ≤ 0; omega, by show _ ≤ 0; omega⟩) hS (fun r_2 w H locs hw hP hD hS => ?_)
  obtain ⟨rfl, hw⟩ := hw
  rw [hw] at hP hD
  refine lv_aload_n hx hb d_Lst_u2_5 rfl (lv_at hl 0 rfl) ?_
  refine lv_iload_n hx hb d_Lst_u2_6 rfl (lv_at hl 1 rfl) ?_
  refine lv_iconst (v := nI 1) hx hb d_Lst_u2_7 (by decide) ?_
  refine z_iadd (v := nI (i + 1)) C d_Lst_u2_8 (nI_add _ _) ?_
  refine z_ki (z_runV (np := 1) C (c_Lst_byteOrZero l g T h rw len hd bg mk ly rn rf hh hrw v1 v2 (i + 1) (by omega)) hP hD hS hh (show classes[5]? = some (R_Lst, F_Lst, 6) from rfl) k_604 k_8 k_662 k_602 k_603 ⟨by decide, by decide, by decide⟩ ⟨Nat.le_of_ble_eq_true rfl, Nat.le_of_ble_eq_true rfl⟩ rfl hl.1 rfl (Nat.le_of_ble_eq_true rfl) d_Lst_u2_9 ⟨by show _ ≤ 0; omega, by show _ ≤ 0; omega⟩) hS (fun r_9 w H locs hw hP hD hS => ?_)
  obtain ⟨rfl, hw⟩ := hw
  rw [hw] at hP hD
  refine lv_bipush (v := nI 8) hx hb d_Lst_u2_12 (by decide) ?_
  refine z_ishl (v := nI (bz rf len (i + 1) * 256)) C d_Lst_u2_14 (nI_sh8 (by omega)) ?_
  refine z_ior (v := nI (bz rf len i + bz rf len (i + 1) * 256)) C d_Lst_u2_15 (nI_or8 (by omega)) ?_
  exact z_iret C hr hlk hP hD hS (by omega) (by omega) ⟨rfl, rfl⟩ d_Lst_u2_16
set_option maxHeartbeats 4000000 in
set_option maxRecDepth 100000 in
theorem c_Lst_u4 (l : Launch) (g : zT) (T : va_W) (h rw len hd bg mk ly rn : Nat) (rf : Nat → UInt8) (hh : (h, zo 5 [.ref rw, .int (nI len), .int (nI hd), .int (nI bg), .ref mk, .ref ly]) ∈ T) (hrw : (rw, zBy g rn rf) ∈ T) (v1 : len ≤ rn) (v2 : rn ≤ 65536) (i : Nat) (v3 : i < 2 ^ 29) : Met l y_Lst_u4 (zw y_Lst_u4 b_Lst_u4 2 (some .long)) (zR 1 21 0 0) (zP g [.ref h, .int (nI i)] (T)) (zQl g (fun r w => r = lN (U4 rf len i) ∧ w = T)) 0 0 (zA g) := by
  refine zMet (by decide) (Nat.le_of_ble_eq_true rfl) ?_
  intro p e s m below meth c ls C hr hlk hnm hP hD hl
  have hx := C.1.1
  have hb := C.1.2.1
  have hS : va_S (zA g) s.heap s.heap [] := va_S.rf
  have hl : lv_has ls 2 [(0, .ref h), (1, .int (nI i))] := hl
  have b0 := bz_lt rf len i
  have b1 := bz_lt rf len (i + 1)
  have b2 := bz_lt rf len (i + 2)
  have b3 := bz_lt rf len (i + 3)
  refine lv_aload_n hx hb d_Lst_u4_0 rfl (lv_at hl 0 rfl) ?_
  refine lv_iload_n hx hb d_Lst_u4_1 rfl (lv_at hl 1 rfl) ?_
  refine z_ki (z_runV (np := 1) C (c_Lst_byteOrZero l g T h rw len hd bg mk ly rn rf hh hrw v1 v2 (i) (by omega)) hP hD hS hh (show classes[5]? = some (R_Lst, F_Lst, 6) from rfl) k_604 k_8 k_662 k_602 k_603 ⟨by decide, by decide, by decide⟩ ⟨Nat.le_of_ble_eq_true rfl, Nat.le_of_ble_eq_true rfl⟩ rfl hl.1 rfl (Nat.le_of_ble_eq_true rfl) d_Lst_u4_2 ⟨by show _ ≤ 0; omega, by show _ ≤ 0; omega⟩) hS (fun r_2 w H locs hw hP hD hS => ?_)
  obtain ⟨rfl, hw⟩ := hw
  rw [hw] at hP hD
  refine lv_aload_n hx hb d_Lst_u4_5 rfl (lv_at hl 0 rfl) ?_
  refine lv_iload_n hx hb d_Lst_u4_6 rfl (lv_at hl 1 rfl) ?_
  refine lv_iconst (v := nI 1) hx hb d_Lst_u4_7 (by decide) ?_
  refine z_iadd (v := nI (i + 1)) C d_Lst_u4_8 (nI_add _ _) ?_
  refine z_ki (z_runV (np := 1) C (c_Lst_byteOrZero l g T h rw len hd bg mk ly rn rf hh hrw v1 v2 (i + 1) (by omega)) hP hD hS hh (show classes[5]? = some (R_Lst, F_Lst, 6) from rfl) k_604 k_8 k_662 k_602 k_603 ⟨by decide, by decide, by decide⟩ ⟨Nat.le_of_ble_eq_true rfl, Nat.le_of_ble_eq_true rfl⟩ rfl hl.1 rfl (Nat.le_of_ble_eq_true rfl) d_Lst_u4_9 ⟨by show _ ≤ 0; omega, by show _ ≤ 0; omega⟩) hS (fun r_9 w H locs hw hP hD hS => ?_)
  obtain ⟨rfl, hw⟩ := hw
  rw [hw] at hP hD
  refine lv_bipush (v := nI 8) hx hb d_Lst_u4_12 (by decide) ?_
  refine z_ishl (v := nI (bz rf len (i + 1) * 256)) C d_Lst_u4_14 (nI_sh8 (by omega)) ?_
  refine z_ior (v := nI (bz rf len i + bz rf len (i + 1) * 256)) C d_Lst_u4_15 (nI_or8 (by omega)) ?_
  refine lv_aload_n hx hb d_Lst_u4_16 rfl (lv_at hl 0 rfl) ?_
  refine lv_iload_n hx hb d_Lst_u4_17 rfl (lv_at hl 1 rfl) ?_
  refine lv_iconst (v := nI 2) hx hb d_Lst_u4_18 (by decide) ?_
  refine z_iadd (v := nI (i + 2)) C d_Lst_u4_19 (nI_add _ _) ?_
  refine z_ki (z_runV (np := 1) C (c_Lst_byteOrZero l g T h rw len hd bg mk ly rn rf hh hrw v1 v2 (i + 2) (by omega)) hP hD hS hh (show classes[5]? = some (R_Lst, F_Lst, 6) from rfl) k_604 k_8 k_662 k_602 k_603 ⟨by decide, by decide, by decide⟩ ⟨Nat.le_of_ble_eq_true rfl, Nat.le_of_ble_eq_true rfl⟩ rfl hl.1 rfl (Nat.le_of_ble_eq_true rfl) d_Lst_u4_20 ⟨by show _ ≤ 0; omega, by show _ ≤ 0; omega⟩) hS (fun r_20 w H locs hw hP hD hS => ?_)
  obtain ⟨rfl, hw⟩ := hw
  rw [hw] at hP hD
  refine lv_bipush (v := nI 16) hx hb d_Lst_u4_23 (by decide) ?_
  refine z_ishl (v := nI (bz rf len (i + 2) * 65536)) C d_Lst_u4_25 (nI_sh16 (by omega)) ?_
  refine z_ior (v := nI (bz rf len i + bz rf len (i + 1) * 256 + bz rf len (i + 2) * 65536)) C d_Lst_u4_26 (nI_or16 (by omega)) ?_
  refine lv_i2l (v := lN (bz rf len i + bz rf len (i + 1) * 256 + bz rf len (i + 2) * 65536)) hx hb d_Lst_u4_27 (nI_l (by omega)) ?_
  refine lv_aload_n hx hb d_Lst_u4_28 rfl (lv_at hl 0 rfl) ?_
  refine lv_iload_n hx hb d_Lst_u4_29 rfl (lv_at hl 1 rfl) ?_
  refine lv_iconst (v := nI 3) hx hb d_Lst_u4_30 (by decide) ?_
  refine z_iadd (v := nI (i + 3)) C d_Lst_u4_31 (nI_add _ _) ?_
  refine z_ki (z_runV (np := 1) C (c_Lst_byteOrZero l g T h rw len hd bg mk ly rn rf hh hrw v1 v2 (i + 3) (by omega)) hP hD hS hh (show classes[5]? = some (R_Lst, F_Lst, 6) from rfl) k_604 k_8 k_662 k_602 k_603 ⟨by decide, by decide, by decide⟩ ⟨Nat.le_of_ble_eq_true rfl, Nat.le_of_ble_eq_true rfl⟩ rfl hl.1 rfl (Nat.le_of_ble_eq_true rfl) d_Lst_u4_32 ⟨by show _ ≤ 0; omega, by show _ ≤ 0; omega⟩) hS (fun r_32 w H locs hw hP hD hS => ?_)
  obtain ⟨rfl, hw⟩ := hw
  rw [hw] at hP hD
  refine lv_i2l (v := lN (bz rf len (i + 3))) hx hb d_Lst_u4_35 (nI_l (by omega)) ?_
  refine lv_bipush (v := nI 24) hx hb d_Lst_u4_36 (by decide) ?_
  refine lv_lshl (v := lN (bz rf len (i + 3) * 16777216)) hx hb d_Lst_u4_38 (lN_shl _ 24 (by decide)) ?_
  refine z_lor (v := lN (bz rf len i + bz rf len (i + 1) * 256 + bz rf len (i + 2) * 65536 + bz rf len (i + 3) * 16777216)) C d_Lst_u4_39 (lN_or24 (by omega)) ?_
  exact z_lret C hr hlk hP hD hS (by omega) (by omega) ⟨rfl, rfl⟩ d_Lst_u4_40
set_option maxHeartbeats 4000000 in
set_option maxRecDepth 100000 in
theorem c_Lst_putU2 (l : Launch) (g : zT) (T : va_W) (h rw len hd bg mk ly rn : Nat) (rf : Nat → UInt8) (hh : (h, zo 5 [.ref rw, .int (nI len), .int (nI hd), .int (nI bg), .ref mk, .ref ly]) ∈ T) (i : Nat) (v : Int32) (v1 : i + 2 ≤ rn) (v2 : rn ≤ 65536) : Met l y_Lst_putU2 (zw y_Lst_putU2 b_Lst_putU2 3 (none)) (zR 0 0 0 0) (zP g [.ref h, .int (nI i), .int v] ((rw, zBy g rn rf) :: T)) (zQv g (fun w => w = (rw, zBy g rn (wr rf i (le2 v))) :: T)) 0 0 (zA g) := by
  refine zMet (by decide) (Nat.le_of_ble_eq_true rfl) ?_
  intro p e s m below meth c ls C hr hlk hnm hP hD hl
  have hx := C.1.1
  have hb := C.1.2.1
  have hS : va_S (zA g) s.heap s.heap [] := va_S.rf
  have hl : lv_has ls 3 [(0, .ref h), (1, .int (nI i)), (2, .int v)] := hl
  refine lv_aload_n hx hb d_Lst_putU2_0 rfl (lv_at hl 0 rfl) ?_
  refine z_get C hP (List.mem_cons_of_mem _ hh) q_Lst 0 (by decide) k_136 (fun _ h9 => h9) rfl d_Lst_putU2_1 ?_
  refine lv_iload_n hx hb d_Lst_putU2_4 rfl (lv_at hl 1 rfl) ?_
  refine lv_iload_n hx hb d_Lst_putU2_5 rfl (lv_at hl 2 rfl) ?_
  refine lv_i2b (v := sb (zu v)) hx hb d_Lst_putU2_6 (sb_zu _).symm ?_
  refine z_bast C hP hD hS 0 rfl i (by omega) (by omega) d_Lst_putU2_7 (ws' := (rw, zBy g rn (uB rf i (zu v))) :: T) rfl (fun H locs hP hD hS => ?_)
  refine lv_aload_n hx hb d_Lst_putU2_8 rfl (lv_at hl 0 rfl) ?_
  refine z_get C hP (List.mem_cons_of_mem _ hh) q_Lst 0 (by decide) k_136 (fun _ h9 => h9) rfl d_Lst_putU2_9 ?_
  refine lv_iload_n hx hb d_Lst_putU2_12 rfl (lv_at hl 1 rfl) ?_
  refine lv_iconst (v := nI 1) hx hb d_Lst_putU2_13 (by decide) ?_
  refine z_iadd (v := nI (i + 1)) C d_Lst_putU2_14 (nI_add _ _) ?_
  refine lv_iload_n hx hb d_Lst_putU2_15 rfl (lv_at hl 2 rfl) ?_
  refine lv_bipush (v := nI 8) hx hb d_Lst_putU2_16 (by decide) ?_
  refine z_ishr (v := v >>> ((nI 8) &&& 31)) C d_Lst_putU2_18 rfl ?_
  refine lv_i2b (v := sb (zu (v >>> ((nI 8) &&& 31)))) hx hb d_Lst_putU2_19 (sb_zu _).symm ?_
  refine z_bast C hP hD hS 0 rfl (i + 1) (by omega) (by omega) d_Lst_putU2_20 (ws' := (rw, zBy g rn (uB (uB rf i (zu v)) (i + 1) (zu (v >>> ((nI 8) &&& 31))))) :: T) rfl (fun H locs hP hD hS => ?_)
  rw [put2] at hP hD
  exact z_vret C hr hlk hP hD hS (by omega) (by omega) rfl d_Lst_putU2_21
set_option maxHeartbeats 4000000 in
set_option maxRecDepth 100000 in
theorem c_Lst_putU4 (l : Launch) (g : zT) (T : va_W) (h rw len hd bg mk ly rn : Nat) (rf : Nat → UInt8) (hh : (h, zo 5 [.ref rw, .int (nI len), .int (nI hd), .int (nI bg), .ref mk, .ref ly]) ∈ T) (i : Nat) (v : Int32) (v1 : i + 4 ≤ rn) (v2 : rn ≤ 65536) : Met l y_Lst_putU4 (zw y_Lst_putU4 b_Lst_putU4 3 (none)) (zR 1 22 0 0) (zP g [.ref h, .int (nI i), .int v] ((rw, zBy g rn rf) :: T)) (zQv g (fun w => w = (rw, zBy g rn (wr rf i (le4 v))) :: T)) 0 0 (zA g) := by
  refine zMet (by decide) (Nat.le_of_ble_eq_true rfl) ?_
  intro p e s m below meth c ls C hr hlk hnm hP hD hl
  have hx := C.1.1
  have hb := C.1.2.1
  have hS : va_S (zA g) s.heap s.heap [] := va_S.rf
  have hl : lv_has ls 3 [(0, .ref h), (1, .int (nI i)), (2, .int v)] := hl
  refine lv_aload_n hx hb d_Lst_putU4_0 rfl (lv_at hl 0 rfl) ?_
  refine lv_iload_n hx hb d_Lst_putU4_1 rfl (lv_at hl 1 rfl) ?_
  refine lv_iload_n hx hb d_Lst_putU4_2 rfl (lv_at hl 2 rfl) ?_
  refine z_kv (z_runV (np := 2) C (c_Lst_putU2 l g T h rw len hd bg mk ly rn rf hh i v (by omega) v2) hP hD hS (List.mem_cons_of_mem _ hh) (show classes[5]? = some (R_Lst, F_Lst, 6) from rfl) k_549 k_8 k_546 k_548 ks_Lst_putU2 ⟨by decide, by decide, by decide⟩ ⟨Nat.le_of_ble_eq_true rfl, Nat.le_of_ble_eq_true rfl⟩ rfl hl.1 rfl (Nat.le_of_ble_eq_true rfl) d_Lst_putU4_3 ⟨by show _ ≤ 0; omega, by show _ ≤ 0; omega⟩) hS (fun w H locs hw hP hD hS => ?_)
  rw [hw] at hP hD
  refine lv_aload_n hx hb d_Lst_putU4_6 rfl (lv_at hl 0 rfl) ?_
  refine lv_iload_n hx hb d_Lst_putU4_7 rfl (lv_at hl 1 rfl) ?_
  refine lv_iconst (v := nI 2) hx hb d_Lst_putU4_8 (by decide) ?_
  refine z_iadd (v := nI (i + 2)) C d_Lst_putU4_9 (nI_add _ _) ?_
  refine lv_iload_n hx hb d_Lst_putU4_10 rfl (lv_at hl 2 rfl) ?_
  refine lv_bipush (v := nI 16) hx hb d_Lst_putU4_11 (by decide) ?_
  refine z_ishr (v := v >>> ((nI 16) &&& 31)) C d_Lst_putU4_13 rfl ?_
  refine z_kv (z_runV (np := 2) C (c_Lst_putU2 l g T h rw len hd bg mk ly rn (wr rf i (le2 v)) hh (i + 2) (v >>> (nI 16 &&& 31)) (by omega) v2) hP hD hS (List.mem_cons_of_mem _ hh) (show classes[5]? = some (R_Lst, F_Lst, 6) from rfl) k_549 k_8 k_546 k_548 ks_Lst_putU2 ⟨by decide, by decide, by decide⟩ ⟨Nat.le_of_ble_eq_true rfl, Nat.le_of_ble_eq_true rfl⟩ rfl hl.1 rfl (Nat.le_of_ble_eq_true rfl) d_Lst_putU4_14 ⟨by show _ ≤ 0; omega, by show _ ≤ 0; omega⟩) hS (fun w H locs hw hP hD hS => ?_)
  rw [hw] at hP hD
  rw [put4] at hP hD
  exact z_vret C hr hlk hP hD hS (by omega) (by omega) rfl d_Lst_putU4_17
set_option maxHeartbeats 4000000 in
set_option maxRecDepth 100000 in
theorem c_Lst_pieceOf (l : Launch) (g : zT) (T : va_W) (h rw len hd bg mk ly : Nat) (hh : (h, zo 5 [.ref rw, .int (nI len), .int (nI hd), .int (nI bg), .ref mk, .ref ly]) ∈ T) (i : Nat) (v1 : bg + i < 2 ^ 30) : Met l y_Lst_pieceOf (zw y_Lst_pieceOf b_Lst_pieceOf 2 (some .int)) (zR 1 21 0 0) (zP g [.ref h, .int (nI i)] (T)) (zQi g (fun r w => r = nI ((bg + i) / 8192) ∧ w = T)) 0 0 (zA g) := by
  refine zMet (by decide) (Nat.le_of_ble_eq_true rfl) ?_
  intro p e s m below meth c ls C hr hlk hnm hP hD hl
  have hx := C.1.1
  have hb := C.1.2.1
  have hS : va_S (zA g) s.heap s.heap [] := va_S.rf
  have hl : lv_has ls 2 [(0, .ref h), (1, .int (nI i))] := hl
  refine lv_aload_n hx hb d_Lst_pieceOf_0 rfl (lv_at hl 0 rfl) ?_
  refine z_get C hP hh q_Lst 3 (by decide) k_146 (fun _ h9 => h9) rfl d_Lst_pieceOf_1 ?_
  refine lv_iload_n hx hb d_Lst_pieceOf_4 rfl (lv_at hl 1 rfl) ?_
  refine z_ki (z_runS (np := 2) C (c_Lay_pieceOf l g T bg i (by omega)) hP hD hS k_527 k_9 k_554 k_526 ⟨by decide, by decide, by decide⟩ ⟨Nat.le_of_ble_eq_true rfl, Nat.le_of_ble_eq_true rfl⟩ rfl hl.1 rfl (Nat.le_of_ble_eq_true rfl) d_Lst_pieceOf_5 ⟨by show _ ≤ 0; omega, by show _ ≤ 0; omega⟩) hS (fun r_5 w H locs hw hP hD hS => ?_)
  obtain ⟨rfl, hw⟩ := hw
  rw [hw] at hP hD
  exact z_iret C hr hlk hP hD hS (by omega) (by omega) ⟨rfl, rfl⟩ d_Lst_pieceOf_8
set_option maxHeartbeats 4000000 in
set_option maxRecDepth 100000 in
theorem c_Lst_startOfPieceWith (l : Launch) (g : zT) (T : va_W) (h rw len hd bg mk ly : Nat) (hh : (h, zo 5 [.ref rw, .int (nI len), .int (nI hd), .int (nI bg), .ref mk, .ref ly]) ∈ T) (i : Nat) (v1 : bg + i < 2 ^ 30) : Met l y_Lst_startOfPieceWith (zw y_Lst_startOfPieceWith b_Lst_startOfPieceWith 2 (some .int)) (zR 2 42 0 0) (zP g [.ref h, .int (nI i)] (T)) (zQi g (fun r w => r = nI (8194 * ((bg + i) / 8192)) ∧ w = T)) 0 0 (zA g) := by
  refine zMet (by decide) (Nat.le_of_ble_eq_true rfl) ?_
  intro p e s m below meth c ls C hr hlk hnm hP hD hl
  have hx := C.1.1
  have hb := C.1.2.1
  have hS : va_S (zA g) s.heap s.heap [] := va_S.rf
  have hl : lv_has ls 2 [(0, .ref h), (1, .int (nI i))] := hl
  refine lv_sipush (v := nI 8194) hx hb d_Lst_startOfPieceWith_0 (by decide) ?_
  refine lv_aload_n hx hb d_Lst_startOfPieceWith_3 rfl (lv_at hl 0 rfl) ?_
  refine lv_iload_n hx hb d_Lst_startOfPieceWith_4 rfl (lv_at hl 1 rfl) ?_
  refine z_ki (z_runV (np := 1) C (c_Lst_pieceOf l g T h rw len hd bg mk ly hh i v1) hP hD hS hh (show classes[5]? = some (R_Lst, F_Lst, 6) from rfl) k_553 k_8 k_550 k_552 ks_Lst_pieceOf ⟨by decide, by decide, by decide⟩ ⟨Nat.le_of_ble_eq_true rfl, Nat.le_of_ble_eq_true rfl⟩ rfl hl.1 rfl (Nat.le_of_ble_eq_true rfl) d_Lst_startOfPieceWith_5 ⟨by show _ ≤ 0; omega, by show _ ≤ 0; omega⟩) hS (fun r_5 w H locs hw hP hD hS => ?_)
  obtain ⟨rfl, hw⟩ := hw
  rw [hw] at hP hD
  refine z_imul (v := nI (8194 * ((bg + i) / 8192))) C d_Lst_startOfPieceWith_8 (pk_mul _ _) ?_
  exact z_iret C hr hlk hP hD hS (by omega) (by omega) ⟨rfl, rfl⟩ d_Lst_startOfPieceWith_9
set_option maxHeartbeats 4000000 in
set_option maxRecDepth 100000 in
theorem c_Lst_hasMark (l : Launch) (g : zT) (T : va_W) (h rw len hd bg mk ly ed n : Nat) (x : Int32) (hh : (h, zo 5 [.ref rw, .int (nI len), .int (nI hd), .int (nI bg), .ref mk, .ref ly]) ∈ T) (hmk : (mk, zo 3 [.int x, .ref ed, .int (nI n)]) ∈ T) (i : Int32) (v1 : n < 60000) : Met l y_Lst_hasMark (zw y_Lst_hasMark b_Lst_hasMark 2 (some .boolean)) (zR 1 20 0 0) (zP g [.ref h, .int i] (T)) (zQi g (fun r w => r = bI (decide (0 ≤ i.toInt ∧ i.toInt < n)) ∧ w = T)) 0 0 (zA g) := by
  refine zMet (by decide) (Nat.le_of_ble_eq_true rfl) ?_
  intro p e s m below meth c ls C hr hlk hnm hP hD hl
  have hx := C.1.1
  have hb := C.1.2.1
  have hS : va_S (zA g) s.heap s.heap [] := va_S.rf
  have hl : lv_has ls 2 [(0, .ref h), (1, .int i)] := hl
  have r1 := zi_rg i
  refine lv_iload_n hx hb d_Lst_hasMark_0 rfl (lv_at hl 1 rfl) ?_
  refine lv_if_lt (tgt := 19) hx hb d_Lst_hasMark_1 (by decide) (fun c_1 => ?_) (fun c_1 => ?_)
  · skip
    have c_1 : i.toInt < 0 := (zi_lt (a := i.toInt) (b := 0) (iI_of _) (nI_iI _) (by omega) (by omega) (by omega) (by omega)).mp c_1
    refine lv_iconst (v := nI 0) hx hb d_Lst_hasMark_19 (by decide) ?_
    exact z_zret C hr hlk hP hD hS (by omega) (by omega) (by first | exact Or.inl rfl | exact Or.inr rfl) ⟨by first | exact bI_t (decide_eq_true (by omega)) | exact bI_f (decide_eq_false (by omega)), rfl⟩ d_Lst_hasMark_20
  · skip
    have c_1 : ¬ i.toInt < 0 := fun q9 => c_1 ((zi_lt (a := i.toInt) (b := 0) (iI_of _) (nI_iI _) (by omega) (by omega) (by omega) (by omega)).mpr q9)
    refine lv_iload_n hx hb d_Lst_hasMark_4 rfl (lv_at hl 1 rfl) ?_
    refine lv_aload_n hx hb d_Lst_hasMark_5 rfl (lv_at hl 0 rfl) ?_
    refine z_get C hP hh q_Lst 4 (by decide) k_148 (fun _ h9 => h9) rfl d_Lst_hasMark_6 ?_
    refine z_ki (z_runV (np := 0) C (c_AL_size l g T mk ed x (nI n) hmk) hP hD hS hmk (show classes[3]? = some (R_AL, F_AL, 3) from rfl) k_296 k_6 k_514 k_294 k_295 ⟨by decide, by decide, by decide⟩ ⟨Nat.le_of_ble_eq_true rfl, Nat.le_of_ble_eq_true rfl⟩ rfl hl.1 rfl (Nat.le_of_ble_eq_true rfl) d_Lst_hasMark_9 ⟨by show _ ≤ 0; omega, by show _ ≤ 0; omega⟩) hS (fun r_9 w H locs hw hP hD hS => ?_)
    obtain ⟨rfl, hw⟩ := hw
    rw [hw] at hP hD
    refine lv_icmp_ge (tgt := 19) hx hb d_Lst_hasMark_12 (by decide) (fun c_12 => ?_) (fun c_12 => ?_)
    · skip
      have c_12 : (n : Int) ≤ i.toInt := (zi_le (a := (n : Int)) (b := i.toInt) (nI_iI _) (iI_of _) (by omega) (by omega) (by omega) (by omega)).mp c_12
      refine lv_iconst (v := nI 0) hx hb d_Lst_hasMark_19 (by decide) ?_
      exact z_zret C hr hlk hP hD hS (by omega) (by omega) (by first | exact Or.inl rfl | exact Or.inr rfl) ⟨by first | exact bI_t (decide_eq_true (by omega)) | exact bI_f (decide_eq_false (by omega)), rfl⟩ d_Lst_hasMark_20
    · skip
      have c_12 : ¬ (n : Int) ≤ i.toInt := fun q9 => c_12 ((zi_le (a := (n : Int)) (b := i.toInt) (nI_iI _) (iI_of _) (by omega) (by omega) (by omega) (by omega)).mpr q9)
      refine lv_iconst (v := nI 1) hx hb d_Lst_hasMark_15 (by decide) ?_
      refine lv_goto (tgt := 20) hx hb d_Lst_hasMark_16 (by decide) ?_
      exact z_zret C hr hlk hP hD hS (by omega) (by omega) (by first | exact Or.inl rfl | exact Or.inr rfl) ⟨by first | exact bI_t (decide_eq_true (by omega)) | exact bI_f (decide_eq_false (by omega)), rfl⟩ d_Lst_hasMark_20
set_option maxHeartbeats 4000000 in
set_option maxRecDepth 100000 in
theorem c_Lst_placeToLookFrom (l : Launch) (g : zT) (T : va_W) (h rw len hd bg mk ly ed n : Nat) (x : Int32) (hh : (h, zo 5 [.ref rw, .int (nI len), .int (nI hd), .int (nI bg), .ref mk, .ref ly]) ∈ T) (hmk : (mk, zo 3 [.int x, .ref ed, .int (nI n)]) ∈ T) (cap qt nt ln : Nat) (f : Nat → Option Nat) (ft : Nat → UInt8) (mf : Nat → zM) (hed : 0 < n → (ed, zOb g cap f) ∈ T) (hq : (qt, zBy g nt ft) ∈ T) (v1 : n ≤ cap) (v2 : cap < 60000) (v3 : ln ≤ nt) (v4 : nt < 2 ^ 19) (hE : ∀ j, j < n → ∃ a, f j = some a ∧ isMark g T a (mf j) ∧ (mf j).2.2.length < 2 ^ 19) : Met l y_Lst_placeToLookFrom (zw y_Lst_placeToLookFrom b_Lst_placeToLookFrom 6 (some .int)) (zR 3 64 0 0) (zP g [.ref h, .ref qt, .int (nI ln)] (T)) (zQi g (fun r w => r = lookF mf (zl ft 0 ln) n ∧ w = T)) 0 0 (zA g) := by
  refine zMet (by decide) (Nat.le_of_ble_eq_true rfl) ?_
  intro p e s m below meth c ls C hr hlk hnm hP hD hl
  have hx := C.1.1
  have hb := C.1.2.1
  have hS : va_S (zA g) s.heap s.heap [] := va_S.rf
  have hl : lv_has ls 6 [(0, .ref h), (1, .ref qt), (2, .int (nI ln))] := hl
  have L_5 : ∀ (nu : Nat) (i : Nat) (_ : i ≤ n) (_ : n - i < nu) (H : Heap) (locs : List Loc), va_P g.1 classes (T) H → va_D (zA g) (T) → va_S (zA g) s.heap H locs → ∀ ls : Array Slot, lv_has ls 6 [(0, .ref h), (1, .ref qt), (2, .int (nI ln)), (3, .int (lookF mf (zl ft 0 ln) i)), (4, .int (nI i))] → W p l e (zR 3 64 0 0) s m [.ref h, .ref qt, .int (nI ln)].toArray below meth c H locs 0 0 (MQ below (zQi g (fun r w => r = lookF mf (zl ft 0 ln) n ∧ w = T)) [.ref h, .ref qt, .int (nI ln)].toArray s 0 0 (zA g)) (F0 m 5 ls []) := by
    intro nu
    induction nu with
    | zero => intros; omega
    | succ nu ih =>
      intro i hi hmu H locs hP hD hS ls hl
      refine lv_iload hx hb d_Lst_placeToLookFrom_5 (lv_at hl 4 rfl) ?_
      refine lv_aload_n hx hb d_Lst_placeToLookFrom_7 rfl (lv_at hl 0 rfl) ?_
      refine z_get C hP hh q_Lst 4 (by decide) k_148 (fun _ h9 => h9) rfl d_Lst_placeToLookFrom_8 ?_
      refine z_ki (z_runV (np := 0) C (c_AL_size l g T mk ed x (nI n) hmk) hP hD hS hmk (show classes[3]? = some (R_AL, F_AL, 3) from rfl) k_296 k_6 k_514 k_294 k_295 ⟨by decide, by decide, by decide⟩ ⟨Nat.le_of_ble_eq_true rfl, Nat.le_of_ble_eq_true rfl⟩ rfl hl.1 rfl (Nat.le_of_ble_eq_true rfl) d_Lst_placeToLookFrom_11 ⟨by show _ ≤ 0; omega, by show _ ≤ 0; omega⟩) hS (fun r_11 w H locs hw hP hD hS => ?_)
      obtain ⟨rfl, hw⟩ := hw
      rw [hw] at hP hD
      refine lv_icmp_ge (tgt := 64) hx hb d_Lst_placeToLookFrom_14 (by decide) (fun c_14 => ?_) (fun c_14 => ?_)
      · skip
        have c_14 : n ≤ i := (nI_leI (a := n) (b := i) (by omega) (by omega)).mp c_14
        refine lv_iload_n hx hb d_Lst_placeToLookFrom_64 rfl (lv_at hl 3 rfl) ?_
        exact z_iret C hr hlk hP hD hS (by omega) (by omega) ⟨by rw [show n = i by omega], rfl⟩ d_Lst_placeToLookFrom_65
      · skip
        have c_14 : ¬ n ≤ i := fun q9 => c_14 ((nI_leI (a := n) (b := i) (by omega) (by omega)).mpr q9)
        refine lv_aload_n hx hb d_Lst_placeToLookFrom_17 rfl (lv_at hl 0 rfl) ?_
        refine z_get C hP hh q_Lst 4 (by decide) k_148 (fun _ h9 => h9) rfl d_Lst_placeToLookFrom_18 ?_
        refine lv_iload hx hb d_Lst_placeToLookFrom_21 (lv_at hl 4 rfl) ?_
        obtain ⟨a, hf, ⟨nm, nf, hm2, hm3, hz⟩, hl9⟩ := hE i (by omega)
        refine z_kq (z_runV (np := 1) C (c_AL_get l g T mk ed n cap i a x f hmk (hed (by omega)) (by omega) v1 (by omega) hf) hP hD hS hmk (show classes[3]? = some (R_AL, F_AL, 3) from rfl) k_304 k_6 k_515 k_302 k_303 ⟨by decide, by decide, by decide⟩ ⟨Nat.le_of_ble_eq_true rfl, Nat.le_of_ble_eq_true rfl⟩ rfl hl.1 rfl (Nat.le_of_ble_eq_true rfl) d_Lst_placeToLookFrom_23 ⟨by show _ ≤ 0; omega, by show _ ≤ 0; omega⟩) hS (fun r_23 w H locs hw hP hD hS => ?_)
        obtain ⟨rfl, hw⟩ := hw
        rw [hw] at hP hD
        refine z_cast C hP hm2 (show classes[10]? = some (R_Mark, F_Mark, 3) from rfl) k_555 k_987 d_Lst_placeToLookFrom_26 ?_
        refine lv_astore (lv' := [(5, .ref a), (0, .ref h), (1, .ref qt), (2, .int (nI ln)), (3, .int (lookF mf (zl ft 0 ln) i)), (4, .int (nI i))]) hx hb d_Lst_placeToLookFrom_29 hl (by decide) rfl (fun ls hl => ?_)
        refine lv_aload hx hb d_Lst_placeToLookFrom_31 (lv_at hl 0 rfl) ?_
        refine z_get C hP hm2 q_Mark 2 (by decide) k_574 (fun _ h9 => h9) rfl d_Lst_placeToLookFrom_33 ?_
        refine lv_iconst (v := nI 0) hx hb d_Lst_placeToLookFrom_36 (by decide) ?_
        refine lv_aload hx hb d_Lst_placeToLookFrom_37 (lv_at hl 0 rfl) ?_
        refine z_get C hP hm2 q_Mark 2 (by decide) k_574 (fun _ h9 => h9) rfl d_Lst_placeToLookFrom_39 ?_
        refine z_alenB C hP hm3 d_Lst_placeToLookFrom_42 ?_
        refine lv_aload_n hx hb d_Lst_placeToLookFrom_43 rfl (lv_at hl 2 rfl) ?_
        refine lv_iconst (v := nI 0) hx hb d_Lst_placeToLookFrom_44 (by decide) ?_
        refine lv_iload_n hx hb d_Lst_placeToLookFrom_45 rfl (lv_at hl 3 rfl) ?_
        refine z_ki (z_runS (np := 6) C (c_Nam_compare l g T nm 0 (mf i).2.2.length (mf i).2.2.length qt 0 ln nt nf ft hm3 hq (by omega) (by omega) (by omega) (by omega)) hP hD hS k_318 k_13 k_712 k_317 ⟨by decide, by decide, by decide⟩ ⟨Nat.le_of_ble_eq_true rfl, Nat.le_of_ble_eq_true rfl⟩ rfl hl.1 rfl (Nat.le_of_ble_eq_true rfl) d_Lst_placeToLookFrom_46 ⟨by show _ ≤ 0; omega, by show _ ≤ 0; omega⟩) hS (fun r_46 w H locs hw hP hD hS => ?_)
        obtain ⟨rfl, hw⟩ := hw
        rw [hw] at hP hD
        have rg := cmpB_rg (xs := zl nf 0 (mf i).2.2.length) (ys := zl ft 0 ln) (by rw [zl_len]; omega) (by rw [zl_len]; omega)
        refine lv_if_gt (tgt := 58) hx hb d_Lst_placeToLookFrom_49 (by decide) (fun c_49 => ?_) (fun c_49 => ?_)
        · skip
          have c_49 : 0 < (cmpB (zl nf 0 (mf i).2.2.length) (zl ft 0 ln)) := (zi_lt (a := 0) (b := cmpB (zl nf 0 (mf i).2.2.length) (zl ft 0 ln)) (nI_iI _) rfl (by omega) (by omega) (by omega) (by omega)).mp c_49
          refine lv_iinc (v := nI (i + 1)) (lv' := [(4, .int (nI (i + 1))), (5, .ref a), (0, .ref h), (1, .ref qt), (2, .int (nI ln)), (3, .int (lookF mf (zl ft 0 ln) i))]) hx hb d_Lst_placeToLookFrom_58 hl (k := 5) rfl (by rw [show Int32.ofInt 1 = nI 1 by decide]; exact nI_add _ _) (by decide) rfl (fun ls hl => ?_)
          refine lv_goto (tgt := 5) hx hb d_Lst_placeToLookFrom_61 (by decide) ?_
          rw [hz] at c_49
          have e9 : lookF mf (zl ft 0 ln) (i + 1) = if cmpB (mf i).2.2 (zl ft 0 ln) ≤ 0 then (mf i).1 else lookF mf (zl ft 0 ln) i := rfl
          first | rw [if_pos (by omega)] at e9 | rw [if_neg (by omega)] at e9
          rw [← e9] at hl
          exact ih (i + 1) (by omega) (by omega) _ _ hP hD hS ls (lv_sub hl [2, 3, 4, 5, 0] rfl)
        · skip
          have c_49 : ¬ 0 < (cmpB (zl nf 0 (mf i).2.2.length) (zl ft 0 ln)) := fun q9 => c_49 ((zi_lt (a := 0) (b := cmpB (zl nf 0 (mf i).2.2.length) (zl ft 0 ln)) (nI_iI _) rfl (by omega) (by omega) (by omega) (by omega)).mpr q9)
          refine lv_aload hx hb d_Lst_placeToLookFrom_52 (lv_at hl 0 rfl) ?_
          refine z_get C hP hm2 q_Mark 0 (by decide) k_567 (fun _ h9 => h9) rfl d_Lst_placeToLookFrom_54 ?_
          refine lv_istore_n (lv' := [(3, .int ((mf i).1)), (5, .ref a), (0, .ref h), (1, .ref qt), (2, .int (nI ln)), (4, .int (nI i))]) hx hb d_Lst_placeToLookFrom_57 rfl hl (by decide) rfl (fun ls hl => ?_)
          refine lv_iinc (v := nI (i + 1)) (lv' := [(4, .int (nI (i + 1))), (3, .int ((mf i).1)), (5, .ref a), (0, .ref h), (1, .ref qt), (2, .int (nI ln))]) hx hb d_Lst_placeToLookFrom_58 hl (k := 5) rfl (by rw [show Int32.ofInt 1 = nI 1 by decide]; exact nI_add _ _) (by decide) rfl (fun ls hl => ?_)
          refine lv_goto (tgt := 5) hx hb d_Lst_placeToLookFrom_61 (by decide) ?_
          rw [hz] at c_49
          have e9 : lookF mf (zl ft 0 ln) (i + 1) = if cmpB (mf i).2.2 (zl ft 0 ln) ≤ 0 then (mf i).1 else lookF mf (zl ft 0 ln) i := rfl
          first | rw [if_pos (by omega)] at e9 | rw [if_neg (by omega)] at e9
          rw [← e9] at hl
          exact ih (i + 1) (by omega) (by omega) _ _ hP hD hS ls (lv_sub hl [3, 4, 5, 1, 0] rfl)
  refine lv_iconst (v := nI 0) hx hb d_Lst_placeToLookFrom_0 (by decide) ?_
  refine lv_istore_n (lv' := [(3, .int (nI 0)), (0, .ref h), (1, .ref qt), (2, .int (nI ln))]) hx hb d_Lst_placeToLookFrom_1 rfl hl (by decide) rfl (fun ls hl => ?_)
  refine lv_iconst (v := nI 0) hx hb d_Lst_placeToLookFrom_2 (by decide) ?_
  refine lv_istore (lv' := [(4, .int (nI 0)), (3, .int (nI 0)), (0, .ref h), (1, .ref qt), (2, .int (nI ln))]) hx hb d_Lst_placeToLookFrom_3 hl (by decide) rfl (fun ls hl => ?_)
  exact L_5 _ 0 (Nat.zero_le _) (Nat.lt_succ_self _) _ _ hP hD hS ls (lv_sub hl [2, 3, 4, 1, 0] rfl)
