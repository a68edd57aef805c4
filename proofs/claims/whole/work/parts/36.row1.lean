set_option maxHeartbeats 4000000 in
set_option maxRecDepth 100000 in
theorem c_Row_passed (l : Launch) (g : zT) (T : va_W) (ro tp dr d h k jd : Nat) (ps : Int32) (hro : (ro, zo 0 [.ref tp, .ref dr, .ref d, .ref h, .ref k, .ref jd, .int ps]) ∈ T)  : Met l y_Row_passed (zw y_Row_passed b_Row_passed 1 (some .int)) (zR 0 0 0 0) (zP g [.ref ro] (T)) (zQi g (fun r w => r = ps ∧ w = T)) 0 0 (zA g) := by
  refine zMet (by decide) (Nat.le_of_ble_eq_true rfl) ?_
  intro p e s m below meth c ls C hr hlk hnm hP hD hl
  have hx := C.1.1
  have hb := C.1.2.1
  have hS : va_S (zA g) s.heap s.heap [] := va_S.rf
  have hl : lv_has ls 1 [(0, .ref ro)] := hl
  refine lv_aload_n hx hb d_Row_passed_0 rfl (lv_at hl 0 rfl) ?_
  refine z_get C hP hro q_Row 6 (by decide) k_249 (fun _ h9 => h9) rfl d_Row_passed_1 ?_
  exact z_iret C hr hlk hP hD hS (by omega) (by omega) ⟨rfl, rfl⟩ d_Row_passed_4
set_option maxHeartbeats 4000000 in
set_option maxRecDepth 100000 in
theorem c_Row_size (l : Launch) (g : zT) (T : va_W) (ro tp dr d h k jd : Nat) (ps : Int32) (hro : (ro, zo 0 [.ref tp, .ref dr, .ref d, .ref h, .ref k, .ref jd, .int ps]) ∈ T) (rw len hd bg mk ly : Nat) (hh : (h, zo 5 [.ref rw, .int (nI len), .int (nI hd), .int (nI bg), .ref mk, .ref ly]) ∈ T) (med mn : Nat) (mx : Int32) (hmk : (mk, zo 3 [.int mx, .ref med, .int (nI mn)]) ∈ T) (a : Int32) : Met l y_Row_size (zw y_Row_size b_Row_size 2 (some .int)) (zR 1 20 0 0) (zP g [.ref ro, .int a] (T)) (zQi g (fun r w => r = (if a = nI 0 then nI len else if a = nI 1 then nI hd else if a = nI 2 then nI mn else if a = nI 3 then nI bg else iI (-1)) ∧ w = T)) 0 0 (zA g) := by
  refine zMet (by decide) (Nat.le_of_ble_eq_true rfl) ?_
  intro p e s m below meth c ls C hr hlk hnm hP hD hl
  have hx := C.1.1
  have hb := C.1.2.1
  have hS : va_S (zA g) s.heap s.heap [] := va_S.rf
  have hl : lv_has ls 2 [(0, .ref ro), (1, .int a)] := hl
  have r1 := zi_rg a
  refine lv_iload_n hx hb d_Row_size_0 rfl (lv_at hl 1 rfl) ?_
  by_cases sw_0 : a = nI 0
  · skip
    refine z_topi (y := nI 0) sw_0 ?_
    refine lv_tableIn (off := 31) (tgt := 32) hx hb d_Row_size_1 (by decide) (by decide) (by decide) (by decide) ?_
    refine lv_aload_n hx hb d_Row_size_32 rfl (lv_at hl 0 rfl) ?_
    refine z_get C hP hro q_Row 3 (by decide) k_246 (fun _ h9 => h9) rfl d_Row_size_33 ?_
    refine z_get C hP hh q_Lst 1 (by decide) k_143 (fun _ h9 => h9) rfl d_Row_size_36 ?_
    exact z_iret C hr hlk hP hD hS (by omega) (by omega) ⟨by first | (rw [if_pos sw_0]) | (rw [if_neg sw_0, if_pos sw_1]) | (rw [if_neg sw_0, if_neg sw_1, if_pos sw_2]) | (rw [if_neg sw_0, if_neg sw_1, if_neg sw_2, if_pos sw_3]) | (rw [if_neg sw_0, if_neg sw_1, if_neg sw_2, if_neg sw_3]), rfl⟩ d_Row_size_39
  by_cases sw_1 : a = nI 1
  · skip
    refine z_topi (y := nI 1) sw_1 ?_
    refine lv_tableIn (off := 39) (tgt := 40) hx hb d_Row_size_1 (by decide) (by decide) (by decide) (by decide) ?_
    refine lv_aload_n hx hb d_Row_size_40 rfl (lv_at hl 0 rfl) ?_
    refine z_get C hP hro q_Row 3 (by decide) k_246 (fun _ h9 => h9) rfl d_Row_size_41 ?_
    refine z_get C hP hh q_Lst 2 (by decide) k_145 (fun _ h9 => h9) rfl d_Row_size_44 ?_
    exact z_iret C hr hlk hP hD hS (by omega) (by omega) ⟨by first | (rw [if_pos sw_0]) | (rw [if_neg sw_0, if_pos sw_1]) | (rw [if_neg sw_0, if_neg sw_1, if_pos sw_2]) | (rw [if_neg sw_0, if_neg sw_1, if_neg sw_2, if_pos sw_3]) | (rw [if_neg sw_0, if_neg sw_1, if_neg sw_2, if_neg sw_3]), rfl⟩ d_Row_size_47
  by_cases sw_2 : a = nI 2
  · skip
    refine z_topi (y := nI 2) sw_2 ?_
    refine lv_tableIn (off := 47) (tgt := 48) hx hb d_Row_size_1 (by decide) (by decide) (by decide) (by decide) ?_
    refine lv_aload_n hx hb d_Row_size_48 rfl (lv_at hl 0 rfl) ?_
    refine z_get C hP hro q_Row 3 (by decide) k_246 (fun _ h9 => h9) rfl d_Row_size_49 ?_
    refine z_get C hP hh q_Lst 4 (by decide) k_150 (fun _ h9 => h9) rfl d_Row_size_52 ?_
    refine z_ki (z_runV (np := 0) C (c_AL_size l g T mk med mx (nI mn) hmk) hP hD hS hmk (show classes[3]? = some (R_AL, F_AL, 3) from rfl) k_296 k_6 k_596 k_294 k_295 ⟨by decide, by decide, by decide⟩ ⟨Nat.le_of_ble_eq_true rfl, Nat.le_of_ble_eq_true rfl⟩ rfl hl.1 rfl (Nat.le_of_ble_eq_true rfl) d_Row_size_55 ⟨by show _ ≤ 0; omega, by show _ ≤ 0; omega⟩) hS (fun r_55 w H locs hw hP hD hS => ?_)
    obtain ⟨rfl, hw⟩ := hw
    rw [hw] at hP hD
    exact z_iret C hr hlk hP hD hS (by omega) (by omega) ⟨by first | (rw [if_pos sw_0]) | (rw [if_neg sw_0, if_pos sw_1]) | (rw [if_neg sw_0, if_neg sw_1, if_pos sw_2]) | (rw [if_neg sw_0, if_neg sw_1, if_neg sw_2, if_pos sw_3]) | (rw [if_neg sw_0, if_neg sw_1, if_neg sw_2, if_neg sw_3]), rfl⟩ d_Row_size_58
  by_cases sw_3 : a = nI 3
  · skip
    refine z_topi (y := nI 3) sw_3 ?_
    refine lv_tableIn (off := 58) (tgt := 59) hx hb d_Row_size_1 (by decide) (by decide) (by decide) (by decide) ?_
    refine lv_aload_n hx hb d_Row_size_59 rfl (lv_at hl 0 rfl) ?_
    refine z_get C hP hro q_Row 3 (by decide) k_246 (fun _ h9 => h9) rfl d_Row_size_60 ?_
    refine z_get C hP hh q_Lst 3 (by decide) k_147 (fun _ h9 => h9) rfl d_Row_size_63 ?_
    exact z_iret C hr hlk hP hD hS (by omega) (by omega) ⟨by first | (rw [if_pos sw_0]) | (rw [if_neg sw_0, if_pos sw_1]) | (rw [if_neg sw_0, if_neg sw_1, if_pos sw_2]) | (rw [if_neg sw_0, if_neg sw_1, if_neg sw_2, if_pos sw_3]) | (rw [if_neg sw_0, if_neg sw_1, if_neg sw_2, if_neg sw_3]), rfl⟩ d_Row_size_66
  have sx_0 : ¬ (a).toInt = 0 := fun q9 => sw_0 (by rw [iI_of (a), q9]; rfl)
  have sx_1 : ¬ (a).toInt = 1 := fun q9 => sw_1 (by rw [iI_of (a), q9]; rfl)
  have sx_2 : ¬ (a).toInt = 2 := fun q9 => sw_2 (by rw [iI_of (a), q9]; rfl)
  have sx_3 : ¬ (a).toInt = 3 := fun q9 => sw_3 (by rw [iI_of (a), q9]; rfl)
  refine lv_tableOut (tgt := 67) hx hb d_Row_size_1 (by omega) (by decide) ?_
  refine lv_iconst (v := iI (-1)) hx hb d_Row_size_67 (by decide) ?_
  exact z_iret C hr hlk hP hD hS (by omega) (by omega) ⟨by first | (rw [if_pos sw_0]) | (rw [if_neg sw_0, if_pos sw_1]) | (rw [if_neg sw_0, if_neg sw_1, if_pos sw_2]) | (rw [if_neg sw_0, if_neg sw_1, if_neg sw_2, if_pos sw_3]) | (rw [if_neg sw_0, if_neg sw_1, if_neg sw_2, if_neg sw_3]), rfl⟩ d_Row_size_68
