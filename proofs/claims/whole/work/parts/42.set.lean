set_option maxHeartbeats 4000000 in
set_option maxRecDepth 100000 in
theorem c_Row_set_b1 (l : Launch) (g : zT) (T : va_W) (ro tp dr d h k jd : Nat) (ps : Int32) (hro : (ro, zo 0 [.ref tp, .ref dr, .ref d, .ref h, .ref k, .ref jd, .int ps]) ∈ T) (q ln : Nat) (v1 : ln ≤ 300) (a b c0 : Int32) (hr9 : ¬ (1 ≤ ln ∧ ln ≤ 256)) : Met l y_Row_set (zw y_Row_set b_Row_set 5 (some .int)) (zR 3 66 0 0) (zP g [.ref ro, .int a, .int b, .int c0] ((tp, zo 1 [.ref q, .int (nI ln)]) :: T)) (zQi g (fun r w => r = iI (-1) ∧ w = (tp, zo 1 [.ref q, .int (nI 0)]) :: T)) 0 0 (zA g) := by
  refine zMet (by decide) (Nat.le_of_ble_eq_true rfl) ?_
  intro p e s m below meth c ls C hr hlk hnm hP hD hl
  have hx := C.1.1
  have hb := C.1.2.1
  have hS : va_S (zA g) s.heap s.heap [] := va_S.rf
  have hl : lv_has ls 5 [(0, .ref ro), (1, .int a), (2, .int b), (3, .int c0)] := hl
  refine lv_aload_n hx hb d_Row_set_0 rfl (lv_at hl 0 rfl) ?_
  refine z_get C hP (List.mem_cons_of_mem _ hro) q_Row 0 (by decide) k_243 (fun _ h9 => h9) rfl d_Row_set_1 ?_
  refine z_ki (z_runV (np := 0) C (c_Tape_useUp l g T tp q ln) hP hD hS List.mem_cons_self (show classes[1]? = some (R_Tape, F_Tape, 2) from rfl) k_280 k_2 k_277 k_278 k_279 ⟨by decide, by decide, by decide⟩ ⟨Nat.le_of_ble_eq_true rfl, Nat.le_of_ble_eq_true rfl⟩ rfl hl.1 rfl (Nat.le_of_ble_eq_true rfl) d_Row_set_4 ⟨by show _ ≤ 0; omega, by show _ ≤ 0; omega⟩) hS (fun r_4 w H locs hw hP hD hS => ?_)
  obtain ⟨rfl, hw⟩ := hw
  rw [hw] at hP hD
  refine lv_istore (lv' := [(4, .int (nI ln)), (0, .ref ro), (1, .int a), (2, .int b), (3, .int c0)]) hx hb d_Row_set_7 hl (by decide) rfl (fun ls hl => ?_)
  refine lv_iload hx hb d_Row_set_9 (lv_at hl 0 rfl) ?_
  refine lv_iconst (v := nI 1) hx hb d_Row_set_11 (by decide) ?_
  refine lv_icmp_lt (tgt := 23) hx hb d_Row_set_12 (by decide) (fun c_12 => ?_) (fun c_12 => ?_)
  · skip
    have c_12 : ln < 1 := (nI_ltI (a := ln) (b := 1) (by omega) (by decide)).mp c_12
    refine lv_iconst (v := iI (-1)) hx hb d_Row_set_23 (by decide) ?_
    exact z_iret C hr hlk hP hD hS (by omega) (by omega) ⟨rfl, rfl⟩ d_Row_set_24
  · skip
    have c_12 : ¬ ln < 1 := fun q9 => c_12 ((nI_ltI (a := ln) (b := 1) (by omega) (by decide)).mpr q9)
    refine lv_iload hx hb d_Row_set_15 (lv_at hl 0 rfl) ?_
    refine lv_sipush (v := nI 256) hx hb d_Row_set_17 (by decide) ?_
    refine lv_icmp_le (tgt := 25) hx hb d_Row_set_20 (by decide) (fun c_20 => ?_) (fun c_20 => ?_)
    · skip
      have c_20 : ln ≤ 256 := (nI_leI (a := ln) (b := 256) (by omega) (by decide)).mp c_20
      exact absurd c_20 (by omega)
    · skip
      have c_20 : ¬ ln ≤ 256 := fun q9 => c_20 ((nI_leI (a := ln) (b := 256) (by omega) (by decide)).mpr q9)
      refine lv_iconst (v := iI (-1)) hx hb d_Row_set_23 (by decide) ?_
      exact z_iret C hr hlk hP hD hS (by omega) (by omega) ⟨rfl, rfl⟩ d_Row_set_24
set_option maxHeartbeats 4000000 in
set_option maxRecDepth 100000 in
theorem c_Row_set_b2 (l : Launch) (g : zT) (T : va_W) (ro tp dr d h k jd : Nat) (ps : Int32) (hro : (ro, zo 0 [.ref tp, .ref dr, .ref d, .ref h, .ref k, .ref jd, .int ps]) ∈ T) (rw len hd bg mk ly : Nat) (hh : (h, zo 5 [.ref rw, .int (nI len), .int (nI hd), .int (nI bg), .ref mk, .ref ly]) ∈ T) (med mn : Nat) (mx : Int32) (hmk : (mk, zo 3 [.int mx, .ref med, .int (nI mn)]) ∈ T) (q ln : Nat) (v1 : 1 ≤ ln) (v2 : ln ≤ 256) (v3 : mn < 60000) (a b c0 : Int32) (hr9 : ¬ (0 ≤ a.toInt ∧ a.toInt < mn)) : Met l y_Row_set (zw y_Row_set b_Row_set 5 (some .int)) (zR 3 66 0 0) (zP g [.ref ro, .int a, .int b, .int c0] ((tp, zo 1 [.ref q, .int (nI ln)]) :: T)) (zQi g (fun r w => r = iI (-2) ∧ w = (tp, zo 1 [.ref q, .int (nI 0)]) :: T)) 0 0 (zA g) := by
  refine zMet (by decide) (Nat.le_of_ble_eq_true rfl) ?_
  intro p e s m below meth c ls C hr hlk hnm hP hD hl
  have hx := C.1.1
  have hb := C.1.2.1
  have hS : va_S (zA g) s.heap s.heap [] := va_S.rf
  have hl : lv_has ls 5 [(0, .ref ro), (1, .int a), (2, .int b), (3, .int c0)] := hl
  refine lv_aload_n hx hb d_Row_set_0 rfl (lv_at hl 0 rfl) ?_
  refine z_get C hP (List.mem_cons_of_mem _ hro) q_Row 0 (by decide) k_243 (fun _ h9 => h9) rfl d_Row_set_1 ?_
  refine z_ki (z_runV (np := 0) C (c_Tape_useUp l g T tp q ln) hP hD hS List.mem_cons_self (show classes[1]? = some (R_Tape, F_Tape, 2) from rfl) k_280 k_2 k_277 k_278 k_279 ⟨by decide, by decide, by decide⟩ ⟨Nat.le_of_ble_eq_true rfl, Nat.le_of_ble_eq_true rfl⟩ rfl hl.1 rfl (Nat.le_of_ble_eq_true rfl) d_Row_set_4 ⟨by show _ ≤ 0; omega, by show _ ≤ 0; omega⟩) hS (fun r_4 w H locs hw hP hD hS => ?_)
  obtain ⟨rfl, hw⟩ := hw
  rw [hw] at hP hD
  refine lv_istore (lv' := [(4, .int (nI ln)), (0, .ref ro), (1, .int a), (2, .int b), (3, .int c0)]) hx hb d_Row_set_7 hl (by decide) rfl (fun ls hl => ?_)
  refine lv_iload hx hb d_Row_set_9 (lv_at hl 0 rfl) ?_
  refine lv_iconst (v := nI 1) hx hb d_Row_set_11 (by decide) ?_
  refine lv_icmp_lt (tgt := 23) hx hb d_Row_set_12 (by decide) (fun c_12 => ?_) (fun c_12 => ?_)
  · skip
    have c_12 : ln < 1 := (nI_ltI (a := ln) (b := 1) (by omega) (by decide)).mp c_12
    exact absurd c_12 (by omega)
  · skip
    have c_12 : ¬ ln < 1 := fun q9 => c_12 ((nI_ltI (a := ln) (b := 1) (by omega) (by decide)).mpr q9)
    refine lv_iload hx hb d_Row_set_15 (lv_at hl 0 rfl) ?_
    refine lv_sipush (v := nI 256) hx hb d_Row_set_17 (by decide) ?_
    refine lv_icmp_le (tgt := 25) hx hb d_Row_set_20 (by decide) (fun c_20 => ?_) (fun c_20 => ?_)
    · skip
      have c_20 : ln ≤ 256 := (nI_leI (a := ln) (b := 256) (by omega) (by decide)).mp c_20
      refine lv_aload_n hx hb d_Row_set_25 rfl (lv_at hl 1 rfl) ?_
      refine z_get C hP (List.mem_cons_of_mem _ hro) q_Row 3 (by decide) k_246 (fun _ h9 => h9) rfl d_Row_set_26 ?_
      refine lv_iload_n hx hb d_Row_set_29 rfl (lv_at hl 2 rfl) ?_
      refine z_ki (z_runV (np := 1) C (c_Lst_hasMark l g ((tp, zo 1 [.ref q, .int (nI 0)]) :: T) h rw len hd bg mk ly med mn mx (List.mem_cons_of_mem _ hh) (List.mem_cons_of_mem _ hmk) a (by omega)) hP hD hS (List.mem_cons_of_mem _ hh) (show classes[5]? = some (R_Lst, F_Lst, 6) from rfl) k_612 k_8 k_609 k_610 k_611 ⟨by decide, by decide, by decide⟩ ⟨Nat.le_of_ble_eq_true rfl, Nat.le_of_ble_eq_true rfl⟩ rfl hl.1 rfl (Nat.le_of_ble_eq_true rfl) d_Row_set_30 ⟨by show _ ≤ 0; omega, by show _ ≤ 0; omega⟩) hS (fun r_30 w H locs hw hP hD hS => ?_)
      obtain ⟨rfl, hw⟩ := hw
      rw [hw] at hP hD
      refine lv_if_ne (tgt := 39) hx hb d_Row_set_33 (by decide) (fun c_33 => ?_) (fun c_33 => ?_)
      · skip
        exact absurd (of_decide_eq_true (bI_ne.mp c_33)) hr9
      · skip
        refine lv_bipush (v := iI (-2)) hx hb d_Row_set_36 (by decide) ?_
        exact z_iret C hr hlk hP hD hS (by omega) (by omega) ⟨rfl, rfl⟩ d_Row_set_38
    · skip
      have c_20 : ¬ ln ≤ 256 := fun q9 => c_20 ((nI_leI (a := ln) (b := 256) (by omega) (by decide)).mpr q9)
      exact absurd c_20 (by omega)
set_option maxHeartbeats 4000000 in
set_option maxRecDepth 100000 in
theorem c_Row_set_g (l : Launch) (g : zT) (T : va_W) (ro tp dr d h k jd : Nat) (ps : Int32) (hro : (ro, zo 0 [.ref tp, .ref dr, .ref d, .ref h, .ref k, .ref jd, .int ps]) ∈ T) (rw len hd bg mk ly : Nat) (hh : (h, zo 5 [.ref rw, .int (nI len), .int (nI hd), .int (nI bg), .ref mk, .ref ly]) ∈ T) (med mn : Nat) (mx : Int32) (hmk : (mk, zo 3 [.int mx, .ref med, .int (nI mn)]) ∈ T) (q ln : Nat) (tf : Nat → UInt8) (hq : (q, zBy g 300 tf) ∈ T) (v1 : ln ≤ 300) (n mcap y0 met : Nat) (vd b c0 : Int32) (mfn : Nat → Option Nat) (v2 : 1 ≤ ln) (v3 : ln ≤ 256) (m1 : mn ≤ mcap) (m2 : mcap < 60000) (hr9 : n < mn) (hy0 : mfn n = some y0) : Met l y_Row_set (zw y_Row_set b_Row_set 5 (some .int)) (zR 3 66 2 (3 + ln)) (zP g [.ref ro, .int (nI n), .int b, .int c0] ((tp, zo 1 [.ref q, .int (nI ln)]) :: (med, zOb g mcap mfn) :: (jd, zo 8 [.ref h, .ref k, .ref d, .int vd, .int (nI met)]) :: T)) (zQi g (fun r w => r = nI 0 ∧ ∃ y nm2, w = (med, zOb g mcap (va_up mfn n (some y))) :: (tp, zo 1 [.ref q, .int (nI 0)]) :: (jd, zo 8 [.ref h, .ref k, .ref d, .int (iI (-3)), .int (nI met)]) :: (y, zo 10 [.int b, .int c0, .ref nm2]) :: (nm2, zBy g ln tf) :: T)) 2 (3 + ln) (zA g) := by
  refine zMet (by decide) (Nat.le_of_ble_eq_true rfl) ?_
  intro p e s m below meth c ls C hr hlk hnm hP hD hl
  have hx := C.1.1
  have hb := C.1.2.1
  have hS : va_S (zA g) s.heap s.heap [] := va_S.rf
  have hl : lv_has ls 5 [(0, .ref ro), (1, .int (nI n)), (2, .int b), (3, .int c0)] := hl
  have r2 : (nI n).toInt = (n : Int) := nI_toInt (by omega)
  refine lv_aload_n hx hb d_Row_set_0 rfl (lv_at hl 0 rfl) ?_
  refine z_get C hP (List.mem_cons_of_mem _ (List.mem_cons_of_mem _ (List.mem_cons_of_mem _ hro))) q_Row 0 (by decide) k_243 (fun _ h9 => h9) rfl d_Row_set_1 ?_
  refine z_ki (z_runV (np := 0) C (c_Tape_useUp l g ((med, zOb g mcap mfn) :: (jd, zo 8 [.ref h, .ref k, .ref d, .int vd, .int (nI met)]) :: T) tp q ln) hP hD hS List.mem_cons_self (show classes[1]? = some (R_Tape, F_Tape, 2) from rfl) k_280 k_2 k_277 k_278 k_279 ⟨by decide, by decide, by decide⟩ ⟨Nat.le_of_ble_eq_true rfl, Nat.le_of_ble_eq_true rfl⟩ rfl hl.1 rfl (Nat.le_of_ble_eq_true rfl) d_Row_set_4 ⟨by show _ ≤ 2; omega, by show _ ≤ (3 + ln); omega⟩) hS (fun r_4 w H locs hw hP hD hS => ?_)
  obtain ⟨rfl, hw⟩ := hw
  rw [hw] at hP hD
  refine lv_istore (lv' := [(4, .int (nI ln)), (0, .ref ro), (1, .int (nI n)), (2, .int b), (3, .int c0)]) hx hb d_Row_set_7 hl (by decide) rfl (fun ls hl => ?_)
  refine lv_iload hx hb d_Row_set_9 (lv_at hl 0 rfl) ?_
  refine lv_iconst (v := nI 1) hx hb d_Row_set_11 (by decide) ?_
  refine lv_icmp_lt (tgt := 23) hx hb d_Row_set_12 (by decide) (fun c_12 => ?_) (fun c_12 => ?_)
  · skip
    have c_12 : ln < 1 := (nI_ltI (a := ln) (b := 1) (by omega) (by decide)).mp c_12
    exact absurd c_12 (by omega)
  · skip
    have c_12 : ¬ ln < 1 := fun q9 => c_12 ((nI_ltI (a := ln) (b := 1) (by omega) (by decide)).mpr q9)
    refine lv_iload hx hb d_Row_set_15 (lv_at hl 0 rfl) ?_
    refine lv_sipush (v := nI 256) hx hb d_Row_set_17 (by decide) ?_
    refine lv_icmp_le (tgt := 25) hx hb d_Row_set_20 (by decide) (fun c_20 => ?_) (fun c_20 => ?_)
    · skip
      have c_20 : ln ≤ 256 := (nI_leI (a := ln) (b := 256) (by omega) (by decide)).mp c_20
      refine lv_aload_n hx hb d_Row_set_25 rfl (lv_at hl 1 rfl) ?_
      refine z_get C hP (List.mem_cons_of_mem _ (List.mem_cons_of_mem _ (List.mem_cons_of_mem _ hro))) q_Row 3 (by decide) k_246 (fun _ h9 => h9) rfl d_Row_set_26 ?_
      refine lv_iload_n hx hb d_Row_set_29 rfl (lv_at hl 2 rfl) ?_
      refine z_ki (z_runV (np := 1) C (c_Lst_hasMark l g ((tp, zo 1 [.ref q, .int (nI 0)]) :: (med, zOb g mcap mfn) :: (jd, zo 8 [.ref h, .ref k, .ref d, .int vd, .int (nI met)]) :: T) h rw len hd bg mk ly med mn mx (List.mem_cons_of_mem _ (List.mem_cons_of_mem _ (List.mem_cons_of_mem _ hh))) (List.mem_cons_of_mem _ (List.mem_cons_of_mem _ (List.mem_cons_of_mem _ hmk))) (nI n) (by omega)) hP hD hS (List.mem_cons_of_mem _ (List.mem_cons_of_mem _ (List.mem_cons_of_mem _ hh))) (show classes[5]? = some (R_Lst, F_Lst, 6) from rfl) k_612 k_8 k_609 k_610 k_611 ⟨by decide, by decide, by decide⟩ ⟨Nat.le_of_ble_eq_true rfl, Nat.le_of_ble_eq_true rfl⟩ rfl hl.1 rfl (Nat.le_of_ble_eq_true rfl) d_Row_set_30 ⟨by show _ ≤ 2; omega, by show _ ≤ (3 + ln); omega⟩) hS (fun r_30 w H locs hw hP hD hS => ?_)
      obtain ⟨rfl, hw⟩ := hw
      rw [hw] at hP hD
      refine lv_if_ne (tgt := 39) hx hb d_Row_set_33 (by decide) (fun c_33 => ?_) (fun c_33 => ?_)
      · skip
        refine lv_aload_n hx hb d_Row_set_39 rfl (lv_at hl 1 rfl) ?_
        refine z_get C hP (List.mem_cons_of_mem _ (List.mem_cons_of_mem _ (List.mem_cons_of_mem _ hro))) q_Row 3 (by decide) k_246 (fun _ h9 => h9) rfl d_Row_set_40 ?_
        refine z_get C hP (List.mem_cons_of_mem _ (List.mem_cons_of_mem _ (List.mem_cons_of_mem _ hh))) q_Lst 4 (by decide) k_150 (fun _ h9 => h9) rfl d_Row_set_43 ?_
        refine lv_iload_n hx hb d_Row_set_46 rfl (lv_at hl 2 rfl) ?_
        refine z_new C hP hD hS q_Mark k_614 k_556 k_21 [.int (nI 0), .int (nI 0), .null] (fun j hj => by rcases (show j = 0 ∨ j = 1 ∨ j = 2 by omega) with rfl | rfl | rfl <;> rfl) (by show _ ≤ 2; omega) (by show _ ≤ (3 + ln); omega) d_Row_set_47 (fun y H hP hD hS => ?_)
        refine lv_dup hx hb d_Row_set_50 rfl ?_
        refine lv_iload_n hx hb d_Row_set_51 rfl (lv_at hl 3 rfl) ?_
        refine lv_iload_n hx hb d_Row_set_52 rfl (lv_at hl 4 rfl) ?_
        refine lv_aload_n hx hb d_Row_set_53 rfl (lv_at hl 1 rfl) ?_
        refine z_get C hP (List.mem_cons_of_mem _ (List.mem_cons_of_mem _ (List.mem_cons_of_mem _ (List.mem_cons_of_mem _ hro)))) q_Row 0 (by decide) k_243 (fun _ h9 => h9) rfl d_Row_set_54 ?_
        refine z_get C hP (List.mem_cons_of_mem _ List.mem_cons_self) q_Tape 0 (by decide) k_37 (fun _ h9 => h9) rfl d_Row_set_57 ?_
        refine lv_iload hx hb d_Row_set_60 (lv_at hl 0 rfl) ?_
        refine z_kq (z_runS (np := 2) C (c_ARR_copyB l g ((y, zo 10 [.int (nI 0), .int (nI 0), .null]) :: (tp, zo 1 [.ref q, .int (nI 0)]) :: (med, zOb g mcap mfn) :: (jd, zo 8 [.ref h, .ref k, .ref d, .int vd, .int (nI met)]) :: T) q 300 ln tf (List.mem_cons_of_mem _ (List.mem_cons_of_mem _ (List.mem_cons_of_mem _ (List.mem_cons_of_mem _ hq)))) (by omega) (by decide)) hP hD hS k_349 k_18 k_347 k_348 ⟨by decide, by decide, by decide⟩ ⟨Nat.le_of_ble_eq_true rfl, Nat.le_of_ble_eq_true rfl⟩ rfl hl.1 rfl (Nat.le_of_ble_eq_true rfl) d_Row_set_62 ⟨by show _ ≤ 2; omega, by show _ ≤ (3 + ln); omega⟩) hS (fun r_62 w H locs hw hP hD hS => ?_)
        obtain ⟨nm2, rfl, hw⟩ := hw
        rw [hw] at hP hD
        have hP : va_P g.1 classes ((y, zo 10 [.int (nI 0), .int (nI 0), .null]) :: (nm2, zBy g ln tf) :: (tp, zo 1 [.ref q, .int (nI 0)]) :: (med, zOb g mcap mfn) :: (jd, zo 8 [.ref h, .ref k, .ref d, .int vd, .int (nI met)]) :: T) _ := z_Pq (z_bk (bs := [[(nm2, zBy g ln tf)], [(y, zo 10 [.int (nI 0), .int (nI 0), .null])], [(tp, zo 1 [.ref q, .int (nI 0)])], [(med, zOb g mcap mfn)], [(jd, zo 8 [.ref h, .ref k, .ref d, .int vd, .int (nI met)])], T]) (bs' := [[(y, zo 10 [.int (nI 0), .int (nI 0), .null])], [(nm2, zBy g ln tf)], [(tp, zo 1 [.ref q, .int (nI 0)])], [(med, zOb g mcap mfn)], [(jd, zo 8 [.ref h, .ref k, .ref d, .int vd, .int (nI met)])], T]) [1, 0, 2, 3, 4, 5] rfl (by decide) rfl) hP
        have hD : va_D (zA g) ((y, zo 10 [.int (nI 0), .int (nI 0), .null]) :: (nm2, zBy g ln tf) :: (tp, zo 1 [.ref q, .int (nI 0)]) :: (med, zOb g mcap mfn) :: (jd, zo 8 [.ref h, .ref k, .ref d, .int vd, .int (nI met)]) :: T) := z_Dq (z_bk (bs := [[(nm2, zBy g ln tf)], [(y, zo 10 [.int (nI 0), .int (nI 0), .null])], [(tp, zo 1 [.ref q, .int (nI 0)])], [(med, zOb g mcap mfn)], [(jd, zo 8 [.ref h, .ref k, .ref d, .int vd, .int (nI met)])], T]) (bs' := [[(y, zo 10 [.int (nI 0), .int (nI 0), .null])], [(nm2, zBy g ln tf)], [(tp, zo 1 [.ref q, .int (nI 0)])], [(med, zOb g mcap mfn)], [(jd, zo 8 [.ref h, .ref k, .ref d, .int vd, .int (nI met)])], T]) [1, 0, 2, 3, 4, 5] rfl (by decide) rfl) hD
        refine z_kv (z_runI (np := 3) C (c_Mark_init l g ((nm2, zBy g ln tf) :: (tp, zo 1 [.ref q, .int (nI 0)]) :: (med, zOb g mcap mfn) :: (jd, zo 8 [.ref h, .ref k, .ref d, .int vd, .int (nI met)]) :: T) y nm2 b c0) hP hD hS k_563 k_21 k_627 k_562 rfl ⟨by decide, by decide, by decide⟩ ⟨Nat.le_of_ble_eq_true rfl, Nat.le_of_ble_eq_true rfl⟩ rfl hl.1 rfl (Nat.le_of_ble_eq_true rfl) d_Row_set_65 ⟨by show _ ≤ 2; omega, by show _ ≤ (3 + ln); omega⟩) hS (fun w H locs hw hP hD hS => ?_)
        rw [hw] at hP hD
        have hP : va_P g.1 classes ((med, zOb g mcap mfn) :: (y, zo 10 [.int b, .int c0, .ref nm2]) :: (nm2, zBy g ln tf) :: (tp, zo 1 [.ref q, .int (nI 0)]) :: (jd, zo 8 [.ref h, .ref k, .ref d, .int vd, .int (nI met)]) :: T) _ := z_Pq (z_bk (bs := [[(y, zo 10 [.int b, .int c0, .ref nm2])], [(nm2, zBy g ln tf)], [(tp, zo 1 [.ref q, .int (nI 0)])], [(med, zOb g mcap mfn)], [(jd, zo 8 [.ref h, .ref k, .ref d, .int vd, .int (nI met)])], T]) (bs' := [[(med, zOb g mcap mfn)], [(y, zo 10 [.int b, .int c0, .ref nm2])], [(nm2, zBy g ln tf)], [(tp, zo 1 [.ref q, .int (nI 0)])], [(jd, zo 8 [.ref h, .ref k, .ref d, .int vd, .int (nI met)])], T]) [3, 0, 1, 2, 4, 5] rfl (by decide) rfl) hP
        have hD : va_D (zA g) ((med, zOb g mcap mfn) :: (y, zo 10 [.int b, .int c0, .ref nm2]) :: (nm2, zBy g ln tf) :: (tp, zo 1 [.ref q, .int (nI 0)]) :: (jd, zo 8 [.ref h, .ref k, .ref d, .int vd, .int (nI met)]) :: T) := z_Dq (z_bk (bs := [[(y, zo 10 [.int b, .int c0, .ref nm2])], [(nm2, zBy g ln tf)], [(tp, zo 1 [.ref q, .int (nI 0)])], [(med, zOb g mcap mfn)], [(jd, zo 8 [.ref h, .ref k, .ref d, .int vd, .int (nI met)])], T]) (bs' := [[(med, zOb g mcap mfn)], [(y, zo 10 [.int b, .int c0, .ref nm2])], [(nm2, zBy g ln tf)], [(tp, zo 1 [.ref q, .int (nI 0)])], [(jd, zo 8 [.ref h, .ref k, .ref d, .int vd, .int (nI met)])], T]) [3, 0, 1, 2, 4, 5] rfl (by decide) rfl) hD
        refine z_kq (z_runV (np := 2) C (c_AL_set l g ((y, zo 10 [.int b, .int c0, .ref nm2]) :: (nm2, zBy g ln tf) :: (tp, zo 1 [.ref q, .int (nI 0)]) :: (jd, zo 8 [.ref h, .ref k, .ref d, .int vd, .int (nI met)]) :: T) mk med mn mcap n y0 y mx mfn (List.mem_cons_of_mem _ (List.mem_cons_of_mem _ (List.mem_cons_of_mem _ (List.mem_cons_of_mem _ hmk)))) hr9 m1 (by omega) hy0 (Or.inr ⟨_, List.mem_cons_self⟩)) hP hD hS (List.mem_cons_of_mem _ (List.mem_cons_of_mem _ (List.mem_cons_of_mem _ (List.mem_cons_of_mem _ (List.mem_cons_of_mem _ hmk))))) (show classes[3]? = some (R_AL, F_AL, 3) from rfl) k_459 k_6 k_628 k_457 k_458 ⟨by decide, by decide, by decide⟩ ⟨Nat.le_of_ble_eq_true rfl, Nat.le_of_ble_eq_true rfl⟩ rfl hl.1 rfl (Nat.le_of_ble_eq_true rfl) d_Row_set_68 ⟨by show _ ≤ 2; omega, by show _ ≤ (3 + ln); omega⟩) hS (fun r_68 w H locs hw hP hD hS => ?_)
        obtain ⟨rfl, hw⟩ := hw
        rw [hw] at hP hD
        refine lv_pop hx hb d_Row_set_71 rfl ?_
        refine lv_aload_n hx hb d_Row_set_72 rfl (lv_at hl 1 rfl) ?_
        refine z_get C hP (List.mem_cons_of_mem _ (List.mem_cons_of_mem _ (List.mem_cons_of_mem _ (List.mem_cons_of_mem _ (List.mem_cons_of_mem _ hro))))) q_Row 5 (by decide) k_248 (fun _ h9 => h9) rfl d_Row_set_73 ?_
        have hP : va_P g.1 classes ((jd, zo 8 [.ref h, .ref k, .ref d, .int vd, .int (nI met)]) :: (med, zOb g mcap (va_up mfn n (some y))) :: (y, zo 10 [.int b, .int c0, .ref nm2]) :: (nm2, zBy g ln tf) :: (tp, zo 1 [.ref q, .int (nI 0)]) :: T) _ := z_Pq (z_bk (bs := [[(med, zOb g mcap (va_up mfn n (some y)))], [(y, zo 10 [.int b, .int c0, .ref nm2])], [(nm2, zBy g ln tf)], [(tp, zo 1 [.ref q, .int (nI 0)])], [(jd, zo 8 [.ref h, .ref k, .ref d, .int vd, .int (nI met)])], T]) (bs' := [[(jd, zo 8 [.ref h, .ref k, .ref d, .int vd, .int (nI met)])], [(med, zOb g mcap (va_up mfn n (some y)))], [(y, zo 10 [.int b, .int c0, .ref nm2])], [(nm2, zBy g ln tf)], [(tp, zo 1 [.ref q, .int (nI 0)])], T]) [4, 0, 1, 2, 3, 5] rfl (by decide) rfl) hP
        have hD : va_D (zA g) ((jd, zo 8 [.ref h, .ref k, .ref d, .int vd, .int (nI met)]) :: (med, zOb g mcap (va_up mfn n (some y))) :: (y, zo 10 [.int b, .int c0, .ref nm2]) :: (nm2, zBy g ln tf) :: (tp, zo 1 [.ref q, .int (nI 0)]) :: T) := z_Dq (z_bk (bs := [[(med, zOb g mcap (va_up mfn n (some y)))], [(y, zo 10 [.int b, .int c0, .ref nm2])], [(nm2, zBy g ln tf)], [(tp, zo 1 [.ref q, .int (nI 0)])], [(jd, zo 8 [.ref h, .ref k, .ref d, .int vd, .int (nI met)])], T]) (bs' := [[(jd, zo 8 [.ref h, .ref k, .ref d, .int vd, .int (nI met)])], [(med, zOb g mcap (va_up mfn n (some y)))], [(y, zo 10 [.int b, .int c0, .ref nm2])], [(nm2, zBy g ln tf)], [(tp, zo 1 [.ref q, .int (nI 0)])], T]) [4, 0, 1, 2, 3, 5] rfl (by decide) rfl) hD
        refine z_kv (z_runV (np := 0) C (c_Judge_forget l g ((med, zOb g mcap (va_up mfn n (some y))) :: (y, zo 10 [.int b, .int c0, .ref nm2]) :: (nm2, zBy g ln tf) :: (tp, zo 1 [.ref q, .int (nI 0)]) :: T) jd h k d met vd) hP hD hS List.mem_cons_self (show classes[8]? = some (R_Judge, F_Judge, 5) from rfl) k_464 k_11 k_461 k_462 k_463 ⟨by decide, by decide, by decide⟩ ⟨Nat.le_of_ble_eq_true rfl, Nat.le_of_ble_eq_true rfl⟩ rfl hl.1 rfl (Nat.le_of_ble_eq_true rfl) d_Row_set_76 ⟨by show _ ≤ 2; omega, by show _ ≤ (3 + ln); omega⟩) hS (fun w H locs hw hP hD hS => ?_)
        rw [hw] at hP hD
        refine lv_iconst (v := nI 0) hx hb d_Row_set_79 (by decide) ?_
        exact z_iret C hr hlk (z_Pq (z_bk (bs := [[(jd, zo 8 [.ref h, .ref k, .ref d, .int (iI (-3)), .int (nI met)])], [(med, zOb g mcap (va_up mfn n (some y)))], [(y, zo 10 [.int b, .int c0, .ref nm2])], [(nm2, zBy g ln tf)], [(tp, zo 1 [.ref q, .int (nI 0)])], T]) (bs' := [[(med, zOb g mcap (va_up mfn n (some y)))], [(tp, zo 1 [.ref q, .int (nI 0)])], [(jd, zo 8 [.ref h, .ref k, .ref d, .int (iI (-3)), .int (nI met)])], [(y, zo 10 [.int b, .int c0, .ref nm2])], [(nm2, zBy g ln tf)], T]) [1, 4, 0, 2, 3, 5] rfl (by decide) rfl) hP) (z_Dq (z_bk (bs := [[(jd, zo 8 [.ref h, .ref k, .ref d, .int (iI (-3)), .int (nI met)])], [(med, zOb g mcap (va_up mfn n (some y)))], [(y, zo 10 [.int b, .int c0, .ref nm2])], [(nm2, zBy g ln tf)], [(tp, zo 1 [.ref q, .int (nI 0)])], T]) (bs' := [[(med, zOb g mcap (va_up mfn n (some y)))], [(tp, zo 1 [.ref q, .int (nI 0)])], [(jd, zo 8 [.ref h, .ref k, .ref d, .int (iI (-3)), .int (nI met)])], [(y, zo 10 [.int b, .int c0, .ref nm2])], [(nm2, zBy g ln tf)], T]) [1, 4, 0, 2, 3, 5] rfl (by decide) rfl) hD) hS (by omega) (by omega) ⟨rfl, y, nm2, rfl⟩ d_Row_set_80
      · skip
        exact absurd (of_decide_eq_false (bI_eq.mp c_33)) (by omega)
    · skip
      have c_20 : ¬ ln ≤ 256 := fun q9 => c_20 ((nI_leI (a := ln) (b := 256) (by omega) (by decide)).mpr q9)
      exact absurd c_20 (by omega)
set_option maxHeartbeats 4000000 in
set_option maxRecDepth 100000 in
theorem c_Row_entry_b1 (l : Launch) (g : zT) (T : va_W) (ro tp dr d h k jd : Nat) (ps : Int32) (hro : (ro, zo 0 [.ref tp, .ref dr, .ref d, .ref h, .ref k, .ref jd, .int ps]) ∈ T) (a b : Int32) (hr9 : ¬ (0 ≤ b.toInt ∧ b.toInt ≤ 4)) : Met l y_Row_entry (zw y_Row_entry b_Row_entry 3 (some .int)) (zR 8 182 0 0) (zP g [.ref ro, .int a, .int b] (T)) (zQi g (fun r w => r = iI (-1) ∧ w = T)) 0 0 (zA g) := by
  refine zMet (by decide) (Nat.le_of_ble_eq_true rfl) ?_
  intro p e s m below meth c ls C hr hlk hnm hP hD hl
  have hx := C.1.1
  have hb := C.1.2.1
  have hS : va_S (zA g) s.heap s.heap [] := va_S.rf
  have hl : lv_has ls 3 [(0, .ref ro), (1, .int a), (2, .int b)] := hl
  have r1 := zi_rg b
  refine lv_iload_n hx hb d_Row_entry_0 rfl (lv_at hl 2 rfl) ?_
  refine lv_if_lt (tgt := 9) hx hb d_Row_entry_1 (by decide) (fun c_1 => ?_) (fun c_1 => ?_)
  · skip
    have c_1 : b.toInt < 0 := (zi_lt (a := b.toInt) (b := 0) (iI_of _) (nI_iI _) (by omega) (by omega) (by omega) (by omega)).mp c_1
    refine lv_iconst (v := iI (-1)) hx hb d_Row_entry_9 (by decide) ?_
    exact z_iret C hr hlk hP hD hS (by omega) (by omega) ⟨rfl, rfl⟩ d_Row_entry_10
  · skip
    have c_1 : ¬ b.toInt < 0 := fun q9 => c_1 ((zi_lt (a := b.toInt) (b := 0) (iI_of _) (nI_iI _) (by omega) (by omega) (by omega) (by omega)).mpr q9)
    refine lv_iload_n hx hb d_Row_entry_4 rfl (lv_at hl 2 rfl) ?_
    refine lv_iconst (v := nI 4) hx hb d_Row_entry_5 (by decide) ?_
    refine lv_icmp_le (tgt := 11) hx hb d_Row_entry_6 (by decide) (fun c_6 => ?_) (fun c_6 => ?_)
    · skip
      have c_6 : b.toInt ≤ 4 := (zi_le (a := b.toInt) (b := 4) (iI_of _) (nI_iI _) (by omega) (by omega) (by omega) (by omega)).mp c_6
      exact absurd c_6 (by omega)
    · skip
      have c_6 : ¬ b.toInt ≤ 4 := fun q9 => c_6 ((zi_le (a := b.toInt) (b := 4) (iI_of _) (nI_iI _) (by omega) (by omega) (by omega) (by omega)).mpr q9)
      refine lv_iconst (v := iI (-1)) hx hb d_Row_entry_9 (by decide) ?_
      exact z_iret C hr hlk hP hD hS (by omega) (by omega) ⟨rfl, rfl⟩ d_Row_entry_10
set_option maxHeartbeats 4000000 in
set_option maxRecDepth 100000 in
theorem c_Row_entry_b2 (l : Launch) (g : zT) (T : va_W) (ro tp dr d h k jd : Nat) (ps : Int32) (hro : (ro, zo 0 [.ref tp, .ref dr, .ref d, .ref h, .ref k, .ref jd, .int ps]) ∈ T) (a b : Int32) (hr9 : 0 ≤ b.toInt ∧ b.toInt ≤ 4) (hr8 : a.toInt < 0) : Met l y_Row_entry (zw y_Row_entry b_Row_entry 3 (some .int)) (zR 8 182 0 0) (zP g [.ref ro, .int a, .int b] (T)) (zQi g (fun r w => r = iI (-2) ∧ w = T)) 0 0 (zA g) := by
  refine zMet (by decide) (Nat.le_of_ble_eq_true rfl) ?_
  intro p e s m below meth c ls C hr hlk hnm hP hD hl
  have hx := C.1.1
  have hb := C.1.2.1
  have hS : va_S (zA g) s.heap s.heap [] := va_S.rf
  have hl : lv_has ls 3 [(0, .ref ro), (1, .int a), (2, .int b)] := hl
  have r1 := zi_rg b
  have r2 := zi_rg a
  refine lv_iload_n hx hb d_Row_entry_0 rfl (lv_at hl 2 rfl) ?_
  refine lv_if_lt (tgt := 9) hx hb d_Row_entry_1 (by decide) (fun c_1 => ?_) (fun c_1 => ?_)
  · skip
    have c_1 : b.toInt < 0 := (zi_lt (a := b.toInt) (b := 0) (iI_of _) (nI_iI _) (by omega) (by omega) (by omega) (by omega)).mp c_1
    exact absurd c_1 (by omega)
  · skip
    have c_1 : ¬ b.toInt < 0 := fun q9 => c_1 ((zi_lt (a := b.toInt) (b := 0) (iI_of _) (nI_iI _) (by omega) (by omega) (by omega) (by omega)).mpr q9)
    refine lv_iload_n hx hb d_Row_entry_4 rfl (lv_at hl 2 rfl) ?_
    refine lv_iconst (v := nI 4) hx hb d_Row_entry_5 (by decide) ?_
    refine lv_icmp_le (tgt := 11) hx hb d_Row_entry_6 (by decide) (fun c_6 => ?_) (fun c_6 => ?_)
    · skip
      have c_6 : b.toInt ≤ 4 := (zi_le (a := b.toInt) (b := 4) (iI_of _) (nI_iI _) (by omega) (by omega) (by omega) (by omega)).mp c_6
      refine lv_iload_n hx hb d_Row_entry_11 rfl (lv_at hl 1 rfl) ?_
      refine lv_if_lt (tgt := 37) hx hb d_Row_entry_12 (by decide) (fun c_12 => ?_) (fun c_12 => ?_)
      · skip
        have c_12 : a.toInt < 0 := (zi_lt (a := a.toInt) (b := 0) (iI_of _) (nI_iI _) (by omega) (by omega) (by omega) (by omega)).mp c_12
        refine lv_bipush (v := iI (-2)) hx hb d_Row_entry_37 (by decide) ?_
        exact z_iret C hr hlk hP hD hS (by omega) (by omega) ⟨rfl, rfl⟩ d_Row_entry_39
      · skip
        have c_12 : ¬ a.toInt < 0 := fun q9 => c_12 ((zi_lt (a := a.toInt) (b := 0) (iI_of _) (nI_iI _) (by omega) (by omega) (by omega) (by omega)).mpr q9)
        exact absurd hr8 (by omega)
    · skip
      have c_6 : ¬ b.toInt ≤ 4 := fun q9 => c_6 ((zi_le (a := b.toInt) (b := 4) (iI_of _) (nI_iI _) (by omega) (by omega) (by omega) (by omega)).mpr q9)
      exact absurd c_6 (by omega)
set_option maxHeartbeats 4000000 in
set_option maxRecDepth 100000 in
theorem c_Row_entry_n (l : Launch) (g : zT) (T : va_W) (ro tp dr d h k jd : Nat) (ps : Int32) (hro : (ro, zo 0 [.ref tp, .ref dr, .ref d, .ref h, .ref k, .ref jd, .int ps]) ∈ T) (met : Nat) (vd : Int32) (en lf hn ha st pl kd na nl : Nat) (fi : Int32) (z : Int) (rw len hd bg mk ly rn : Nat) (rf : Nat → UInt8) (hh : (h, zo 5 [.ref rw, .int (nI len), .int (nI hd), .int (nI bg), .ref mk, .ref ly]) ∈ T) (hrw : (rw, zBy g rn rf) ∈ T) (v1 : len ≤ rn) (v2 : rn ≤ 65536) (li ed n cap : Nat) (x : Int32) (f : Nat → Option Nat) (kf : Nat → zE) (kl : List zE) (hkd : (d, zo 4 [.ref li]) ∈ T) (hli : (li, zo 3 [.int x, .ref ed, .int (nI n)]) ∈ T) (hed : 0 < n → (ed, zOb g cap f) ∈ T) (k1 : n ≤ cap) (k2 : cap < 60000) (hE : ∀ j, j < n → ∃ a, f j = some a ∧ isEnt g T a (kf j)) (hN : ∀ j, j < n → (kf j).2.1 ≤ 100000 ∧ (kf j).2.2.1 < 65536 ∧ (kf j).2.2.2.1 < 65536 ∧ (kf j).2.2.2.2 < 65536) (k5 : n ≤ 1500) (hSo : ∀ i j, i < j → j < n → (kf i).2.1 < (kf j).2.1) (hN1 : ∀ j, j < n → 1 ≤ (kf j).2.1) (hkl : kl.length = n) (hkf : ∀ j, j < n → kl[j]? = some (kf j)) (med mn mcap : Nat) (mx : Int32) (mfn : Nat → Option Nat) (mf : Nat → zM) (hmk : (mk, zo 3 [.int mx, .ref med, .int (nI mn)]) ∈ T) (hmd : 0 < mn → (med, zOb g mcap mfn) ∈ T) (m1 : mn ≤ mcap) (m2 : mcap < 60000) (hM : ∀ j, j < mn → ∃ a, mfn j = some a ∧ isMark g T a (mf j) ∧ (mf j).2.2.length ≤ 300) (u5 : bg ≤ 40000) (i : Nat) (b : Int32) (v3 : i < 2 ^ 31) (hr9 : 0 ≤ b.toInt ∧ b.toInt ≤ 4) (hr8 : ¬ nI i < (if vd = iI (-3) then iI (chkC rf len bg kl mf mn (len + 1) 0 0 0 0 0 0 [] 0) else vd)) : Met l y_Row_entry (zw y_Row_entry b_Row_entry 3 (some .int)) (zR 8 182 0 0) (zP g [.ref ro, .int (nI i), .int b] ((jd, zo 8 [.ref h, .ref k, .ref d, .int vd, .int (nI met)]) :: (k, zo 7 [.ref h, .int (nI en), .int (nI lf), .long (lN hn), .int (nI ha), .int fi, .long (lI z), .long (lN st), .int (nI pl), .int (nI kd), .int (nI na), .int (nI nl)]) :: T)) (zQi g (fun r w => r = iI (-2) ∧ ∃ (en2 lf2 hn2 ha2 st2 pl2 kd2 na2 nl2 met2 : Nat) (fi2 : Int32) (z2 : Int), w = (jd, zo 8 [.ref h, .ref k, .ref d, .int (if vd = iI (-3) then iI (chkC rf len bg kl mf mn (len + 1) 0 0 0 0 0 0 [] 0) else vd), .int (nI met2)]) :: (k, zo 7 [.ref h, .int (nI en2), .int (nI lf2), .long (lN hn2), .int (nI ha2), .int fi2, .long (lI z2), .long (lN st2), .int (nI pl2), .int (nI kd2), .int (nI na2), .int (nI nl2)]) :: T)) 0 0 (zA g) := by
  refine zMet (by decide) (Nat.le_of_ble_eq_true rfl) ?_
  intro p e s m below meth c ls C hr hlk hnm hP hD hl
  have hx := C.1.1
  have hb := C.1.2.1
  have hS : va_S (zA g) s.heap s.heap [] := va_S.rf
  have hl : lv_has ls 3 [(0, .ref ro), (1, .int (nI i)), (2, .int b)] := hl
  have r1 := zi_rg b
  refine lv_iload_n hx hb d_Row_entry_0 rfl (lv_at hl 2 rfl) ?_
  refine lv_if_lt (tgt := 9) hx hb d_Row_entry_1 (by decide) (fun c_1 => ?_) (fun c_1 => ?_)
  · skip
    have c_1 : b.toInt < 0 := (zi_lt (a := b.toInt) (b := 0) (iI_of _) (nI_iI _) (by omega) (by omega) (by omega) (by omega)).mp c_1
    exact absurd c_1 (by omega)
  · skip
    have c_1 : ¬ b.toInt < 0 := fun q9 => c_1 ((zi_lt (a := b.toInt) (b := 0) (iI_of _) (nI_iI _) (by omega) (by omega) (by omega) (by omega)).mpr q9)
    refine lv_iload_n hx hb d_Row_entry_4 rfl (lv_at hl 2 rfl) ?_
    refine lv_iconst (v := nI 4) hx hb d_Row_entry_5 (by decide) ?_
    refine lv_icmp_le (tgt := 11) hx hb d_Row_entry_6 (by decide) (fun c_6 => ?_) (fun c_6 => ?_)
    · skip
      have c_6 : b.toInt ≤ 4 := (zi_le (a := b.toInt) (b := 4) (iI_of _) (nI_iI _) (by omega) (by omega) (by omega) (by omega)).mp c_6
      refine lv_iload_n hx hb d_Row_entry_11 rfl (lv_at hl 1 rfl) ?_
      refine lv_if_lt (tgt := 37) hx hb d_Row_entry_12 (by decide) (fun c_12 => ?_) (fun c_12 => ?_)
      · skip
        have c_12 : i < 0 := (nI_ltI (a := i) (b := 0) (by omega) (by decide)).mp c_12
        exact absurd c_12 (by omega)
      · skip
        have c_12 : ¬ i < 0 := fun q9 => c_12 ((nI_ltI (a := i) (b := 0) (by omega) (by decide)).mpr q9)
        refine lv_iload_n hx hb d_Row_entry_15 rfl (lv_at hl 1 rfl) ?_
        refine lv_aload_n hx hb d_Row_entry_16 rfl (lv_at hl 0 rfl) ?_
        refine z_get C hP (List.mem_cons_of_mem _ (List.mem_cons_of_mem _ hro)) q_Row 5 (by decide) k_248 (fun _ h9 => h9) rfl d_Row_entry_17 ?_
        refine z_ki (z_runV (np := 0) C (c_Judge_entriesIfRight l g T jd met vd k h en lf hn ha st pl kd na nl fi z rw len hd bg mk ly rn rf hh hrw v1 v2 d li ed n cap x f kf kl hkd hli hed k1 k2 hE hN k5 hSo hN1 hkl hkf med mn mcap mx mfn mf hmk hmd m1 m2 hM u5) hP hD hS List.mem_cons_self (show classes[8]? = some (R_Judge, F_Judge, 5) from rfl) k_636 k_11 k_633 k_634 k_635 ⟨by decide, by decide, by decide⟩ ⟨Nat.le_of_ble_eq_true rfl, Nat.le_of_ble_eq_true rfl⟩ rfl hl.1 rfl (Nat.le_of_ble_eq_true rfl) d_Row_entry_20 ⟨by show _ ≤ 0; omega, by show _ ≤ 0; omega⟩) hS (fun r_20 w H locs hw hP hD hS => ?_)
        obtain ⟨rfl, en2, lf2, hn2, ha2, st2, pl2, kd2, na2, nl2, met2, fi2, z2, hw⟩ := hw
        rw [hw] at hP hD
        refine lv_icmp_ge (tgt := 37) hx hb d_Row_entry_23 (by decide) (fun c_23 => ?_) (fun c_23 => ?_)
        · skip
          refine lv_bipush (v := iI (-2)) hx hb d_Row_entry_37 (by decide) ?_
          exact z_iret C hr hlk hP hD hS (by omega) (by omega) ⟨rfl, _, _, _, _, _, _, _, _, _, _, _, _, rfl⟩ d_Row_entry_39
        · skip
          exact absurd (Int32.not_le.mp c_23) hr8
    · skip
      have c_6 : ¬ b.toInt ≤ 4 := fun q9 => c_6 ((zi_le (a := b.toInt) (b := 4) (iI_of _) (nI_iI _) (by omega) (by omega) (by omega) (by omega)).mpr q9)
      exact absurd c_6 (by omega)
