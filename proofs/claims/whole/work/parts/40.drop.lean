set_option maxHeartbeats 4000000 in
set_option maxRecDepth 100000 in
theorem c_Row_drop_b (l : Launch) (g : zT) (T : va_W) (ro tp dr d h k jd : Nat) (ps : Int32) (hro : (ro, zo 0 [.ref tp, .ref dr, .ref d, .ref h, .ref k, .ref jd, .int ps]) ∈ T) (q ln : Nat) (tf : Nat → UInt8) (hq : (q, zBy g 300 tf) ∈ T) (v1 : ln ≤ 300) (hn9 : isNm (zl tf 0 ln) = false) : Met l y_Row_drop (zw y_Row_drop b_Row_drop 3 (some .int)) (zR 5 114 0 0) (zP g [.ref ro] ((tp, zo 1 [.ref q, .int (nI ln)]) :: T)) (zQi g (fun r w => r = iI (-1) ∧ w = (tp, zo 1 [.ref q, .int (nI 0)]) :: T)) 0 0 (zA g) := by
  refine zMet (by decide) (Nat.le_of_ble_eq_true rfl) ?_
  intro p e s m below meth c ls C hr hlk hnm hP hD hl
  have hx := C.1.1
  have hb := C.1.2.1
  have hS : va_S (zA g) s.heap s.heap [] := va_S.rf
  have hl : lv_has ls 3 [(0, .ref ro)] := hl
  refine lv_aload_n hx hb d_Row_drop_0 rfl (lv_at hl 0 rfl) ?_
  refine z_get C hP (List.mem_cons_of_mem _ hro) q_Row 0 (by decide) k_243 (fun _ h9 => h9) rfl d_Row_drop_1 ?_
  refine z_ki (z_runV (np := 0) C (c_Tape_useUp l g T tp q ln) hP hD hS List.mem_cons_self (show classes[1]? = some (R_Tape, F_Tape, 2) from rfl) k_280 k_2 k_277 k_278 k_279 ⟨by decide, by decide, by decide⟩ ⟨Nat.le_of_ble_eq_true rfl, Nat.le_of_ble_eq_true rfl⟩ rfl hl.1 rfl (Nat.le_of_ble_eq_true rfl) d_Row_drop_4 ⟨by show _ ≤ 0; omega, by show _ ≤ 0; omega⟩) hS (fun r_4 w H locs hw hP hD hS => ?_)
  obtain ⟨rfl, hw⟩ := hw
  rw [hw] at hP hD
  refine lv_istore_n (lv' := [(1, .int (nI ln)), (0, .ref ro)]) hx hb d_Row_drop_7 rfl hl (by decide) rfl (fun ls hl => ?_)
  refine lv_aload_n hx hb d_Row_drop_8 rfl (lv_at hl 1 rfl) ?_
  refine z_get C hP (List.mem_cons_of_mem _ hro) q_Row 0 (by decide) k_243 (fun _ h9 => h9) rfl d_Row_drop_9 ?_
  refine z_get C hP List.mem_cons_self q_Tape 0 (by decide) k_37 (fun _ h9 => h9) rfl d_Row_drop_12 ?_
  refine lv_iconst (v := nI 0) hx hb d_Row_drop_15 (by decide) ?_
  refine lv_iload_n hx hb d_Row_drop_16 rfl (lv_at hl 0 rfl) ?_
  refine z_ki (z_runS (np := 3) C (c_Nam_isName l g ((tp, zo 1 [.ref q, .int (nI 0)]) :: T) q 0 ln 300 tf (List.mem_cons_of_mem _ hq) (by omega) (by decide)) hP hD hS k_283 k_13 k_281 k_282 ⟨by decide, by decide, by decide⟩ ⟨Nat.le_of_ble_eq_true rfl, Nat.le_of_ble_eq_true rfl⟩ rfl hl.1 rfl (Nat.le_of_ble_eq_true rfl) d_Row_drop_17 ⟨by show _ ≤ 0; omega, by show _ ≤ 0; omega⟩) hS (fun r_17 w H locs hw hP hD hS => ?_)
  obtain ⟨rfl, hw⟩ := hw
  rw [hw] at hP hD
  refine lv_if_ne (tgt := 25) hx hb d_Row_drop_20 (by decide) (fun c_20 => ?_) (fun c_20 => ?_)
  · skip
    exact absurd (bI_ne.mp c_20) (by rw [hn9]; decide)
  · skip
    refine lv_iconst (v := iI (-1)) hx hb d_Row_drop_23 (by decide) ?_
    exact z_iret C hr hlk hP hD hS (by omega) (by omega) ⟨rfl, rfl⟩ d_Row_drop_24
set_option maxHeartbeats 4000000 in
set_option maxRecDepth 100000 in
theorem c_Row_drop_n (l : Launch) (g : zT) (T : va_W) (ro tp dr d h k jd : Nat) (ps : Int32) (hro : (ro, zo 0 [.ref tp, .ref dr, .ref d, .ref h, .ref k, .ref jd, .int ps]) ∈ T) (q ln li ed cap k0 : Nat) (xs : List Nat) (x : Int32) (f : Nat → Option Nat) (tf : Nat → UInt8) (nmf : Nat → List UInt8) (hdr : (dr, zo 2 [.ref li]) ∈ T) (hq : (q, zBy g 300 tf) ∈ T) (hL : zL f xs) (h1 : xs.length ≤ cap) (h3 : cap ≤ 1000) (hc : cap = 0 → ed = g.2.2.2.1) (v1 : ln ≤ 300) (v2 : xs.length ≤ 600) (hel : ∀ z ∈ xs, zel T z) (hE : ∀ j, j < xs.length → ∃ a e, f j = some a ∧ isEnt g T a e ∧ e.1 = nmf j ∧ e.1.length ≤ 256) (hk0 : k0 ≤ xs.length) (hlo : ∀ j, j < k0 → cmpB (nmf j) (zl tf 0 ln) < 0) (hhi : ∀ j, k0 ≤ j → j < xs.length → ¬ cmpB (nmf j) (zl tf 0 ln) < 0) (hn9 : isNm (zl tf 0 ln) = true) (hno : ¬ (k0 < xs.length ∧ cmpB (nmf k0) (zl tf 0 ln) = 0)) : Met l y_Row_drop (zw y_Row_drop b_Row_drop 3 (some .int)) (zR 5 114 0 0) (zP g [.ref ro] ((tp, zo 1 [.ref q, .int (nI ln)]) :: (li, zo 3 [.int x, .ref ed, .int (nI xs.length)]) :: (wA g ed cap f ++ T))) (zQi g (fun r w => r = iI (-2) ∧ w = (tp, zo 1 [.ref q, .int (nI 0)]) :: (li, zo 3 [.int x, .ref ed, .int (nI xs.length)]) :: (wA g ed cap f ++ T))) 0 0 (zA g) := by
  refine zMet (by decide) (Nat.le_of_ble_eq_true rfl) ?_
  intro p e s m below meth c ls C hr hlk hnm hP hD hl
  have hx := C.1.1
  have hb := C.1.2.1
  have hS : va_S (zA g) s.heap s.heap [] := va_S.rf
  have hl : lv_has ls 3 [(0, .ref ro)] := hl
  refine lv_aload_n hx hb d_Row_drop_0 rfl (lv_at hl 0 rfl) ?_
  refine z_get C hP (List.mem_cons_of_mem _ (List.mem_cons_of_mem _ (List.mem_append_right _ hro))) q_Row 0 (by decide) k_243 (fun _ h9 => h9) rfl d_Row_drop_1 ?_
  refine z_ki (z_runV (np := 0) C (c_Tape_useUp l g ((li, zo 3 [.int x, .ref ed, .int (nI xs.length)]) :: (wA g ed cap f ++ T)) tp q ln) hP hD hS List.mem_cons_self (show classes[1]? = some (R_Tape, F_Tape, 2) from rfl) k_280 k_2 k_277 k_278 k_279 ⟨by decide, by decide, by decide⟩ ⟨Nat.le_of_ble_eq_true rfl, Nat.le_of_ble_eq_true rfl⟩ rfl hl.1 rfl (Nat.le_of_ble_eq_true rfl) d_Row_drop_4 ⟨by show _ ≤ 0; omega, by show _ ≤ 0; omega⟩) hS (fun r_4 w H locs hw hP hD hS => ?_)
  obtain ⟨rfl, hw⟩ := hw
  rw [hw] at hP hD
  refine lv_istore_n (lv' := [(1, .int (nI ln)), (0, .ref ro)]) hx hb d_Row_drop_7 rfl hl (by decide) rfl (fun ls hl => ?_)
  refine lv_aload_n hx hb d_Row_drop_8 rfl (lv_at hl 1 rfl) ?_
  refine z_get C hP (List.mem_cons_of_mem _ (List.mem_cons_of_mem _ (List.mem_append_right _ hro))) q_Row 0 (by decide) k_243 (fun _ h9 => h9) rfl d_Row_drop_9 ?_
  refine z_get C hP List.mem_cons_self q_Tape 0 (by decide) k_37 (fun _ h9 => h9) rfl d_Row_drop_12 ?_
  refine lv_iconst (v := nI 0) hx hb d_Row_drop_15 (by decide) ?_
  refine lv_iload_n hx hb d_Row_drop_16 rfl (lv_at hl 0 rfl) ?_
  refine z_ki (z_runS (np := 3) C (c_Nam_isName l g ((tp, zo 1 [.ref q, .int (nI 0)]) :: (li, zo 3 [.int x, .ref ed, .int (nI xs.length)]) :: (wA g ed cap f ++ T)) q 0 ln 300 tf (List.mem_cons_of_mem _ (List.mem_cons_of_mem _ (List.mem_append_right _ hq))) (by omega) (by decide)) hP hD hS k_283 k_13 k_281 k_282 ⟨by decide, by decide, by decide⟩ ⟨Nat.le_of_ble_eq_true rfl, Nat.le_of_ble_eq_true rfl⟩ rfl hl.1 rfl (Nat.le_of_ble_eq_true rfl) d_Row_drop_17 ⟨by show _ ≤ 0; omega, by show _ ≤ 0; omega⟩) hS (fun r_17 w H locs hw hP hD hS => ?_)
  obtain ⟨rfl, hw⟩ := hw
  rw [hw] at hP hD
  refine lv_if_ne (tgt := 25) hx hb d_Row_drop_20 (by decide) (fun c_20 => ?_) (fun c_20 => ?_)
  · skip
    refine lv_aload_n hx hb d_Row_drop_25 rfl (lv_at hl 1 rfl) ?_
    refine z_get C hP (List.mem_cons_of_mem _ (List.mem_cons_of_mem _ (List.mem_append_right _ hro))) q_Row 1 (by decide) k_244 (fun _ h9 => h9) rfl d_Row_drop_26 ?_
    refine lv_aload_n hx hb d_Row_drop_29 rfl (lv_at hl 1 rfl) ?_
    refine z_get C hP (List.mem_cons_of_mem _ (List.mem_cons_of_mem _ (List.mem_append_right _ hro))) q_Row 0 (by decide) k_243 (fun _ h9 => h9) rfl d_Row_drop_30 ?_
    refine z_get C hP List.mem_cons_self q_Tape 0 (by decide) k_37 (fun _ h9 => h9) rfl d_Row_drop_33 ?_
    refine lv_iload_n hx hb d_Row_drop_36 rfl (lv_at hl 0 rfl) ?_
    refine z_ki (z_runV (np := 2) C (c_Dir_placeOf l g ((tp, zo 1 [.ref q, .int (nI 0)]) :: (li, zo 3 [.int x, .ref ed, .int (nI xs.length)]) :: (wA g ed cap f ++ T)) dr li ed xs.length cap q 300 ln x f tf nmf (List.mem_cons_of_mem _ (List.mem_cons_of_mem _ (List.mem_append_right _ hdr))) (List.mem_cons_of_mem _ List.mem_cons_self) (fun _ => (List.mem_cons_of_mem _ (List.mem_cons_of_mem _ (wA_mem (by omega))))) (List.mem_cons_of_mem _ (List.mem_cons_of_mem _ (List.mem_append_right _ hq))) h1 (by omega) v1 (by decide) (fun j hj => by obtain ⟨a, e1, q1, q2, q3, q4⟩ := hE j hj; exact ⟨a, e1, q1, q2.mono fun _ q9 => (List.mem_cons_of_mem _ (List.mem_cons_of_mem _ (List.mem_append_right _ q9))), q3, q4⟩) v2 (fun i j q1 q2 q3 => hlo i (by rcases Nat.lt_or_ge j k0 with z9 | z9; omega; exact absurd q3 (hhi j z9 q2)))) hP hD hS (List.mem_cons_of_mem _ (List.mem_cons_of_mem _ (List.mem_append_right _ hdr))) (show classes[2]? = some (R_Dir, F_Dir, 1) from rfl) k_292 k_3 k_289 k_290 k_291 ⟨by decide, by decide, by decide⟩ ⟨Nat.le_of_ble_eq_true rfl, Nat.le_of_ble_eq_true rfl⟩ rfl hl.1 rfl (Nat.le_of_ble_eq_true rfl) d_Row_drop_37 ⟨by show _ ≤ 0; omega, by show _ ≤ 0; omega⟩) hS (fun r_37 w H locs hw hP hD hS => ?_)
    obtain ⟨⟨k9, rfl, e1, e2, e3⟩, hw⟩ := hw
    rw [hw] at hP hD
    obtain rfl : k9 = k0 := by
            rcases Nat.lt_trichotomy k9 k0 with z9 | z9 | z9
            · exact absurd (hlo k9 z9) (e3 k9 (Nat.le_refl _) (by omega))
            · exact z9
            · exact absurd (e2 k0 z9) (hhi k0 (Nat.le_refl _) (by omega))
    refine lv_istore_n (lv' := [(2, .int (nI k9)), (1, .int (nI ln)), (0, .ref ro)]) hx hb d_Row_drop_40 rfl hl (by decide) rfl (fun ls hl => ?_)
    refine lv_aload_n hx hb d_Row_drop_41 rfl (lv_at hl 2 rfl) ?_
    refine z_get C hP (List.mem_cons_of_mem _ (List.mem_cons_of_mem _ (List.mem_append_right _ hro))) q_Row 1 (by decide) k_244 (fun _ h9 => h9) rfl d_Row_drop_42 ?_
    refine lv_iload_n hx hb d_Row_drop_45 rfl (lv_at hl 0 rfl) ?_
    refine lv_aload_n hx hb d_Row_drop_46 rfl (lv_at hl 2 rfl) ?_
    refine z_get C hP (List.mem_cons_of_mem _ (List.mem_cons_of_mem _ (List.mem_append_right _ hro))) q_Row 0 (by decide) k_243 (fun _ h9 => h9) rfl d_Row_drop_47 ?_
    refine z_get C hP List.mem_cons_self q_Tape 0 (by decide) k_37 (fun _ h9 => h9) rfl d_Row_drop_50 ?_
    refine lv_iload_n hx hb d_Row_drop_53 rfl (lv_at hl 1 rfl) ?_
    refine z_ki (z_runV (np := 3) C (c_Dir_hasAt l g ((tp, zo 1 [.ref q, .int (nI 0)]) :: (li, zo 3 [.int x, .ref ed, .int (nI xs.length)]) :: (wA g ed cap f ++ T)) dr li ed xs.length cap q 300 ln x f tf nmf (List.mem_cons_of_mem _ (List.mem_cons_of_mem _ (List.mem_append_right _ hdr))) (List.mem_cons_of_mem _ List.mem_cons_self) (fun _ => (List.mem_cons_of_mem _ (List.mem_cons_of_mem _ (wA_mem (by omega))))) (List.mem_cons_of_mem _ (List.mem_cons_of_mem _ (List.mem_append_right _ hq))) h1 (by omega) v1 (by decide) (fun j hj => by obtain ⟨a, e1, q1, q2, q3, q4⟩ := hE j hj; exact ⟨a, e1, q1, q2.mono fun _ q9 => (List.mem_cons_of_mem _ (List.mem_cons_of_mem _ (List.mem_append_right _ q9))), q3, q4⟩) k9 (by omega)) hP hD hS (List.mem_cons_of_mem _ (List.mem_cons_of_mem _ (List.mem_append_right _ hdr))) (show classes[2]? = some (R_Dir, F_Dir, 1) from rfl) k_325 k_3 k_322 k_323 k_324 ⟨by decide, by decide, by decide⟩ ⟨Nat.le_of_ble_eq_true rfl, Nat.le_of_ble_eq_true rfl⟩ rfl hl.1 rfl (Nat.le_of_ble_eq_true rfl) d_Row_drop_54 ⟨by show _ ≤ 0; omega, by show _ ≤ 0; omega⟩) hS (fun r_54 w H locs hw hP hD hS => ?_)
    obtain ⟨rfl, hw⟩ := hw
    rw [hw] at hP hD
    refine lv_if_ne (tgt := 63) hx hb d_Row_drop_57 (by decide) (fun c_57 => ?_) (fun c_57 => ?_)
    · skip
      exact absurd (of_decide_eq_true (bI_ne.mp c_57)) hno
    · skip
      refine lv_bipush (v := iI (-2)) hx hb d_Row_drop_60 (by decide) ?_
      exact z_iret C hr hlk hP hD hS (by omega) (by omega) ⟨rfl, rfl⟩ d_Row_drop_62
  · skip
    exact absurd (bI_eq.mp c_20) (by rw [hn9]; decide)
set_option maxHeartbeats 4000000 in
set_option maxRecDepth 100000 in
theorem c_Row_drop_g (l : Launch) (g : zT) (T : va_W) (ro tp dr d h k jd : Nat) (ps : Int32) (hro : (ro, zo 0 [.ref tp, .ref dr, .ref d, .ref h, .ref k, .ref jd, .int ps]) ∈ T) (q ln li ed cap k0 : Nat) (xs : List Nat) (x : Int32) (f : Nat → Option Nat) (tf : Nat → UInt8) (nmf : Nat → List UInt8) (hdr : (dr, zo 2 [.ref li]) ∈ T) (hq : (q, zBy g 300 tf) ∈ T) (hL : zL f xs) (h1 : xs.length ≤ cap) (h3 : cap ≤ 1000) (hc : cap = 0 → ed = g.2.2.2.1) (v1 : ln ≤ 300) (v2 : xs.length ≤ 600) (hel : ∀ z ∈ xs, zel T z) (hE : ∀ j, j < xs.length → ∃ a e, f j = some a ∧ isEnt g T a e ∧ e.1 = nmf j ∧ e.1.length ≤ 256) (hk0 : k0 ≤ xs.length) (hlo : ∀ j, j < k0 → cmpB (nmf j) (zl tf 0 ln) < 0) (hhi : ∀ j, k0 ≤ j → j < xs.length → ¬ cmpB (nmf j) (zl tf 0 ln) < 0) (hn9 : isNm (zl tf 0 ln) = true) (hye : k0 < xs.length ∧ cmpB (nmf k0) (zl tf 0 ln) = 0) : Met l y_Row_drop (zw y_Row_drop b_Row_drop 3 (some .int)) (zR 5 114 0 0) (zP g [.ref ro] ((tp, zo 1 [.ref q, .int (nI ln)]) :: (li, zo 3 [.int x, .ref ed, .int (nI xs.length)]) :: (wA g ed cap f ++ T))) (zQi g (fun r w => r = nI (xs.length - 1) ∧ zLs g li (xs.eraseIdx k0) 1000 ((tp, zo 1 [.ref q, .int (nI 0)]) :: T) w)) 0 0 (zA g) := by
  refine zMet (by decide) (Nat.le_of_ble_eq_true rfl) ?_
  intro p e s m below meth c ls C hr hlk hnm hP hD hl
  have hx := C.1.1
  have hb := C.1.2.1
  have hS : va_S (zA g) s.heap s.heap [] := va_S.rf
  have hl : lv_has ls 3 [(0, .ref ro)] := hl
  refine lv_aload_n hx hb d_Row_drop_0 rfl (lv_at hl 0 rfl) ?_
  refine z_get C hP (List.mem_cons_of_mem _ (List.mem_cons_of_mem _ (List.mem_append_right _ hro))) q_Row 0 (by decide) k_243 (fun _ h9 => h9) rfl d_Row_drop_1 ?_
  refine z_ki (z_runV (np := 0) C (c_Tape_useUp l g ((li, zo 3 [.int x, .ref ed, .int (nI xs.length)]) :: (wA g ed cap f ++ T)) tp q ln) hP hD hS List.mem_cons_self (show classes[1]? = some (R_Tape, F_Tape, 2) from rfl) k_280 k_2 k_277 k_278 k_279 ⟨by decide, by decide, by decide⟩ ⟨Nat.le_of_ble_eq_true rfl, Nat.le_of_ble_eq_true rfl⟩ rfl hl.1 rfl (Nat.le_of_ble_eq_true rfl) d_Row_drop_4 ⟨by show _ ≤ 0; omega, by show _ ≤ 0; omega⟩) hS (fun r_4 w H locs hw hP hD hS => ?_)
  obtain ⟨rfl, hw⟩ := hw
  rw [hw] at hP hD
  refine lv_istore_n (lv' := [(1, .int (nI ln)), (0, .ref ro)]) hx hb d_Row_drop_7 rfl hl (by decide) rfl (fun ls hl => ?_)
  refine lv_aload_n hx hb d_Row_drop_8 rfl (lv_at hl 1 rfl) ?_
  refine z_get C hP (List.mem_cons_of_mem _ (List.mem_cons_of_mem _ (List.mem_append_right _ hro))) q_Row 0 (by decide) k_243 (fun _ h9 => h9) rfl d_Row_drop_9 ?_
  refine z_get C hP List.mem_cons_self q_Tape 0 (by decide) k_37 (fun _ h9 => h9) rfl d_Row_drop_12 ?_
  refine lv_iconst (v := nI 0) hx hb d_Row_drop_15 (by decide) ?_
  refine lv_iload_n hx hb d_Row_drop_16 rfl (lv_at hl 0 rfl) ?_
  refine z_ki (z_runS (np := 3) C (c_Nam_isName l g ((tp, zo 1 [.ref q, .int (nI 0)]) :: (li, zo 3 [.int x, .ref ed, .int (nI xs.length)]) :: (wA g ed cap f ++ T)) q 0 ln 300 tf (List.mem_cons_of_mem _ (List.mem_cons_of_mem _ (List.mem_append_right _ hq))) (by omega) (by decide)) hP hD hS k_283 k_13 k_281 k_282 ⟨by decide, by decide, by decide⟩ ⟨Nat.le_of_ble_eq_true rfl, Nat.le_of_ble_eq_true rfl⟩ rfl hl.1 rfl (Nat.le_of_ble_eq_true rfl) d_Row_drop_17 ⟨by show _ ≤ 0; omega, by show _ ≤ 0; omega⟩) hS (fun r_17 w H locs hw hP hD hS => ?_)
  obtain ⟨rfl, hw⟩ := hw
  rw [hw] at hP hD
  refine lv_if_ne (tgt := 25) hx hb d_Row_drop_20 (by decide) (fun c_20 => ?_) (fun c_20 => ?_)
  · skip
    refine lv_aload_n hx hb d_Row_drop_25 rfl (lv_at hl 1 rfl) ?_
    refine z_get C hP (List.mem_cons_of_mem _ (List.mem_cons_of_mem _ (List.mem_append_right _ hro))) q_Row 1 (by decide) k_244 (fun _ h9 => h9) rfl d_Row_drop_26 ?_
    refine lv_aload_n hx hb d_Row_drop_29 rfl (lv_at hl 1 rfl) ?_
    refine z_get C hP (List.mem_cons_of_mem _ (List.mem_cons_of_mem _ (List.mem_append_right _ hro))) q_Row 0 (by decide) k_243 (fun _ h9 => h9) rfl d_Row_drop_30 ?_
    refine z_get C hP List.mem_cons_self q_Tape 0 (by decide) k_37 (fun _ h9 => h9) rfl d_Row_drop_33 ?_
    refine lv_iload_n hx hb d_Row_drop_36 rfl (lv_at hl 0 rfl) ?_
    refine z_ki (z_runV (np := 2) C (c_Dir_placeOf l g ((tp, zo 1 [.ref q, .int (nI 0)]) :: (li, zo 3 [.int x, .ref ed, .int (nI xs.length)]) :: (wA g ed cap f ++ T)) dr li ed xs.length cap q 300 ln x f tf nmf (List.mem_cons_of_mem _ (List.mem_cons_of_mem _ (List.mem_append_right _ hdr))) (List.mem_cons_of_mem _ List.mem_cons_self) (fun _ => (List.mem_cons_of_mem _ (List.mem_cons_of_mem _ (wA_mem (by omega))))) (List.mem_cons_of_mem _ (List.mem_cons_of_mem _ (List.mem_append_right _ hq))) h1 (by omega) v1 (by decide) (fun j hj => by obtain ⟨a, e1, q1, q2, q3, q4⟩ := hE j hj; exact ⟨a, e1, q1, q2.mono fun _ q9 => (List.mem_cons_of_mem _ (List.mem_cons_of_mem _ (List.mem_append_right _ q9))), q3, q4⟩) v2 (fun i j q1 q2 q3 => hlo i (by rcases Nat.lt_or_ge j k0 with z9 | z9; omega; exact absurd q3 (hhi j z9 q2)))) hP hD hS (List.mem_cons_of_mem _ (List.mem_cons_of_mem _ (List.mem_append_right _ hdr))) (show classes[2]? = some (R_Dir, F_Dir, 1) from rfl) k_292 k_3 k_289 k_290 k_291 ⟨by decide, by decide, by decide⟩ ⟨Nat.le_of_ble_eq_true rfl, Nat.le_of_ble_eq_true rfl⟩ rfl hl.1 rfl (Nat.le_of_ble_eq_true rfl) d_Row_drop_37 ⟨by show _ ≤ 0; omega, by show _ ≤ 0; omega⟩) hS (fun r_37 w H locs hw hP hD hS => ?_)
    obtain ⟨⟨k9, rfl, e1, e2, e3⟩, hw⟩ := hw
    rw [hw] at hP hD
    obtain rfl : k9 = k0 := by
            rcases Nat.lt_trichotomy k9 k0 with z9 | z9 | z9
            · exact absurd (hlo k9 z9) (e3 k9 (Nat.le_refl _) (by omega))
            · exact z9
            · exact absurd (e2 k0 z9) (hhi k0 (Nat.le_refl _) (by omega))
    refine lv_istore_n (lv' := [(2, .int (nI k9)), (1, .int (nI ln)), (0, .ref ro)]) hx hb d_Row_drop_40 rfl hl (by decide) rfl (fun ls hl => ?_)
    refine lv_aload_n hx hb d_Row_drop_41 rfl (lv_at hl 2 rfl) ?_
    refine z_get C hP (List.mem_cons_of_mem _ (List.mem_cons_of_mem _ (List.mem_append_right _ hro))) q_Row 1 (by decide) k_244 (fun _ h9 => h9) rfl d_Row_drop_42 ?_
    refine lv_iload_n hx hb d_Row_drop_45 rfl (lv_at hl 0 rfl) ?_
    refine lv_aload_n hx hb d_Row_drop_46 rfl (lv_at hl 2 rfl) ?_
    refine z_get C hP (List.mem_cons_of_mem _ (List.mem_cons_of_mem _ (List.mem_append_right _ hro))) q_Row 0 (by decide) k_243 (fun _ h9 => h9) rfl d_Row_drop_47 ?_
    refine z_get C hP List.mem_cons_self q_Tape 0 (by decide) k_37 (fun _ h9 => h9) rfl d_Row_drop_50 ?_
    refine lv_iload_n hx hb d_Row_drop_53 rfl (lv_at hl 1 rfl) ?_
    refine z_ki (z_runV (np := 3) C (c_Dir_hasAt l g ((tp, zo 1 [.ref q, .int (nI 0)]) :: (li, zo 3 [.int x, .ref ed, .int (nI xs.length)]) :: (wA g ed cap f ++ T)) dr li ed xs.length cap q 300 ln x f tf nmf (List.mem_cons_of_mem _ (List.mem_cons_of_mem _ (List.mem_append_right _ hdr))) (List.mem_cons_of_mem _ List.mem_cons_self) (fun _ => (List.mem_cons_of_mem _ (List.mem_cons_of_mem _ (wA_mem (by omega))))) (List.mem_cons_of_mem _ (List.mem_cons_of_mem _ (List.mem_append_right _ hq))) h1 (by omega) v1 (by decide) (fun j hj => by obtain ⟨a, e1, q1, q2, q3, q4⟩ := hE j hj; exact ⟨a, e1, q1, q2.mono fun _ q9 => (List.mem_cons_of_mem _ (List.mem_cons_of_mem _ (List.mem_append_right _ q9))), q3, q4⟩) k9 (by omega)) hP hD hS (List.mem_cons_of_mem _ (List.mem_cons_of_mem _ (List.mem_append_right _ hdr))) (show classes[2]? = some (R_Dir, F_Dir, 1) from rfl) k_325 k_3 k_322 k_323 k_324 ⟨by decide, by decide, by decide⟩ ⟨Nat.le_of_ble_eq_true rfl, Nat.le_of_ble_eq_true rfl⟩ rfl hl.1 rfl (Nat.le_of_ble_eq_true rfl) d_Row_drop_54 ⟨by show _ ≤ 0; omega, by show _ ≤ 0; omega⟩) hS (fun r_54 w H locs hw hP hD hS => ?_)
    obtain ⟨rfl, hw⟩ := hw
    rw [hw] at hP hD
    refine lv_if_ne (tgt := 63) hx hb d_Row_drop_57 (by decide) (fun c_57 => ?_) (fun c_57 => ?_)
    · skip
      have hcp : 0 < cap := by omega
      rw [wA_s hcp] at hP hD
      refine lv_aload_n hx hb d_Row_drop_63 rfl (lv_at hl 2 rfl) ?_
      refine z_get C hP (List.mem_cons_of_mem _ (List.mem_cons_of_mem _ (List.mem_cons_of_mem _ hro))) q_Row 1 (by decide) k_244 (fun _ h9 => h9) rfl d_Row_drop_64 ?_
      refine lv_iload_n hx hb d_Row_drop_67 rfl (lv_at hl 0 rfl) ?_
      have hP : va_P g.1 classes ((li, zo 3 [.int x, .ref ed, .int (nI xs.length)]) :: (ed, zOb g cap f) :: (tp, zo 1 [.ref q, .int (nI 0)]) :: T) _ := z_Pq (z_bk (bs := [[(tp, zo 1 [.ref q, .int (nI 0)])], [(li, zo 3 [.int x, .ref ed, .int (nI xs.length)])], [(ed, zOb g cap f)], T]) (bs' := [[(li, zo 3 [.int x, .ref ed, .int (nI xs.length)])], [(ed, zOb g cap f)], [(tp, zo 1 [.ref q, .int (nI 0)])], T]) [1, 2, 0, 3] rfl (by decide) rfl) hP
      have hD : va_D (zA g) ((li, zo 3 [.int x, .ref ed, .int (nI xs.length)]) :: (ed, zOb g cap f) :: (tp, zo 1 [.ref q, .int (nI 0)]) :: T) := z_Dq (z_bk (bs := [[(tp, zo 1 [.ref q, .int (nI 0)])], [(li, zo 3 [.int x, .ref ed, .int (nI xs.length)])], [(ed, zOb g cap f)], T]) (bs' := [[(li, zo 3 [.int x, .ref ed, .int (nI xs.length)])], [(ed, zOb g cap f)], [(tp, zo 1 [.ref q, .int (nI 0)])], T]) [1, 2, 0, 3] rfl (by decide) rfl) hD
      obtain ⟨y0, hy0⟩ : ∃ y0, xs[k9]? = some y0 := ⟨_, List.getElem?_eq_getElem hye.1⟩
      refine z_kv (z_runV (np := 1) C (c_Dir_removeAt l g ((tp, zo 1 [.ref q, .int (nI 0)]) :: T) dr li ed cap 1000 xs x f (List.mem_cons_of_mem _ hdr) hL h1 h3 (by omega) k9 y0 hy0 (fun z hz => (hel z hz).mono fun _ q9 => (List.mem_cons_of_mem _ q9))) hP hD hS (List.mem_cons_of_mem _ (List.mem_cons_of_mem _ (List.mem_cons_of_mem _ hdr))) (show classes[2]? = some (R_Dir, F_Dir, 1) from rfl) k_476 k_3 k_473 k_474 k_475 ⟨by decide, by decide, by decide⟩ ⟨Nat.le_of_ble_eq_true rfl, Nat.le_of_ble_eq_true rfl⟩ rfl hl.1 rfl (Nat.le_of_ble_eq_true rfl) d_Row_drop_68 ⟨by show _ ≤ 0; omega, by show _ ≤ 0; omega⟩) hS (fun w H locs hw hP hD hS => ?_)
      obtain ⟨x2, ed2, cap2, f2, hw, hL2, hl2, hb2, hc2⟩ := hw
      rw [hw] at hP hD
      refine lv_aload_n hx hb d_Row_drop_71 rfl (lv_at hl 2 rfl) ?_
      refine z_get C hP (List.mem_cons_of_mem _ (List.mem_append_right _ (List.mem_cons_of_mem _ hro))) q_Row 1 (by decide) k_244 (fun _ h9 => h9) rfl d_Row_drop_72 ?_
      refine z_ki (z_runV (np := 0) C (c_Dir_count l g ((li, zo 3 [.int x2, .ref ed2, .int (nI ((xs.eraseIdx k9).length))]) :: (wA g ed2 cap2 f2 ++ (tp, zo 1 [.ref q, .int (nI 0)]) :: T)) dr li ed2 (xs.eraseIdx k9).length x2 (List.mem_cons_of_mem _ (List.mem_append_right _ (List.mem_cons_of_mem _ hdr))) List.mem_cons_self) hP hD hS (List.mem_cons_of_mem _ (List.mem_append_right _ (List.mem_cons_of_mem _ hdr))) (show classes[2]? = some (R_Dir, F_Dir, 1) from rfl) k_468 k_3 k_465 k_466 k_467 ⟨by decide, by decide, by decide⟩ ⟨Nat.le_of_ble_eq_true rfl, Nat.le_of_ble_eq_true rfl⟩ rfl hl.1 rfl (Nat.le_of_ble_eq_true rfl) d_Row_drop_75 ⟨by show _ ≤ 0; omega, by show _ ≤ 0; omega⟩) hS (fun r_75 w H locs hw hP hD hS => ?_)
      obtain ⟨rfl, hw⟩ := hw
      rw [hw] at hP hD
      exact z_iret C hr hlk hP hD hS (by omega) (by omega) ⟨by rw [List.length_eraseIdx_of_lt hye.1], x2, ed2, cap2, f2, rfl, hL2, hl2, hb2, hc2⟩ d_Row_drop_78
    · skip
      exact absurd hye (of_decide_eq_false (bI_eq.mp c_57))
  · skip
    exact absurd (bI_eq.mp c_20) (by rw [hn9]; decide)
