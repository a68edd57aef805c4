set_option maxHeartbeats 4000000 in
set_option maxRecDepth 100000 in
theorem c_Row_cut_b (l : Launch) (g : zT) (T : va_W) (ro tp dr d h k jd : Nat) (ps : Int32) (hro : (ro, zo 0 [.ref tp, .ref dr, .ref d, .ref h, .ref k, .ref jd, .int ps]) ∈ T) (rw len hd bg mk ly : Nat) (hh : (h, zo 5 [.ref rw, .int (nI len), .int (nI hd), .int (nI bg), .ref mk, .ref ly]) ∈ T) (a : Int32) (v1 : len ≤ 65536) (hr9 : ¬ (0 ≤ a.toInt ∧ a.toInt ≤ len)) : Met l y_Row_cut (zw y_Row_cut b_Row_cut 3 (some .int)) (zR 1 20 0 0) (zP g [.ref ro, .int a] (T)) (zQi g (fun r w => r = iI (-1) ∧ w = T)) 0 0 (zA g) := by
  refine zMet (by decide) (Nat.le_of_ble_eq_true rfl) ?_
  intro p e s m below meth c ls C hr hlk hnm hP hD hl
  have hx := C.1.1
  have hb := C.1.2.1
  have hS : va_S (zA g) s.heap s.heap [] := va_S.rf
  have hl : lv_has ls 3 [(0, .ref ro), (1, .int a)] := hl
  have r1 := zi_rg a
  refine lv_iload_n hx hb d_Row_cut_0 rfl (lv_at hl 1 rfl) ?_
  refine lv_if_lt (tgt := 15) hx hb d_Row_cut_1 (by decide) (fun c_1 => ?_) (fun c_1 => ?_)
  · skip
    have c_1 : a.toInt < 0 := (zi_lt (a := a.toInt) (b := 0) (iI_of _) (nI_iI _) (by omega) (by omega) (by omega) (by omega)).mp c_1
    refine lv_iconst (v := iI (-1)) hx hb d_Row_cut_15 (by decide) ?_
    exact z_iret C hr hlk hP hD hS (by omega) (by omega) ⟨rfl, rfl⟩ d_Row_cut_16
  · skip
    have c_1 : ¬ a.toInt < 0 := fun q9 => c_1 ((zi_lt (a := a.toInt) (b := 0) (iI_of _) (nI_iI _) (by omega) (by omega) (by omega) (by omega)).mpr q9)
    refine lv_iload_n hx hb d_Row_cut_4 rfl (lv_at hl 1 rfl) ?_
    refine lv_aload_n hx hb d_Row_cut_5 rfl (lv_at hl 0 rfl) ?_
    refine z_get C hP hro q_Row 3 (by decide) k_246 (fun _ h9 => h9) rfl d_Row_cut_6 ?_
    refine z_get C hP hh q_Lst 1 (by decide) k_143 (fun _ h9 => h9) rfl d_Row_cut_9 ?_
    refine lv_icmp_le (tgt := 17) hx hb d_Row_cut_12 (by decide) (fun c_12 => ?_) (fun c_12 => ?_)
    · skip
      have c_12 : a.toInt ≤ (len : Int) := (zi_le (a := a.toInt) (b := (len : Int)) (iI_of _) (nI_iI _) (by omega) (by omega) (by omega) (by omega)).mp c_12
      exact absurd c_12 (by omega)
    · skip
      have c_12 : ¬ a.toInt ≤ (len : Int) := fun q9 => c_12 ((zi_le (a := a.toInt) (b := (len : Int)) (iI_of _) (nI_iI _) (by omega) (by omega) (by omega) (by omega)).mpr q9)
      refine lv_iconst (v := iI (-1)) hx hb d_Row_cut_15 (by decide) ?_
      exact z_iret C hr hlk hP hD hS (by omega) (by omega) ⟨rfl, rfl⟩ d_Row_cut_16
set_option maxHeartbeats 4000000 in
set_option maxRecDepth 100000 in
theorem c_Row_cut_g (l : Launch) (g : zT) (T : va_W) (ro tp dr d h k jd : Nat) (ps : Int32) (hro : (ro, zo 0 [.ref tp, .ref dr, .ref d, .ref h, .ref k, .ref jd, .int ps]) ∈ T) (rw len hd bg mk ly : Nat) (met n : Nat) (vd : Int32) (v1 : len ≤ 65536) (v2 : n ≤ len) : Met l y_Row_cut (zw y_Row_cut b_Row_cut 3 (some .int)) (zR 1 20 0 0) (zP g [.ref ro, .int (nI n)] ((h, zo 5 [.ref rw, .int (nI len), .int (nI hd), .int (nI bg), .ref mk, .ref ly]) :: (jd, zo 8 [.ref h, .ref k, .ref d, .int vd, .int (nI met)]) :: T)) (zQi g (fun r w => r = nI (len - n) ∧ w = (h, zo 5 [.ref rw, .int (nI n), .int (nI hd), .int (nI bg), .ref mk, .ref ly]) :: (jd, zo 8 [.ref h, .ref k, .ref d, .int (iI (-3)), .int (nI met)]) :: T)) 0 0 (zA g) := by
  refine zMet (by decide) (Nat.le_of_ble_eq_true rfl) ?_
  intro p e s m below meth c ls C hr hlk hnm hP hD hl
  have hx := C.1.1
  have hb := C.1.2.1
  have hS : va_S (zA g) s.heap s.heap [] := va_S.rf
  have hl : lv_has ls 3 [(0, .ref ro), (1, .int (nI n))] := hl
  refine lv_iload_n hx hb d_Row_cut_0 rfl (lv_at hl 1 rfl) ?_
  refine lv_if_lt (tgt := 15) hx hb d_Row_cut_1 (by decide) (fun c_1 => ?_) (fun c_1 => ?_)
  · skip
    have c_1 : n < 0 := (nI_ltI (a := n) (b := 0) (by omega) (by decide)).mp c_1
    exact absurd c_1 (by omega)
  · skip
    have c_1 : ¬ n < 0 := fun q9 => c_1 ((nI_ltI (a := n) (b := 0) (by omega) (by decide)).mpr q9)
    refine lv_iload_n hx hb d_Row_cut_4 rfl (lv_at hl 1 rfl) ?_
    refine lv_aload_n hx hb d_Row_cut_5 rfl (lv_at hl 0 rfl) ?_
    refine z_get C hP (List.mem_cons_of_mem _ (List.mem_cons_of_mem _ hro)) q_Row 3 (by decide) k_246 (fun _ h9 => h9) rfl d_Row_cut_6 ?_
    refine z_get C hP List.mem_cons_self q_Lst 1 (by decide) k_143 (fun _ h9 => h9) rfl d_Row_cut_9 ?_
    refine lv_icmp_le (tgt := 17) hx hb d_Row_cut_12 (by decide) (fun c_12 => ?_) (fun c_12 => ?_)
    · skip
      have c_12 : n ≤ len := (nI_leI (a := n) (b := len) (by omega) (by omega)).mp c_12
      refine lv_aload_n hx hb d_Row_cut_17 rfl (lv_at hl 0 rfl) ?_
      refine z_get C hP (List.mem_cons_of_mem _ (List.mem_cons_of_mem _ hro)) q_Row 3 (by decide) k_246 (fun _ h9 => h9) rfl d_Row_cut_18 ?_
      refine z_get C hP List.mem_cons_self q_Lst 1 (by decide) k_143 (fun _ h9 => h9) rfl d_Row_cut_21 ?_
      refine lv_iload_n hx hb d_Row_cut_24 rfl (lv_at hl 1 rfl) ?_
      refine z_isub (v := nI (len - n)) C d_Row_cut_25 (pk_sub (by omega)) ?_
      refine lv_istore_n (lv' := [(2, .int (nI (len - n))), (0, .ref ro), (1, .int (nI n))]) hx hb d_Row_cut_26 rfl hl (by decide) rfl (fun ls hl => ?_)
      refine lv_aload_n hx hb d_Row_cut_27 rfl (lv_at hl 1 rfl) ?_
      refine z_get C hP (List.mem_cons_of_mem _ (List.mem_cons_of_mem _ hro)) q_Row 3 (by decide) k_246 (fun _ h9 => h9) rfl d_Row_cut_28 ?_
      refine lv_iload_n hx hb d_Row_cut_31 rfl (lv_at hl 2 rfl) ?_
      refine z_put C hP hD hS 0 rfl q_Lst 1 (by decide) k_143 (fun _ h9 => h9) rfl rfl rfl (Nat.le_of_ble_eq_true rfl) d_Row_cut_32 (ws' := (h, zo 5 [.ref rw, .int (nI n), .int (nI hd), .int (nI bg), .ref mk, .ref ly]) :: (jd, zo 8 [.ref h, .ref k, .ref d, .int vd, .int (nI met)]) :: T) rfl (fun H locs hP hD hS => ?_)
      refine lv_aload_n hx hb d_Row_cut_35 rfl (lv_at hl 1 rfl) ?_
      refine z_get C hP (List.mem_cons_of_mem _ (List.mem_cons_of_mem _ hro)) q_Row 5 (by decide) k_248 (fun _ h9 => h9) rfl d_Row_cut_36 ?_
      have hP : va_P g.1 classes ((jd, zo 8 [.ref h, .ref k, .ref d, .int vd, .int (nI met)]) :: (h, zo 5 [.ref rw, .int (nI n), .int (nI hd), .int (nI bg), .ref mk, .ref ly]) :: T) _ := z_Pq (z_bk (bs := [[(h, zo 5 [.ref rw, .int (nI n), .int (nI hd), .int (nI bg), .ref mk, .ref ly])], [(jd, zo 8 [.ref h, .ref k, .ref d, .int vd, .int (nI met)])], T]) (bs' := [[(jd, zo 8 [.ref h, .ref k, .ref d, .int vd, .int (nI met)])], [(h, zo 5 [.ref rw, .int (nI n), .int (nI hd), .int (nI bg), .ref mk, .ref ly])], T]) [1, 0, 2] rfl (by decide) rfl) hP
      have hD : va_D (zA g) ((jd, zo 8 [.ref h, .ref k, .ref d, .int vd, .int (nI met)]) :: (h, zo 5 [.ref rw, .int (nI n), .int (nI hd), .int (nI bg), .ref mk, .ref ly]) :: T) := z_Dq (z_bk (bs := [[(h, zo 5 [.ref rw, .int (nI n), .int (nI hd), .int (nI bg), .ref mk, .ref ly])], [(jd, zo 8 [.ref h, .ref k, .ref d, .int vd, .int (nI met)])], T]) (bs' := [[(jd, zo 8 [.ref h, .ref k, .ref d, .int vd, .int (nI met)])], [(h, zo 5 [.ref rw, .int (nI n), .int (nI hd), .int (nI bg), .ref mk, .ref ly])], T]) [1, 0, 2] rfl (by decide) rfl) hD
      refine z_kv (z_runV (np := 0) C (c_Judge_forget l g ((h, zo 5 [.ref rw, .int (nI n), .int (nI hd), .int (nI bg), .ref mk, .ref ly]) :: T) jd h k d met vd) hP hD hS List.mem_cons_self (show classes[8]? = some (R_Judge, F_Judge, 5) from rfl) k_464 k_11 k_461 k_462 k_463 ⟨by decide, by decide, by decide⟩ ⟨Nat.le_of_ble_eq_true rfl, Nat.le_of_ble_eq_true rfl⟩ rfl hl.1 rfl (Nat.le_of_ble_eq_true rfl) d_Row_cut_39 ⟨by show _ ≤ 0; omega, by show _ ≤ 0; omega⟩) hS (fun w H locs hw hP hD hS => ?_)
      rw [hw] at hP hD
      refine lv_iload_n hx hb d_Row_cut_42 rfl (lv_at hl 0 rfl) ?_
      exact z_iret C hr hlk (z_Pq (z_bk (bs := [[(jd, zo 8 [.ref h, .ref k, .ref d, .int (iI (-3)), .int (nI met)])], [(h, zo 5 [.ref rw, .int (nI n), .int (nI hd), .int (nI bg), .ref mk, .ref ly])], T]) (bs' := [[(h, zo 5 [.ref rw, .int (nI n), .int (nI hd), .int (nI bg), .ref mk, .ref ly])], [(jd, zo 8 [.ref h, .ref k, .ref d, .int (iI (-3)), .int (nI met)])], T]) [1, 0, 2] rfl (by decide) rfl) hP) (z_Dq (z_bk (bs := [[(jd, zo 8 [.ref h, .ref k, .ref d, .int (iI (-3)), .int (nI met)])], [(h, zo 5 [.ref rw, .int (nI n), .int (nI hd), .int (nI bg), .ref mk, .ref ly])], T]) (bs' := [[(h, zo 5 [.ref rw, .int (nI n), .int (nI hd), .int (nI bg), .ref mk, .ref ly])], [(jd, zo 8 [.ref h, .ref k, .ref d, .int (iI (-3)), .int (nI met)])], T]) [1, 0, 2] rfl (by decide) rfl) hD) hS (by omega) (by omega) ⟨rfl, rfl⟩ d_Row_cut_43
    · skip
      have c_12 : ¬ n ≤ len := fun q9 => c_12 ((nI_leI (a := n) (b := len) (by omega) (by omega)).mpr q9)
      exact absurd c_12 (by omega)
set_option maxHeartbeats 4000000 in
set_option maxRecDepth 100000 in
theorem c_Row_feed_b (l : Launch) (g : zT) (T : va_W) (ro tp dr d h k jd : Nat) (ps : Int32) (hro : (ro, zo 0 [.ref tp, .ref dr, .ref d, .ref h, .ref k, .ref jd, .int ps]) ∈ T) (b : Int64) (a : Int32) (hr9 : ¬ (1 ≤ a.toInt ∧ a.toInt ≤ 8)) : Met l y_Row_feed (zw y_Row_feed b_Row_feed 4 (some .int)) (zR 1 24 0 0) (zP g [.ref ro, .long b, .int a] (T)) (zQi g (fun r w => r = iI (-1) ∧ w = T)) 0 0 (zA g) := by
  refine zMet (by decide) (Nat.le_of_ble_eq_true rfl) ?_
  intro p e s m below meth c ls C hr hlk hnm hP hD hl
  have hx := C.1.1
  have hb := C.1.2.1
  have hS : va_S (zA g) s.heap s.heap [] := va_S.rf
  have hl : lv_has ls 4 [(0, .ref ro), (1, .long b), (3, .int a)] := hl
  have r1 := zi_rg a
  refine lv_iload_n hx hb d_Row_feed_0 rfl (lv_at hl 2 rfl) ?_
  refine lv_iconst (v := nI 1) hx hb d_Row_feed_1 (by decide) ?_
  refine lv_icmp_lt (tgt := 11) hx hb d_Row_feed_2 (by decide) (fun c_2 => ?_) (fun c_2 => ?_)
  · skip
    have c_2 : a.toInt < 1 := (zi_lt (a := a.toInt) (b := 1) (iI_of _) (nI_iI _) (by omega) (by omega) (by omega) (by omega)).mp c_2
    refine lv_iconst (v := iI (-1)) hx hb d_Row_feed_11 (by decide) ?_
    exact z_iret C hr hlk hP hD hS (by omega) (by omega) ⟨rfl, rfl⟩ d_Row_feed_12
  · skip
    have c_2 : ¬ a.toInt < 1 := fun q9 => c_2 ((zi_lt (a := a.toInt) (b := 1) (iI_of _) (nI_iI _) (by omega) (by omega) (by omega) (by omega)).mpr q9)
    refine lv_iload_n hx hb d_Row_feed_5 rfl (lv_at hl 2 rfl) ?_
    refine lv_bipush (v := nI 8) hx hb d_Row_feed_6 (by decide) ?_
    refine lv_icmp_le (tgt := 13) hx hb d_Row_feed_8 (by decide) (fun c_8 => ?_) (fun c_8 => ?_)
    · skip
      have c_8 : a.toInt ≤ 8 := (zi_le (a := a.toInt) (b := 8) (iI_of _) (nI_iI _) (by omega) (by omega) (by omega) (by omega)).mp c_8
      exact absurd c_8 (by omega)
    · skip
      have c_8 : ¬ a.toInt ≤ 8 := fun q9 => c_8 ((zi_le (a := a.toInt) (b := 8) (iI_of _) (nI_iI _) (by omega) (by omega) (by omega) (by omega)).mpr q9)
      refine lv_iconst (v := iI (-1)) hx hb d_Row_feed_11 (by decide) ?_
      exact z_iret C hr hlk hP hD hS (by omega) (by omega) ⟨rfl, rfl⟩ d_Row_feed_12
set_option maxHeartbeats 4000000 in
set_option maxRecDepth 100000 in
theorem c_Row_feed_g (l : Launch) (g : zT) (T : va_W) (ro tp dr d h k jd : Nat) (ps : Int32) (hro : (ro, zo 0 [.ref tp, .ref dr, .ref d, .ref h, .ref k, .ref jd, .int ps]) ∈ T) (q ln n : Nat) (b : Int64) (f : Nat → UInt8) (v1 : 1 ≤ n) (v2 : n ≤ 8) (v3 : ln ≤ 300) : Met l y_Row_feed (zw y_Row_feed b_Row_feed 4 (some .int)) (zR 1 24 0 0) (zP g [.ref ro, .long b, .int (nI n)] ((tp, zo 1 [.ref q, .int (nI ln)]) :: (q, zBy g 300 f) :: T)) (zQi g (fun r w => (300 < ln + n → r = iI (-4) ∧ w = (tp, zo 1 [.ref q, .int (nI ln)]) :: (q, zBy g 300 f) :: T) ∧ (ln + n ≤ 300 → r = nI (ln + n) ∧ ∃ f2, w = (tp, zo 1 [.ref q, .int (nI (ln + n))]) :: (q, zBy g 300 f2) :: T ∧ zl f2 0 (ln + n) = zl f 0 ln ++ (List.range n).map (fB b)))) 0 0 (zA g) := by
  refine zMet (by decide) (Nat.le_of_ble_eq_true rfl) ?_
  intro p e s m below meth c ls C hr hlk hnm hP hD hl
  have hx := C.1.1
  have hb := C.1.2.1
  have hS : va_S (zA g) s.heap s.heap [] := va_S.rf
  have hl : lv_has ls 4 [(0, .ref ro), (1, .long b), (3, .int (nI n))] := hl
  refine lv_iload_n hx hb d_Row_feed_0 rfl (lv_at hl 2 rfl) ?_
  refine lv_iconst (v := nI 1) hx hb d_Row_feed_1 (by decide) ?_
  refine lv_icmp_lt (tgt := 11) hx hb d_Row_feed_2 (by decide) (fun c_2 => ?_) (fun c_2 => ?_)
  · skip
    have c_2 : n < 1 := (nI_ltI (a := n) (b := 1) (by omega) (by decide)).mp c_2
    exact absurd c_2 (by omega)
  · skip
    have c_2 : ¬ n < 1 := fun q9 => c_2 ((nI_ltI (a := n) (b := 1) (by omega) (by decide)).mpr q9)
    refine lv_iload_n hx hb d_Row_feed_5 rfl (lv_at hl 2 rfl) ?_
    refine lv_bipush (v := nI 8) hx hb d_Row_feed_6 (by decide) ?_
    refine lv_icmp_le (tgt := 13) hx hb d_Row_feed_8 (by decide) (fun c_8 => ?_) (fun c_8 => ?_)
    · skip
      have c_8 : n ≤ 8 := (nI_leI (a := n) (b := 8) (by omega) (by decide)).mp c_8
      refine lv_aload_n hx hb d_Row_feed_13 rfl (lv_at hl 0 rfl) ?_
      refine z_get C hP (List.mem_cons_of_mem _ (List.mem_cons_of_mem _ hro)) q_Row 0 (by decide) k_243 (fun _ h9 => h9) rfl d_Row_feed_14 ?_
      refine lv_lload_n hx hb d_Row_feed_17 rfl (lv_at hl 1 rfl) ?_
      refine lv_iload_n hx hb d_Row_feed_18 rfl (lv_at hl 2 rfl) ?_
      refine z_ki (z_runV (np := 2) C (c_Tape_append l g T tp q ln n b f v3 v2) hP hD hS List.mem_cons_self (show classes[1]? = some (R_Tape, F_Tape, 2) from rfl) k_272 k_2 k_269 k_270 k_271 ⟨by decide, by decide, by decide⟩ ⟨Nat.le_of_ble_eq_true rfl, Nat.le_of_ble_eq_true rfl⟩ rfl hl.1 rfl (Nat.le_of_ble_eq_true rfl) d_Row_feed_19 ⟨by show _ ≤ 0; omega, by show _ ≤ 0; omega⟩) hS (fun r_19 w H locs hw hP hD hS => ?_)
      by_cases hc9 : 300 < ln + n
      · skip
        obtain ⟨rfl, hw2⟩ := hw.1 hc9
        rw [hw2] at hP hD
        refine lv_if_eq (tgt := 35) hx hb d_Row_feed_22 (by decide) (fun c_22 => ?_) (fun c_22 => ?_)
        · skip
          have c_22 : 0 = 0 := (nI_eq (a := 0) (b := 0) (by decide) (by decide)).mp c_22
          refine lv_bipush (v := iI (-4)) hx hb d_Row_feed_35 (by decide) ?_
          exact z_iret C hr hlk hP hD hS (by omega) (by omega) ⟨fun _ => ⟨rfl, rfl⟩, fun q9 => absurd q9 (by omega)⟩ d_Row_feed_37
        · skip
          have c_22 : ¬ 0 = 0 := fun q9 => c_22 ((nI_eq (a := 0) (b := 0) (by decide) (by decide)).mpr q9)
          exact absurd c_22 (by omega)
      · skip
        obtain ⟨rfl, f2, hw2, hz2⟩ := hw.2 (by omega)
        rw [hw2] at hP hD
        refine lv_if_eq (tgt := 35) hx hb d_Row_feed_22 (by decide) (fun c_22 => ?_) (fun c_22 => ?_)
        · skip
          have c_22 : 1 = 0 := (nI_eq (a := 1) (b := 0) (by decide) (by decide)).mp c_22
          exact absurd c_22 (by omega)
        · skip
          have c_22 : ¬ 1 = 0 := fun q9 => c_22 ((nI_eq (a := 1) (b := 0) (by decide) (by decide)).mpr q9)
          refine lv_aload_n hx hb d_Row_feed_25 rfl (lv_at hl 0 rfl) ?_
          refine z_get C hP (List.mem_cons_of_mem _ (List.mem_cons_of_mem _ hro)) q_Row 0 (by decide) k_243 (fun _ h9 => h9) rfl d_Row_feed_26 ?_
          refine z_get C hP List.mem_cons_self q_Tape 1 (by decide) k_39 (fun _ h9 => h9) rfl d_Row_feed_29 ?_
          refine lv_goto (tgt := 37) hx hb d_Row_feed_32 (by decide) ?_
          exact z_iret C hr hlk hP hD hS (by omega) (by omega) ⟨fun q9 => absurd q9 (by omega), fun _ => ⟨rfl, f2, rfl, hz2⟩⟩ d_Row_feed_37
    · skip
      have c_8 : ¬ n ≤ 8 := fun q9 => c_8 ((nI_leI (a := n) (b := 8) (by omega) (by decide)).mpr q9)
      exact absurd c_8 (by omega)
set_option maxHeartbeats 4000000 in
set_option maxRecDepth 100000 in
theorem c_Row_patch_b (l : Launch) (g : zT) (T : va_W) (ro tp dr d h k jd : Nat) (ps : Int32) (hro : (ro, zo 0 [.ref tp, .ref dr, .ref d, .ref h, .ref k, .ref jd, .int ps]) ∈ T) (rw len hd bg mk ly : Nat) (hh : (h, zo 5 [.ref rw, .int (nI len), .int (nI hd), .int (nI bg), .ref mk, .ref ly]) ∈ T) (a b : Int32) (v1 : len ≤ 65536) (hr9 : ¬ (0 ≤ a.toInt ∧ a.toInt < len)) : Met l y_Row_patch (zw y_Row_patch b_Row_patch 4 (some .int)) (zR 1 21 0 0) (zP g [.ref ro, .int a, .int b] (T)) (zQi g (fun r w => r = iI (-2) ∧ w = T)) 0 0 (zA g) := by
  refine zMet (by decide) (Nat.le_of_ble_eq_true rfl) ?_
  intro p e s m below meth c ls C hr hlk hnm hP hD hl
  have hx := C.1.1
  have hb := C.1.2.1
  have hS : va_S (zA g) s.heap s.heap [] := va_S.rf
  have hl : lv_has ls 4 [(0, .ref ro), (1, .int a), (2, .int b)] := hl
  have r1 := zi_rg a
  refine lv_iload_n hx hb d_Row_patch_0 rfl (lv_at hl 1 rfl) ?_
  refine lv_if_lt (tgt := 15) hx hb d_Row_patch_1 (by decide) (fun c_1 => ?_) (fun c_1 => ?_)
  · skip
    have c_1 : a.toInt < 0 := (zi_lt (a := a.toInt) (b := 0) (iI_of _) (nI_iI _) (by omega) (by omega) (by omega) (by omega)).mp c_1
    refine lv_bipush (v := iI (-2)) hx hb d_Row_patch_15 (by decide) ?_
    exact z_iret C hr hlk hP hD hS (by omega) (by omega) ⟨rfl, rfl⟩ d_Row_patch_17
  · skip
    have c_1 : ¬ a.toInt < 0 := fun q9 => c_1 ((zi_lt (a := a.toInt) (b := 0) (iI_of _) (nI_iI _) (by omega) (by omega) (by omega) (by omega)).mpr q9)
    refine lv_iload_n hx hb d_Row_patch_4 rfl (lv_at hl 1 rfl) ?_
    refine lv_aload_n hx hb d_Row_patch_5 rfl (lv_at hl 0 rfl) ?_
    refine z_get C hP hro q_Row 3 (by decide) k_246 (fun _ h9 => h9) rfl d_Row_patch_6 ?_
    refine z_get C hP hh q_Lst 1 (by decide) k_143 (fun _ h9 => h9) rfl d_Row_patch_9 ?_
    refine lv_icmp_lt (tgt := 18) hx hb d_Row_patch_12 (by decide) (fun c_12 => ?_) (fun c_12 => ?_)
    · skip
      have c_12 : a.toInt < (len : Int) := (zi_lt (a := a.toInt) (b := (len : Int)) (iI_of _) (nI_iI _) (by omega) (by omega) (by omega) (by omega)).mp c_12
      exact absurd c_12 (by omega)
    · skip
      have c_12 : ¬ a.toInt < (len : Int) := fun q9 => c_12 ((zi_lt (a := a.toInt) (b := (len : Int)) (iI_of _) (nI_iI _) (by omega) (by omega) (by omega) (by omega)).mpr q9)
      refine lv_bipush (v := iI (-2)) hx hb d_Row_patch_15 (by decide) ?_
      exact z_iret C hr hlk hP hD hS (by omega) (by omega) ⟨rfl, rfl⟩ d_Row_patch_17
set_option maxHeartbeats 4000000 in
set_option maxRecDepth 100000 in
theorem c_Row_patch_g (l : Launch) (g : zT) (T : va_W) (ro tp dr d h k jd : Nat) (ps : Int32) (hro : (ro, zo 0 [.ref tp, .ref dr, .ref d, .ref h, .ref k, .ref jd, .int ps]) ∈ T) (rw len hd bg mk ly : Nat) (hh : (h, zo 5 [.ref rw, .int (nI len), .int (nI hd), .int (nI bg), .ref mk, .ref ly]) ∈ T) (met n rn : Nat) (vd b : Int32) (rf : Nat → UInt8) (v1 : len ≤ rn) (v2 : n < len) (v3 : rn ≤ 65536) : Met l y_Row_patch (zw y_Row_patch b_Row_patch 4 (some .int)) (zR 1 21 0 0) (zP g [.ref ro, .int (nI n), .int b] ((rw, zBy g rn rf) :: (jd, zo 8 [.ref h, .ref k, .ref d, .int vd, .int (nI met)]) :: T)) (zQi g (fun r w => r = nI (rf n).toNat ∧ w = (rw, zBy g rn (uB rf n (zu b))) :: (jd, zo 8 [.ref h, .ref k, .ref d, .int (iI (-3)), .int (nI met)]) :: T)) 0 0 (zA g) := by
  refine zMet (by decide) (Nat.le_of_ble_eq_true rfl) ?_
  intro p e s m below meth c ls C hr hlk hnm hP hD hl
  have hx := C.1.1
  have hb := C.1.2.1
  have hS : va_S (zA g) s.heap s.heap [] := va_S.rf
  have hl : lv_has ls 4 [(0, .ref ro), (1, .int (nI n)), (2, .int b)] := hl
  refine lv_iload_n hx hb d_Row_patch_0 rfl (lv_at hl 1 rfl) ?_
  refine lv_if_lt (tgt := 15) hx hb d_Row_patch_1 (by decide) (fun c_1 => ?_) (fun c_1 => ?_)
  · skip
    have c_1 : n < 0 := (nI_ltI (a := n) (b := 0) (by omega) (by decide)).mp c_1
    exact absurd c_1 (by omega)
  · skip
    have c_1 : ¬ n < 0 := fun q9 => c_1 ((nI_ltI (a := n) (b := 0) (by omega) (by decide)).mpr q9)
    refine lv_iload_n hx hb d_Row_patch_4 rfl (lv_at hl 1 rfl) ?_
    refine lv_aload_n hx hb d_Row_patch_5 rfl (lv_at hl 0 rfl) ?_
    refine z_get C hP (List.mem_cons_of_mem _ (List.mem_cons_of_mem _ hro)) q_Row 3 (by decide) k_246 (fun _ h9 => h9) rfl d_Row_patch_6 ?_
    refine z_get C hP (List.mem_cons_of_mem _ (List.mem_cons_of_mem _ hh)) q_Lst 1 (by decide) k_143 (fun _ h9 => h9) rfl d_Row_patch_9 ?_
    refine lv_icmp_lt (tgt := 18) hx hb d_Row_patch_12 (by decide) (fun c_12 => ?_) (fun c_12 => ?_)
    · skip
      have c_12 : n < len := (nI_ltI (a := n) (b := len) (by omega) (by omega)).mp c_12
      refine lv_aload_n hx hb d_Row_patch_18 rfl (lv_at hl 0 rfl) ?_
      refine z_get C hP (List.mem_cons_of_mem _ (List.mem_cons_of_mem _ hro)) q_Row 3 (by decide) k_246 (fun _ h9 => h9) rfl d_Row_patch_19 ?_
      refine lv_iload_n hx hb d_Row_patch_22 rfl (lv_at hl 1 rfl) ?_
      refine z_ki (z_runV (np := 1) C (c_Lst_byteOrZero l g ((rw, zBy g rn rf) :: (jd, zo 8 [.ref h, .ref k, .ref d, .int vd, .int (nI met)]) :: T) h rw len hd bg mk ly rn rf (List.mem_cons_of_mem _ (List.mem_cons_of_mem _ hh)) List.mem_cons_self v1 v3 n (by omega)) hP hD hS (List.mem_cons_of_mem _ (List.mem_cons_of_mem _ hh)) (show classes[5]? = some (R_Lst, F_Lst, 6) from rfl) k_604 k_8 k_601 k_602 k_603 ⟨by decide, by decide, by decide⟩ ⟨Nat.le_of_ble_eq_true rfl, Nat.le_of_ble_eq_true rfl⟩ rfl hl.1 rfl (Nat.le_of_ble_eq_true rfl) d_Row_patch_23 ⟨by show _ ≤ 0; omega, by show _ ≤ 0; omega⟩) hS (fun r_23 w H locs hw hP hD hS => ?_)
      obtain ⟨rfl, hw⟩ := hw
      rw [hw] at hP hD
      have e9 : bz rf len n = (rf n).toNat := if_pos v2
      refine lv_istore_n (lv' := [(3, .int (nI (bz rf len n))), (0, .ref ro), (1, .int (nI n)), (2, .int b)]) hx hb d_Row_patch_26 rfl hl (by decide) rfl (fun ls hl => ?_)
      refine lv_aload_n hx hb d_Row_patch_27 rfl (lv_at hl 1 rfl) ?_
      refine z_get C hP (List.mem_cons_of_mem _ (List.mem_cons_of_mem _ hro)) q_Row 3 (by decide) k_246 (fun _ h9 => h9) rfl d_Row_patch_28 ?_
      refine z_get C hP (List.mem_cons_of_mem _ (List.mem_cons_of_mem _ hh)) q_Lst 0 (by decide) k_139 (fun _ h9 => h9) rfl d_Row_patch_31 ?_
      refine lv_iload_n hx hb d_Row_patch_34 rfl (lv_at hl 2 rfl) ?_
      refine lv_iload_n hx hb d_Row_patch_35 rfl (lv_at hl 3 rfl) ?_
      refine lv_i2b (v := sb (zu b)) hx hb d_Row_patch_36 (sb_zu _).symm ?_
      refine z_bast C hP hD hS 0 rfl n (by omega) (by omega) d_Row_patch_37 (ws' := (rw, zBy g rn (uB rf n (zu b))) :: (jd, zo 8 [.ref h, .ref k, .ref d, .int vd, .int (nI met)]) :: T) rfl (fun H locs hP hD hS => ?_)
      refine lv_aload_n hx hb d_Row_patch_38 rfl (lv_at hl 1 rfl) ?_
      refine z_get C hP (List.mem_cons_of_mem _ (List.mem_cons_of_mem _ hro)) q_Row 5 (by decide) k_248 (fun _ h9 => h9) rfl d_Row_patch_39 ?_
      have hP : va_P g.1 classes ((jd, zo 8 [.ref h, .ref k, .ref d, .int vd, .int (nI met)]) :: (rw, zBy g rn (uB rf n (zu b))) :: T) _ := z_Pq (z_bk (bs := [[(rw, zBy g rn (uB rf n (zu b)))], [(jd, zo 8 [.ref h, .ref k, .ref d, .int vd, .int (nI met)])], T]) (bs' := [[(jd, zo 8 [.ref h, .ref k, .ref d, .int vd, .int (nI met)])], [(rw, zBy g rn (uB rf n (zu b)))], T]) [1, 0, 2] rfl (by decide) rfl) hP
      have hD : va_D (zA g) ((jd, zo 8 [.ref h, .ref k, .ref d, .int vd, .int (nI met)]) :: (rw, zBy g rn (uB rf n (zu b))) :: T) := z_Dq (z_bk (bs := [[(rw, zBy g rn (uB rf n (zu b)))], [(jd, zo 8 [.ref h, .ref k, .ref d, .int vd, .int (nI met)])], T]) (bs' := [[(jd, zo 8 [.ref h, .ref k, .ref d, .int vd, .int (nI met)])], [(rw, zBy g rn (uB rf n (zu b)))], T]) [1, 0, 2] rfl (by decide) rfl) hD
      refine z_kv (z_runV (np := 0) C (c_Judge_forget l g ((rw, zBy g rn (uB rf n (zu b))) :: T) jd h k d met vd) hP hD hS List.mem_cons_self (show classes[8]? = some (R_Judge, F_Judge, 5) from rfl) k_464 k_11 k_461 k_462 k_463 ⟨by decide, by decide, by decide⟩ ⟨Nat.le_of_ble_eq_true rfl, Nat.le_of_ble_eq_true rfl⟩ rfl hl.1 rfl (Nat.le_of_ble_eq_true rfl) d_Row_patch_42 ⟨by show _ ≤ 0; omega, by show _ ≤ 0; omega⟩) hS (fun w H locs hw hP hD hS => ?_)
      rw [hw] at hP hD
      refine lv_iload_n hx hb d_Row_patch_45 rfl (lv_at hl 0 rfl) ?_
      exact z_iret C hr hlk (z_Pq (z_bk (bs := [[(jd, zo 8 [.ref h, .ref k, .ref d, .int (iI (-3)), .int (nI met)])], [(rw, zBy g rn (uB rf n (zu b)))], T]) (bs' := [[(rw, zBy g rn (uB rf n (zu b)))], [(jd, zo 8 [.ref h, .ref k, .ref d, .int (iI (-3)), .int (nI met)])], T]) [1, 0, 2] rfl (by decide) rfl) hP) (z_Dq (z_bk (bs := [[(jd, zo 8 [.ref h, .ref k, .ref d, .int (iI (-3)), .int (nI met)])], [(rw, zBy g rn (uB rf n (zu b)))], T]) (bs' := [[(rw, zBy g rn (uB rf n (zu b)))], [(jd, zo 8 [.ref h, .ref k, .ref d, .int (iI (-3)), .int (nI met)])], T]) [1, 0, 2] rfl (by decide) rfl) hD) hS (by omega) (by omega) ⟨by rw [e9], rfl⟩ d_Row_patch_46
    · skip
      have c_12 : ¬ n < len := fun q9 => c_12 ((nI_ltI (a := n) (b := len) (by omega) (by omega)).mpr q9)
      exact absurd c_12 (by omega)
set_option maxHeartbeats 4000000 in
set_option maxRecDepth 100000 in
theorem c_Row_make_b (l : Launch) (g : zT) (T : va_W) (ro tp dr d h k jd : Nat) (ps : Int32) (hro : (ro, zo 0 [.ref tp, .ref dr, .ref d, .ref h, .ref k, .ref jd, .int ps]) ∈ T) (a : Int32) (hr9 : ¬ (0 ≤ a.toInt ∧ a.toInt ≤ 40000)) : Met l y_Row_make (zw y_Row_make b_Row_make 2 (some .int)) (zR 10 227 0 0) (zP g [.ref ro, .int a] (T)) (zQi g (fun r w => r = iI (-1) ∧ w = T)) 0 0 (zA g) := by
  refine zMet (by decide) (Nat.le_of_ble_eq_true rfl) ?_
  intro p e s m below meth c ls C hr hlk hnm hP hD hl
  have hx := C.1.1
  have hb := C.1.2.1
  have hS : va_S (zA g) s.heap s.heap [] := va_S.rf
  have hl : lv_has ls 2 [(0, .ref ro), (1, .int a)] := hl
  have r1 := zi_rg a
  refine lv_iload_n hx hb d_Row_make_0 rfl (lv_at hl 1 rfl) ?_
  refine lv_if_lt (tgt := 10) hx hb d_Row_make_1 (by decide) (fun c_1 => ?_) (fun c_1 => ?_)
  · skip
    have c_1 : a.toInt < 0 := (zi_lt (a := a.toInt) (b := 0) (iI_of _) (nI_iI _) (by omega) (by omega) (by omega) (by omega)).mp c_1
    refine lv_iconst (v := iI (-1)) hx hb d_Row_make_10 (by decide) ?_
    exact z_iret C hr hlk hP hD hS (by omega) (by omega) ⟨rfl, rfl⟩ d_Row_make_11
  · skip
    have c_1 : ¬ a.toInt < 0 := fun q9 => c_1 ((zi_lt (a := a.toInt) (b := 0) (iI_of _) (nI_iI _) (by omega) (by omega) (by omega) (by omega)).mpr q9)
    refine lv_iload_n hx hb d_Row_make_4 rfl (lv_at hl 1 rfl) ?_
    refine lv_ldc (v := nI 40000) hx hb C.1.2.2.2.1 (C.ts k_501 rfl) d_Row_make_5 ?_
    refine lv_icmp_le (tgt := 12) hx hb d_Row_make_7 (by decide) (fun c_7 => ?_) (fun c_7 => ?_)
    · skip
      have c_7 : a.toInt ≤ 40000 := (zi_le (a := a.toInt) (b := 40000) (iI_of _) (nI_iI _) (by omega) (by omega) (by omega) (by omega)).mp c_7
      exact absurd c_7 (by omega)
    · skip
      have c_7 : ¬ a.toInt ≤ 40000 := fun q9 => c_7 ((zi_le (a := a.toInt) (b := 40000) (iI_of _) (nI_iI _) (by omega) (by omega) (by omega) (by omega)).mpr q9)
      refine lv_iconst (v := iI (-1)) hx hb d_Row_make_10 (by decide) ?_
      exact z_iret C hr hlk hP hD hS (by omega) (by omega) ⟨rfl, rfl⟩ d_Row_make_11
