theorem zn_min {a b : Nat} (ha : a < 2 ^ 31) (hb : b < 2 ^ 31) : (if nI b < nI a then nI b else nI a) = nI (min a b) := by
  by_cases h : b < a
  · rw [if_pos ((nI_ltI hb ha).mpr h), Nat.min_eq_right (by omega)]
  · rw [if_neg (fun q => h ((nI_ltI hb ha).mp q)), Nat.min_eq_left (by omega)]
set_option maxHeartbeats 4000000 in
set_option maxRecDepth 100000 in
theorem c_Tape_useUp (l : Launch) (g : zT) (T : va_W) (h q n : Nat) : Met l y_Tape_useUp (zw y_Tape_useUp b_Tape_useUp 2 (some .int)) (zR 0 0 0 0) (zP g [.ref h] ((h, zo 1 [.ref q, .int (nI n)]) :: T)) (zQi g (fun r w => r = nI n ∧ w = (h, zo 1 [.ref q, .int (nI 0)]) :: T)) 0 0 (zA g) := by
  refine zMet (by decide) (Nat.le_of_ble_eq_true rfl) ?_
  intro p e s m below meth c ls C hr hlk hnm hP hD hl
  have hx := C.1.1
  have hb := C.1.2.1
  have hS : va_S (zA g) s.heap s.heap [] := va_S.rf
  have hl : lv_has ls 2 [(0, .ref h)] := hl
  refine lv_aload_n hx hb d_Tape_useUp_0 rfl (lv_at hl 0 rfl) ?_
  refine z_get C hP List.mem_cons_self q_Tape 1 (by decide) k_38 (fun _ h9 => h9) rfl d_Tape_useUp_1 ?_
  refine lv_istore_n (lv' := [(1, .int (nI n)), (0, .ref h)]) hx hb d_Tape_useUp_4 rfl hl (by decide) rfl (fun ls hl => ?_)
  refine lv_aload_n hx hb d_Tape_useUp_5 rfl (lv_at hl 1 rfl) ?_
  refine lv_iconst (v := nI 0) hx hb d_Tape_useUp_6 (by decide) ?_
  refine z_put C hP hD hS 0 rfl q_Tape 1 (by decide) k_38 (fun _ h9 => h9) rfl rfl rfl (Nat.le_of_ble_eq_true rfl) d_Tape_useUp_7 (ws' := (h, zo 1 [.ref q, .int (nI 0)]) :: T) rfl (fun H locs hP hD hS => ?_)
  refine lv_iload_n hx hb d_Tape_useUp_10 rfl (lv_at hl 0 rfl) ?_
  exact z_iret C hr hlk hP hD hS (by omega) (by omega) ⟨rfl, rfl⟩ d_Tape_useUp_11
set_option maxHeartbeats 4000000 in
set_option maxRecDepth 100000 in
theorem c_Lay_restart (l : Launch) (g : zT) (T : va_W) (h b : Nat) (x0 x1 x2 x3 x4 x5 x6 : Int32) : Met l y_Lay_restart (zw y_Lay_restart b_Lay_restart 2 (none)) (zR 0 0 0 0) (zP g [.ref h, .int (nI b)] ((h, zo 6 [.int x0, .int x1, .int x2, .int x3, .int x4, .int x5, .int x6]) :: T)) (zQv g (fun w => w = (h, zo 6 [.int (nI b), .int x1, .int (nI 0), .int (nI 0), .int x4, .int (nI 0), .int x6]) :: T)) 0 0 (zA g) := by
  refine zMet (by decide) (Nat.le_of_ble_eq_true rfl) ?_
  intro p e s m below meth c ls C hr hlk hnm hP hD hl
  have hx := C.1.1
  have hb := C.1.2.1
  have hS : va_S (zA g) s.heap s.heap [] := va_S.rf
  have hl : lv_has ls 2 [(0, .ref h), (1, .int (nI b))] := hl
  refine lv_aload_n hx hb d_Lay_restart_0 rfl (lv_at hl 0 rfl) ?_
  refine lv_iload_n hx hb d_Lay_restart_1 rfl (lv_at hl 1 rfl) ?_
  refine z_put C hP hD hS 0 rfl q_Lay 0 (by decide) k_109 (fun _ h9 => h9) rfl rfl rfl (Nat.le_of_ble_eq_true rfl) d_Lay_restart_2 (ws' := (h, zo 6 [.int (nI b), .int x1, .int x2, .int x3, .int x4, .int x5, .int x6]) :: T) rfl (fun H locs hP hD hS => ?_)
  refine lv_aload_n hx hb d_Lay_restart_5 rfl (lv_at hl 0 rfl) ?_
  refine lv_iconst (v := nI 0) hx hb d_Lay_restart_6 (by decide) ?_
  refine z_put C hP hD hS 0 rfl q_Lay 2 (by decide) k_111 (fun _ h9 => h9) rfl rfl rfl (Nat.le_of_ble_eq_true rfl) d_Lay_restart_7 (ws' := (h, zo 6 [.int (nI b), .int x1, .int (nI 0), .int x3, .int x4, .int x5, .int x6]) :: T) rfl (fun H locs hP hD hS => ?_)
  refine lv_aload_n hx hb d_Lay_restart_10 rfl (lv_at hl 0 rfl) ?_
  refine lv_iconst (v := nI 0) hx hb d_Lay_restart_11 (by decide) ?_
  refine z_put C hP hD hS 0 rfl q_Lay 3 (by decide) k_113 (fun _ h9 => h9) rfl rfl rfl (Nat.le_of_ble_eq_true rfl) d_Lay_restart_12 (ws' := (h, zo 6 [.int (nI b), .int x1, .int (nI 0), .int (nI 0), .int x4, .int x5, .int x6]) :: T) rfl (fun H locs hP hD hS => ?_)
  refine lv_aload_n hx hb d_Lay_restart_15 rfl (lv_at hl 0 rfl) ?_
  refine lv_iconst (v := nI 0) hx hb d_Lay_restart_16 (by decide) ?_
  refine z_put C hP hD hS 0 rfl q_Lay 5 (by decide) k_117 (fun _ h9 => h9) rfl rfl rfl (Nat.le_of_ble_eq_true rfl) d_Lay_restart_17 (ws' := (h, zo 6 [.int (nI b), .int x1, .int (nI 0), .int (nI 0), .int x4, .int (nI 0), .int x6]) :: T) rfl (fun H locs hP hD hS => ?_)
  exact z_vret C hr hlk hP hD hS (by omega) (by omega) rfl d_Lay_restart_20
set_option maxHeartbeats 4000000 in
set_option maxRecDepth 100000 in
theorem c_Nam_compare (l : Launch) (g : zT) (T : va_W) (qa fa la na qb fb lb nb : Nat) (f h : Nat → UInt8) (ha : (qa, zBy g na f) ∈ T) (hb0 : (qb, zBy g nb h) ∈ T) (h1 : fa + la ≤ na) (h2 : fb + lb ≤ nb) (h3 : na < 2 ^ 30) (h4 : nb < 2 ^ 30) : Met l y_Nam_compare (zw y_Nam_compare b_Nam_compare 9 (some .int)) (zR 1 21 0 0) (zP g [.ref qa, .int (nI fa), .int (nI la), .ref qb, .int (nI fb), .int (nI lb)] (T)) (zQi g (fun r w => r = iI (cmpB (zl f fa la) (zl h fb lb)) ∧ w = T)) 0 0 (zA g) := by
  refine zMet (by decide) (Nat.le_of_ble_eq_true rfl) ?_
  intro p e s m below meth c ls C hr hlk hnm hP hD hl
  have hx := C.1.1
  have hb := C.1.2.1
  have hS : va_S (zA g) s.heap s.heap [] := va_S.rf
  have hl : lv_has ls 9 [(0, .ref qa), (1, .int (nI fa)), (2, .int (nI la)), (3, .ref qb), (4, .int (nI fb)), (5, .int (nI lb))] := hl
  have L_11 : ∀ (n : Nat) (i : Nat) (_ : i ≤ min la lb) (_ : cmpB (zl f (fa + i) (la - i)) (zl h (fb + i) (lb - i)) = cmpB (zl f fa la) (zl h fb lb)) (_ : min la lb - i < n) (H : Heap) (locs : List Loc), va_P g.1 classes (T) H → va_D (zA g) (T) → va_S (zA g) s.heap H locs → ∀ ls : Array Slot, lv_has ls 9 [(0, .ref qa), (1, .int (nI fa)), (2, .int (nI la)), (3, .ref qb), (4, .int (nI fb)), (5, .int (nI lb)), (6, .int (nI (min la lb))), (7, .int (nI i))] → W p l e (zR 1 21 0 0) s m [.ref qa, .int (nI fa), .int (nI la), .ref qb, .int (nI fb), .int (nI lb)].toArray below meth c H locs 0 0 (MQ below (zQi g (fun r w => r = iI (cmpB (zl f fa la) (zl h fb lb)) ∧ w = T)) [.ref qa, .int (nI fa), .int (nI la), .ref qb, .int (nI fb), .int (nI lb)].toArray s 0 0 (zA g)) (F0 m 11 ls []) := by
    intro n
    induction n with
    | zero => intros; omega
    | succ n ih =>
      intro i hi hI hmu H locs hP hD hS ls hl
      refine lv_iload hx hb d_Nam_compare_11 (lv_at hl 7 rfl) ?_
      refine lv_iload hx hb d_Nam_compare_13 (lv_at hl 6 rfl) ?_
      refine lv_icmp_ge (tgt := 56) hx hb d_Nam_compare_15 (by decide) (fun c_15 => ?_) (fun c_15 => ?_)
      · skip
        have c_15 : (min la lb) ≤ i := (nI_leI (by omega) (by omega)).mp c_15
        refine lv_iload_n hx hb d_Nam_compare_56 rfl (lv_at hl 2 rfl) ?_
        refine lv_iload hx hb d_Nam_compare_57 (lv_at hl 5 rfl) ?_
        refine z_isub (v := iI ((la : Int) - (lb : Int))) C d_Nam_compare_59 (nI_sub _ _) ?_
        exact z_iret C hr hlk hP hD hS (by omega) (by omega) ⟨by rw [← hI, cmpB_end (by omega)]; congr 1; omega, rfl⟩ d_Nam_compare_60
      · skip
        have c_15 : ¬ (min la lb) ≤ i := fun q9 => c_15 ((nI_leI (by omega) (by omega)).mpr q9)
        refine lv_aload_n hx hb d_Nam_compare_18 rfl (lv_at hl 0 rfl) ?_
        refine lv_iload_n hx hb d_Nam_compare_19 rfl (lv_at hl 1 rfl) ?_
        refine lv_iload hx hb d_Nam_compare_20 (lv_at hl 7 rfl) ?_
        refine z_iadd (v := nI (fa + i)) C d_Nam_compare_22 (nI_add _ _) ?_
        refine z_bald C hP ha (fa + i) (by omega) (by omega) d_Nam_compare_23 ?_
        refine lv_sipush (v := nI 255) hx hb d_Nam_compare_24 (by decide) ?_
        refine z_iand (v := nI ((f (fa + i)).toNat)) C d_Nam_compare_27 (sb_and _) ?_
        refine lv_aload_n hx hb d_Nam_compare_28 rfl (lv_at hl 3 rfl) ?_
        refine lv_iload hx hb d_Nam_compare_29 (lv_at hl 4 rfl) ?_
        refine lv_iload hx hb d_Nam_compare_31 (lv_at hl 7 rfl) ?_
        refine z_iadd (v := nI (fb + i)) C d_Nam_compare_33 (nI_add _ _) ?_
        refine z_bald C hP hb0 (fb + i) (by omega) (by omega) d_Nam_compare_34 ?_
        refine lv_sipush (v := nI 255) hx hb d_Nam_compare_35 (by decide) ?_
        refine z_iand (v := nI ((h (fb + i)).toNat)) C d_Nam_compare_38 (sb_and _) ?_
        refine z_isub (v := iI (((f (fa + i)).toNat : Int) - ((h (fb + i)).toNat : Int))) C d_Nam_compare_39 (nI_sub _ _) ?_
        refine lv_istore (lv' := [(8, .int (iI (((f (fa + i)).toNat : Int) - ((h (fb + i)).toNat : Int)))), (0, .ref qa), (1, .int (nI fa)), (2, .int (nI la)), (3, .ref qb), (4, .int (nI fb)), (5, .int (nI lb)), (6, .int (nI (min la lb))), (7, .int (nI i))]) hx hb d_Nam_compare_40 hl (by decide) rfl (fun ls hl => ?_)
        refine lv_iload hx hb d_Nam_compare_42 (lv_at hl 0 rfl) ?_
        refine lv_if_eq (tgt := 50) hx hb d_Nam_compare_44 (by decide) (fun c_44 => ?_) (fun c_44 => ?_)
        · skip
          have b1 := u8_lt (f (fa + i))
          have b2 := u8_lt (h (fb + i))
          have c_44 : f (fa + i) = h (fb + i) := u8_eq.mpr (by have := (iI_eq0 (by omega) (by omega)).mp c_44; omega)
          refine lv_iinc (v := nI (i + 1)) (lv' := [(7, .int (nI (i + 1))), (8, .int (iI (((f (fa + i)).toNat : Int) - ((h (fb + i)).toNat : Int)))), (0, .ref qa), (1, .int (nI fa)), (2, .int (nI la)), (3, .ref qb), (4, .int (nI fb)), (5, .int (nI lb)), (6, .int (nI (min la lb)))]) hx hb d_Nam_compare_50 hl (k := 8) rfl (by rw [show Int32.ofInt 1 = nI 1 by decide]; exact nI_add _ _) (by decide) rfl (fun ls hl => ?_)
          refine lv_goto (tgt := 11) hx hb d_Nam_compare_53 (by decide) ?_
          exact ih (i + 1) (by omega) (by rw [cmpB_at (by omega) (by omega), if_pos c_44] at hI; exact hI) (by omega) _ _ hP hD hS ls (lv_sub hl [2, 3, 4, 5, 6, 7, 8, 0] rfl)
        · skip
          have c_44 : ¬ f (fa + i) = h (fb + i) := fun q9 => c_44 (by rw [q9, Int.sub_self]; rfl)
          refine lv_iload hx hb d_Nam_compare_47 (lv_at hl 0 rfl) ?_
          exact z_iret C hr hlk hP hD hS (by omega) (by omega) ⟨by rw [← hI, cmpB_at (by omega) (by omega), if_neg c_44], rfl⟩ d_Nam_compare_49
  refine lv_iload_n hx hb d_Nam_compare_0 rfl (lv_at hl 2 rfl) ?_
  refine lv_iload hx hb d_Nam_compare_1 (lv_at hl 5 rfl) ?_
  refine va_mmin hx hb (by rw [C.1.2.2.1]; exact hl.1.symm) C.1.2.2.2.1 (C.ts k_319 rfl) (C.ts k_320 rfl) (C.ts k_17 rfl) (C.ts k_321 rfl) (by decide) (by decide) (by show _ ≤ 0; omega) (by show _ ≤ 0; omega) d_Nam_compare_3 ?_
  refine z_topi (zn_min (by omega) (by omega)) ?_
  refine lv_istore (lv' := [(6, .int (nI (min la lb))), (0, .ref qa), (1, .int (nI fa)), (2, .int (nI la)), (3, .ref qb), (4, .int (nI fb)), (5, .int (nI lb))]) hx hb d_Nam_compare_6 hl (by decide) rfl (fun ls hl => ?_)
  refine lv_iconst (v := nI 0) hx hb d_Nam_compare_8 (by decide) ?_
  refine lv_istore (lv' := [(7, .int (nI 0)), (6, .int (nI (min la lb))), (0, .ref qa), (1, .int (nI fa)), (2, .int (nI la)), (3, .ref qb), (4, .int (nI fb)), (5, .int (nI lb))]) hx hb d_Nam_compare_9 hl (by decide) rfl (fun ls hl => ?_)
  exact L_11 _ 0 (Nat.zero_le _) rfl (Nat.lt_succ_self _) _ _ hP hD hS ls (lv_sub hl [2, 3, 4, 5, 6, 7, 1, 0] rfl)
