set_option maxHeartbeats 4000000 in
set_option maxRecDepth 100000 in
theorem c_Nam_isName (l : Launch) (g : zT) (T : va_W) (q fr ln n : Nat) (f : Nat → UInt8) (hm : (q, zBy g n f) ∈ T) (h1 : fr + ln ≤ n) (h2 : n < 2 ^ 30) : Met l y_Nam_isName (zw y_Nam_isName b_Nam_isName 5 (some .boolean)) (zR 0 0 0 0) (zP g [.ref q, .int (nI fr), .int (nI ln)] (T)) (zQi g (fun r w => r = bI (isNm (zl f fr ln)) ∧ w = T)) 0 0 (zA g) := by
  refine zMet (by decide) (Nat.le_of_ble_eq_true rfl) ?_
  intro p e s m below meth c ls C hr hlk hnm hP hD hl
  have hx := C.1.1
  have hb := C.1.2.1
  have hS : va_S (zA g) s.heap s.heap [] := va_S.rf
  have hl : lv_has ls 5 [(0, .ref q), (1, .int (nI fr)), (2, .int (nI ln))] := hl
  have L_19 : ∀ (nu : Nat) (k : Nat) (_ : k ≤ ln) (_ : ∀ x ∈ zl f fr k, x ≠ 0 ∧ x ≠ 47) (_ : 1 ≤ ln) (_ : ln ≤ 256) (_ : ln - k < nu) (H : Heap) (locs : List Loc), va_P g.1 classes (T) H → va_D (zA g) (T) → va_S (zA g) s.heap H locs → ∀ ls : Array Slot, lv_has ls 5 [(0, .ref q), (1, .int (nI fr)), (2, .int (nI ln)), (3, .int (nI ((zl f fr k).count 46))), (4, .int (nI (fr + k)))] → W p l e (zR 0 0 0 0) s m [.ref q, .int (nI fr), .int (nI ln)].toArray below meth c H locs 0 0 (MQ below (zQi g (fun r w => r = bI (isNm (zl f fr ln)) ∧ w = T)) [.ref q, .int (nI fr), .int (nI ln)].toArray s 0 0 (zA g)) (F0 m 19 ls []) := by
    intro nu
    induction nu with
    | zero => intros; omega
    | succ nu ih =>
      intro k hk hA v1 v2 hmu H locs hP hD hS ls hl
      have hcnt := List.count_le_length (a := (46 : UInt8)) (l := zl f fr k)
      rw [zl_len] at hcnt
      have L_57 : ∀ (d : Nat) (_ : d = (zl f fr (k + 1)).count 46) (_ : ¬ sb (f (fr + k)) = 0) (_ : ¬ sb (f (fr + k)) = nI 47) (_ : k < ln) (H : Heap) (locs : List Loc), va_P g.1 classes (T) H → va_D (zA g) (T) → va_S (zA g) s.heap H locs → ∀ ls : Array Slot, lv_has ls 5 [(0, .ref q), (1, .int (nI fr)), (2, .int (nI ln)), (3, .int (nI d)), (4, .int (nI (fr + k)))] → W p l e (zR 0 0 0 0) s m [.ref q, .int (nI fr), .int (nI ln)].toArray below meth c H locs 0 0 (MQ below (zQi g (fun r w => r = bI (isNm (zl f fr ln)) ∧ w = T)) [.ref q, .int (nI fr), .int (nI ln)].toArray s 0 0 (zA g)) (F0 m 57 ls []) := by
        intro d hd c_31 c_40 hkl H locs hP hD hS ls hl
        refine lv_iinc (v := nI (fr + k + 1)) (lv' := [(4, .int (nI (fr + k + 1))), (0, .ref q), (1, .int (nI fr)), (2, .int (nI ln)), (3, .int (nI d))]) hx hb d_Nam_isName_57 hl (k := 4) rfl (by rw [show Int32.ofInt 1 = nI 1 by decide]; exact nI_add _ _) (by decide) rfl (fun ls hl => ?_)
        refine lv_goto (tgt := 19) hx hb d_Nam_isName_60 (by decide) ?_
        subst hd
        have hA2 : ∀ x ∈ zl f fr (k + 1), x ≠ 0 ∧ x ≠ 47 := fun x hx => by
                  rw [zl_e, List.mem_append, List.mem_singleton] at hx
                  rcases hx with hx | rfl
                  · exact hA x hx
                  · exact ⟨fun z => c_31 (by rw [z]; rfl), fun z => c_40 (by rw [z]; rfl)⟩
        exact ih (k + 1) (by omega) hA2 v1 v2 (by omega) _ _ hP hD hS ls (lv_sub hl [1, 2, 3, 4, 0] rfl)
      refine lv_iload hx hb d_Nam_isName_19 (lv_at hl 4 rfl) ?_
      refine lv_iload_n hx hb d_Nam_isName_21 rfl (lv_at hl 1 rfl) ?_
      refine lv_iload_n hx hb d_Nam_isName_22 rfl (lv_at hl 2 rfl) ?_
      refine z_iadd (v := nI (fr + ln)) C d_Nam_isName_23 (nI_add _ _) ?_
      refine lv_icmp_ge (tgt := 63) hx hb d_Nam_isName_24 (by decide) (fun c_24 => ?_) (fun c_24 => ?_)
      · skip
        have c_24 : (fr + ln) ≤ (fr + k) := (nI_leI (a := fr + ln) (b := fr + k) (by omega) (by omega)).mp c_24
        refine lv_iload_n hx hb d_Nam_isName_63 rfl (lv_at hl 3 rfl) ?_
        refine lv_iload_n hx hb d_Nam_isName_64 rfl (lv_at hl 2 rfl) ?_
        refine lv_icmp_lt (tgt := 73) hx hb d_Nam_isName_65 (by decide) (fun c_65 => ?_) (fun c_65 => ?_)
        · skip
          have c_65 : ((zl f fr k).count 46) < ln := (nI_ltI (a := (zl f fr k).count 46) (b := ln) (by omega) (by omega)).mp c_65
          refine lv_iconst (v := nI 1) hx hb d_Nam_isName_73 (by decide) ?_
          refine lv_goto (tgt := 78) hx hb d_Nam_isName_74 (by decide) ?_
          exact z_zret C hr hlk hP hD hS (by omega) (by omega) (by first | exact Or.inl rfl | exact Or.inr rfl) (by
        obtain rfl : k = ln := by omega
        first | exact ⟨bI_t (by simp only [isNm, zl_len, decide_eq_true_eq]; exact ⟨by omega, by omega, hA, by omega⟩), rfl⟩ | exact ⟨bI_f (by simp only [isNm, zl_len, decide_eq_false_iff_not]; exact fun hq => by have := hq.2.2.2; omega), rfl⟩) d_Nam_isName_78
        · skip
          have c_65 : ¬ ((zl f fr k).count 46) < ln := fun q9 => c_65 ((nI_ltI (a := (zl f fr k).count 46) (b := ln) (by omega) (by omega)).mpr q9)
          refine lv_iload_n hx hb d_Nam_isName_68 rfl (lv_at hl 2 rfl) ?_
          refine lv_iconst (v := nI 2) hx hb d_Nam_isName_69 (by decide) ?_
          refine lv_icmp_le (tgt := 77) hx hb d_Nam_isName_70 (by decide) (fun c_70 => ?_) (fun c_70 => ?_)
          · skip
            have c_70 : ln ≤ 2 := (nI_leI (a := ln) (b := 2) (by omega) (by decide)).mp c_70
            refine lv_iconst (v := nI 0) hx hb d_Nam_isName_77 (by decide) ?_
            exact z_zret C hr hlk hP hD hS (by omega) (by omega) (by first | exact Or.inl rfl | exact Or.inr rfl) (by
        obtain rfl : k = ln := by omega
        first | exact ⟨bI_t (by simp only [isNm, zl_len, decide_eq_true_eq]; exact ⟨by omega, by omega, hA, by omega⟩), rfl⟩ | exact ⟨bI_f (by simp only [isNm, zl_len, decide_eq_false_iff_not]; exact fun hq => by have := hq.2.2.2; omega), rfl⟩) d_Nam_isName_78
          · skip
            have c_70 : ¬ ln ≤ 2 := fun q9 => c_70 ((nI_leI (a := ln) (b := 2) (by omega) (by decide)).mpr q9)
            refine lv_iconst (v := nI 1) hx hb d_Nam_isName_73 (by decide) ?_
            refine lv_goto (tgt := 78) hx hb d_Nam_isName_74 (by decide) ?_
            exact z_zret C hr hlk hP hD hS (by omega) (by omega) (by first | exact Or.inl rfl | exact Or.inr rfl) (by
        obtain rfl : k = ln := by omega
        first | exact ⟨bI_t (by simp only [isNm, zl_len, decide_eq_true_eq]; exact ⟨by omega, by omega, hA, by omega⟩), rfl⟩ | exact ⟨bI_f (by simp only [isNm, zl_len, decide_eq_false_iff_not]; exact fun hq => by have := hq.2.2.2; omega), rfl⟩) d_Nam_isName_78
      · skip
        have c_24 : ¬ (fr + ln) ≤ (fr + k) := fun q9 => c_24 ((nI_leI (a := fr + ln) (b := fr + k) (by omega) (by omega)).mpr q9)
        refine lv_aload_n hx hb d_Nam_isName_27 rfl (lv_at hl 0 rfl) ?_
        refine lv_iload hx hb d_Nam_isName_28 (lv_at hl 4 rfl) ?_
        refine z_bald C hP hm (fr + k) (by omega) (by omega) d_Nam_isName_30 ?_
        refine lv_if_eq (tgt := 43) hx hb d_Nam_isName_31 (by decide) (fun c_31 => ?_) (fun c_31 => ?_)
        · skip
          refine lv_iconst (v := nI 0) hx hb d_Nam_isName_43 (by decide) ?_
          exact z_zret C hr hlk hP hD hS (by omega) (by omega) (by first | exact Or.inl rfl | exact Or.inr rfl) ⟨bI_f (by
        simp only [isNm, zl_len, decide_eq_false_iff_not]
        intro hq
        have h9 := hq.2.2.1 (f (fr + k)) (List.mem_map.mpr ⟨k, List.mem_range.mpr (by omega), rfl⟩)
        first | exact h9.1 ((sb_eq (n := 0) (by decide)).mp c_31) | exact h9.2 ((sb_eq (n := 47) (by decide)).mp c_40)), rfl⟩ d_Nam_isName_44
        · skip
          refine lv_aload_n hx hb d_Nam_isName_34 rfl (lv_at hl 0 rfl) ?_
          refine lv_iload hx hb d_Nam_isName_35 (lv_at hl 4 rfl) ?_
          refine z_bald C hP hm (fr + k) (by omega) (by omega) d_Nam_isName_37 ?_
          refine lv_bipush (v := nI 47) hx hb d_Nam_isName_38 (by decide) ?_
          refine lv_icmp_ne (tgt := 45) hx hb d_Nam_isName_40 (by decide) (fun c_40 => ?_) (fun c_40 => ?_)
          · skip
            refine lv_aload_n hx hb d_Nam_isName_45 rfl (lv_at hl 0 rfl) ?_
            refine lv_iload hx hb d_Nam_isName_46 (lv_at hl 4 rfl) ?_
            refine z_bald C hP hm (fr + k) (by omega) (by omega) d_Nam_isName_48 ?_
            refine lv_bipush (v := nI 46) hx hb d_Nam_isName_49 (by decide) ?_
            refine lv_icmp_ne (tgt := 57) hx hb d_Nam_isName_51 (by decide) (fun c_51 => ?_) (fun c_51 => ?_)
            · skip
              exact L_57 _ (by rw [zl_e, List.count_append, List.count_singleton, if_neg (by simp; exact fun z => c_51 (by rw [z]; rfl))]; rfl) c_31 c_40 (by omega) _ _ hP hD hS ls (lv_sub hl [0, 1, 2, 3, 4] rfl)
            · skip
              refine lv_iinc (v := nI (((zl f fr k).count 46) + 1)) (lv' := [(3, .int (nI (((zl f fr k).count 46) + 1))), (0, .ref q), (1, .int (nI fr)), (2, .int (nI ln)), (4, .int (nI (fr + k)))]) hx hb d_Nam_isName_54 hl (k := 3) rfl (by rw [show Int32.ofInt 1 = nI 1 by decide]; exact nI_add _ _) (by decide) rfl (fun ls hl => ?_)
              exact L_57 _ (by rw [zl_e, List.count_append, List.count_singleton, if_pos (by simp; exact (sb_eq (by decide)).mp c_51)]) c_31 c_40 (by omega) _ _ hP hD hS ls (lv_sub hl [1, 2, 3, 0, 4] rfl)
          · skip
            refine lv_iconst (v := nI 0) hx hb d_Nam_isName_43 (by decide) ?_
            exact z_zret C hr hlk hP hD hS (by omega) (by omega) (by first | exact Or.inl rfl | exact Or.inr rfl) ⟨bI_f (by
        simp only [isNm, zl_len, decide_eq_false_iff_not]
        intro hq
        have h9 := hq.2.2.1 (f (fr + k)) (List.mem_map.mpr ⟨k, List.mem_range.mpr (by omega), rfl⟩)
        first | exact h9.1 ((sb_eq (n := 0) (by decide)).mp c_31) | exact h9.2 ((sb_eq (n := 47) (by decide)).mp c_40)), rfl⟩ d_Nam_isName_44
  refine lv_iload_n hx hb d_Nam_isName_0 rfl (lv_at hl 2 rfl) ?_
  refine lv_iconst (v := nI 1) hx hb d_Nam_isName_1 (by decide) ?_
  refine lv_icmp_lt (tgt := 12) hx hb d_Nam_isName_2 (by decide) (fun c_2 => ?_) (fun c_2 => ?_)
  · skip
    have c_2 : ln < 1 := (nI_ltI (a := ln) (b := 1) (by omega) (by decide)).mp c_2
    refine lv_iconst (v := nI 0) hx hb d_Nam_isName_12 (by decide) ?_
    exact z_zret C hr hlk hP hD hS (by omega) (by omega) (by first | exact Or.inl rfl | exact Or.inr rfl) ⟨bI_f (by simp only [isNm, zl_len, decide_eq_false_iff_not]; omega), rfl⟩ d_Nam_isName_13
  · skip
    have c_2 : ¬ ln < 1 := fun q9 => c_2 ((nI_ltI (a := ln) (b := 1) (by omega) (by decide)).mpr q9)
    refine lv_iload_n hx hb d_Nam_isName_5 rfl (lv_at hl 2 rfl) ?_
    refine lv_sipush (v := nI 256) hx hb d_Nam_isName_6 (by decide) ?_
    refine lv_icmp_le (tgt := 14) hx hb d_Nam_isName_9 (by decide) (fun c_9 => ?_) (fun c_9 => ?_)
    · skip
      have c_9 : ln ≤ 256 := (nI_leI (a := ln) (b := 256) (by omega) (by decide)).mp c_9
      refine lv_iconst (v := nI 0) hx hb d_Nam_isName_14 (by decide) ?_
      refine lv_istore_n (lv' := [(3, .int (nI 0)), (0, .ref q), (1, .int (nI fr)), (2, .int (nI ln))]) hx hb d_Nam_isName_15 rfl hl (by decide) rfl (fun ls hl => ?_)
      refine lv_iload_n hx hb d_Nam_isName_16 rfl (lv_at hl 2 rfl) ?_
      refine lv_istore (lv' := [(4, .int (nI fr)), (3, .int (nI 0)), (0, .ref q), (1, .int (nI fr)), (2, .int (nI ln))]) hx hb d_Nam_isName_17 hl (by decide) rfl (fun ls hl => ?_)
      exact L_19 _ 0 (Nat.zero_le _) (fun x hx => by simp [zl] at hx) (by omega) (by omega) (Nat.lt_succ_self _) _ _ hP hD hS ls (lv_sub hl [2, 3, 4, 1, 0] rfl)
    · skip
      have c_9 : ¬ ln ≤ 256 := fun q9 => c_9 ((nI_leI (a := ln) (b := 256) (by omega) (by decide)).mpr q9)
      refine lv_iconst (v := nI 0) hx hb d_Nam_isName_12 (by decide) ?_
      exact z_zret C hr hlk hP hD hS (by omega) (by omega) (by first | exact Or.inl rfl | exact Or.inr rfl) ⟨bI_f (by simp only [isNm, zl_len, decide_eq_false_iff_not]; omega), rfl⟩ d_Nam_isName_13
set_option maxHeartbeats 4000000 in
set_option maxRecDepth 100000 in
theorem c_Ent_canHave (l : Launch) (g : zT) (T : va_W) (a b c0 d : Int32) : Met l y_Ent_canHave (zw y_Ent_canHave b_Ent_canHave 4 (some .boolean)) (zR 0 0 0 0) (zP g [.int a, .int b, .int c0, .int d] (T)) (zQi g (fun r w => r = bI (canH a.toInt b.toInt c0.toInt d.toInt) ∧ w = T)) 0 0 (zA g) := by
  refine zMet (by decide) (Nat.le_of_ble_eq_true rfl) ?_
  intro p e s m below meth c ls C hr hlk hnm hP hD hl
  have hx := C.1.1
  have hb := C.1.2.1
  have hS : va_S (zA g) s.heap s.heap [] := va_S.rf
  have hl : lv_has ls 4 [(0, .int a), (1, .int b), (2, .int c0), (3, .int d)] := hl
  have r1 := zi_rg a
  have r2 := zi_rg b
  have r3 := zi_rg c0
  have r4 := zi_rg d
  refine lv_iload_n hx hb d_Ent_canHave_0 rfl (lv_at hl 0 rfl) ?_
  refine lv_iconst (v := nI 1) hx hb d_Ent_canHave_1 (by decide) ?_
  refine lv_icmp_lt (tgt := 47) hx hb d_Ent_canHave_2 (by decide) (fun c_2 => ?_) (fun c_2 => ?_)
  · skip
    have c_2 : a.toInt < 1 := (zi_lt (a := a.toInt) (b := 1) (iI_of _) (nI_iI _) (by omega) (by omega) (by omega) (by omega)).mp c_2
    refine lv_iconst (v := nI 0) hx hb d_Ent_canHave_47 (by decide) ?_
    exact z_zret C hr hlk hP hD hS (by omega) (by omega) (by first | exact Or.inl rfl | exact Or.inr rfl) ⟨by first | exact bI_t (by simp only [canH, decide_eq_true_eq]; omega) | exact bI_f (by simp only [canH, decide_eq_false_iff_not]; omega), rfl⟩ d_Ent_canHave_48
  · skip
    have c_2 : ¬ a.toInt < 1 := fun q9 => c_2 ((zi_lt (a := a.toInt) (b := 1) (iI_of _) (nI_iI _) (by omega) (by omega) (by omega) (by omega)).mpr q9)
    refine lv_iload_n hx hb d_Ent_canHave_5 rfl (lv_at hl 0 rfl) ?_
    refine lv_ldc (v := nI 100000) hx hb C.1.2.2.2.1 (C.ts k_287 rfl) d_Ent_canHave_6 ?_
    refine lv_icmp_gt (tgt := 47) hx hb d_Ent_canHave_8 (by decide) (fun c_8 => ?_) (fun c_8 => ?_)
    · skip
      have c_8 : 100000 < a.toInt := (zi_lt (a := 100000) (b := a.toInt) (nI_iI _) (iI_of _) (by omega) (by omega) (by omega) (by omega)).mp c_8
      refine lv_iconst (v := nI 0) hx hb d_Ent_canHave_47 (by decide) ?_
      exact z_zret C hr hlk hP hD hS (by omega) (by omega) (by first | exact Or.inl rfl | exact Or.inr rfl) ⟨by first | exact bI_t (by simp only [canH, decide_eq_true_eq]; omega) | exact bI_f (by simp only [canH, decide_eq_false_iff_not]; omega), rfl⟩ d_Ent_canHave_48
    · skip
      have c_8 : ¬ 100000 < a.toInt := fun q9 => c_8 ((zi_lt (a := 100000) (b := a.toInt) (nI_iI _) (iI_of _) (by omega) (by omega) (by omega) (by omega)).mpr q9)
      refine lv_iload_n hx hb d_Ent_canHave_11 rfl (lv_at hl 1 rfl) ?_
      refine lv_if_lt (tgt := 47) hx hb d_Ent_canHave_12 (by decide) (fun c_12 => ?_) (fun c_12 => ?_)
      · skip
        have c_12 : b.toInt < 0 := (zi_lt (a := b.toInt) (b := 0) (iI_of _) (nI_iI _) (by omega) (by omega) (by omega) (by omega)).mp c_12
        refine lv_iconst (v := nI 0) hx hb d_Ent_canHave_47 (by decide) ?_
        exact z_zret C hr hlk hP hD hS (by omega) (by omega) (by first | exact Or.inl rfl | exact Or.inr rfl) ⟨by first | exact bI_t (by simp only [canH, decide_eq_true_eq]; omega) | exact bI_f (by simp only [canH, decide_eq_false_iff_not]; omega), rfl⟩ d_Ent_canHave_48
      · skip
        have c_12 : ¬ b.toInt < 0 := fun q9 => c_12 ((zi_lt (a := b.toInt) (b := 0) (iI_of _) (nI_iI _) (by omega) (by omega) (by omega) (by omega)).mpr q9)
        refine lv_iload_n hx hb d_Ent_canHave_15 rfl (lv_at hl 1 rfl) ?_
        refine lv_ldc (v := nI 65535) hx hb C.1.2.2.2.1 (C.ts k_288 rfl) d_Ent_canHave_16 ?_
        refine lv_icmp_gt (tgt := 47) hx hb d_Ent_canHave_18 (by decide) (fun c_18 => ?_) (fun c_18 => ?_)
        · skip
          have c_18 : 65535 < b.toInt := (zi_lt (a := 65535) (b := b.toInt) (nI_iI _) (iI_of _) (by omega) (by omega) (by omega) (by omega)).mp c_18
          refine lv_iconst (v := nI 0) hx hb d_Ent_canHave_47 (by decide) ?_
          exact z_zret C hr hlk hP hD hS (by omega) (by omega) (by first | exact Or.inl rfl | exact Or.inr rfl) ⟨by first | exact bI_t (by simp only [canH, decide_eq_true_eq]; omega) | exact bI_f (by simp only [canH, decide_eq_false_iff_not]; omega), rfl⟩ d_Ent_canHave_48
        · skip
          have c_18 : ¬ 65535 < b.toInt := fun q9 => c_18 ((zi_lt (a := 65535) (b := b.toInt) (nI_iI _) (iI_of _) (by omega) (by omega) (by omega) (by omega)).mpr q9)
          refine lv_iload_n hx hb d_Ent_canHave_21 rfl (lv_at hl 2 rfl) ?_
          refine lv_if_lt (tgt := 47) hx hb d_Ent_canHave_22 (by decide) (fun c_22 => ?_) (fun c_22 => ?_)
          · skip
            have c_22 : c0.toInt < 0 := (zi_lt (a := c0.toInt) (b := 0) (iI_of _) (nI_iI _) (by omega) (by omega) (by omega) (by omega)).mp c_22
            refine lv_iconst (v := nI 0) hx hb d_Ent_canHave_47 (by decide) ?_
            exact z_zret C hr hlk hP hD hS (by omega) (by omega) (by first | exact Or.inl rfl | exact Or.inr rfl) ⟨by first | exact bI_t (by simp only [canH, decide_eq_true_eq]; omega) | exact bI_f (by simp only [canH, decide_eq_false_iff_not]; omega), rfl⟩ d_Ent_canHave_48
          · skip
            have c_22 : ¬ c0.toInt < 0 := fun q9 => c_22 ((zi_lt (a := c0.toInt) (b := 0) (iI_of _) (nI_iI _) (by omega) (by omega) (by omega) (by omega)).mpr q9)
            refine lv_iload_n hx hb d_Ent_canHave_25 rfl (lv_at hl 2 rfl) ?_
            refine lv_sipush (v := nI 8191) hx hb d_Ent_canHave_26 (by decide) ?_
            refine lv_icmp_gt (tgt := 47) hx hb d_Ent_canHave_29 (by decide) (fun c_29 => ?_) (fun c_29 => ?_)
            · skip
              have c_29 : 8191 < c0.toInt := (zi_lt (a := 8191) (b := c0.toInt) (nI_iI _) (iI_of _) (by omega) (by omega) (by omega) (by omega)).mp c_29
              refine lv_iconst (v := nI 0) hx hb d_Ent_canHave_47 (by decide) ?_
              exact z_zret C hr hlk hP hD hS (by omega) (by omega) (by first | exact Or.inl rfl | exact Or.inr rfl) ⟨by first | exact bI_t (by simp only [canH, decide_eq_true_eq]; omega) | exact bI_f (by simp only [canH, decide_eq_false_iff_not]; omega), rfl⟩ d_Ent_canHave_48
            · skip
              have c_29 : ¬ 8191 < c0.toInt := fun q9 => c_29 ((zi_lt (a := 8191) (b := c0.toInt) (nI_iI _) (iI_of _) (by omega) (by omega) (by omega) (by omega)).mpr q9)
              refine lv_iload_n hx hb d_Ent_canHave_32 rfl (lv_at hl 3 rfl) ?_
              refine lv_iconst (v := nI 1) hx hb d_Ent_canHave_33 (by decide) ?_
              refine lv_icmp_lt (tgt := 47) hx hb d_Ent_canHave_34 (by decide) (fun c_34 => ?_) (fun c_34 => ?_)
              · skip
                have c_34 : d.toInt < 1 := (zi_lt (a := d.toInt) (b := 1) (iI_of _) (nI_iI _) (by omega) (by omega) (by omega) (by omega)).mp c_34
                refine lv_iconst (v := nI 0) hx hb d_Ent_canHave_47 (by decide) ?_
                exact z_zret C hr hlk hP hD hS (by omega) (by omega) (by first | exact Or.inl rfl | exact Or.inr rfl) ⟨by first | exact bI_t (by simp only [canH, decide_eq_true_eq]; omega) | exact bI_f (by simp only [canH, decide_eq_false_iff_not]; omega), rfl⟩ d_Ent_canHave_48
              · skip
                have c_34 : ¬ d.toInt < 1 := fun q9 => c_34 ((zi_lt (a := d.toInt) (b := 1) (iI_of _) (nI_iI _) (by omega) (by omega) (by omega) (by omega)).mpr q9)
                refine lv_iload_n hx hb d_Ent_canHave_37 rfl (lv_at hl 3 rfl) ?_
                refine lv_bipush (v := nI 7) hx hb d_Ent_canHave_38 (by decide) ?_
                refine lv_icmp_gt (tgt := 47) hx hb d_Ent_canHave_40 (by decide) (fun c_40 => ?_) (fun c_40 => ?_)
                · skip
                  have c_40 : 7 < d.toInt := (zi_lt (a := 7) (b := d.toInt) (nI_iI _) (iI_of _) (by omega) (by omega) (by omega) (by omega)).mp c_40
                  refine lv_iconst (v := nI 0) hx hb d_Ent_canHave_47 (by decide) ?_
                  exact z_zret C hr hlk hP hD hS (by omega) (by omega) (by first | exact Or.inl rfl | exact Or.inr rfl) ⟨by first | exact bI_t (by simp only [canH, decide_eq_true_eq]; omega) | exact bI_f (by simp only [canH, decide_eq_false_iff_not]; omega), rfl⟩ d_Ent_canHave_48
                · skip
                  have c_40 : ¬ 7 < d.toInt := fun q9 => c_40 ((zi_lt (a := 7) (b := d.toInt) (nI_iI _) (iI_of _) (by omega) (by omega) (by omega) (by omega)).mpr q9)
                  refine lv_iconst (v := nI 1) hx hb d_Ent_canHave_43 (by decide) ?_
                  refine lv_goto (tgt := 48) hx hb d_Ent_canHave_44 (by decide) ?_
                  exact z_zret C hr hlk hP hD hS (by omega) (by omega) (by first | exact Or.inl rfl | exact Or.inr rfl) ⟨by first | exact bI_t (by simp only [canH, decide_eq_true_eq]; omega) | exact bI_f (by simp only [canH, decide_eq_false_iff_not]; omega), rfl⟩ d_Ent_canHave_48
set_option maxHeartbeats 4000000 in
set_option maxRecDepth 100000 in
theorem c_Ent_init (l : Launch) (g : zT) (T : va_W) (h nm a b c0 d : Nat) : Met l y_Ent_init (zw y_Ent_init b_Ent_init 6 (none)) (zR 1 20 0 0) (zP g [.ref h, .ref nm, .int (nI a), .int (nI b), .int (nI c0), .int (nI d)] ((h, zo 9 [.null, .int (nI 0), .int (nI 0), .int (nI 0), .int (nI 0)]) :: T)) (zQv g (fun w => w = (h, zo 9 [.ref nm, .int (nI a), .int (nI b), .int (nI c0), .int (nI d)]) :: T)) 0 0 (zA g) := by
  refine zMet (by decide) (Nat.le_of_ble_eq_true rfl) ?_
  intro p e s m below meth c ls C hr hlk hnm hP hD hl
  have hx := C.1.1
  have hb := C.1.2.1
  have hS : va_S (zA g) s.heap s.heap [] := va_S.rf
  have hl : lv_has ls 6 [(0, .ref h), (1, .ref nm), (2, .int (nI a)), (3, .int (nI b)), (4, .int (nI c0)), (5, .int (nI d))] := hl
  refine lv_aload_n hx hb d_Ent_init_0 rfl (lv_at hl 0 rfl) ?_
  refine W.objInit hx hb C.1.2.2.2.1 (C.ts k_364 rfl) (C.ts k_28 rfl) (C.ts k_29 rfl) rfl (by rw [C.1.2.2.1]; exact hl.1) rfl d_Ent_init_1 (Nat.le_of_ble_eq_true rfl) (Nat.le_of_ble_eq_true rfl) ?_
  refine W.eq (g2 := F0 m 4 ls []) rfl ?_
  refine lv_aload_n hx hb d_Ent_init_4 rfl (lv_at hl 0 rfl) ?_
  refine lv_aload_n hx hb d_Ent_init_5 rfl (lv_at hl 1 rfl) ?_
  refine z_putF C hP hD hS hnm 0 rfl q_Ent 0 (by decide) k_365 (fun _ h9 => h9) rfl rfl rfl rfl (Nat.le_of_ble_eq_true rfl) d_Ent_init_6 (ws' := (h, zo 9 [.ref nm, .int (nI 0), .int (nI 0), .int (nI 0), .int (nI 0)]) :: T) rfl (fun H locs hP hD hS => ?_)
  refine lv_aload_n hx hb d_Ent_init_9 rfl (lv_at hl 0 rfl) ?_
  refine lv_iload_n hx hb d_Ent_init_10 rfl (lv_at hl 2 rfl) ?_
  refine z_putF C hP hD hS hnm 0 rfl q_Ent 1 (by decide) k_369 (fun _ h9 => h9) rfl rfl rfl rfl (Nat.le_of_ble_eq_true rfl) d_Ent_init_11 (ws' := (h, zo 9 [.ref nm, .int (nI a), .int (nI 0), .int (nI 0), .int (nI 0)]) :: T) rfl (fun H locs hP hD hS => ?_)
  refine lv_aload_n hx hb d_Ent_init_14 rfl (lv_at hl 0 rfl) ?_
  refine lv_iload_n hx hb d_Ent_init_15 rfl (lv_at hl 3 rfl) ?_
  refine z_putF C hP hD hS hnm 0 rfl q_Ent 2 (by decide) k_373 (fun _ h9 => h9) rfl rfl rfl rfl (Nat.le_of_ble_eq_true rfl) d_Ent_init_16 (ws' := (h, zo 9 [.ref nm, .int (nI a), .int (nI b), .int (nI 0), .int (nI 0)]) :: T) rfl (fun H locs hP hD hS => ?_)
  refine lv_aload_n hx hb d_Ent_init_19 rfl (lv_at hl 0 rfl) ?_
  refine lv_iload hx hb d_Ent_init_20 (lv_at hl 4 rfl) ?_
  refine z_putF C hP hD hS hnm 0 rfl q_Ent 3 (by decide) k_377 (fun _ h9 => h9) rfl rfl rfl rfl (Nat.le_of_ble_eq_true rfl) d_Ent_init_22 (ws' := (h, zo 9 [.ref nm, .int (nI a), .int (nI b), .int (nI c0), .int (nI 0)]) :: T) rfl (fun H locs hP hD hS => ?_)
  refine lv_aload_n hx hb d_Ent_init_25 rfl (lv_at hl 0 rfl) ?_
  refine lv_iload hx hb d_Ent_init_26 (lv_at hl 5 rfl) ?_
  refine z_putF C hP hD hS hnm 0 rfl q_Ent 4 (by decide) k_380 (fun _ h9 => h9) rfl rfl rfl rfl (Nat.le_of_ble_eq_true rfl) d_Ent_init_28 (ws' := (h, zo 9 [.ref nm, .int (nI a), .int (nI b), .int (nI c0), .int (nI d)]) :: T) rfl (fun H locs hP hD hS => ?_)
  exact z_vret C hr hlk hP hD hS (by omega) (by omega) (by simp) d_Ent_init_31
set_option maxHeartbeats 4000000 in
set_option maxRecDepth 100000 in
theorem c_Mark_init (l : Launch) (g : zT) (T : va_W) (h nm : Nat) (a b : Int32) : Met l y_Mark_init (zw y_Mark_init b_Mark_init 4 (none)) (zR 1 20 0 0) (zP g [.ref h, .int a, .int b, .ref nm] ((h, zo 10 [.int (nI 0), .int (nI 0), .null]) :: T)) (zQv g (fun w => w = (h, zo 10 [.int a, .int b, .ref nm]) :: T)) 0 0 (zA g) := by
  refine zMet (by decide) (Nat.le_of_ble_eq_true rfl) ?_
  intro p e s m below meth c ls C hr hlk hnm hP hD hl
  have hx := C.1.1
  have hb := C.1.2.1
  have hS : va_S (zA g) s.heap s.heap [] := va_S.rf
  have hl : lv_has ls 4 [(0, .ref h), (1, .int a), (2, .int b), (3, .ref nm)] := hl
  refine lv_aload_n hx hb d_Mark_init_0 rfl (lv_at hl 0 rfl) ?_
  refine W.objInit hx hb C.1.2.2.2.1 (C.ts k_564 rfl) (C.ts k_28 rfl) (C.ts k_29 rfl) rfl (by rw [C.1.2.2.1]; exact hl.1) rfl d_Mark_init_1 (Nat.le_of_ble_eq_true rfl) (Nat.le_of_ble_eq_true rfl) ?_
  refine W.eq (g2 := F0 m 4 ls []) rfl ?_
  refine lv_aload_n hx hb d_Mark_init_4 rfl (lv_at hl 0 rfl) ?_
  refine lv_iload_n hx hb d_Mark_init_5 rfl (lv_at hl 1 rfl) ?_
  refine z_putF C hP hD hS hnm 0 rfl q_Mark 0 (by decide) k_565 (fun _ h9 => h9) rfl rfl rfl rfl (Nat.le_of_ble_eq_true rfl) d_Mark_init_6 (ws' := (h, zo 10 [.int a, .int (nI 0), .null]) :: T) rfl (fun H locs hP hD hS => ?_)
  refine lv_aload_n hx hb d_Mark_init_9 rfl (lv_at hl 0 rfl) ?_
  refine lv_iload_n hx hb d_Mark_init_10 rfl (lv_at hl 2 rfl) ?_
  refine z_putF C hP hD hS hnm 0 rfl q_Mark 1 (by decide) k_569 (fun _ h9 => h9) rfl rfl rfl rfl (Nat.le_of_ble_eq_true rfl) d_Mark_init_11 (ws' := (h, zo 10 [.int a, .int b, .null]) :: T) rfl (fun H locs hP hD hS => ?_)
  refine lv_aload_n hx hb d_Mark_init_14 rfl (lv_at hl 0 rfl) ?_
  refine lv_aload_n hx hb d_Mark_init_15 rfl (lv_at hl 3 rfl) ?_
  refine z_putF C hP hD hS hnm 0 rfl q_Mark 2 (by decide) k_572 (fun _ h9 => h9) rfl rfl rfl rfl (Nat.le_of_ble_eq_true rfl) d_Mark_init_16 (ws' := (h, zo 10 [.int a, .int b, .ref nm]) :: T) rfl (fun H locs hP hD hS => ?_)
  exact z_vret C hr hlk hP hD hS (by omega) (by omega) rfl d_Mark_init_19
set_option maxHeartbeats 4000000 in
set_option maxRecDepth 100000 in
theorem c_Lay_init (l : Launch) (g : zT) (T : va_W) (h : Nat) : Met l y_Lay_init (zw y_Lay_init b_Lay_init 1 (none)) (zR 1 20 0 0) (zP g [.ref h] (T)) (zQv g (fun w => w = T)) 0 0 (zA g) := by
  refine zMet (by decide) (Nat.le_of_ble_eq_true rfl) ?_
  intro p e s m below meth c ls C hr hlk hnm hP hD hl
  have hx := C.1.1
  have hb := C.1.2.1
  have hS : va_S (zA g) s.heap s.heap [] := va_S.rf
  have hl : lv_has ls 1 [(0, .ref h)] := hl
  refine lv_aload_n hx hb d_Lay_init_0 rfl (lv_at hl 0 rfl) ?_
  refine W.objInit hx hb C.1.2.2.2.1 (C.ts k_108 rfl) (C.ts k_28 rfl) (C.ts k_29 rfl) rfl (by rw [C.1.2.2.1]; exact hl.1) rfl d_Lay_init_1 (Nat.le_of_ble_eq_true rfl) (Nat.le_of_ble_eq_true rfl) ?_
  refine W.eq (g2 := F0 m 4 ls []) rfl ?_
  exact z_vret C hr hlk hP hD hS (by omega) (by omega) rfl d_Lay_init_4
set_option maxHeartbeats 4000000 in
set_option maxRecDepth 100000 in
theorem c_Lay_pieceOf (l : Launch) (g : zT) (T : va_W) (a b : Nat) (h1 : a + b < 2 ^ 31) : Met l y_Lay_pieceOf (zw y_Lay_pieceOf b_Lay_pieceOf 2 (some .int)) (zR 0 0 0 0) (zP g [.int (nI a), .int (nI b)] (T)) (zQi g (fun r w => r = nI ((a + b) / 8192) ∧ w = T)) 0 0 (zA g) := by
  refine zMet (by decide) (Nat.le_of_ble_eq_true rfl) ?_
  intro p e s m below meth c ls C hr hlk hnm hP hD hl
  have hx := C.1.1
  have hb := C.1.2.1
  have hS : va_S (zA g) s.heap s.heap [] := va_S.rf
  have hl : lv_has ls 2 [(0, .int (nI a)), (1, .int (nI b))] := hl
  refine lv_iload_n hx hb d_Lay_pieceOf_0 rfl (lv_at hl 0 rfl) ?_
  refine lv_iload_n hx hb d_Lay_pieceOf_1 rfl (lv_at hl 1 rfl) ?_
  refine z_iadd (v := nI (a + b)) C d_Lay_pieceOf_2 (nI_add _ _) ?_
  refine lv_sipush (v := nI 8192) hx hb d_Lay_pieceOf_3 (by decide) ?_
  refine z_idiv (v := nI ((a + b) / 8192)) C d_Lay_pieceOf_6 (by decide) (pk_div (by omega) (by decide) (by decide)) ?_
  exact z_iret C hr hlk hP hD hS (by omega) (by omega) ⟨rfl, rfl⟩ d_Lay_pieceOf_7
set_option maxHeartbeats 4000000 in
set_option maxRecDepth 100000 in
theorem c_Lay_fitsUnderHeader (l : Launch) (g : zT) (T : va_W) (h b hs en ha hn he ea e0 nm num st pl kd : Nat) (hm1 : (h, zo 6 [.int (nI b), .int (nI hs), .int (nI en), .int (nI ha), .int (nI hn), .int (nI he), .int (nI ea)]) ∈ T) (hm2 : (e0, zo 9 [.ref nm, .int (nI num), .int (nI st), .int (nI pl), .int (nI kd)]) ∈ T) (u1 : b < 2 ^ 20) (u2 : en < 2 ^ 20) (u3 : ha < 2 ^ 20) (u4 : hn < 2 ^ 20) (u5 : num < 2 ^ 20) (u6 : he < 2 ^ 20) (u7 : st < 2 ^ 20) (u8 : hs < 2 ^ 20) : Met l y_Lay_fitsUnderHeader (zw y_Lay_fitsUnderHeader b_Lay_fitsUnderHeader 3 (some .boolean)) (zR 1 21 0 0) (zP g [.ref h, .ref e0] (T)) (zQi g (fun r w => r = bI (layF b hs en ha hn he num st) ∧ w = T)) 0 0 (zA g) := by
  refine zMet (by decide) (Nat.le_of_ble_eq_true rfl) ?_
  intro p e s m below meth c ls C hr hlk hnm hP hD hl
  have hx := C.1.1
  have hb := C.1.2.1
  have hS : va_S (zA g) s.heap s.heap [] := va_S.rf
  have hl : lv_has ls 3 [(0, .ref h), (1, .ref e0)] := hl
  refine lv_aload_n hx hb d_Lay_fitsUnderHeader_0 rfl (lv_at hl 1 rfl) ?_
  refine z_get C hP hm2 q_Ent 1 (by decide) k_371 (fun _ h9 => h9) rfl d_Lay_fitsUnderHeader_1 ?_
  refine lv_aload_n hx hb d_Lay_fitsUnderHeader_4 rfl (lv_at hl 0 rfl) ?_
  refine z_get C hP hm1 q_Lay 4 (by decide) k_115 (fun _ h9 => h9) rfl d_Lay_fitsUnderHeader_5 ?_
  refine z_isub (v := iI ((num : Int) - (hn : Int))) C d_Lay_fitsUnderHeader_8 (nI_sub _ _) ?_
  refine lv_istore_n (lv' := [(2, .int (iI ((num : Int) - (hn : Int)))), (0, .ref h), (1, .ref e0)]) hx hb d_Lay_fitsUnderHeader_9 rfl hl (by decide) rfl (fun ls hl => ?_)
  refine lv_aload_n hx hb d_Lay_fitsUnderHeader_10 rfl (lv_at hl 1 rfl) ?_
  refine z_get C hP hm1 q_Lay 5 (by decide) k_117 (fun _ h9 => h9) rfl d_Lay_fitsUnderHeader_11 ?_
  refine lv_if_le (tgt := 81) hx hb d_Lay_fitsUnderHeader_14 (by decide) (fun c_14 => ?_) (fun c_14 => ?_)
  · skip
    have c_14 : he ≤ 0 := (nI_leI (a := he) (b := 0) (by omega) (by decide)).mp c_14
    refine lv_iconst (v := nI 0) hx hb d_Lay_fitsUnderHeader_81 (by decide) ?_
    exact z_zret C hr hlk hP hD hS (by omega) (by omega) (by first | exact Or.inl rfl | exact Or.inr rfl) ⟨by first | exact bI_t (by simp only [layF, decide_eq_true_eq]; omega) | exact bI_f (by simp only [layF, decide_eq_false_iff_not]; omega), rfl⟩ d_Lay_fitsUnderHeader_82
  · skip
    have c_14 : ¬ he ≤ 0 := fun q9 => c_14 ((nI_leI (a := he) (b := 0) (by omega) (by decide)).mpr q9)
    refine lv_aload_n hx hb d_Lay_fitsUnderHeader_17 rfl (lv_at hl 1 rfl) ?_
    refine z_get C hP hm1 q_Lay 5 (by decide) k_117 (fun _ h9 => h9) rfl d_Lay_fitsUnderHeader_18 ?_
    refine lv_sipush (v := nI 256) hx hb d_Lay_fitsUnderHeader_21 (by decide) ?_
    refine lv_icmp_ge (tgt := 81) hx hb d_Lay_fitsUnderHeader_24 (by decide) (fun c_24 => ?_) (fun c_24 => ?_)
    · skip
      have c_24 : 256 ≤ he := (nI_leI (a := 256) (b := he) (by decide) (by omega)).mp c_24
      refine lv_iconst (v := nI 0) hx hb d_Lay_fitsUnderHeader_81 (by decide) ?_
      exact z_zret C hr hlk hP hD hS (by omega) (by omega) (by first | exact Or.inl rfl | exact Or.inr rfl) ⟨by first | exact bI_t (by simp only [layF, decide_eq_true_eq]; omega) | exact bI_f (by simp only [layF, decide_eq_false_iff_not]; omega), rfl⟩ d_Lay_fitsUnderHeader_82
    · skip
      have c_24 : ¬ 256 ≤ he := fun q9 => c_24 ((nI_leI (a := 256) (b := he) (by decide) (by omega)).mpr q9)
      refine lv_aload_n hx hb d_Lay_fitsUnderHeader_27 rfl (lv_at hl 2 rfl) ?_
      refine z_get C hP hm2 q_Ent 2 (by decide) k_374 (fun _ h9 => h9) rfl d_Lay_fitsUnderHeader_28 ?_
      refine lv_aload_n hx hb d_Lay_fitsUnderHeader_31 rfl (lv_at hl 1 rfl) ?_
      refine z_get C hP hm1 q_Lay 1 (by decide) k_110 (fun _ h9 => h9) rfl d_Lay_fitsUnderHeader_32 ?_
      refine lv_icmp_ne (tgt := 81) hx hb d_Lay_fitsUnderHeader_35 (by decide) (fun c_35 => ?_) (fun c_35 => ?_)
      · skip
        have c_35 : ¬ st = hs := fun q9 => c_35 ((nI_eq (a := st) (b := hs) (by omega) (by omega)).mpr q9)
        refine lv_iconst (v := nI 0) hx hb d_Lay_fitsUnderHeader_81 (by decide) ?_
        exact z_zret C hr hlk hP hD hS (by omega) (by omega) (by first | exact Or.inl rfl | exact Or.inr rfl) ⟨by first | exact bI_t (by simp only [layF, decide_eq_true_eq]; omega) | exact bI_f (by simp only [layF, decide_eq_false_iff_not]; omega), rfl⟩ d_Lay_fitsUnderHeader_82
      · skip
        have c_35 : st = hs := (nI_eq (a := st) (b := hs) (by omega) (by omega)).mp c_35
        refine lv_iload_n hx hb d_Lay_fitsUnderHeader_38 rfl (lv_at hl 0 rfl) ?_
        refine lv_sipush (v := iI (-32768)) hx hb d_Lay_fitsUnderHeader_39 (by decide) ?_
        refine lv_icmp_lt (tgt := 81) hx hb d_Lay_fitsUnderHeader_42 (by decide) (fun c_42 => ?_) (fun c_42 => ?_)
        · skip
          have c_42 : ((num : Int) - (hn : Int)) < (-32768) := (zi_lt (a := (num : Int) - (hn : Int)) (b := -32768) rfl rfl (by omega) (by omega) (by omega) (by omega)).mp c_42
          refine lv_iconst (v := nI 0) hx hb d_Lay_fitsUnderHeader_81 (by decide) ?_
          exact z_zret C hr hlk hP hD hS (by omega) (by omega) (by first | exact Or.inl rfl | exact Or.inr rfl) ⟨by first | exact bI_t (by simp only [layF, decide_eq_true_eq]; omega) | exact bI_f (by simp only [layF, decide_eq_false_iff_not]; omega), rfl⟩ d_Lay_fitsUnderHeader_82
        · skip
          have c_42 : ¬ ((num : Int) - (hn : Int)) < (-32768) := fun q9 => c_42 ((zi_lt (a := (num : Int) - (hn : Int)) (b := -32768) rfl rfl (by omega) (by omega) (by omega) (by omega)).mpr q9)
          refine lv_iload_n hx hb d_Lay_fitsUnderHeader_45 rfl (lv_at hl 0 rfl) ?_
          refine lv_sipush (v := nI 32767) hx hb d_Lay_fitsUnderHeader_46 (by decide) ?_
          refine lv_icmp_gt (tgt := 81) hx hb d_Lay_fitsUnderHeader_49 (by decide) (fun c_49 => ?_) (fun c_49 => ?_)
          · skip
            have c_49 : 32767 < ((num : Int) - (hn : Int)) := (zi_lt (a := 32767) (b := (num : Int) - (hn : Int)) (nI_iI _) rfl (by omega) (by omega) (by omega) (by omega)).mp c_49
            refine lv_iconst (v := nI 0) hx hb d_Lay_fitsUnderHeader_81 (by decide) ?_
            exact z_zret C hr hlk hP hD hS (by omega) (by omega) (by first | exact Or.inl rfl | exact Or.inr rfl) ⟨by first | exact bI_t (by simp only [layF, decide_eq_true_eq]; omega) | exact bI_f (by simp only [layF, decide_eq_false_iff_not]; omega), rfl⟩ d_Lay_fitsUnderHeader_82
          · skip
            have c_49 : ¬ 32767 < ((num : Int) - (hn : Int)) := fun q9 => c_49 ((zi_lt (a := 32767) (b := (num : Int) - (hn : Int)) (nI_iI _) rfl (by omega) (by omega) (by omega) (by omega)).mpr q9)
            refine lv_aload_n hx hb d_Lay_fitsUnderHeader_52 rfl (lv_at hl 1 rfl) ?_
            refine z_get C hP hm1 q_Lay 0 (by decide) k_109 (fun _ h9 => h9) rfl d_Lay_fitsUnderHeader_53 ?_
            refine lv_aload_n hx hb d_Lay_fitsUnderHeader_56 rfl (lv_at hl 1 rfl) ?_
            refine z_get C hP hm1 q_Lay 2 (by decide) k_111 (fun _ h9 => h9) rfl d_Lay_fitsUnderHeader_57 ?_
            refine z_ki (z_runS (np := 2) C (c_Lay_pieceOf l g T b en (by omega)) hP hD hS k_527 k_9 k_525 k_526 ⟨by decide, by decide, by decide⟩ ⟨Nat.le_of_ble_eq_true rfl, Nat.le_of_ble_eq_true rfl⟩ rfl hl.1 rfl (Nat.le_of_ble_eq_true rfl) d_Lay_fitsUnderHeader_60 ⟨by show _ ≤ 0; omega, by show _ ≤ 0; omega⟩) hS (fun r_60 w H locs hw hP hD hS => ?_)
            obtain ⟨rfl, hw⟩ := hw
            rw [hw] at hP hD
            refine lv_aload_n hx hb d_Lay_fitsUnderHeader_63 rfl (lv_at hl 1 rfl) ?_
            refine z_get C hP hm1 q_Lay 0 (by decide) k_109 (fun _ h9 => h9) rfl d_Lay_fitsUnderHeader_64 ?_
            refine lv_aload_n hx hb d_Lay_fitsUnderHeader_67 rfl (lv_at hl 1 rfl) ?_
            refine z_get C hP hm1 q_Lay 3 (by decide) k_113 (fun _ h9 => h9) rfl d_Lay_fitsUnderHeader_68 ?_
            refine z_ki (z_runS (np := 2) C (c_Lay_pieceOf l g T b ha (by omega)) hP hD hS k_527 k_9 k_525 k_526 ⟨by decide, by decide, by decide⟩ ⟨Nat.le_of_ble_eq_true rfl, Nat.le_of_ble_eq_true rfl⟩ rfl hl.1 rfl (Nat.le_of_ble_eq_true rfl) d_Lay_fitsUnderHeader_71 ⟨by show _ ≤ 0; omega, by show _ ≤ 0; omega⟩) hS (fun r_71 w H locs hw hP hD hS => ?_)
            obtain ⟨rfl, hw⟩ := hw
            rw [hw] at hP hD
            refine lv_icmp_ne (tgt := 81) hx hb d_Lay_fitsUnderHeader_74 (by decide) (fun c_74 => ?_) (fun c_74 => ?_)
            · skip
              have c_74 : ¬ ((b + en) / 8192) = ((b + ha) / 8192) := fun q9 => c_74 ((nI_eq (a := (b + en) / 8192) (b := (b + ha) / 8192) (by omega) (by omega)).mpr q9)
              refine lv_iconst (v := nI 0) hx hb d_Lay_fitsUnderHeader_81 (by decide) ?_
              exact z_zret C hr hlk hP hD hS (by omega) (by omega) (by first | exact Or.inl rfl | exact Or.inr rfl) ⟨by first | exact bI_t (by simp only [layF, decide_eq_true_eq]; omega) | exact bI_f (by simp only [layF, decide_eq_false_iff_not]; omega), rfl⟩ d_Lay_fitsUnderHeader_82
            · skip
              have c_74 : ((b + en) / 8192) = ((b + ha) / 8192) := (nI_eq (a := (b + en) / 8192) (b := (b + ha) / 8192) (by omega) (by omega)).mp c_74
              refine lv_iconst (v := nI 1) hx hb d_Lay_fitsUnderHeader_77 (by decide) ?_
              refine lv_goto (tgt := 82) hx hb d_Lay_fitsUnderHeader_78 (by decide) ?_
              exact z_zret C hr hlk hP hD hS (by omega) (by omega) (by first | exact Or.inl rfl | exact Or.inr rfl) ⟨by first | exact bI_t (by simp only [layF, decide_eq_true_eq]; omega) | exact bI_f (by simp only [layF, decide_eq_false_iff_not]; omega), rfl⟩ d_Lay_fitsUnderHeader_82
set_option maxHeartbeats 4000000 in
set_option maxRecDepth 100000 in
theorem c_Lay_openHeader (l : Launch) (g : zT) (T : va_W) (h b hs en ha hn he ea e0 nm num st pl kd : Nat) (hm2 : (e0, zo 9 [.ref nm, .int (nI num), .int (nI st), .int (nI pl), .int (nI kd)]) ∈ T) (u2 : en < 2 ^ 20) : Met l y_Lay_openHeader (zw y_Lay_openHeader b_Lay_openHeader 2 (none)) (zR 0 0 0 0) (zP g [.ref h, .ref e0] ((h, zo 6 [.int (nI b), .int (nI hs), .int (nI en), .int (nI ha), .int (nI hn), .int (nI he), .int (nI ea)]) :: T)) (zQv g (fun w => w = (h, zo 6 [.int (nI b), .int (nI st), .int (nI (en + 12)), .int (nI en), .int (nI num), .int (nI 0), .int (nI ea)]) :: T)) 0 0 (zA g) := by
  refine zMet (by decide) (Nat.le_of_ble_eq_true rfl) ?_
  intro p e s m below meth c ls C hr hlk hnm hP hD hl
  have hx := C.1.1
  have hb := C.1.2.1
  have hS : va_S (zA g) s.heap s.heap [] := va_S.rf
  have hl : lv_has ls 2 [(0, .ref h), (1, .ref e0)] := hl
  refine lv_aload_n hx hb d_Lay_openHeader_0 rfl (lv_at hl 0 rfl) ?_
  refine lv_aload_n hx hb d_Lay_openHeader_1 rfl (lv_at hl 0 rfl) ?_
  refine z_get C hP List.mem_cons_self q_Lay 2 (by decide) k_111 (fun _ h9 => h9) rfl d_Lay_openHeader_2 ?_
  refine z_put C hP hD hS 0 rfl q_Lay 3 (by decide) k_113 (fun _ h9 => h9) rfl rfl rfl (Nat.le_of_ble_eq_true rfl) d_Lay_openHeader_5 (ws' := (h, zo 6 [.int (nI b), .int (nI hs), .int (nI en), .int (nI en), .int (nI hn), .int (nI he), .int (nI ea)]) :: T) rfl (fun H locs hP hD hS => ?_)
  refine lv_aload_n hx hb d_Lay_openHeader_8 rfl (lv_at hl 0 rfl) ?_
  refine lv_aload_n hx hb d_Lay_openHeader_9 rfl (lv_at hl 1 rfl) ?_
  refine z_get C hP (List.mem_cons_of_mem _ hm2) q_Ent 2 (by decide) k_374 (fun _ h9 => h9) rfl d_Lay_openHeader_10 ?_
  refine z_put C hP hD hS 0 rfl q_Lay 1 (by decide) k_110 (fun _ h9 => h9) rfl rfl rfl (Nat.le_of_ble_eq_true rfl) d_Lay_openHeader_13 (ws' := (h, zo 6 [.int (nI b), .int (nI st), .int (nI en), .int (nI en), .int (nI hn), .int (nI he), .int (nI ea)]) :: T) rfl (fun H locs hP hD hS => ?_)
  refine lv_aload_n hx hb d_Lay_openHeader_16 rfl (lv_at hl 0 rfl) ?_
  refine lv_aload_n hx hb d_Lay_openHeader_17 rfl (lv_at hl 1 rfl) ?_
  refine z_get C hP (List.mem_cons_of_mem _ hm2) q_Ent 1 (by decide) k_371 (fun _ h9 => h9) rfl d_Lay_openHeader_18 ?_
  refine z_put C hP hD hS 0 rfl q_Lay 4 (by decide) k_115 (fun _ h9 => h9) rfl rfl rfl (Nat.le_of_ble_eq_true rfl) d_Lay_openHeader_21 (ws' := (h, zo 6 [.int (nI b), .int (nI st), .int (nI en), .int (nI en), .int (nI num), .int (nI he), .int (nI ea)]) :: T) rfl (fun H locs hP hD hS => ?_)
  refine lv_aload_n hx hb d_Lay_openHeader_24 rfl (lv_at hl 0 rfl) ?_
  refine lv_iconst (v := nI 0) hx hb d_Lay_openHeader_25 (by decide) ?_
  refine z_put C hP hD hS 0 rfl q_Lay 5 (by decide) k_117 (fun _ h9 => h9) rfl rfl rfl (Nat.le_of_ble_eq_true rfl) d_Lay_openHeader_26 (ws' := (h, zo 6 [.int (nI b), .int (nI st), .int (nI en), .int (nI en), .int (nI num), .int (nI 0), .int (nI ea)]) :: T) rfl (fun H locs hP hD hS => ?_)
  refine lv_aload_n hx hb d_Lay_openHeader_29 rfl (lv_at hl 0 rfl) ?_
  refine lv_dup hx hb d_Lay_openHeader_30 rfl ?_
  refine z_get C hP List.mem_cons_self q_Lay 2 (by decide) k_111 (fun _ h9 => h9) rfl d_Lay_openHeader_31 ?_
  refine lv_bipush (v := nI 12) hx hb d_Lay_openHeader_34 (by decide) ?_
  refine z_iadd (v := nI (en + 12)) C d_Lay_openHeader_36 (nI_add _ _) ?_
  refine z_put C hP hD hS 0 rfl q_Lay 2 (by decide) k_111 (fun _ h9 => h9) rfl rfl rfl (Nat.le_of_ble_eq_true rfl) d_Lay_openHeader_37 (ws' := (h, zo 6 [.int (nI b), .int (nI st), .int (nI (en + 12)), .int (nI en), .int (nI num), .int (nI 0), .int (nI ea)]) :: T) rfl (fun H locs hP hD hS => ?_)
  exact z_vret C hr hlk hP hD hS (by omega) (by omega) rfl d_Lay_openHeader_40
set_option maxHeartbeats 4000000 in
set_option maxRecDepth 100000 in
theorem c_Lay_lay (l : Launch) (g : zT) (T : va_W) (h b hs en ha hn he ea e0 nm num st pl kd : Nat) (ln : Nat) (nf : Nat → UInt8) (hm2 : (e0, zo 9 [.ref nm, .int (nI num), .int (nI st), .int (nI pl), .int (nI kd)]) ∈ T) (hm3 : (nm, zBy g ln nf) ∈ T) (u9 : ln < 2 ^ 20) (u1 : b < 2 ^ 20) (u2 : en < 2 ^ 20) (u3 : ha < 2 ^ 20) (u4 : hn < 2 ^ 20) (u5 : num < 2 ^ 20) (u6 : he < 2 ^ 20) (u7 : st < 2 ^ 20) (u8 : hs < 2 ^ 20) : Met l y_Lay_lay (zw y_Lay_lay b_Lay_lay 3 (some .boolean)) (zR 2 43 0 0) (zP g [.ref h, .ref e0] ((h, zo 6 [.int (nI b), .int (nI hs), .int (nI en), .int (nI ha), .int (nI hn), .int (nI he), .int (nI ea)]) :: T)) (zQi g (fun r w => r = bI (!layF b hs en ha hn he num st) ∧ w = (h, zo 6 [.int (nI b), .int (nI (if layF b hs en ha hn he num st = true then hs else st)), .int (nI (if layF b hs en ha hn he num st = true then en + (8 + ln) else en + 12 + (8 + ln))), .int (nI (if layF b hs en ha hn he num st = true then ha else en)), .int (nI (if layF b hs en ha hn he num st = true then hn else num)), .int (nI (if layF b hs en ha hn he num st = true then he + 1 else 1)), .int (nI (if layF b hs en ha hn he num st = true then en else en + 12))]) :: T)) 0 0 (zA g) := by
  refine zMet (by decide) (Nat.le_of_ble_eq_true rfl) ?_
  intro p e s m below meth c ls C hr hlk hnm hP hD hl
  have hx := C.1.1
  have hb := C.1.2.1
  have hS : va_S (zA g) s.heap s.heap [] := va_S.rf
  have hl : lv_has ls 3 [(0, .ref h), (1, .ref e0)] := hl
  refine lv_aload_n hx hb d_Lay_lay_0 rfl (lv_at hl 0 rfl) ?_
  refine lv_aload_n hx hb d_Lay_lay_1 rfl (lv_at hl 1 rfl) ?_
  refine z_ki (z_runV (np := 1) C (c_Lay_fitsUnderHeader l g ((h, zo 6 [.int (nI b), .int (nI hs), .int (nI en), .int (nI ha), .int (nI hn), .int (nI he), .int (nI ea)]) :: T) h b hs en ha hn he ea e0 nm num st pl kd List.mem_cons_self (List.mem_cons_of_mem _ hm2) u1 u2 u3 u4 u5 u6 u7 u8) hP hD hS List.mem_cons_self (show classes[6]? = some (R_Lay, F_Lay, 7) from rfl) k_524 k_9 k_521 k_523 ks_Lay_fitsUnderHeader ⟨by decide, by decide, by decide⟩ ⟨Nat.le_of_ble_eq_true rfl, Nat.le_of_ble_eq_true rfl⟩ rfl hl.1 rfl (Nat.le_of_ble_eq_true rfl) d_Lay_lay_2 ⟨by show _ ≤ 0; omega, by show _ ≤ 0; omega⟩) hS (fun r_2 w H locs hw hP hD hS => ?_)
  obtain ⟨rfl, hw⟩ := hw
  rw [hw] at hP hD
  refine lv_if_ne (tgt := 12) hx hb d_Lay_lay_5 (by decide) (fun c_5 => ?_) (fun c_5 => ?_)
  · skip
    have c_5 := bI_ne.mp c_5
    refine lv_iconst (v := nI 0) hx hb d_Lay_lay_12 (by decide) ?_
    refine lv_istore_n (lv' := [(2, .int (nI 0)), (0, .ref h), (1, .ref e0)]) hx hb d_Lay_lay_13 rfl hl (by decide) rfl (fun ls hl => ?_)
    refine lv_iload_n hx hb d_Lay_lay_14 rfl (lv_at hl 0 rfl) ?_
    refine lv_if_eq (tgt := 23) hx hb d_Lay_lay_15 (by decide) (fun c_15 => ?_) (fun c_15 => ?_)
    · skip
      have c_15 : 0 = 0 := (nI_eq (a := 0) (b := 0) (by decide) (by decide)).mp c_15
      refine lv_aload_n hx hb d_Lay_lay_23 rfl (lv_at hl 1 rfl) ?_
      refine lv_dup hx hb d_Lay_lay_24 rfl ?_
      refine z_get C hP List.mem_cons_self q_Lay 5 (by decide) k_117 (fun _ h9 => h9) rfl d_Lay_lay_25 ?_
      refine lv_iconst (v := nI 1) hx hb d_Lay_lay_28 (by decide) ?_
      refine z_iadd (v := nI (he + 1)) C d_Lay_lay_29 (nI_add _ _) ?_
      refine z_put C hP hD hS 0 rfl q_Lay 5 (by decide) k_117 (fun _ h9 => h9) rfl rfl rfl (Nat.le_of_ble_eq_true rfl) d_Lay_lay_30 (ws' := (h, zo 6 [.int (nI b), .int (nI hs), .int (nI en), .int (nI ha), .int (nI hn), .int (nI (he + 1)), .int (nI ea)]) :: T) rfl (fun H locs hP hD hS => ?_)
      refine lv_aload_n hx hb d_Lay_lay_33 rfl (lv_at hl 1 rfl) ?_
      refine lv_aload_n hx hb d_Lay_lay_34 rfl (lv_at hl 1 rfl) ?_
      refine z_get C hP List.mem_cons_self q_Lay 2 (by decide) k_111 (fun _ h9 => h9) rfl d_Lay_lay_35 ?_
      refine z_put C hP hD hS 0 rfl q_Lay 6 (by decide) k_119 (fun _ h9 => h9) rfl rfl rfl (Nat.le_of_ble_eq_true rfl) d_Lay_lay_38 (ws' := (h, zo 6 [.int (nI b), .int (nI hs), .int (nI en), .int (nI ha), .int (nI hn), .int (nI (he + 1)), .int (nI en)]) :: T) rfl (fun H locs hP hD hS => ?_)
      refine lv_aload_n hx hb d_Lay_lay_41 rfl (lv_at hl 1 rfl) ?_
      refine lv_dup hx hb d_Lay_lay_42 rfl ?_
      refine z_get C hP List.mem_cons_self q_Lay 2 (by decide) k_111 (fun _ h9 => h9) rfl d_Lay_lay_43 ?_
      refine lv_bipush (v := nI 8) hx hb d_Lay_lay_46 (by decide) ?_
      refine lv_aload_n hx hb d_Lay_lay_48 rfl (lv_at hl 2 rfl) ?_
      refine z_get C hP (List.mem_cons_of_mem _ hm2) q_Ent 0 (by decide) k_366 (fun _ h9 => h9) rfl d_Lay_lay_49 ?_
      refine z_alenB C hP (List.mem_cons_of_mem _ hm3) d_Lay_lay_52 ?_
      refine z_iadd (v := nI (8 + ln)) C d_Lay_lay_53 (nI_add _ _) ?_
      refine z_iadd (v := nI (en + (8 + ln))) C d_Lay_lay_54 (nI_add _ _) ?_
      refine z_put C hP hD hS 0 rfl q_Lay 2 (by decide) k_111 (fun _ h9 => h9) rfl rfl rfl (Nat.le_of_ble_eq_true rfl) d_Lay_lay_55 (ws' := (h, zo 6 [.int (nI b), .int (nI hs), .int (nI (en + (8 + ln))), .int (nI ha), .int (nI hn), .int (nI (he + 1)), .int (nI en)]) :: T) rfl (fun H locs hP hD hS => ?_)
      refine lv_iload_n hx hb d_Lay_lay_58 rfl (lv_at hl 0 rfl) ?_
      exact z_zret C hr hlk hP hD hS (by omega) (by omega) (by first | exact Or.inl rfl | exact Or.inr rfl) ⟨by rw [c_5]; rfl, by simp only [c_5]; rfl⟩ d_Lay_lay_59
    · skip
      have c_15 : ¬ 0 = 0 := fun q9 => c_15 ((nI_eq (a := 0) (b := 0) (by decide) (by decide)).mpr q9)
      exact absurd c_15 (by omega)
  · skip
    have c_5 := bI_eq.mp c_5
    refine lv_iconst (v := nI 1) hx hb d_Lay_lay_8 (by decide) ?_
    refine lv_goto (tgt := 13) hx hb d_Lay_lay_9 (by decide) ?_
    refine lv_istore_n (lv' := [(2, .int (nI 1)), (0, .ref h), (1, .ref e0)]) hx hb d_Lay_lay_13 rfl hl (by decide) rfl (fun ls hl => ?_)
    refine lv_iload_n hx hb d_Lay_lay_14 rfl (lv_at hl 0 rfl) ?_
    refine lv_if_eq (tgt := 23) hx hb d_Lay_lay_15 (by decide) (fun c_15 => ?_) (fun c_15 => ?_)
    · skip
      have c_15 : 1 = 0 := (nI_eq (a := 1) (b := 0) (by decide) (by decide)).mp c_15
      exact absurd c_15 (by omega)
    · skip
      have c_15 : ¬ 1 = 0 := fun q9 => c_15 ((nI_eq (a := 1) (b := 0) (by decide) (by decide)).mpr q9)
      refine lv_aload_n hx hb d_Lay_lay_18 rfl (lv_at hl 1 rfl) ?_
      refine lv_aload_n hx hb d_Lay_lay_19 rfl (lv_at hl 2 rfl) ?_
      refine z_kv (z_runV (np := 1) C (c_Lay_openHeader l g T h b hs en ha hn he ea e0 nm num st pl kd hm2 u2) hP hD hS List.mem_cons_self (show classes[6]? = some (R_Lay, F_Lay, 7) from rfl) k_531 k_9 k_528 k_530 ks_Lay_openHeader ⟨by decide, by decide, by decide⟩ ⟨Nat.le_of_ble_eq_true rfl, Nat.le_of_ble_eq_true rfl⟩ rfl hl.1 rfl (Nat.le_of_ble_eq_true rfl) d_Lay_lay_20 ⟨by show _ ≤ 0; omega, by show _ ≤ 0; omega⟩) hS (fun w H locs hw hP hD hS => ?_)
      rw [hw] at hP hD
      refine lv_aload_n hx hb d_Lay_lay_23 rfl (lv_at hl 1 rfl) ?_
      refine lv_dup hx hb d_Lay_lay_24 rfl ?_
      refine z_get C hP List.mem_cons_self q_Lay 5 (by decide) k_117 (fun _ h9 => h9) rfl d_Lay_lay_25 ?_
      refine lv_iconst (v := nI 1) hx hb d_Lay_lay_28 (by decide) ?_
      refine z_iadd (v := nI 1) C d_Lay_lay_29 (by decide) ?_
      refine z_put C hP hD hS 0 rfl q_Lay 5 (by decide) k_117 (fun _ h9 => h9) rfl rfl rfl (Nat.le_of_ble_eq_true rfl) d_Lay_lay_30 (ws' := (h, zo 6 [.int (nI b), .int (nI st), .int (nI (en + 12)), .int (nI en), .int (nI num), .int (nI 1), .int (nI ea)]) :: T) rfl (fun H locs hP hD hS => ?_)
      refine lv_aload_n hx hb d_Lay_lay_33 rfl (lv_at hl 1 rfl) ?_
      refine lv_aload_n hx hb d_Lay_lay_34 rfl (lv_at hl 1 rfl) ?_
      refine z_get C hP List.mem_cons_self q_Lay 2 (by decide) k_111 (fun _ h9 => h9) rfl d_Lay_lay_35 ?_
      refine z_put C hP hD hS 0 rfl q_Lay 6 (by decide) k_119 (fun _ h9 => h9) rfl rfl rfl (Nat.le_of_ble_eq_true rfl) d_Lay_lay_38 (ws' := (h, zo 6 [.int (nI b), .int (nI st), .int (nI (en + 12)), .int (nI en), .int (nI num), .int (nI 1), .int (nI (en + 12))]) :: T) rfl (fun H locs hP hD hS => ?_)
      refine lv_aload_n hx hb d_Lay_lay_41 rfl (lv_at hl 1 rfl) ?_
      refine lv_dup hx hb d_Lay_lay_42 rfl ?_
      refine z_get C hP List.mem_cons_self q_Lay 2 (by decide) k_111 (fun _ h9 => h9) rfl d_Lay_lay_43 ?_
      refine lv_bipush (v := nI 8) hx hb d_Lay_lay_46 (by decide) ?_
      refine lv_aload_n hx hb d_Lay_lay_48 rfl (lv_at hl 2 rfl) ?_
      refine z_get C hP (List.mem_cons_of_mem _ hm2) q_Ent 0 (by decide) k_366 (fun _ h9 => h9) rfl d_Lay_lay_49 ?_
      refine z_alenB C hP (List.mem_cons_of_mem _ hm3) d_Lay_lay_52 ?_
      refine z_iadd (v := nI (8 + ln)) C d_Lay_lay_53 (nI_add _ _) ?_
      refine z_iadd (v := nI (en + 12 + (8 + ln))) C d_Lay_lay_54 (nI_add _ _) ?_
      refine z_put C hP hD hS 0 rfl q_Lay 2 (by decide) k_111 (fun _ h9 => h9) rfl rfl rfl (Nat.le_of_ble_eq_true rfl) d_Lay_lay_55 (ws' := (h, zo 6 [.int (nI b), .int (nI st), .int (nI (en + 12 + (8 + ln))), .int (nI en), .int (nI num), .int (nI 1), .int (nI (en + 12))]) :: T) rfl (fun H locs hP hD hS => ?_)
      refine lv_iload_n hx hb d_Lay_lay_58 rfl (lv_at hl 0 rfl) ?_
      exact z_zret C hr hlk hP hD hS (by omega) (by omega) (by first | exact Or.inl rfl | exact Or.inr rfl) ⟨by rw [c_5]; rfl, by simp only [c_5]; rfl⟩ d_Lay_lay_59
set_option maxHeartbeats 4000000 in
set_option maxRecDepth 100000 in
theorem c_Tape_init (l : Launch) (g : zT) (T : va_W) (h : Nat) : Met l y_Tape_init (zw y_Tape_init b_Tape_init 1 (none)) (zR 1 20 1 300) (zP g [.ref h] ((h, zo 1 [.null, .int (nI 0)]) :: T)) (zQv g (fun w => ∃ q, w = (h, zo 1 [.ref q, .int (nI 0)]) :: (q, zBy g 300 (fun _ => 0)) :: T)) 1 300 (zA g) := by
  refine zMet (by decide) (Nat.le_of_ble_eq_true rfl) ?_
  intro p e s m below meth c ls C hr hlk hnm hP hD hl
  have hx := C.1.1
  have hb := C.1.2.1
  have hS : va_S (zA g) s.heap s.heap [] := va_S.rf
  have hl : lv_has ls 1 [(0, .ref h)] := hl
  refine lv_aload_n hx hb d_Tape_init_0 rfl (lv_at hl 0 rfl) ?_
  refine W.objInit hx hb C.1.2.2.2.1 (C.ts k_35 rfl) (C.ts k_28 rfl) (C.ts k_29 rfl) rfl (by rw [C.1.2.2.1]; exact hl.1) rfl d_Tape_init_1 (Nat.le_of_ble_eq_true rfl) (Nat.le_of_ble_eq_true rfl) ?_
  refine W.eq (g2 := F0 m 4 ls []) rfl ?_
  refine lv_aload_n hx hb d_Tape_init_4 rfl (lv_at hl 0 rfl) ?_
  refine lv_sipush (v := nI 300) hx hb d_Tape_init_5 (by decide) ?_
  refine z_newB C hP hD hS k_45 300 (by omega) (by show _ ≤ 1; omega) (by show _ ≤ 300; omega) d_Tape_init_8 (fun q H hP hD hS => ?_)
  refine z_putF C hP hD hS hnm 1 rfl q_Tape 0 (by decide) k_36 (fun _ h9 => h9) rfl rfl rfl rfl (Nat.le_of_ble_eq_true rfl) d_Tape_init_10 (ws' := (q, zBy g 300 (fun _ => 0)) :: (h, zo 1 [.ref q, .int (nI 0)]) :: T) rfl (fun H locs hP hD hS => ?_)
  refine lv_aload_n hx hb d_Tape_init_13 rfl (lv_at hl 0 rfl) ?_
  refine lv_iconst (v := nI 0) hx hb d_Tape_init_14 (by decide) ?_
  refine z_put C hP hD hS 1 rfl q_Tape 1 (by decide) k_38 (fun _ h9 => h9) rfl rfl rfl (Nat.le_of_ble_eq_true rfl) d_Tape_init_15 (ws' := (q, zBy g 300 (fun _ => 0)) :: (h, zo 1 [.ref q, .int (nI 0)]) :: T) rfl (fun H locs hP hD hS => ?_)
  exact z_vret C hr hlk (z_Pq (z_bk (bs := [[(q, zBy g 300 (fun _ => 0))], [(h, zo 1 [.ref q, .int (nI 0)])], T]) (bs' := [[(h, zo 1 [.ref q, .int (nI 0)])], [(q, zBy g 300 (fun _ => 0))], T]) [1, 0, 2] rfl (by decide) rfl) hP) (z_Dq (z_bk (bs := [[(q, zBy g 300 (fun _ => 0))], [(h, zo 1 [.ref q, .int (nI 0)])], T]) (bs' := [[(h, zo 1 [.ref q, .int (nI 0)])], [(q, zBy g 300 (fun _ => 0))], T]) [1, 0, 2] rfl (by decide) rfl) hD) hS (by omega) (by omega) ⟨_, rfl⟩ d_Tape_init_18
set_option maxHeartbeats 4000000 in
set_option maxRecDepth 100000 in
theorem c_Tape_append (l : Launch) (g : zT) (T : va_W) (h q ln n : Nat) (b : Int64) (f : Nat → UInt8) (h1 : ln ≤ 300) (h2 : n ≤ 8) : Met l y_Tape_append (zw y_Tape_append b_Tape_append 5 (some .boolean)) (zR 0 0 0 0) (zP g [.ref h, .long b, .int (nI n)] ((h, zo 1 [.ref q, .int (nI ln)]) :: (q, zBy g 300 f) :: T)) (zQi g (fun r w => (300 < ln + n → r = nI 0 ∧ w = (h, zo 1 [.ref q, .int (nI ln)]) :: (q, zBy g 300 f) :: T) ∧ (ln + n ≤ 300 → r = nI 1 ∧ ∃ f2, w = (h, zo 1 [.ref q, .int (nI (ln + n))]) :: (q, zBy g 300 f2) :: T ∧ zl f2 0 (ln + n) = zl f 0 ln ++ (List.range n).map (fB b)))) 0 0 (zA g) := by
  refine zMet (by decide) (Nat.le_of_ble_eq_true rfl) ?_
  intro p e s m below meth c ls C hr hlk hnm hP hD hl
  have hx := C.1.1
  have hb := C.1.2.1
  have hS : va_S (zA g) s.heap s.heap [] := va_S.rf
  have hl : lv_has ls 5 [(0, .ref h), (1, .long b), (3, .int (nI n))] := hl
  have L_17 : ∀ (nu : Nat) (i : Nat) (f2 : Nat → UInt8) (_ : i ≤ n) (_ : ∀ j, j < ln → f2 j = f j) (_ : ∀ j, j < i → f2 (ln + j) = fB b j) (_ : ln + n ≤ 300) (_ : n - i < nu) (H : Heap) (locs : List Loc), va_P g.1 classes ((h, zo 1 [.ref q, .int (nI ln)]) :: (q, zBy g 300 f2) :: T) H → va_D (zA g) ((h, zo 1 [.ref q, .int (nI ln)]) :: (q, zBy g 300 f2) :: T) → va_S (zA g) s.heap H locs → ∀ ls : Array Slot, lv_has ls 5 [(0, .ref h), (1, .long b), (3, .int (nI n)), (4, .int (nI i))] → W p l e (zR 0 0 0 0) s m [.ref h, .long b, .int (nI n)].toArray below meth c H locs 0 0 (MQ below (zQi g (fun r w => (300 < ln + n → r = nI 0 ∧ w = (h, zo 1 [.ref q, .int (nI ln)]) :: (q, zBy g 300 f) :: T) ∧ (ln + n ≤ 300 → r = nI 1 ∧ ∃ f2, w = (h, zo 1 [.ref q, .int (nI (ln + n))]) :: (q, zBy g 300 f2) :: T ∧ zl f2 0 (ln + n) = zl f 0 ln ++ (List.range n).map (fB b)))) [.ref h, .long b, .int (nI n)].toArray s 0 0 (zA g)) (F0 m 17 ls []) := by
    intro nu
    induction nu with
    | zero => intros; omega
    | succ nu ih =>
      intro i f2 hi g1 g2 v1 hmu H locs hP hD hS ls hl
      refine lv_iload hx hb d_Tape_append_17 (lv_at hl 3 rfl) ?_
      refine lv_iload_n hx hb d_Tape_append_19 rfl (lv_at hl 2 rfl) ?_
      refine lv_icmp_ge (tgt := 50) hx hb d_Tape_append_20 (by decide) (fun c_20 => ?_) (fun c_20 => ?_)
      · skip
        have c_20 : n ≤ i := (nI_leI (a := n) (b := i) (by omega) (by omega)).mp c_20
        refine lv_aload_n hx hb d_Tape_append_50 rfl (lv_at hl 0 rfl) ?_
        refine lv_dup hx hb d_Tape_append_51 rfl ?_
        refine z_get C hP List.mem_cons_self q_Tape 1 (by decide) k_38 (fun _ h9 => h9) rfl d_Tape_append_52 ?_
        refine lv_iload_n hx hb d_Tape_append_55 rfl (lv_at hl 2 rfl) ?_
        refine z_iadd (v := nI (ln + n)) C d_Tape_append_56 (nI_add _ _) ?_
        refine z_put C hP hD hS 0 rfl q_Tape 1 (by decide) k_38 (fun _ h9 => h9) rfl rfl rfl (Nat.le_of_ble_eq_true rfl) d_Tape_append_57 (ws' := (h, zo 1 [.ref q, .int (nI (ln + n))]) :: (q, zBy g 300 f2) :: T) rfl (fun H locs hP hD hS => ?_)
        refine lv_iconst (v := nI 1) hx hb d_Tape_append_60 (by decide) ?_
        exact z_zret C hr hlk hP hD hS (by omega) (by omega) (by first | exact Or.inl rfl | exact Or.inr rfl) ⟨fun q9 => absurd q9 (by omega), fun _ => ⟨rfl, _, rfl, by rw [show n = i by omega]; exact zl_fed g1 g2⟩⟩ d_Tape_append_61
      · skip
        have c_20 : ¬ n ≤ i := fun q9 => c_20 ((nI_leI (a := n) (b := i) (by omega) (by omega)).mpr q9)
        refine lv_aload_n hx hb d_Tape_append_23 rfl (lv_at hl 0 rfl) ?_
        refine z_get C hP List.mem_cons_self q_Tape 0 (by decide) k_36 (fun _ h9 => h9) rfl d_Tape_append_24 ?_
        refine lv_aload_n hx hb d_Tape_append_27 rfl (lv_at hl 0 rfl) ?_
        refine z_get C hP List.mem_cons_self q_Tape 1 (by decide) k_38 (fun _ h9 => h9) rfl d_Tape_append_28 ?_
        refine lv_iload hx hb d_Tape_append_31 (lv_at hl 3 rfl) ?_
        refine z_iadd (v := nI (ln + i)) C d_Tape_append_33 (nI_add _ _) ?_
        refine lv_lload_n hx hb d_Tape_append_34 rfl (lv_at hl 1 rfl) ?_
        refine lv_bipush (v := nI 8) hx hb d_Tape_append_35 (by decide) ?_
        refine lv_iload hx hb d_Tape_append_37 (lv_at hl 3 rfl) ?_
        refine z_imul (v := nI (8 * i)) C d_Tape_append_39 (pk_mul _ _) ?_
        refine lv_lshr (v := b >>> ((nI (8 * i)).toInt64 &&& 63)) hx hb d_Tape_append_40 rfl ?_
        refine lv_l2i (v := (b >>> ((nI (8 * i)).toInt64 &&& 63)).toInt32) hx hb d_Tape_append_41 rfl ?_
        refine lv_i2b (v := sb (zu ((b >>> ((nI (8 * i)).toInt64 &&& 63)).toInt32))) hx hb d_Tape_append_42 (sb_zu _).symm ?_
        refine z_bast C hP hD hS 1 rfl (ln + i) (by omega) (by omega) d_Tape_append_43 (ws' := (h, zo 1 [.ref q, .int (nI ln)]) :: (q, zBy g 300 (uB f2 (ln + i) (zu ((b >>> ((nI (8 * i)).toInt64 &&& 63)).toInt32)))) :: T) rfl (fun H locs hP hD hS => ?_)
        refine lv_iinc (v := nI (i + 1)) (lv' := [(4, .int (nI (i + 1))), (0, .ref h), (1, .long b), (3, .int (nI n))]) hx hb d_Tape_append_44 hl (k := 3) rfl (by rw [show Int32.ofInt 1 = nI 1 by decide]; exact nI_add _ _) (by decide) rfl (fun ls hl => ?_)
        refine lv_goto (tgt := 17) hx hb d_Tape_append_47 (by decide) ?_
        exact ih (i + 1) _ (by omega) (fun j hj => by rw [uB_n (by omega)]; exact g1 j hj) (fun j hj => by
            by_cases q9 : j = i
            · rw [q9, uB_s]; rfl
            · rw [uB_n (by omega)]; exact g2 j (by omega)) v1 (by omega) _ _ hP hD hS ls (lv_sub hl [1, 2, 3, 0] rfl)
  refine lv_aload_n hx hb d_Tape_append_0 rfl (lv_at hl 0 rfl) ?_
  refine z_get C hP List.mem_cons_self q_Tape 1 (by decide) k_38 (fun _ h9 => h9) rfl d_Tape_append_1 ?_
  refine lv_iload_n hx hb d_Tape_append_4 rfl (lv_at hl 2 rfl) ?_
  refine z_iadd (v := nI (ln + n)) C d_Tape_append_5 (nI_add _ _) ?_
  refine lv_sipush (v := nI 300) hx hb d_Tape_append_6 (by decide) ?_
  refine lv_icmp_le (tgt := 14) hx hb d_Tape_append_9 (by decide) (fun c_9 => ?_) (fun c_9 => ?_)
  · skip
    have c_9 : (ln + n) ≤ 300 := (nI_leI (a := ln + n) (b := 300) (by omega) (by decide)).mp c_9
    refine lv_iconst (v := nI 0) hx hb d_Tape_append_14 (by decide) ?_
    refine lv_istore (lv' := [(4, .int (nI 0)), (0, .ref h), (1, .long b), (3, .int (nI n))]) hx hb d_Tape_append_15 hl (by decide) rfl (fun ls hl => ?_)
    exact L_17 _ 0 f (Nat.zero_le _) (fun _ _ => rfl) (fun _ q9 => absurd q9 (Nat.not_lt_zero _)) (by omega) (Nat.lt_succ_self _) _ _ hP hD hS ls (lv_sub hl [1, 2, 3, 0] rfl)
  · skip
    have c_9 : ¬ (ln + n) ≤ 300 := fun q9 => c_9 ((nI_leI (a := ln + n) (b := 300) (by omega) (by decide)).mpr q9)
    refine lv_iconst (v := nI 0) hx hb d_Tape_append_12 (by decide) ?_
    exact z_zret C hr hlk hP hD hS (by omega) (by omega) (by first | exact Or.inl rfl | exact Or.inr rfl) ⟨fun _ => ⟨rfl, rfl⟩, fun q9 => absurd q9 (by omega)⟩ d_Tape_append_13
