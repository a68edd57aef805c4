set_option maxHeartbeats 4000000 in
set_option maxRecDepth 100000 in
theorem c_Walk_goTo (l : Launch) (g : zT) (T : va_W) (k h en lf hn ha st pl kd na nl : Nat) (fi : Int32) (z : Int) (i : Nat) : Met l y_Walk_goTo (zw y_Walk_goTo b_Walk_goTo 2 (none)) (zR 0 0 0 0) (zP g [.ref k, .int (nI i)] ((k, zo 7 [.ref h, .int (nI en), .int (nI lf), .long (lN hn), .int (nI ha), .int fi, .long (lI z), .long (lN st), .int (nI pl), .int (nI kd), .int (nI na), .int (nI nl)]) :: T)) (zQv g (fun w => w = (k, zo 7 [.ref h, .int (nI i), .int (nI 0), .long (lN hn), .int (nI ha), .int fi, .long (lI z), .long (lN st), .int (nI pl), .int (nI kd), .int (nI na), .int (nI nl)]) :: T)) 0 0 (zA g) := by
  refine zMet (by decide) (Nat.le_of_ble_eq_true rfl) ?_
  intro p e s m below meth c ls C hr hlk hnm hP hD hl
  have hx := C.1.1
  have hb := C.1.2.1
  have hS : va_S (zA g) s.heap s.heap [] := va_S.rf
  have hl : lv_has ls 2 [(0, .ref k), (1, .int (nI i))] := hl
  refine lv_aload_n hx hb d_Walk_goTo_0 rfl (lv_at hl 0 rfl) ?_
  refine lv_iload_n hx hb d_Walk_goTo_1 rfl (lv_at hl 1 rfl) ?_
  refine z_put C hP hD hS 0 rfl q_Walk 1 (by decide) k_172 (fun _ h9 => h9) rfl rfl rfl (Nat.le_of_ble_eq_true rfl) d_Walk_goTo_2 (ws' := (k, zo 7 [.ref h, .int (nI i), .int (nI lf), .long (lN hn), .int (nI ha), .int fi, .long (lI z), .long (lN st), .int (nI pl), .int (nI kd), .int (nI na), .int (nI nl)]) :: T) rfl (fun H locs hP hD hS => ?_)
  refine lv_aload_n hx hb d_Walk_goTo_5 rfl (lv_at hl 0 rfl) ?_
  refine lv_iconst (v := nI 0) hx hb d_Walk_goTo_6 (by decide) ?_
  refine z_put C hP hD hS 0 rfl q_Walk 2 (by decide) k_173 (fun _ h9 => h9) rfl rfl rfl (Nat.le_of_ble_eq_true rfl) d_Walk_goTo_7 (ws' := (k, zo 7 [.ref h, .int (nI i), .int (nI 0), .long (lN hn), .int (nI ha), .int fi, .long (lI z), .long (lN st), .int (nI pl), .int (nI kd), .int (nI na), .int (nI nl)]) :: T) rfl (fun H locs hP hD hS => ?_)
  exact z_vret C hr hlk hP hD hS (by omega) (by omega) rfl d_Walk_goTo_10
set_option maxHeartbeats 4000000 in
set_option maxRecDepth 100000 in
theorem c_Walk_isAtEnd (l : Launch) (g : zT) (T : va_W) (k h en lf hn ha st pl kd na nl : Nat) (fi : Int32) (z : Int) (rw len hd bg mk ly rn : Nat) (rf : Nat → UInt8) (hh : (h, zo 5 [.ref rw, .int (nI len), .int (nI hd), .int (nI bg), .ref mk, .ref ly]) ∈ T) (hrw : (rw, zBy g rn rf) ∈ T) (v1 : len ≤ rn) (v2 : rn ≤ 65536) (u1 : (k, zo 7 [.ref h, .int (nI en), .int (nI lf), .long (lN hn), .int (nI ha), .int fi, .long (lI z), .long (lN st), .int (nI pl), .int (nI kd), .int (nI na), .int (nI nl)]) ∈ T) (u2 : lf < 2 ^ 20) (u3 : en < 2 ^ 20) : Met l y_Walk_isAtEnd (zw y_Walk_isAtEnd b_Walk_isAtEnd 1 (some .boolean)) (zR 0 0 0 0) (zP g [.ref k] (T)) (zQi g (fun r w => r = bI (decide (lf = 0 ∧ en = len)) ∧ w = T)) 0 0 (zA g) := by
  refine zMet (by decide) (Nat.le_of_ble_eq_true rfl) ?_
  intro p e s m below meth c ls C hr hlk hnm hP hD hl
  have hx := C.1.1
  have hb := C.1.2.1
  have hS : va_S (zA g) s.heap s.heap [] := va_S.rf
  have hl : lv_has ls 1 [(0, .ref k)] := hl
  refine lv_aload_n hx hb d_Walk_isAtEnd_0 rfl (lv_at hl 0 rfl) ?_
  refine z_get C hP u1 q_Walk 2 (by decide) k_173 (fun _ h9 => h9) rfl d_Walk_isAtEnd_1 ?_
  refine lv_if_ne (tgt := 25) hx hb d_Walk_isAtEnd_4 (by decide) (fun c_4 => ?_) (fun c_4 => ?_)
  · skip
    have c_4 : ¬ lf = 0 := fun q9 => c_4 ((nI_eq (a := lf) (b := 0) (by omega) (by decide)).mpr q9)
    refine lv_iconst (v := nI 0) hx hb d_Walk_isAtEnd_25 (by decide) ?_
    exact z_zret C hr hlk hP hD hS (by omega) (by omega) (by first | exact Or.inl rfl | exact Or.inr rfl) ⟨by first | exact bI_t (decide_eq_true (by omega)) | exact bI_f (decide_eq_false (by omega)), rfl⟩ d_Walk_isAtEnd_26
  · skip
    have c_4 : lf = 0 := (nI_eq (a := lf) (b := 0) (by omega) (by decide)).mp c_4
    refine lv_aload_n hx hb d_Walk_isAtEnd_7 rfl (lv_at hl 0 rfl) ?_
    refine z_get C hP u1 q_Walk 1 (by decide) k_172 (fun _ h9 => h9) rfl d_Walk_isAtEnd_8 ?_
    refine lv_aload_n hx hb d_Walk_isAtEnd_11 rfl (lv_at hl 0 rfl) ?_
    refine z_get C hP u1 q_Walk 0 (by decide) k_171 (fun _ h9 => h9) rfl d_Walk_isAtEnd_12 ?_
    refine z_get C hP hh q_Lst 1 (by decide) k_141 (fun _ h9 => h9) rfl d_Walk_isAtEnd_15 ?_
    refine lv_icmp_ne (tgt := 25) hx hb d_Walk_isAtEnd_18 (by decide) (fun c_18 => ?_) (fun c_18 => ?_)
    · skip
      have c_18 : ¬ en = len := fun q9 => c_18 ((nI_eq (a := en) (b := len) (by omega) (by omega)).mpr q9)
      refine lv_iconst (v := nI 0) hx hb d_Walk_isAtEnd_25 (by decide) ?_
      exact z_zret C hr hlk hP hD hS (by omega) (by omega) (by first | exact Or.inl rfl | exact Or.inr rfl) ⟨by first | exact bI_t (decide_eq_true (by omega)) | exact bI_f (decide_eq_false (by omega)), rfl⟩ d_Walk_isAtEnd_26
    · skip
      have c_18 : en = len := (nI_eq (a := en) (b := len) (by omega) (by omega)).mp c_18
      refine lv_iconst (v := nI 1) hx hb d_Walk_isAtEnd_21 (by decide) ?_
      refine lv_goto (tgt := 26) hx hb d_Walk_isAtEnd_22 (by decide) ?_
      exact z_zret C hr hlk hP hD hS (by omega) (by omega) (by first | exact Or.inl rfl | exact Or.inr rfl) ⟨by first | exact bI_t (decide_eq_true (by omega)) | exact bI_f (decide_eq_false (by omega)), rfl⟩ d_Walk_isAtEnd_26
set_option maxHeartbeats 4000000 in
set_option maxRecDepth 100000 in
theorem c_Walk_readHeader (l : Launch) (g : zT) (T : va_W) (k h en lf hn ha st pl kd na nl : Nat) (fi : Int32) (z : Int) (rw len hd bg mk ly rn : Nat) (rf : Nat → UInt8) (hh : (h, zo 5 [.ref rw, .int (nI len), .int (nI hd), .int (nI bg), .ref mk, .ref ly]) ∈ T) (hrw : (rw, zBy g rn rf) ∈ T) (v1 : len ≤ rn) (v2 : rn ≤ 65536) (u1 : en ≤ len) : Met l y_Walk_readHeader (zw y_Walk_readHeader b_Walk_readHeader 1 (some .boolean)) (zR 2 42 0 0) (zP g [.ref k] ((k, zo 7 [.ref h, .int (nI en), .int (nI lf), .long (lN hn), .int (nI ha), .int fi, .long (lI z), .long (lN st), .int (nI pl), .int (nI kd), .int (nI na), .int (nI nl)]) :: T)) (zQi g (fun r w => (en + 12 ≤ len ∧ U4 rf len en < 256 → r = nI 1 ∧ w = (k, zo 7 [.ref h, .int (nI (en + 12)), .int (nI (U4 rf len en + 1)), .long (lN (U4 rf len (en + 8))), .int (nI en), .int fi, .long (lI z), .long (lN (U4 rf len (en + 4))), .int (nI pl), .int (nI kd), .int (nI na), .int (nI nl)]) :: T) ∧ (¬ (en + 12 ≤ len ∧ U4 rf len en < 256) → r = nI 0 ∧ w = (k, zo 7 [.ref h, .int (nI en), .int (nI lf), .long (lN hn), .int (nI ha), .int fi, .long (lI z), .long (lN st), .int (nI pl), .int (nI kd), .int (nI na), .int (nI nl)]) :: T))) 0 0 (zA g) := by
  refine zMet (by decide) (Nat.le_of_ble_eq_true rfl) ?_
  intro p e s m below meth c ls C hr hlk hnm hP hD hl
  have hx := C.1.1
  have hb := C.1.2.1
  have hS : va_S (zA g) s.heap s.heap [] := va_S.rf
  have hl : lv_has ls 1 [(0, .ref k)] := hl
  refine lv_aload_n hx hb d_Walk_readHeader_0 rfl (lv_at hl 0 rfl) ?_
  refine z_get C hP List.mem_cons_self q_Walk 0 (by decide) k_171 (fun _ h9 => h9) rfl d_Walk_readHeader_1 ?_
  refine z_get C hP (List.mem_cons_of_mem _ hh) q_Lst 1 (by decide) k_141 (fun _ h9 => h9) rfl d_Walk_readHeader_4 ?_
  refine lv_aload_n hx hb d_Walk_readHeader_7 rfl (lv_at hl 0 rfl) ?_
  refine z_get C hP List.mem_cons_self q_Walk 1 (by decide) k_172 (fun _ h9 => h9) rfl d_Walk_readHeader_8 ?_
  refine z_isub (v := nI (len - en)) C d_Walk_readHeader_11 (pk_sub (by omega)) ?_
  refine lv_bipush (v := nI 12) hx hb d_Walk_readHeader_12 (by decide) ?_
  refine lv_icmp_lt (tgt := 35) hx hb d_Walk_readHeader_14 (by decide) (fun c_14 => ?_) (fun c_14 => ?_)
  · skip
    have c_14 : (len - en) < 12 := (nI_ltI (a := len - en) (b := 12) (by omega) (by decide)).mp c_14
    refine lv_iconst (v := nI 0) hx hb d_Walk_readHeader_35 (by decide) ?_
    exact z_zret C hr hlk hP hD hS (by omega) (by omega) (by first | exact Or.inl rfl | exact Or.inr rfl) ⟨fun q9 => absurd q9 (by omega), fun _ => ⟨rfl, rfl⟩⟩ d_Walk_readHeader_36
  · skip
    have c_14 : ¬ (len - en) < 12 := fun q9 => c_14 ((nI_ltI (a := len - en) (b := 12) (by omega) (by decide)).mpr q9)
    refine lv_aload_n hx hb d_Walk_readHeader_17 rfl (lv_at hl 0 rfl) ?_
    refine z_get C hP List.mem_cons_self q_Walk 0 (by decide) k_171 (fun _ h9 => h9) rfl d_Walk_readHeader_18 ?_
    refine lv_aload_n hx hb d_Walk_readHeader_21 rfl (lv_at hl 0 rfl) ?_
    refine z_get C hP List.mem_cons_self q_Walk 1 (by decide) k_172 (fun _ h9 => h9) rfl d_Walk_readHeader_22 ?_
    refine z_kl (z_runV (np := 1) C (c_Lst_u4 l g ((k, zo 7 [.ref h, .int (nI en), .int (nI lf), .long (lN hn), .int (nI ha), .int fi, .long (lI z), .long (lN st), .int (nI pl), .int (nI kd), .int (nI na), .int (nI nl)]) :: T) h rw len hd bg mk ly rn rf (List.mem_cons_of_mem _ hh) (List.mem_cons_of_mem _ hrw) v1 v2 (en) (by omega)) hP hD hS (List.mem_cons_of_mem _ hh) (show classes[5]? = some (R_Lst, F_Lst, 6) from rfl) k_661 k_8 k_658 k_659 k_660 ⟨by decide, by decide, by decide⟩ ⟨Nat.le_of_ble_eq_true rfl, Nat.le_of_ble_eq_true rfl⟩ rfl hl.1 rfl (Nat.le_of_ble_eq_true rfl) d_Walk_readHeader_25 ⟨by show _ ≤ 0; omega, by show _ ≤ 0; omega⟩) hS (fun r_25 w H locs hw hP hD hS => ?_)
    obtain ⟨rfl, hw⟩ := hw
    rw [hw] at hP hD
    have u4_490 := U4_lt rf len (en)
    refine lv_ldc2 hx hb C.1.2.2.2.1 (C.ts k_663 rfl) d_Walk_readHeader_28 ?_
    refine W.lcmp hx hb d_Walk_readHeader_31 ?_
    refine lv_if_lt (tgt := 37) hx hb d_Walk_readHeader_32 (by decide) (fun c_32 => ?_) (fun c_32 => ?_)
    · skip
      have c_32 : ((U4 rf len (en)) : Int) < 256 := ((zc_lt).trans (zj_lt (a := ((U4 rf len (en)) : Int)) (b := 256) (lN_lI _) (by decide) (by omega) (by omega) (by omega) (by omega))).mp c_32
      refine lv_aload_n hx hb d_Walk_readHeader_37 rfl (lv_at hl 0 rfl) ?_
      refine lv_aload_n hx hb d_Walk_readHeader_38 rfl (lv_at hl 0 rfl) ?_
      refine z_get C hP List.mem_cons_self q_Walk 1 (by decide) k_172 (fun _ h9 => h9) rfl d_Walk_readHeader_39 ?_
      refine z_put C hP hD hS 0 rfl q_Walk 4 (by decide) k_176 (fun _ h9 => h9) rfl rfl rfl (Nat.le_of_ble_eq_true rfl) d_Walk_readHeader_42 (ws' := (k, zo 7 [.ref h, .int (nI en), .int (nI lf), .long (lN hn), .int (nI en), .int fi, .long (lI z), .long (lN st), .int (nI pl), .int (nI kd), .int (nI na), .int (nI nl)]) :: T) rfl (fun H locs hP hD hS => ?_)
      refine lv_aload_n hx hb d_Walk_readHeader_45 rfl (lv_at hl 0 rfl) ?_
      refine lv_aload_n hx hb d_Walk_readHeader_46 rfl (lv_at hl 0 rfl) ?_
      refine z_get C hP List.mem_cons_self q_Walk 0 (by decide) k_171 (fun _ h9 => h9) rfl d_Walk_readHeader_47 ?_
      refine lv_aload_n hx hb d_Walk_readHeader_50 rfl (lv_at hl 0 rfl) ?_
      refine z_get C hP List.mem_cons_self q_Walk 1 (by decide) k_172 (fun _ h9 => h9) rfl d_Walk_readHeader_51 ?_
      refine z_kl (z_runV (np := 1) C (c_Lst_u4 l g ((k, zo 7 [.ref h, .int (nI en), .int (nI lf), .long (lN hn), .int (nI en), .int fi, .long (lI z), .long (lN st), .int (nI pl), .int (nI kd), .int (nI na), .int (nI nl)]) :: T) h rw len hd bg mk ly rn rf (List.mem_cons_of_mem _ hh) (List.mem_cons_of_mem _ hrw) v1 v2 (en) (by omega)) hP hD hS (List.mem_cons_of_mem _ hh) (show classes[5]? = some (R_Lst, F_Lst, 6) from rfl) k_661 k_8 k_658 k_659 k_660 ⟨by decide, by decide, by decide⟩ ⟨Nat.le_of_ble_eq_true rfl, Nat.le_of_ble_eq_true rfl⟩ rfl hl.1 rfl (Nat.le_of_ble_eq_true rfl) d_Walk_readHeader_54 ⟨by show _ ≤ 0; omega, by show _ ≤ 0; omega⟩) hS (fun r_54 w H locs hw hP hD hS => ?_)
      obtain ⟨rfl, hw⟩ := hw
      rw [hw] at hP hD
      have u4_490 := U4_lt rf len (en)
      refine lv_l2i (v := nI (U4 rf len (en))) hx hb d_Walk_readHeader_57 (lN_i _) ?_
      refine lv_iconst (v := nI 1) hx hb d_Walk_readHeader_58 (by decide) ?_
      refine z_iadd (v := nI ((U4 rf len (en)) + 1)) C d_Walk_readHeader_59 (nI_add _ _) ?_
      refine z_put C hP hD hS 0 rfl q_Walk 2 (by decide) k_173 (fun _ h9 => h9) rfl rfl rfl (Nat.le_of_ble_eq_true rfl) d_Walk_readHeader_60 (ws' := (k, zo 7 [.ref h, .int (nI en), .int (nI ((U4 rf len (en)) + 1)), .long (lN hn), .int (nI en), .int fi, .long (lI z), .long (lN st), .int (nI pl), .int (nI kd), .int (nI na), .int (nI nl)]) :: T) rfl (fun H locs hP hD hS => ?_)
      refine lv_aload_n hx hb d_Walk_readHeader_63 rfl (lv_at hl 0 rfl) ?_
      refine lv_aload_n hx hb d_Walk_readHeader_64 rfl (lv_at hl 0 rfl) ?_
      refine z_get C hP List.mem_cons_self q_Walk 0 (by decide) k_171 (fun _ h9 => h9) rfl d_Walk_readHeader_65 ?_
      refine lv_aload_n hx hb d_Walk_readHeader_68 rfl (lv_at hl 0 rfl) ?_
      refine z_get C hP List.mem_cons_self q_Walk 1 (by decide) k_172 (fun _ h9 => h9) rfl d_Walk_readHeader_69 ?_
      refine lv_iconst (v := nI 4) hx hb d_Walk_readHeader_72 (by decide) ?_
      refine z_iadd (v := nI (en + 4)) C d_Walk_readHeader_73 (nI_add _ _) ?_
      refine z_kl (z_runV (np := 1) C (c_Lst_u4 l g ((k, zo 7 [.ref h, .int (nI en), .int (nI ((U4 rf len (en)) + 1)), .long (lN hn), .int (nI en), .int fi, .long (lI z), .long (lN st), .int (nI pl), .int (nI kd), .int (nI na), .int (nI nl)]) :: T) h rw len hd bg mk ly rn rf (List.mem_cons_of_mem _ hh) (List.mem_cons_of_mem _ hrw) v1 v2 (en + 4) (by omega)) hP hD hS (List.mem_cons_of_mem _ hh) (show classes[5]? = some (R_Lst, F_Lst, 6) from rfl) k_661 k_8 k_658 k_659 k_660 ⟨by decide, by decide, by decide⟩ ⟨Nat.le_of_ble_eq_true rfl, Nat.le_of_ble_eq_true rfl⟩ rfl hl.1 rfl (Nat.le_of_ble_eq_true rfl) d_Walk_readHeader_74 ⟨by show _ ≤ 0; omega, by show _ ≤ 0; omega⟩) hS (fun r_74 w H locs hw hP hD hS => ?_)
      obtain ⟨rfl, hw⟩ := hw
      rw [hw] at hP hD
      have u4_972 := U4_lt rf len (en + 4)
      refine z_put C hP hD hS 0 rfl q_Walk 7 (by decide) k_183 (fun _ h9 => h9) rfl rfl rfl (Nat.le_of_ble_eq_true rfl) d_Walk_readHeader_77 (ws' := (k, zo 7 [.ref h, .int (nI en), .int (nI ((U4 rf len (en)) + 1)), .long (lN hn), .int (nI en), .int fi, .long (lI z), .long (lN (U4 rf len (en + 4))), .int (nI pl), .int (nI kd), .int (nI na), .int (nI nl)]) :: T) rfl (fun H locs hP hD hS => ?_)
      refine lv_aload_n hx hb d_Walk_readHeader_80 rfl (lv_at hl 0 rfl) ?_
      refine lv_aload_n hx hb d_Walk_readHeader_81 rfl (lv_at hl 0 rfl) ?_
      refine z_get C hP List.mem_cons_self q_Walk 0 (by decide) k_171 (fun _ h9 => h9) rfl d_Walk_readHeader_82 ?_
      refine lv_aload_n hx hb d_Walk_readHeader_85 rfl (lv_at hl 0 rfl) ?_
      refine z_get C hP List.mem_cons_self q_Walk 1 (by decide) k_172 (fun _ h9 => h9) rfl d_Walk_readHeader_86 ?_
      refine lv_bipush (v := nI 8) hx hb d_Walk_readHeader_89 (by decide) ?_
      refine z_iadd (v := nI (en + 8)) C d_Walk_readHeader_91 (nI_add _ _) ?_
      refine z_kl (z_runV (np := 1) C (c_Lst_u4 l g ((k, zo 7 [.ref h, .int (nI en), .int (nI ((U4 rf len (en)) + 1)), .long (lN hn), .int (nI en), .int fi, .long (lI z), .long (lN (U4 rf len (en + 4))), .int (nI pl), .int (nI kd), .int (nI na), .int (nI nl)]) :: T) h rw len hd bg mk ly rn rf (List.mem_cons_of_mem _ hh) (List.mem_cons_of_mem _ hrw) v1 v2 (en + 8) (by omega)) hP hD hS (List.mem_cons_of_mem _ hh) (show classes[5]? = some (R_Lst, F_Lst, 6) from rfl) k_661 k_8 k_658 k_659 k_660 ⟨by decide, by decide, by decide⟩ ⟨Nat.le_of_ble_eq_true rfl, Nat.le_of_ble_eq_true rfl⟩ rfl hl.1 rfl (Nat.le_of_ble_eq_true rfl) d_Walk_readHeader_92 ⟨by show _ ≤ 0; omega, by show _ ≤ 0; omega⟩) hS (fun r_92 w H locs hw hP hD hS => ?_)
      obtain ⟨rfl, hw⟩ := hw
      rw [hw] at hP hD
      have u4_779 := U4_lt rf len (en + 8)
      refine z_put C hP hD hS 0 rfl q_Walk 3 (by decide) k_174 (fun _ h9 => h9) rfl rfl rfl (Nat.le_of_ble_eq_true rfl) d_Walk_readHeader_95 (ws' := (k, zo 7 [.ref h, .int (nI en), .int (nI ((U4 rf len (en)) + 1)), .long (lN (U4 rf len (en + 8))), .int (nI en), .int fi, .long (lI z), .long (lN (U4 rf len (en + 4))), .int (nI pl), .int (nI kd), .int (nI na), .int (nI nl)]) :: T) rfl (fun H locs hP hD hS => ?_)
      refine lv_aload_n hx hb d_Walk_readHeader_98 rfl (lv_at hl 0 rfl) ?_
      refine lv_dup hx hb d_Walk_readHeader_99 rfl ?_
      refine z_get C hP List.mem_cons_self q_Walk 1 (by decide) k_172 (fun _ h9 => h9) rfl d_Walk_readHeader_100 ?_
      refine lv_bipush (v := nI 12) hx hb d_Walk_readHeader_103 (by decide) ?_
      refine z_iadd (v := nI (en + 12)) C d_Walk_readHeader_105 (nI_add _ _) ?_
      refine z_put C hP hD hS 0 rfl q_Walk 1 (by decide) k_172 (fun _ h9 => h9) rfl rfl rfl (Nat.le_of_ble_eq_true rfl) d_Walk_readHeader_106 (ws' := (k, zo 7 [.ref h, .int (nI (en + 12)), .int (nI ((U4 rf len (en)) + 1)), .long (lN (U4 rf len (en + 8))), .int (nI en), .int fi, .long (lI z), .long (lN (U4 rf len (en + 4))), .int (nI pl), .int (nI kd), .int (nI na), .int (nI nl)]) :: T) rfl (fun H locs hP hD hS => ?_)
      refine lv_iconst (v := nI 1) hx hb d_Walk_readHeader_109 (by decide) ?_
      exact z_zret C hr hlk hP hD hS (by omega) (by omega) (by first | exact Or.inl rfl | exact Or.inr rfl) ⟨fun _ => ⟨rfl, rfl⟩, fun q9 => absurd (show en + 12 ≤ len ∧ U4 rf len en < 256 by omega) q9⟩ d_Walk_readHeader_110
    · skip
      have c_32 : ¬ ((U4 rf len (en)) : Int) < 256 := fun q9 => c_32 (((zc_lt).trans (zj_lt (a := ((U4 rf len (en)) : Int)) (b := 256) (lN_lI _) (by decide) (by omega) (by omega) (by omega) (by omega))).mpr q9)
      refine lv_iconst (v := nI 0) hx hb d_Walk_readHeader_35 (by decide) ?_
      exact z_zret C hr hlk hP hD hS (by omega) (by omega) (by first | exact Or.inl rfl | exact Or.inr rfl) ⟨fun q9 => absurd q9 (by omega), fun _ => ⟨rfl, rfl⟩⟩ d_Walk_readHeader_36
set_option maxHeartbeats 4000000 in
set_option maxRecDepth 100000 in
theorem c_Walk_readEntry (l : Launch) (g : zT) (T : va_W) (k h en lf hn ha st pl kd na nl : Nat) (fi : Int32) (z : Int) (rw len hd bg mk ly rn : Nat) (rf : Nat → UInt8) (hh : (h, zo 5 [.ref rw, .int (nI len), .int (nI hd), .int (nI bg), .ref mk, .ref ly]) ∈ T) (hrw : (rw, zBy g rn rf) ∈ T) (v1 : len ≤ rn) (v2 : rn ≤ 65536) (u1 : en ≤ len) (u2 : 0 < lf) : Met l y_Walk_readEntry (zw y_Walk_readEntry b_Walk_readEntry 1 (some .boolean)) (zR 2 42 0 0) (zP g [.ref k] ((k, zo 7 [.ref h, .int (nI en), .int (nI lf), .long (lN hn), .int (nI ha), .int fi, .long (lI z), .long (lN st), .int (nI pl), .int (nI kd), .int (nI na), .int (nI nl)]) :: T)) (zQi g (fun r w => (en + 8 ≤ len ∧ en + 9 + U2 rf len (en + 6) ≤ len → r = nI 1 ∧ w = (k, zo 7 [.ref h, .int (nI (en + 8 + (U2 rf len (en + 6) + 1))), .int (nI (lf - 1)), .long (lN hn), .int (nI ha), .int fi, .long (lI ((hn : Int) + s16 (U2 rf len (en + 2)))), .long (lN st), .int (nI (U2 rf len en)), .int (nI (U2 rf len (en + 4))), .int (nI (en + 8)), .int (nI (U2 rf len (en + 6) + 1))]) :: T) ∧ (¬ (en + 8 ≤ len ∧ en + 9 + U2 rf len (en + 6) ≤ len) → r = nI 0 ∧ ∃ (z2 : Int) (pl2 kd2 na2 nl2 : Nat), w = (k, zo 7 [.ref h, .int (nI en), .int (nI lf), .long (lN hn), .int (nI ha), .int fi, .long (lI z2), .long (lN st), .int (nI pl2), .int (nI kd2), .int (nI na2), .int (nI nl2)]) :: T))) 0 0 (zA g) := by
  refine zMet (by decide) (Nat.le_of_ble_eq_true rfl) ?_
  intro p e s m below meth c ls C hr hlk hnm hP hD hl
  have hx := C.1.1
  have hb := C.1.2.1
  have hS : va_S (zA g) s.heap s.heap [] := va_S.rf
  have hl : lv_has ls 1 [(0, .ref k)] := hl
  refine lv_aload_n hx hb d_Walk_readEntry_0 rfl (lv_at hl 0 rfl) ?_
  refine z_get C hP List.mem_cons_self q_Walk 0 (by decide) k_171 (fun _ h9 => h9) rfl d_Walk_readEntry_1 ?_
  refine z_get C hP (List.mem_cons_of_mem _ hh) q_Lst 1 (by decide) k_141 (fun _ h9 => h9) rfl d_Walk_readEntry_4 ?_
  refine lv_aload_n hx hb d_Walk_readEntry_7 rfl (lv_at hl 0 rfl) ?_
  refine z_get C hP List.mem_cons_self q_Walk 1 (by decide) k_172 (fun _ h9 => h9) rfl d_Walk_readEntry_8 ?_
  refine z_isub (v := nI (len - en)) C d_Walk_readEntry_11 (pk_sub (by omega)) ?_
  refine lv_bipush (v := nI 8) hx hb d_Walk_readEntry_12 (by decide) ?_
  refine lv_icmp_ge (tgt := 19) hx hb d_Walk_readEntry_14 (by decide) (fun c_14 => ?_) (fun c_14 => ?_)
  · skip
    have c_14 : 8 ≤ (len - en) := (nI_leI (a := 8) (b := len - en) (by decide) (by omega)).mp c_14
    refine lv_aload_n hx hb d_Walk_readEntry_19 rfl (lv_at hl 0 rfl) ?_
    refine lv_aload_n hx hb d_Walk_readEntry_20 rfl (lv_at hl 0 rfl) ?_
    refine z_get C hP List.mem_cons_self q_Walk 0 (by decide) k_171 (fun _ h9 => h9) rfl d_Walk_readEntry_21 ?_
    refine lv_aload_n hx hb d_Walk_readEntry_24 rfl (lv_at hl 0 rfl) ?_
    refine z_get C hP List.mem_cons_self q_Walk 1 (by decide) k_172 (fun _ h9 => h9) rfl d_Walk_readEntry_25 ?_
    refine z_ki (z_runV (np := 1) C (c_Lst_u2 l g ((k, zo 7 [.ref h, .int (nI en), .int (nI lf), .long (lN hn), .int (nI ha), .int fi, .long (lI z), .long (lN st), .int (nI pl), .int (nI kd), .int (nI na), .int (nI nl)]) :: T) h rw len hd bg mk ly rn rf (List.mem_cons_of_mem _ hh) (List.mem_cons_of_mem _ hrw) v1 v2 (en) (by omega)) hP hD hS (List.mem_cons_of_mem _ hh) (show classes[5]? = some (R_Lst, F_Lst, 6) from rfl) k_671 k_8 k_668 k_669 k_670 ⟨by decide, by decide, by decide⟩ ⟨Nat.le_of_ble_eq_true rfl, Nat.le_of_ble_eq_true rfl⟩ rfl hl.1 rfl (Nat.le_of_ble_eq_true rfl) d_Walk_readEntry_28 ⟨by show _ ≤ 0; omega, by show _ ≤ 0; omega⟩) hS (fun r_28 w H locs hw hP hD hS => ?_)
    obtain ⟨rfl, hw⟩ := hw
    rw [hw] at hP hD
    have u2_490 := U2_lt rf len (en)
    refine z_put C hP hD hS 0 rfl q_Walk 8 (by decide) k_186 (fun _ h9 => h9) rfl rfl rfl (Nat.le_of_ble_eq_true rfl) d_Walk_readEntry_31 (ws' := (k, zo 7 [.ref h, .int (nI en), .int (nI lf), .long (lN hn), .int (nI ha), .int fi, .long (lI z), .long (lN st), .int (nI (U2 rf len (en))), .int (nI kd), .int (nI na), .int (nI nl)]) :: T) rfl (fun H locs hP hD hS => ?_)
    refine lv_aload_n hx hb d_Walk_readEntry_34 rfl (lv_at hl 0 rfl) ?_
    refine lv_aload_n hx hb d_Walk_readEntry_35 rfl (lv_at hl 0 rfl) ?_
    refine z_get C hP List.mem_cons_self q_Walk 3 (by decide) k_174 (fun _ h9 => h9) rfl d_Walk_readEntry_36 ?_
    refine lv_aload_n hx hb d_Walk_readEntry_39 rfl (lv_at hl 0 rfl) ?_
    refine z_get C hP List.mem_cons_self q_Walk 0 (by decide) k_171 (fun _ h9 => h9) rfl d_Walk_readEntry_40 ?_
    refine lv_aload_n hx hb d_Walk_readEntry_43 rfl (lv_at hl 0 rfl) ?_
    refine z_get C hP List.mem_cons_self q_Walk 1 (by decide) k_172 (fun _ h9 => h9) rfl d_Walk_readEntry_44 ?_
    refine lv_iconst (v := nI 2) hx hb d_Walk_readEntry_47 (by decide) ?_
    refine z_iadd (v := nI (en + 2)) C d_Walk_readEntry_48 (nI_add _ _) ?_
    refine z_ki (z_runV (np := 1) C (c_Lst_u2 l g ((k, zo 7 [.ref h, .int (nI en), .int (nI lf), .long (lN hn), .int (nI ha), .int fi, .long (lI z), .long (lN st), .int (nI (U2 rf len (en))), .int (nI kd), .int (nI na), .int (nI nl)]) :: T) h rw len hd bg mk ly rn rf (List.mem_cons_of_mem _ hh) (List.mem_cons_of_mem _ hrw) v1 v2 (en + 2) (by omega)) hP hD hS (List.mem_cons_of_mem _ hh) (show classes[5]? = some (R_Lst, F_Lst, 6) from rfl) k_671 k_8 k_668 k_669 k_670 ⟨by decide, by decide, by decide⟩ ⟨Nat.le_of_ble_eq_true rfl, Nat.le_of_ble_eq_true rfl⟩ rfl hl.1 rfl (Nat.le_of_ble_eq_true rfl) d_Walk_readEntry_49 ⟨by show _ ≤ 0; omega, by show _ ≤ 0; omega⟩) hS (fun r_49 w H locs hw hP hD hS => ?_)
    obtain ⟨rfl, hw⟩ := hw
    rw [hw] at hP hD
    have u2_224 := U2_lt rf len (en + 2)
    refine lv_i2s (v := iI (s16 (U2 rf len (en + 2)))) hx hb d_Walk_readEntry_52 (nI_s (by omega)) ?_
    refine lv_i2l (v := lI (s16 (U2 rf len (en + 2)))) hx hb d_Walk_readEntry_53 (iI_l (by have := s16_rg (U2_lt rf len (en + 2)); omega) (by have := s16_rg (U2_lt rf len (en + 2)); omega)) ?_
    refine z_ladd (v := lI ((hn : Int) + s16 (U2 rf len (en + 2)))) C d_Walk_readEntry_54 (by rw [lN_lI, lI_add]) ?_
    refine z_put C hP hD hS 0 rfl q_Walk 6 (by decide) k_180 (fun _ h9 => h9) rfl rfl rfl (Nat.le_of_ble_eq_true rfl) d_Walk_readEntry_55 (ws' := (k, zo 7 [.ref h, .int (nI en), .int (nI lf), .long (lN hn), .int (nI ha), .int fi, .long (lI ((hn : Int) + s16 (U2 rf len (en + 2)))), .long (lN st), .int (nI (U2 rf len (en))), .int (nI kd), .int (nI na), .int (nI nl)]) :: T) rfl (fun H locs hP hD hS => ?_)
    refine lv_aload_n hx hb d_Walk_readEntry_58 rfl (lv_at hl 0 rfl) ?_
    refine lv_aload_n hx hb d_Walk_readEntry_59 rfl (lv_at hl 0 rfl) ?_
    refine z_get C hP List.mem_cons_self q_Walk 0 (by decide) k_171 (fun _ h9 => h9) rfl d_Walk_readEntry_60 ?_
    refine lv_aload_n hx hb d_Walk_readEntry_63 rfl (lv_at hl 0 rfl) ?_
    refine z_get C hP List.mem_cons_self q_Walk 1 (by decide) k_172 (fun _ h9 => h9) rfl d_Walk_readEntry_64 ?_
    refine lv_iconst (v := nI 4) hx hb d_Walk_readEntry_67 (by decide) ?_
    refine z_iadd (v := nI (en + 4)) C d_Walk_readEntry_68 (nI_add _ _) ?_
    refine z_ki (z_runV (np := 1) C (c_Lst_u2 l g ((k, zo 7 [.ref h, .int (nI en), .int (nI lf), .long (lN hn), .int (nI ha), .int fi, .long (lI ((hn : Int) + s16 (U2 rf len (en + 2)))), .long (lN st), .int (nI (U2 rf len (en))), .int (nI kd), .int (nI na), .int (nI nl)]) :: T) h rw len hd bg mk ly rn rf (List.mem_cons_of_mem _ hh) (List.mem_cons_of_mem _ hrw) v1 v2 (en + 4) (by omega)) hP hD hS (List.mem_cons_of_mem _ hh) (show classes[5]? = some (R_Lst, F_Lst, 6) from rfl) k_671 k_8 k_668 k_669 k_670 ⟨by decide, by decide, by decide⟩ ⟨Nat.le_of_ble_eq_true rfl, Nat.le_of_ble_eq_true rfl⟩ rfl hl.1 rfl (Nat.le_of_ble_eq_true rfl) d_Walk_readEntry_69 ⟨by show _ ≤ 0; omega, by show _ ≤ 0; omega⟩) hS (fun r_69 w H locs hw hP hD hS => ?_)
    obtain ⟨rfl, hw⟩ := hw
    rw [hw] at hP hD
    have u2_972 := U2_lt rf len (en + 4)
    refine z_put C hP hD hS 0 rfl q_Walk 9 (by decide) k_189 (fun _ h9 => h9) rfl rfl rfl (Nat.le_of_ble_eq_true rfl) d_Walk_readEntry_72 (ws' := (k, zo 7 [.ref h, .int (nI en), .int (nI lf), .long (lN hn), .int (nI ha), .int fi, .long (lI ((hn : Int) + s16 (U2 rf len (en + 2)))), .long (lN st), .int (nI (U2 rf len (en))), .int (nI (U2 rf len (en + 4))), .int (nI na), .int (nI nl)]) :: T) rfl (fun H locs hP hD hS => ?_)
    refine lv_aload_n hx hb d_Walk_readEntry_75 rfl (lv_at hl 0 rfl) ?_
    refine lv_aload_n hx hb d_Walk_readEntry_76 rfl (lv_at hl 0 rfl) ?_
    refine z_get C hP List.mem_cons_self q_Walk 0 (by decide) k_171 (fun _ h9 => h9) rfl d_Walk_readEntry_77 ?_
    refine lv_aload_n hx hb d_Walk_readEntry_80 rfl (lv_at hl 0 rfl) ?_
    refine z_get C hP List.mem_cons_self q_Walk 1 (by decide) k_172 (fun _ h9 => h9) rfl d_Walk_readEntry_81 ?_
    refine lv_bipush (v := nI 6) hx hb d_Walk_readEntry_84 (by decide) ?_
    refine z_iadd (v := nI (en + 6)) C d_Walk_readEntry_86 (nI_add _ _) ?_
    refine z_ki (z_runV (np := 1) C (c_Lst_u2 l g ((k, zo 7 [.ref h, .int (nI en), .int (nI lf), .long (lN hn), .int (nI ha), .int fi, .long (lI ((hn : Int) + s16 (U2 rf len (en + 2)))), .long (lN st), .int (nI (U2 rf len (en))), .int (nI (U2 rf len (en + 4))), .int (nI na), .int (nI nl)]) :: T) h rw len hd bg mk ly rn rf (List.mem_cons_of_mem _ hh) (List.mem_cons_of_mem _ hrw) v1 v2 (en + 6) (by omega)) hP hD hS (List.mem_cons_of_mem _ hh) (show classes[5]? = some (R_Lst, F_Lst, 6) from rfl) k_671 k_8 k_668 k_669 k_670 ⟨by decide, by decide, by decide⟩ ⟨Nat.le_of_ble_eq_true rfl, Nat.le_of_ble_eq_true rfl⟩ rfl hl.1 rfl (Nat.le_of_ble_eq_true rfl) d_Walk_readEntry_87 ⟨by show _ ≤ 0; omega, by show _ ≤ 0; omega⟩) hS (fun r_87 w H locs hw hP hD hS => ?_)
    obtain ⟨rfl, hw⟩ := hw
    rw [hw] at hP hD
    have u2_236 := U2_lt rf len (en + 6)
    refine lv_iconst (v := nI 1) hx hb d_Walk_readEntry_90 (by decide) ?_
    refine z_iadd (v := nI ((U2 rf len (en + 6)) + 1)) C d_Walk_readEntry_91 (nI_add _ _) ?_
    refine z_put C hP hD hS 0 rfl q_Walk 11 (by decide) k_194 (fun _ h9 => h9) rfl rfl rfl (Nat.le_of_ble_eq_true rfl) d_Walk_readEntry_92 (ws' := (k, zo 7 [.ref h, .int (nI en), .int (nI lf), .long (lN hn), .int (nI ha), .int fi, .long (lI ((hn : Int) + s16 (U2 rf len (en + 2)))), .long (lN st), .int (nI (U2 rf len (en))), .int (nI (U2 rf len (en + 4))), .int (nI na), .int (nI ((U2 rf len (en + 6)) + 1))]) :: T) rfl (fun H locs hP hD hS => ?_)
    refine lv_aload_n hx hb d_Walk_readEntry_95 rfl (lv_at hl 0 rfl) ?_
    refine lv_aload_n hx hb d_Walk_readEntry_96 rfl (lv_at hl 0 rfl) ?_
    refine z_get C hP List.mem_cons_self q_Walk 1 (by decide) k_172 (fun _ h9 => h9) rfl d_Walk_readEntry_97 ?_
    refine lv_bipush (v := nI 8) hx hb d_Walk_readEntry_100 (by decide) ?_
    refine z_iadd (v := nI (en + 8)) C d_Walk_readEntry_102 (nI_add _ _) ?_
    refine z_put C hP hD hS 0 rfl q_Walk 10 (by decide) k_192 (fun _ h9 => h9) rfl rfl rfl (Nat.le_of_ble_eq_true rfl) d_Walk_readEntry_103 (ws' := (k, zo 7 [.ref h, .int (nI en), .int (nI lf), .long (lN hn), .int (nI ha), .int fi, .long (lI ((hn : Int) + s16 (U2 rf len (en + 2)))), .long (lN st), .int (nI (U2 rf len (en))), .int (nI (U2 rf len (en + 4))), .int (nI (en + 8)), .int (nI ((U2 rf len (en + 6)) + 1))]) :: T) rfl (fun H locs hP hD hS => ?_)
    refine lv_aload_n hx hb d_Walk_readEntry_106 rfl (lv_at hl 0 rfl) ?_
    refine z_get C hP List.mem_cons_self q_Walk 11 (by decide) k_194 (fun _ h9 => h9) rfl d_Walk_readEntry_107 ?_
    refine lv_aload_n hx hb d_Walk_readEntry_110 rfl (lv_at hl 0 rfl) ?_
    refine z_get C hP List.mem_cons_self q_Walk 0 (by decide) k_171 (fun _ h9 => h9) rfl d_Walk_readEntry_111 ?_
    refine z_get C hP (List.mem_cons_of_mem _ hh) q_Lst 1 (by decide) k_141 (fun _ h9 => h9) rfl d_Walk_readEntry_114 ?_
    refine lv_aload_n hx hb d_Walk_readEntry_117 rfl (lv_at hl 0 rfl) ?_
    refine z_get C hP List.mem_cons_self q_Walk 10 (by decide) k_192 (fun _ h9 => h9) rfl d_Walk_readEntry_118 ?_
    refine z_isub (v := nI (len - (en + 8))) C d_Walk_readEntry_121 (pk_sub (by omega)) ?_
    refine lv_icmp_le (tgt := 127) hx hb d_Walk_readEntry_122 (by decide) (fun c_122 => ?_) (fun c_122 => ?_)
    · skip
      have c_122 : ((U2 rf len (en + 6)) + 1) ≤ (len - (en + 8)) := (nI_leI (a := (U2 rf len (en + 6)) + 1) (b := len - (en + 8)) (by omega) (by omega)).mp c_122
      refine lv_aload_n hx hb d_Walk_readEntry_127 rfl (lv_at hl 0 rfl) ?_
      refine lv_aload_n hx hb d_Walk_readEntry_128 rfl (lv_at hl 0 rfl) ?_
      refine z_get C hP List.mem_cons_self q_Walk 10 (by decide) k_192 (fun _ h9 => h9) rfl d_Walk_readEntry_129 ?_
      refine lv_aload_n hx hb d_Walk_readEntry_132 rfl (lv_at hl 0 rfl) ?_
      refine z_get C hP List.mem_cons_self q_Walk 11 (by decide) k_194 (fun _ h9 => h9) rfl d_Walk_readEntry_133 ?_
      refine z_iadd (v := nI (en + 8 + ((U2 rf len (en + 6)) + 1))) C d_Walk_readEntry_136 (nI_add _ _) ?_
      refine z_put C hP hD hS 0 rfl q_Walk 1 (by decide) k_172 (fun _ h9 => h9) rfl rfl rfl (Nat.le_of_ble_eq_true rfl) d_Walk_readEntry_137 (ws' := (k, zo 7 [.ref h, .int (nI (en + 8 + ((U2 rf len (en + 6)) + 1))), .int (nI lf), .long (lN hn), .int (nI ha), .int fi, .long (lI ((hn : Int) + s16 (U2 rf len (en + 2)))), .long (lN st), .int (nI (U2 rf len (en))), .int (nI (U2 rf len (en + 4))), .int (nI (en + 8)), .int (nI ((U2 rf len (en + 6)) + 1))]) :: T) rfl (fun H locs hP hD hS => ?_)
      refine lv_aload_n hx hb d_Walk_readEntry_140 rfl (lv_at hl 0 rfl) ?_
      refine lv_dup hx hb d_Walk_readEntry_141 rfl ?_
      refine z_get C hP List.mem_cons_self q_Walk 2 (by decide) k_173 (fun _ h9 => h9) rfl d_Walk_readEntry_142 ?_
      refine lv_iconst (v := nI 1) hx hb d_Walk_readEntry_145 (by decide) ?_
      refine z_isub (v := nI (lf - 1)) C d_Walk_readEntry_146 (pk_sub (by omega)) ?_
      refine z_put C hP hD hS 0 rfl q_Walk 2 (by decide) k_173 (fun _ h9 => h9) rfl rfl rfl (Nat.le_of_ble_eq_true rfl) d_Walk_readEntry_147 (ws' := (k, zo 7 [.ref h, .int (nI (en + 8 + ((U2 rf len (en + 6)) + 1))), .int (nI (lf - 1)), .long (lN hn), .int (nI ha), .int fi, .long (lI ((hn : Int) + s16 (U2 rf len (en + 2)))), .long (lN st), .int (nI (U2 rf len (en))), .int (nI (U2 rf len (en + 4))), .int (nI (en + 8)), .int (nI ((U2 rf len (en + 6)) + 1))]) :: T) rfl (fun H locs hP hD hS => ?_)
      refine lv_iconst (v := nI 1) hx hb d_Walk_readEntry_150 (by decide) ?_
      exact z_zret C hr hlk hP hD hS (by omega) (by omega) (by first | exact Or.inl rfl | exact Or.inr rfl) ⟨fun _ => ⟨rfl, rfl⟩, fun q9 => absurd (show en + 8 ≤ len ∧ en + 9 + U2 rf len (en + 6) ≤ len by omega) q9⟩ d_Walk_readEntry_151
    · skip
      have c_122 : ¬ ((U2 rf len (en + 6)) + 1) ≤ (len - (en + 8)) := fun q9 => c_122 ((nI_leI (a := (U2 rf len (en + 6)) + 1) (b := len - (en + 8)) (by omega) (by omega)).mpr q9)
      refine lv_iconst (v := nI 0) hx hb d_Walk_readEntry_125 (by decide) ?_
      exact z_zret C hr hlk hP hD hS (by omega) (by omega) (by first | exact Or.inl rfl | exact Or.inr rfl) ⟨fun q9 => absurd q9 (by omega), fun _ => ⟨rfl, _, _, _, _, _, rfl⟩⟩ d_Walk_readEntry_126
  · skip
    have c_14 : ¬ 8 ≤ (len - en) := fun q9 => c_14 ((nI_leI (a := 8) (b := len - en) (by decide) (by omega)).mpr q9)
    refine lv_iconst (v := nI 0) hx hb d_Walk_readEntry_17 (by decide) ?_
    exact z_zret C hr hlk hP hD hS (by omega) (by omega) (by first | exact Or.inl rfl | exact Or.inr rfl) ⟨fun q9 => absurd q9 (by omega), fun _ => ⟨rfl, z, pl, kd, na, nl, rfl⟩⟩ d_Walk_readEntry_18
