set_option maxHeartbeats 4000000 in
set_option maxRecDepth 100000 in
theorem c_Judge_isEntryRight (l : Launch) (g : zT) (T : va_W) (jd met : Nat) (vd : Int32) (k h en lf hn ha st pl kd na nl : Nat) (fi : Int32) (z : Int) (rw len hd bg mk ly rn : Nat) (rf : Nat → UInt8) (hh : (h, zo 5 [.ref rw, .int (nI len), .int (nI hd), .int (nI bg), .ref mk, .ref ly]) ∈ T) (hrw : (rw, zBy g rn rf) ∈ T) (v1 : len ≤ rn) (v2 : rn ≤ 65536) (d li ed n cap : Nat) (x : Int32) (f : Nat → Option Nat) (kf : Nat → zE) (kl : List zE) (hkd : (d, zo 4 [.ref li]) ∈ T) (hli : (li, zo 3 [.int x, .ref ed, .int (nI n)]) ∈ T) (hed : 0 < n → (ed, zOb g cap f) ∈ T) (k1 : n ≤ cap) (k2 : cap < 60000) (hE : ∀ j, j < n → ∃ a, f j = some a ∧ isEnt g T a (kf j)) (hN : ∀ j, j < n → (kf j).2.1 ≤ 100000 ∧ (kf j).2.2.1 < 65536 ∧ (kf j).2.2.2.1 < 65536 ∧ (kf j).2.2.2.2 < 65536) (k5 : n ≤ 1500) (hSo : ∀ i j, i < j → j < n → (kf i).2.1 < (kf j).2.1) (hN1 : ∀ j, j < n → 1 ≤ (kf j).2.1) (hkl : kl.length = n) (hkf : ∀ j, j < n → kl[j]? = some (kf j)) (hjd : (jd, zo 8 [.ref h, .ref k, .ref d, .int vd, .int (nI met)]) ∈ T) (u1 : (k, zo 7 [.ref h, .int (nI en), .int (nI lf), .long (lN hn), .int (nI ha), .int fi, .long (lI z), .long (lN st), .int (nI pl), .int (nI kd), .int (nI na), .int (nI nl)]) ∈ T) (u2 : na + nl ≤ len) (la ll : Nat) (u3 : la + ll ≤ len) (u4 : -40000 < z) (u5 : z < 5000000000) (u6 : st < 4294967296) (u7 : pl < 65536) (u8 : kd < 65536) : Met l y_Judge_isEntryRight (zw y_Judge_isEntryRight b_Judge_isEntryRight 3 (some .boolean)) (zR 5 117 0 0) (zP g [.ref jd, .int (nI la), .int (nI ll)] (T)) (zQi g (fun r w => r = bI (isNm (zl rf na nl) && decide (0 < cmpB (zl rf na nl) (zl rf la ll)) && knB kl z st pl kd) ∧ w = T)) 0 0 (zA g) := by
  refine zMet (by decide) (Nat.le_of_ble_eq_true rfl) ?_
  intro p e s m below meth c ls C hr hlk hnm hP hD hl
  have hx := C.1.1
  have hb := C.1.2.1
  have hS : va_S (zA g) s.heap s.heap [] := va_S.rf
  have hl : lv_has ls 3 [(0, .ref jd), (1, .int (nI la)), (2, .int (nI ll))] := hl
  refine lv_aload_n hx hb d_Judge_isEntryRight_0 rfl (lv_at hl 0 rfl) ?_
  refine z_get C hP hjd q_Judge 0 (by decide) k_227 (fun _ h9 => h9) rfl d_Judge_isEntryRight_1 ?_
  refine z_get C hP hh q_Lst 0 (by decide) k_137 (fun _ h9 => h9) rfl d_Judge_isEntryRight_4 ?_
  refine lv_aload_n hx hb d_Judge_isEntryRight_7 rfl (lv_at hl 0 rfl) ?_
  refine z_get C hP hjd q_Judge 1 (by decide) k_228 (fun _ h9 => h9) rfl d_Judge_isEntryRight_8 ?_
  refine z_get C hP u1 q_Walk 10 (by decide) k_191 (fun _ h9 => h9) rfl d_Judge_isEntryRight_11 ?_
  refine lv_aload_n hx hb d_Judge_isEntryRight_14 rfl (lv_at hl 0 rfl) ?_
  refine z_get C hP hjd q_Judge 1 (by decide) k_228 (fun _ h9 => h9) rfl d_Judge_isEntryRight_15 ?_
  refine z_get C hP u1 q_Walk 11 (by decide) k_193 (fun _ h9 => h9) rfl d_Judge_isEntryRight_18 ?_
  refine z_ki (z_runS (np := 3) C (c_Nam_isName l g T rw na nl rn rf hrw (by omega) (by omega)) hP hD hS k_283 k_13 k_676 k_282 ⟨by decide, by decide, by decide⟩ ⟨Nat.le_of_ble_eq_true rfl, Nat.le_of_ble_eq_true rfl⟩ rfl hl.1 rfl (Nat.le_of_ble_eq_true rfl) d_Judge_isEntryRight_21 ⟨by show _ ≤ 0; omega, by show _ ≤ 0; omega⟩) hS (fun r_21 w H locs hw hP hD hS => ?_)
  obtain ⟨rfl, hw⟩ := hw
  rw [hw] at hP hD
  refine lv_if_eq (tgt := 88) hx hb d_Judge_isEntryRight_24 (by decide) (fun c_24 => ?_) (fun c_24 => ?_)
  · skip
    have c_24 := bI_eq.mp c_24
    refine lv_iconst (v := nI 0) hx hb d_Judge_isEntryRight_88 (by decide) ?_
    exact z_zret C hr hlk hP hD hS (by omega) (by omega) (by first | exact Or.inl rfl | exact Or.inr rfl) ⟨by first | exact bI_t (by rw [c_24, hb9, c_81, decide_eq_true (show 0 < cmpB (zl rf na nl) (zl rf la ll) by omega)]; rfl) | exact bI_f (by rw [hb9, c_81, Bool.and_false]) | exact bI_f (by rw [decide_eq_false (show ¬ 0 < cmpB (zl rf na nl) (zl rf la ll) by omega), Bool.and_false, Bool.false_and]) | exact bI_f (by rw [c_24]; rfl), rfl⟩ d_Judge_isEntryRight_89
  · skip
    have c_24 := bI_ne.mp c_24
    refine lv_aload_n hx hb d_Judge_isEntryRight_27 rfl (lv_at hl 0 rfl) ?_
    refine z_get C hP hjd q_Judge 1 (by decide) k_228 (fun _ h9 => h9) rfl d_Judge_isEntryRight_28 ?_
    refine lv_aload_n hx hb d_Judge_isEntryRight_31 rfl (lv_at hl 0 rfl) ?_
    refine z_get C hP hjd q_Judge 0 (by decide) k_227 (fun _ h9 => h9) rfl d_Judge_isEntryRight_32 ?_
    refine z_get C hP hh q_Lst 0 (by decide) k_137 (fun _ h9 => h9) rfl d_Judge_isEntryRight_35 ?_
    refine lv_iload_n hx hb d_Judge_isEntryRight_38 rfl (lv_at hl 1 rfl) ?_
    refine lv_iload_n hx hb d_Judge_isEntryRight_39 rfl (lv_at hl 2 rfl) ?_
    refine z_ki (z_runV (np := 3) C (c_Walk_compareNameWith l g T k h en lf hn ha st pl kd na nl fi z rw len hd bg mk ly rn rf hh hrw v1 v2 u1 (by omega) rw la ll rn rf hrw (by omega) (by omega)) hP hD hS u1 (show classes[7]? = some (R_Walk, F_Walk, 12) from rfl) k_680 k_10 k_677 k_678 k_679 ⟨by decide, by decide, by decide⟩ ⟨Nat.le_of_ble_eq_true rfl, Nat.le_of_ble_eq_true rfl⟩ rfl hl.1 rfl (Nat.le_of_ble_eq_true rfl) d_Judge_isEntryRight_40 ⟨by show _ ≤ 0; omega, by show _ ≤ 0; omega⟩) hS (fun r_40 w H locs hw hP hD hS => ?_)
    obtain ⟨rfl, hw⟩ := hw
    rw [hw] at hP hD
    have rg := cmpB_rg (xs := zl rf na nl) (ys := zl rf la ll) (by rw [zl_len]; omega) (by rw [zl_len]; omega)
    refine lv_if_le (tgt := 88) hx hb d_Judge_isEntryRight_43 (by decide) (fun c_43 => ?_) (fun c_43 => ?_)
    · skip
      have c_43 : (cmpB (zl rf na nl) (zl rf la ll)) ≤ 0 := (zi_le (a := cmpB (zl rf na nl) (zl rf la ll)) (b := 0) rfl (nI_iI _) (by omega) (by omega) (by omega) (by omega)).mp c_43
      refine lv_iconst (v := nI 0) hx hb d_Judge_isEntryRight_88 (by decide) ?_
      exact z_zret C hr hlk hP hD hS (by omega) (by omega) (by first | exact Or.inl rfl | exact Or.inr rfl) ⟨by first | exact bI_t (by rw [c_24, hb9, c_81, decide_eq_true (show 0 < cmpB (zl rf na nl) (zl rf la ll) by omega)]; rfl) | exact bI_f (by rw [hb9, c_81, Bool.and_false]) | exact bI_f (by rw [decide_eq_false (show ¬ 0 < cmpB (zl rf na nl) (zl rf la ll) by omega), Bool.and_false, Bool.false_and]) | exact bI_f (by rw [c_24]; rfl), rfl⟩ d_Judge_isEntryRight_89
    · skip
      have c_43 : ¬ (cmpB (zl rf na nl) (zl rf la ll)) ≤ 0 := fun q9 => c_43 ((zi_le (a := cmpB (zl rf na nl) (zl rf la ll)) (b := 0) rfl (nI_iI _) (by omega) (by omega) (by omega) (by omega)).mpr q9)
      refine lv_aload_n hx hb d_Judge_isEntryRight_46 rfl (lv_at hl 0 rfl) ?_
      refine z_get C hP hjd q_Judge 2 (by decide) k_229 (fun _ h9 => h9) rfl d_Judge_isEntryRight_47 ?_
      refine lv_aload_n hx hb d_Judge_isEntryRight_50 rfl (lv_at hl 0 rfl) ?_
      refine z_get C hP hjd q_Judge 1 (by decide) k_228 (fun _ h9 => h9) rfl d_Judge_isEntryRight_51 ?_
      refine z_get C hP u1 q_Walk 6 (by decide) k_179 (fun _ h9 => h9) rfl d_Judge_isEntryRight_54 ?_
      refine lv_aload_n hx hb d_Judge_isEntryRight_57 rfl (lv_at hl 0 rfl) ?_
      refine z_get C hP hjd q_Judge 1 (by decide) k_228 (fun _ h9 => h9) rfl d_Judge_isEntryRight_58 ?_
      refine z_get C hP u1 q_Walk 7 (by decide) k_182 (fun _ h9 => h9) rfl d_Judge_isEntryRight_61 ?_
      refine lv_aload_n hx hb d_Judge_isEntryRight_64 rfl (lv_at hl 0 rfl) ?_
      refine z_get C hP hjd q_Judge 1 (by decide) k_228 (fun _ h9 => h9) rfl d_Judge_isEntryRight_65 ?_
      refine z_get C hP u1 q_Walk 8 (by decide) k_185 (fun _ h9 => h9) rfl d_Judge_isEntryRight_68 ?_
      refine lv_aload_n hx hb d_Judge_isEntryRight_71 rfl (lv_at hl 0 rfl) ?_
      refine z_get C hP hjd q_Judge 1 (by decide) k_228 (fun _ h9 => h9) rfl d_Judge_isEntryRight_72 ?_
      refine z_get C hP u1 q_Walk 9 (by decide) k_188 (fun _ h9 => h9) rfl d_Judge_isEntryRight_75 ?_
      refine z_ki (z_runV (np := 4) C (c_Known_agrees l g T d li ed n cap x f kf hkd hli hed k1 k2 hE hN z st pl kd k5 (by omega) (by omega) u6 u7 u8 hSo hN1) hP hD hS hkd (show classes[4]? = some (R_Known, F_Known, 1) from rfl) k_685 k_7 k_682 k_683 k_684 ⟨by decide, by decide, by decide⟩ ⟨Nat.le_of_ble_eq_true rfl, Nat.le_of_ble_eq_true rfl⟩ rfl hl.1 rfl (Nat.le_of_ble_eq_true rfl) d_Judge_isEntryRight_78 ⟨by show _ ≤ 0; omega, by show _ ≤ 0; omega⟩) hS (fun r_78 w H locs hw hP hD hS => ?_)
      obtain ⟨⟨b, rfl, hb9⟩, hw⟩ := hw
      rw [hw] at hP hD
      have hb9 : knB kl z st pl kd = b := by
            cases b with
            | true => exact (knB_iff hkl hkf).mpr (hb9.mp rfl)
            | false =>
              cases hq9 : knB kl z st pl kd with
              | false => rfl
              | true => exact (hb9.mpr ((knB_iff hkl hkf).mp hq9)).symm
      refine lv_if_eq (tgt := 88) hx hb d_Judge_isEntryRight_81 (by decide) (fun c_81 => ?_) (fun c_81 => ?_)
      · skip
        have c_81 := bI_eq.mp c_81
        refine lv_iconst (v := nI 0) hx hb d_Judge_isEntryRight_88 (by decide) ?_
        exact z_zret C hr hlk hP hD hS (by omega) (by omega) (by first | exact Or.inl rfl | exact Or.inr rfl) ⟨by first | exact bI_t (by rw [c_24, hb9, c_81, decide_eq_true (show 0 < cmpB (zl rf na nl) (zl rf la ll) by omega)]; rfl) | exact bI_f (by rw [hb9, c_81, Bool.and_false]) | exact bI_f (by rw [decide_eq_false (show ¬ 0 < cmpB (zl rf na nl) (zl rf la ll) by omega), Bool.and_false, Bool.false_and]) | exact bI_f (by rw [c_24]; rfl), rfl⟩ d_Judge_isEntryRight_89
      · skip
        have c_81 := bI_ne.mp c_81
        refine lv_iconst (v := nI 1) hx hb d_Judge_isEntryRight_84 (by decide) ?_
        refine lv_goto (tgt := 89) hx hb d_Judge_isEntryRight_85 (by decide) ?_
        exact z_zret C hr hlk hP hD hS (by omega) (by omega) (by first | exact Or.inl rfl | exact Or.inr rfl) ⟨by first | exact bI_t (by rw [c_24, hb9, c_81, decide_eq_true (show 0 < cmpB (zl rf na nl) (zl rf la ll) by omega)]; rfl) | exact bI_f (by rw [hb9, c_81, Bool.and_false]) | exact bI_f (by rw [decide_eq_false (show ¬ 0 < cmpB (zl rf na nl) (zl rf la ll) by omega), Bool.and_false, Bool.false_and]) | exact bI_f (by rw [c_24]; rfl), rfl⟩ d_Judge_isEntryRight_89
set_option maxHeartbeats 4000000 in
set_option maxRecDepth 100000 in
theorem c_Judge_isMarkRight (l : Launch) (g : zT) (T : va_W) (jd met d : Nat) (vd : Int32) (k h en lf hn ha st pl kd na nl : Nat) (fi : Int32) (z : Int) (rw len hd bg mk ly rn : Nat) (rf : Nat → UInt8) (hh : (h, zo 5 [.ref rw, .int (nI len), .int (nI hd), .int (nI bg), .ref mk, .ref ly]) ∈ T) (hrw : (rw, zBy g rn rf) ∈ T) (v1 : len ≤ rn) (v2 : rn ≤ 65536) (med mn mcap : Nat) (mx : Int32) (mfn : Nat → Option Nat) (mf : Nat → zM) (hmk : (mk, zo 3 [.int mx, .ref med, .int (nI mn)]) ∈ T) (hmd : 0 < mn → (med, zOb g mcap mfn) ∈ T) (m1 : mn ≤ mcap) (m2 : mcap < 60000) (hM : ∀ j, j < mn → ∃ a, mfn j = some a ∧ isMark g T a (mf j) ∧ (mf j).2.2.length ≤ 300) (u1 : (k, zo 7 [.ref h, .int (nI en), .int (nI lf), .long (lN hn), .int (nI ha), .int fi, .long (lI z), .long (lN st), .int (nI pl), .int (nI kd), .int (nI na), .int (nI nl)]) ∈ T) (u2 : na + nl ≤ len) (u3 : ha ≤ len) (u4 : met ≤ mn) (u5 : bg ≤ 40000) : Met l y_Judge_isMarkRight (zw y_Judge_isMarkRight b_Judge_isMarkRight 2 (some .boolean)) (zR 3 72 0 0) (zP g [.ref jd] ((jd, zo 8 [.ref h, .ref k, .ref d, .int vd, .int (nI met)]) :: T)) (zQi g (fun r w => (∃ b met2, r = bI b ∧ w = (jd, zo 8 [.ref h, .ref k, .ref d, .int vd, .int (nI met2)]) :: T ∧ met2 ≤ mn ∧ (if met < mn ∧ (mf met).1 = nI ha then (b = decide ((mf met).2.1 = nI (8194 * ((bg + ha) / 8192)) ∧ zl rf na nl = (mf met).2.2) ∧ met2 = met + 1) else (b = true ∧ met2 = met))))) 0 0 (zA g) := by
  refine zMet (by decide) (Nat.le_of_ble_eq_true rfl) ?_
  intro p e s m below meth c ls C hr hlk hnm hP hD hl
  have hx := C.1.1
  have hb := C.1.2.1
  have hS : va_S (zA g) s.heap s.heap [] := va_S.rf
  have hl : lv_has ls 2 [(0, .ref jd)] := hl
  refine lv_aload_n hx hb d_Judge_isMarkRight_0 rfl (lv_at hl 0 rfl) ?_
  refine z_get C hP List.mem_cons_self q_Judge 4 (by decide) k_231 (fun _ h9 => h9) rfl d_Judge_isMarkRight_1 ?_
  refine lv_aload_n hx hb d_Judge_isMarkRight_4 rfl (lv_at hl 0 rfl) ?_
  refine z_get C hP List.mem_cons_self q_Judge 0 (by decide) k_227 (fun _ h9 => h9) rfl d_Judge_isMarkRight_5 ?_
  refine z_get C hP (List.mem_cons_of_mem _ hh) q_Lst 4 (by decide) k_149 (fun _ h9 => h9) rfl d_Judge_isMarkRight_8 ?_
  refine z_ki (z_runV (np := 0) C (c_AL_size l g ((jd, zo 8 [.ref h, .ref k, .ref d, .int vd, .int (nI met)]) :: T) mk med mx (nI mn) (List.mem_cons_of_mem _ hmk)) hP hD hS (List.mem_cons_of_mem _ hmk) (show classes[3]? = some (R_AL, F_AL, 3) from rfl) k_296 k_6 k_649 k_294 k_295 ⟨by decide, by decide, by decide⟩ ⟨Nat.le_of_ble_eq_true rfl, Nat.le_of_ble_eq_true rfl⟩ rfl hl.1 rfl (Nat.le_of_ble_eq_true rfl) d_Judge_isMarkRight_11 ⟨by show _ ≤ 0; omega, by show _ ≤ 0; omega⟩) hS (fun r_11 w H locs hw hP hD hS => ?_)
  obtain ⟨rfl, hw⟩ := hw
  rw [hw] at hP hD
  refine lv_icmp_lt (tgt := 19) hx hb d_Judge_isMarkRight_14 (by decide) (fun c_14 => ?_) (fun c_14 => ?_)
  · skip
    have c_14 : met < mn := (nI_ltI (a := met) (b := mn) (by omega) (by omega)).mp c_14
    refine lv_aload_n hx hb d_Judge_isMarkRight_19 rfl (lv_at hl 0 rfl) ?_
    refine z_get C hP List.mem_cons_self q_Judge 0 (by decide) k_227 (fun _ h9 => h9) rfl d_Judge_isMarkRight_20 ?_
    refine z_get C hP (List.mem_cons_of_mem _ hh) q_Lst 4 (by decide) k_149 (fun _ h9 => h9) rfl d_Judge_isMarkRight_23 ?_
    refine lv_aload_n hx hb d_Judge_isMarkRight_26 rfl (lv_at hl 0 rfl) ?_
    refine z_get C hP List.mem_cons_self q_Judge 4 (by decide) k_231 (fun _ h9 => h9) rfl d_Judge_isMarkRight_27 ?_
    obtain ⟨a, hf, ⟨nm, nf, hm2, hm3, hz⟩, hl9⟩ := hM met (by omega)
    refine z_kq (z_runV (np := 1) C (c_AL_get l g ((jd, zo 8 [.ref h, .ref k, .ref d, .int vd, .int (nI met)]) :: T) mk med mn mcap met a mx mfn (List.mem_cons_of_mem _ hmk) (List.mem_cons_of_mem _ (hmd (by omega))) (by omega) m1 (by omega) hf) hP hD hS (List.mem_cons_of_mem _ hmk) (show classes[3]? = some (R_AL, F_AL, 3) from rfl) k_304 k_6 k_691 k_302 k_303 ⟨by decide, by decide, by decide⟩ ⟨Nat.le_of_ble_eq_true rfl, Nat.le_of_ble_eq_true rfl⟩ rfl hl.1 rfl (Nat.le_of_ble_eq_true rfl) d_Judge_isMarkRight_30 ⟨by show _ ≤ 0; omega, by show _ ≤ 0; omega⟩) hS (fun r_30 w H locs hw hP hD hS => ?_)
    obtain ⟨rfl, hw⟩ := hw
    rw [hw] at hP hD
    refine z_cast C hP (List.mem_cons_of_mem _ hm2) (show classes[10]? = some (R_Mark, F_Mark, 3) from rfl) k_692 k_987 d_Judge_isMarkRight_33 ?_
    refine lv_astore_n (lv' := [(1, .ref a), (0, .ref jd)]) hx hb d_Judge_isMarkRight_36 rfl hl (by decide) rfl (fun ls hl => ?_)
    refine lv_aload_n hx hb d_Judge_isMarkRight_37 rfl (lv_at hl 0 rfl) ?_
    refine z_get C hP (List.mem_cons_of_mem _ hm2) q_Mark 0 (by decide) k_566 (fun _ h9 => h9) rfl d_Judge_isMarkRight_38 ?_
    refine lv_aload_n hx hb d_Judge_isMarkRight_41 rfl (lv_at hl 1 rfl) ?_
    refine z_get C hP List.mem_cons_self q_Judge 1 (by decide) k_228 (fun _ h9 => h9) rfl d_Judge_isMarkRight_42 ?_
    refine z_get C hP (List.mem_cons_of_mem _ u1) q_Walk 4 (by decide) k_175 (fun _ h9 => h9) rfl d_Judge_isMarkRight_45 ?_
    refine lv_icmp_eq (tgt := 53) hx hb d_Judge_isMarkRight_48 (by decide) (fun c_48 => ?_) (fun c_48 => ?_)
    · skip
      refine lv_aload_n hx hb d_Judge_isMarkRight_53 rfl (lv_at hl 1 rfl) ?_
      refine lv_dup hx hb d_Judge_isMarkRight_54 rfl ?_
      refine z_get C hP List.mem_cons_self q_Judge 4 (by decide) k_231 (fun _ h9 => h9) rfl d_Judge_isMarkRight_55 ?_
      refine lv_iconst (v := nI 1) hx hb d_Judge_isMarkRight_58 (by decide) ?_
      refine z_iadd (v := nI (met + 1)) C d_Judge_isMarkRight_59 (nI_add _ _) ?_
      refine z_put C hP hD hS 0 rfl q_Judge 4 (by decide) k_231 (fun _ h9 => h9) rfl rfl rfl (Nat.le_of_ble_eq_true rfl) d_Judge_isMarkRight_60 (ws' := (jd, zo 8 [.ref h, .ref k, .ref d, .int vd, .int (nI (met + 1))]) :: T) rfl (fun H locs hP hD hS => ?_)
      refine lv_aload_n hx hb d_Judge_isMarkRight_63 rfl (lv_at hl 0 rfl) ?_
      refine z_get C hP (List.mem_cons_of_mem _ hm2) q_Mark 1 (by decide) k_570 (fun _ h9 => h9) rfl d_Judge_isMarkRight_64 ?_
      refine lv_aload_n hx hb d_Judge_isMarkRight_67 rfl (lv_at hl 1 rfl) ?_
      refine z_get C hP List.mem_cons_self q_Judge 0 (by decide) k_227 (fun _ h9 => h9) rfl d_Judge_isMarkRight_68 ?_
      refine lv_aload_n hx hb d_Judge_isMarkRight_71 rfl (lv_at hl 0 rfl) ?_
      refine z_get C hP (List.mem_cons_of_mem _ hm2) q_Mark 0 (by decide) k_566 (fun _ h9 => h9) rfl d_Judge_isMarkRight_72 ?_
      refine z_topi (y := nI ha) c_48 ?_
      refine z_ki (z_runV (np := 1) C (c_Lst_startOfPieceWith l g ((jd, zo 8 [.ref h, .ref k, .ref d, .int vd, .int (nI (met + 1))]) :: T) h rw len hd bg mk ly (List.mem_cons_of_mem _ hh) ha (by omega)) hP hD hS (List.mem_cons_of_mem _ hh) (show classes[5]? = some (R_Lst, F_Lst, 6) from rfl) k_560 k_8 k_693 k_558 k_559 ⟨by decide, by decide, by decide⟩ ⟨Nat.le_of_ble_eq_true rfl, Nat.le_of_ble_eq_true rfl⟩ rfl hl.1 rfl (Nat.le_of_ble_eq_true rfl) d_Judge_isMarkRight_75 ⟨by show _ ≤ 0; omega, by show _ ≤ 0; omega⟩) hS (fun r_75 w H locs hw hP hD hS => ?_)
      obtain ⟨rfl, hw⟩ := hw
      rw [hw] at hP hD
      refine lv_icmp_ne (tgt := 105) hx hb d_Judge_isMarkRight_78 (by decide) (fun c_78 => ?_) (fun c_78 => ?_)
      · skip
        refine lv_iconst (v := nI 0) hx hb d_Judge_isMarkRight_105 (by decide) ?_
        exact z_zret C hr hlk hP hD hS (by omega) (by omega) (by first | exact Or.inl rfl | exact Or.inr rfl) ⟨decide ((mf met).2.1 = nI (8194 * ((bg + ha) / 8192)) ∧ zl rf na nl = (mf met).2.2), met + 1, by first | exact bI_t (decide_eq_true ⟨c_78, c_98⟩) | exact bI_f (decide_eq_false (fun q9 => c_98 q9.2)) | exact bI_f (decide_eq_false (fun q9 => c_78 q9.1)), rfl, by omega, by rw [if_pos ⟨by omega, c_48⟩]; exact ⟨rfl, rfl⟩⟩ d_Judge_isMarkRight_106
      · skip
        refine lv_aload_n hx hb d_Judge_isMarkRight_81 rfl (lv_at hl 1 rfl) ?_
        refine z_get C hP List.mem_cons_self q_Judge 1 (by decide) k_228 (fun _ h9 => h9) rfl d_Judge_isMarkRight_82 ?_
        refine lv_aload_n hx hb d_Judge_isMarkRight_85 rfl (lv_at hl 0 rfl) ?_
        refine z_get C hP (List.mem_cons_of_mem _ hm2) q_Mark 2 (by decide) k_573 (fun _ h9 => h9) rfl d_Judge_isMarkRight_86 ?_
        refine lv_iconst (v := nI 0) hx hb d_Judge_isMarkRight_89 (by decide) ?_
        refine lv_aload_n hx hb d_Judge_isMarkRight_90 rfl (lv_at hl 0 rfl) ?_
        refine z_get C hP (List.mem_cons_of_mem _ hm2) q_Mark 2 (by decide) k_573 (fun _ h9 => h9) rfl d_Judge_isMarkRight_91 ?_
        refine z_alenB C hP (List.mem_cons_of_mem _ hm3) d_Judge_isMarkRight_94 ?_
        refine z_ki (z_runV (np := 3) C (c_Walk_compareNameWith l g ((jd, zo 8 [.ref h, .ref k, .ref d, .int vd, .int (nI (met + 1))]) :: T) k h en lf hn ha st pl kd na nl fi z rw len hd bg mk ly rn rf (List.mem_cons_of_mem _ hh) (List.mem_cons_of_mem _ hrw) v1 v2 (List.mem_cons_of_mem _ u1) (by omega) nm 0 (mf met).2.2.length (mf met).2.2.length nf (List.mem_cons_of_mem _ hm3) (by omega) (by omega)) hP hD hS (List.mem_cons_of_mem _ u1) (show classes[7]? = some (R_Walk, F_Walk, 12) from rfl) k_680 k_10 k_677 k_678 k_679 ⟨by decide, by decide, by decide⟩ ⟨Nat.le_of_ble_eq_true rfl, Nat.le_of_ble_eq_true rfl⟩ rfl hl.1 rfl (Nat.le_of_ble_eq_true rfl) d_Judge_isMarkRight_95 ⟨by show _ ≤ 0; omega, by show _ ≤ 0; omega⟩) hS (fun r_95 w H locs hw hP hD hS => ?_)
        obtain ⟨rfl, hw⟩ := hw
        rw [hw] at hP hD
        have rg := cmpB_rg (xs := zl rf na nl) (ys := zl nf 0 (mf met).2.2.length) (by rw [zl_len]; omega) (by rw [zl_len]; omega)
        refine lv_if_ne (tgt := 105) hx hb d_Judge_isMarkRight_98 (by decide) (fun c_98 => ?_) (fun c_98 => ?_)
        · skip
          have c_98 : ¬ (cmpB (zl rf na nl) (zl nf 0 (mf met).2.2.length)) = 0 := fun q9 => c_98 ((zi_eq (a := cmpB (zl rf na nl) (zl nf 0 (mf met).2.2.length)) (b := 0) rfl (nI_iI _) (by omega) (by omega) (by omega) (by omega)).mpr q9)
          rw [hz] at c_98
          have c_98 : ¬ zl rf na nl = (mf met).2.2 := fun q9 => c_98 (cmpB_0.mpr q9)
          refine lv_iconst (v := nI 0) hx hb d_Judge_isMarkRight_105 (by decide) ?_
          exact z_zret C hr hlk hP hD hS (by omega) (by omega) (by first | exact Or.inl rfl | exact Or.inr rfl) ⟨decide ((mf met).2.1 = nI (8194 * ((bg + ha) / 8192)) ∧ zl rf na nl = (mf met).2.2), met + 1, by first | exact bI_t (decide_eq_true ⟨c_78, c_98⟩) | exact bI_f (decide_eq_false (fun q9 => c_98 q9.2)) | exact bI_f (decide_eq_false (fun q9 => c_78 q9.1)), rfl, by omega, by rw [if_pos ⟨by omega, c_48⟩]; exact ⟨rfl, rfl⟩⟩ d_Judge_isMarkRight_106
        · skip
          have c_98 : (cmpB (zl rf na nl) (zl nf 0 (mf met).2.2.length)) = 0 := (zi_eq (a := cmpB (zl rf na nl) (zl nf 0 (mf met).2.2.length)) (b := 0) rfl (nI_iI _) (by omega) (by omega) (by omega) (by omega)).mp c_98
          rw [hz] at c_98
          have c_98 := cmpB_0.mp c_98
          refine lv_iconst (v := nI 1) hx hb d_Judge_isMarkRight_101 (by decide) ?_
          refine lv_goto (tgt := 106) hx hb d_Judge_isMarkRight_102 (by decide) ?_
          exact z_zret C hr hlk hP hD hS (by omega) (by omega) (by first | exact Or.inl rfl | exact Or.inr rfl) ⟨decide ((mf met).2.1 = nI (8194 * ((bg + ha) / 8192)) ∧ zl rf na nl = (mf met).2.2), met + 1, by first | exact bI_t (decide_eq_true ⟨c_78, c_98⟩) | exact bI_f (decide_eq_false (fun q9 => c_98 q9.2)) | exact bI_f (decide_eq_false (fun q9 => c_78 q9.1)), rfl, by omega, by rw [if_pos ⟨by omega, c_48⟩]; exact ⟨rfl, rfl⟩⟩ d_Judge_isMarkRight_106
    · skip
      refine lv_iconst (v := nI 1) hx hb d_Judge_isMarkRight_51 (by decide) ?_
      exact z_zret C hr hlk hP hD hS (by omega) (by omega) (by first | exact Or.inl rfl | exact Or.inr rfl) ⟨true, met, rfl, rfl, u4, by rw [if_neg (fun q9 => c_48 q9.2)]; exact ⟨rfl, rfl⟩⟩ d_Judge_isMarkRight_52
  · skip
    have c_14 : ¬ met < mn := fun q9 => c_14 ((nI_ltI (a := met) (b := mn) (by omega) (by omega)).mpr q9)
    refine lv_iconst (v := nI 1) hx hb d_Judge_isMarkRight_17 (by decide) ?_
    exact z_zret C hr hlk hP hD hS (by omega) (by omega) (by first | exact Or.inl rfl | exact Or.inr rfl) ⟨true, met, rfl, rfl, u4, by rw [if_neg (by omega)]; exact ⟨rfl, rfl⟩⟩ d_Judge_isMarkRight_18
