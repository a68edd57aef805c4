set_option maxHeartbeats 4000000 in
set_option maxRecDepth 100000 in
theorem c_Known_placeOf (l : Launch) (g : zT) (T : va_W) (d li ed n cap : Nat) (x : Int32) (f : Nat → Option Nat) (kf : Nat → zE) (hd : (d, zo 4 [.ref li]) ∈ T) (hli : (li, zo 3 [.int x, .ref ed, .int (nI n)]) ∈ T) (hed : 0 < n → (ed, zOb g cap f) ∈ T) (v1 : n ≤ cap) (v2 : cap < 60000) (hE : ∀ j, j < n → ∃ a, f j = some a ∧ isEnt g T a (kf j)) (hN : ∀ j, j < n → (kf j).2.1 ≤ 100000 ∧ (kf j).2.2.1 < 65536 ∧ (kf j).2.2.2.1 < 65536 ∧ (kf j).2.2.2.2 < 65536) (num : Nat) (v5 : n ≤ 1500) (v6 : num < 2 ^ 20) (hSo : ∀ i j, i < j → j < n → (kf i).2.1 < (kf j).2.1) : Met l y_Known_placeOf (zw y_Known_placeOf b_Known_placeOf 6 (some .int)) (zR 3 64 0 0) (zP g [.ref d, .int (nI num)] (T)) (zQi g (fun r w => (∃ k, r = nI k ∧ k ≤ n ∧ (∀ j, j < k → (kf j).2.1 < num) ∧ ∀ j, k ≤ j → j < n → ¬ (kf j).2.1 < num) ∧ w = T)) 0 0 (zA g) := by
  refine zMet (by decide) (Nat.le_of_ble_eq_true rfl) ?_
  intro p e s m below meth c ls C hr hlk hnm hP hD hl
  have hx := C.1.1
  have hb := C.1.2.1
  have hS : va_S (zA g) s.heap s.heap [] := va_S.rf
  have hl : lv_has ls 6 [(0, .ref d), (1, .int (nI num))] := hl
  have L_13 : ∀ (nu : Nat) (lo hi k : Nat) (_ : lo ≤ hi) (_ : hi ≤ n) (_ : k + (hi - lo) ≤ 1500) (_ : ∀ j, j < lo → (kf j).2.1 < num) (_ : ∀ j, hi ≤ j → j < n → ¬ (kf j).2.1 < num) (_ : hi - lo < nu) (H : Heap) (locs : List Loc), va_P g.1 classes (T) H → va_D (zA g) (T) → va_S (zA g) s.heap H locs → ∀ ls : Array Slot, lv_has ls 6 [(0, .ref d), (1, .int (nI num)), (2, .int (nI lo)), (3, .int (nI hi)), (4, .int (nI k))] → W p l e (zR 3 64 0 0) s m [.ref d, .int (nI num)].toArray below meth c H locs 0 0 (MQ below (zQi g (fun r w => (∃ k, r = nI k ∧ k ≤ n ∧ (∀ j, j < k → (kf j).2.1 < num) ∧ ∀ j, k ≤ j → j < n → ¬ (kf j).2.1 < num) ∧ w = T)) [.ref d, .int (nI num)].toArray s 0 0 (zA g)) (F0 m 13 ls []) := by
    intro nu
    induction nu with
    | zero => intros; omega
    | succ nu ih =>
      intro lo hi k g1 g2 g3 g4 g5 hmu H locs hP hD hS ls hl
      refine lv_iload hx hb d_Known_placeOf_13 (lv_at hl 4 rfl) ?_
      refine lv_sipush (v := nI 1500) hx hb d_Known_placeOf_15 (by decide) ?_
      refine lv_icmp_ge (tgt := 69) hx hb d_Known_placeOf_18 (by decide) (fun c_18 => ?_) (fun c_18 => ?_)
      · skip
        have c_18 : 1500 ≤ k := (nI_leI (a := 1500) (b := k) (by decide) (by omega)).mp c_18
        refine lv_iload_n hx hb d_Known_placeOf_69 rfl (lv_at hl 2 rfl) ?_
        exact z_iret C hr hlk hP hD hS (by omega) (by omega) ⟨⟨lo, rfl, by omega, g4, fun j hj hn9 => g5 j (by omega) hn9⟩, rfl⟩ d_Known_placeOf_70
      · skip
        have c_18 : ¬ 1500 ≤ k := fun q9 => c_18 ((nI_leI (a := 1500) (b := k) (by decide) (by omega)).mpr q9)
        refine lv_iload_n hx hb d_Known_placeOf_21 rfl (lv_at hl 2 rfl) ?_
        refine lv_iload_n hx hb d_Known_placeOf_22 rfl (lv_at hl 3 rfl) ?_
        refine lv_icmp_ge (tgt := 69) hx hb d_Known_placeOf_23 (by decide) (fun c_23 => ?_) (fun c_23 => ?_)
        · skip
          have c_23 : hi ≤ lo := (nI_leI (a := hi) (b := lo) (by omega) (by omega)).mp c_23
          refine lv_iload_n hx hb d_Known_placeOf_69 rfl (lv_at hl 2 rfl) ?_
          exact z_iret C hr hlk hP hD hS (by omega) (by omega) ⟨⟨lo, rfl, by omega, g4, fun j hj hn9 => g5 j (by omega) hn9⟩, rfl⟩ d_Known_placeOf_70
        · skip
          have c_23 : ¬ hi ≤ lo := fun q9 => c_23 ((nI_leI (a := hi) (b := lo) (by omega) (by omega)).mpr q9)
          refine lv_iload_n hx hb d_Known_placeOf_26 rfl (lv_at hl 2 rfl) ?_
          refine lv_iload_n hx hb d_Known_placeOf_27 rfl (lv_at hl 3 rfl) ?_
          refine z_iadd (v := nI (lo + hi)) C d_Known_placeOf_28 (nI_add _ _) ?_
          refine lv_iconst (v := nI 2) hx hb d_Known_placeOf_29 (by decide) ?_
          refine z_idiv (v := nI ((lo + hi) / 2)) C d_Known_placeOf_30 (by decide) (pk_div (by omega) (by decide) (by decide)) ?_
          refine lv_istore (lv' := [(5, .int (nI ((lo + hi) / 2))), (0, .ref d), (1, .int (nI num)), (2, .int (nI lo)), (3, .int (nI hi)), (4, .int (nI k))]) hx hb d_Known_placeOf_31 hl (by decide) rfl (fun ls hl => ?_)
          refine lv_aload_n hx hb d_Known_placeOf_33 rfl (lv_at hl 1 rfl) ?_
          refine z_get C hP hd q_Known 0 (by decide) k_91 (fun _ h9 => h9) rfl d_Known_placeOf_34 ?_
          refine lv_iload hx hb d_Known_placeOf_37 (lv_at hl 0 rfl) ?_
          obtain ⟨a, hf, ⟨nm, nf, hm2, hm3, hz⟩⟩ := hE ((lo + hi) / 2) (by omega)
          have nb := hN ((lo + hi) / 2) (by omega)
          refine z_kq (z_runV (np := 1) C (c_AL_get l g T li ed n cap ((lo + hi) / 2) a x f hli (hed (by omega)) (by omega) v1 (by omega) hf) hP hD hS hli (show classes[3]? = some (R_AL, F_AL, 3) from rfl) k_304 k_6 k_339 k_302 k_303 ⟨by decide, by decide, by decide⟩ ⟨Nat.le_of_ble_eq_true rfl, Nat.le_of_ble_eq_true rfl⟩ rfl hl.1 rfl (Nat.le_of_ble_eq_true rfl) d_Known_placeOf_39 ⟨by show _ ≤ 0; omega, by show _ ≤ 0; omega⟩) hS (fun r_39 w H locs hw hP hD hS => ?_)
          obtain ⟨rfl, hw⟩ := hw
          rw [hw] at hP hD
          refine z_cast C hP hm2 (show classes[9]? = some (R_Ent, F_Ent, 5) from rfl) k_340 k_986 d_Known_placeOf_42 ?_
          refine z_get C hP hm2 q_Ent 1 (by decide) k_370 (fun _ h9 => h9) rfl d_Known_placeOf_45 ?_
          refine lv_iload_n hx hb d_Known_placeOf_48 rfl (lv_at hl 2 rfl) ?_
          refine lv_icmp_ge (tgt := 60) hx hb d_Known_placeOf_49 (by decide) (fun c_49 => ?_) (fun c_49 => ?_)
          · skip
            have c_49 : num ≤ ((kf ((lo + hi) / 2)).2.1) := (nI_leI (a := num) (b := (kf ((lo + hi) / 2)).2.1) (by omega) (by omega)).mp c_49
            refine lv_iload hx hb d_Known_placeOf_60 (lv_at hl 0 rfl) ?_
            refine lv_istore_n (lv' := [(3, .int (nI ((lo + hi) / 2))), (5, .int (nI ((lo + hi) / 2))), (0, .ref d), (1, .int (nI num)), (2, .int (nI lo)), (4, .int (nI k))]) hx hb d_Known_placeOf_62 rfl hl (by decide) rfl (fun ls hl => ?_)
            refine lv_iinc (v := nI (k + 1)) (lv' := [(4, .int (nI (k + 1))), (3, .int (nI ((lo + hi) / 2))), (5, .int (nI ((lo + hi) / 2))), (0, .ref d), (1, .int (nI num)), (2, .int (nI lo))]) hx hb d_Known_placeOf_63 hl (k := 5) rfl (by rw [show Int32.ofInt 1 = nI 1 by decide]; exact nI_add _ _) (by decide) rfl (fun ls hl => ?_)
            refine lv_goto (tgt := 13) hx hb d_Known_placeOf_66 (by decide) ?_
            exact ih _ _ _ (by omega) (by omega) (by omega) (fun j hj => by first | exact g4 j hj | (by_cases q9 : j = (lo + hi) / 2; (rw [q9]; omega); have := hSo j ((lo + hi) / 2) (by omega) (by omega); omega)) (fun j hj hn9 => by first | exact g5 j hj hn9 | (by_cases q9 : (lo + hi) / 2 = j; (rw [← q9]; omega); have := hSo ((lo + hi) / 2) j (by omega) hn9; omega)) (by omega) _ _ hP hD hS ls (lv_sub hl [3, 4, 5, 1, 0] rfl)
          · skip
            have c_49 : ¬ num ≤ ((kf ((lo + hi) / 2)).2.1) := fun q9 => c_49 ((nI_leI (a := num) (b := (kf ((lo + hi) / 2)).2.1) (by omega) (by omega)).mpr q9)
            refine lv_iload hx hb d_Known_placeOf_52 (lv_at hl 0 rfl) ?_
            refine lv_iconst (v := nI 1) hx hb d_Known_placeOf_54 (by decide) ?_
            refine z_iadd (v := nI (((lo + hi) / 2) + 1)) C d_Known_placeOf_55 (nI_add _ _) ?_
            refine lv_istore_n (lv' := [(2, .int (nI (((lo + hi) / 2) + 1))), (5, .int (nI ((lo + hi) / 2))), (0, .ref d), (1, .int (nI num)), (3, .int (nI hi)), (4, .int (nI k))]) hx hb d_Known_placeOf_56 rfl hl (by decide) rfl (fun ls hl => ?_)
            refine lv_goto (tgt := 63) hx hb d_Known_placeOf_57 (by decide) ?_
            refine lv_iinc (v := nI (k + 1)) (lv' := [(4, .int (nI (k + 1))), (2, .int (nI (((lo + hi) / 2) + 1))), (5, .int (nI ((lo + hi) / 2))), (0, .ref d), (1, .int (nI num)), (3, .int (nI hi))]) hx hb d_Known_placeOf_63 hl (k := 5) rfl (by rw [show Int32.ofInt 1 = nI 1 by decide]; exact nI_add _ _) (by decide) rfl (fun ls hl => ?_)
            refine lv_goto (tgt := 13) hx hb d_Known_placeOf_66 (by decide) ?_
            exact ih _ _ _ (by omega) (by omega) (by omega) (fun j hj => by first | exact g4 j hj | (by_cases q9 : j = (lo + hi) / 2; (rw [q9]; omega); have := hSo j ((lo + hi) / 2) (by omega) (by omega); omega)) (fun j hj hn9 => by first | exact g5 j hj hn9 | (by_cases q9 : (lo + hi) / 2 = j; (rw [← q9]; omega); have := hSo ((lo + hi) / 2) j (by omega) hn9; omega)) (by omega) _ _ hP hD hS ls (lv_sub hl [3, 4, 1, 5, 0] rfl)
  refine lv_iconst (v := nI 0) hx hb d_Known_placeOf_0 (by decide) ?_
  refine lv_istore_n (lv' := [(2, .int (nI 0)), (0, .ref d), (1, .int (nI num))]) hx hb d_Known_placeOf_1 rfl hl (by decide) rfl (fun ls hl => ?_)
  refine lv_aload_n hx hb d_Known_placeOf_2 rfl (lv_at hl 1 rfl) ?_
  refine z_get C hP hd q_Known 0 (by decide) k_91 (fun _ h9 => h9) rfl d_Known_placeOf_3 ?_
  refine z_ki (z_runV (np := 0) C (c_AL_size l g T li ed x (nI n) hli) hP hD hS hli (show classes[3]? = some (R_AL, F_AL, 3) from rfl) k_296 k_6 k_334 k_294 k_295 ⟨by decide, by decide, by decide⟩ ⟨Nat.le_of_ble_eq_true rfl, Nat.le_of_ble_eq_true rfl⟩ rfl hl.1 rfl (Nat.le_of_ble_eq_true rfl) d_Known_placeOf_6 ⟨by show _ ≤ 0; omega, by show _ ≤ 0; omega⟩) hS (fun r_6 w H locs hw hP hD hS => ?_)
  obtain ⟨rfl, hw⟩ := hw
  rw [hw] at hP hD
  refine lv_istore_n (lv' := [(3, .int (nI n)), (2, .int (nI 0)), (0, .ref d), (1, .int (nI num))]) hx hb d_Known_placeOf_9 rfl hl (by decide) rfl (fun ls hl => ?_)
  refine lv_iconst (v := nI 0) hx hb d_Known_placeOf_10 (by decide) ?_
  refine lv_istore (lv' := [(4, .int (nI 0)), (3, .int (nI n)), (2, .int (nI 0)), (0, .ref d), (1, .int (nI num))]) hx hb d_Known_placeOf_11 hl (by decide) rfl (fun ls hl => ?_)
  exact L_13 _ 0 n 0 (Nat.zero_le _) (Nat.le_refl _) (by omega) (fun _ q9 => absurd q9 (Nat.not_lt_zero _)) (fun j q9 q8 => absurd q8 (by omega)) (Nat.lt_succ_self _) _ _ hP hD hS ls (lv_sub hl [3, 4, 2, 1, 0] rfl)
set_option maxHeartbeats 4000000 in
set_option maxRecDepth 100000 in
theorem c_Known_hasAt (l : Launch) (g : zT) (T : va_W) (d li ed n cap : Nat) (x : Int32) (f : Nat → Option Nat) (kf : Nat → zE) (hd : (d, zo 4 [.ref li]) ∈ T) (hli : (li, zo 3 [.int x, .ref ed, .int (nI n)]) ∈ T) (hed : 0 < n → (ed, zOb g cap f) ∈ T) (v1 : n ≤ cap) (v2 : cap < 60000) (hE : ∀ j, j < n → ∃ a, f j = some a ∧ isEnt g T a (kf j)) (hN : ∀ j, j < n → (kf j).2.1 ≤ 100000 ∧ (kf j).2.2.1 < 65536 ∧ (kf j).2.2.2.1 < 65536 ∧ (kf j).2.2.2.2 < 65536) (i num : Nat) (hi : i ≤ n) (v6 : num < 2 ^ 20) : Met l y_Known_hasAt (zw y_Known_hasAt b_Known_hasAt 3 (some .boolean)) (zR 3 64 0 0) (zP g [.ref d, .int (nI i), .int (nI num)] (T)) (zQi g (fun r w => r = bI (decide (i < n ∧ (kf i).2.1 = num)) ∧ w = T)) 0 0 (zA g) := by
  refine zMet (by decide) (Nat.le_of_ble_eq_true rfl) ?_
  intro p e s m below meth c ls C hr hlk hnm hP hD hl
  have hx := C.1.1
  have hb := C.1.2.1
  have hS : va_S (zA g) s.heap s.heap [] := va_S.rf
  have hl : lv_has ls 3 [(0, .ref d), (1, .int (nI i)), (2, .int (nI num))] := hl
  refine lv_iload_n hx hb d_Known_hasAt_0 rfl (lv_at hl 1 rfl) ?_
  refine lv_aload_n hx hb d_Known_hasAt_1 rfl (lv_at hl 0 rfl) ?_
  refine z_get C hP hd q_Known 0 (by decide) k_91 (fun _ h9 => h9) rfl d_Known_hasAt_2 ?_
  refine z_ki (z_runV (np := 0) C (c_AL_size l g T li ed x (nI n) hli) hP hD hS hli (show classes[3]? = some (R_AL, F_AL, 3) from rfl) k_296 k_6 k_334 k_294 k_295 ⟨by decide, by decide, by decide⟩ ⟨Nat.le_of_ble_eq_true rfl, Nat.le_of_ble_eq_true rfl⟩ rfl hl.1 rfl (Nat.le_of_ble_eq_true rfl) d_Known_hasAt_5 ⟨by show _ ≤ 0; omega, by show _ ≤ 0; omega⟩) hS (fun r_5 w H locs hw hP hD hS => ?_)
  obtain ⟨rfl, hw⟩ := hw
  rw [hw] at hP hD
  refine lv_icmp_ge (tgt := 33) hx hb d_Known_hasAt_8 (by decide) (fun c_8 => ?_) (fun c_8 => ?_)
  · skip
    have c_8 : n ≤ i := (nI_leI (a := n) (b := i) (by omega) (by omega)).mp c_8
    refine lv_iconst (v := nI 0) hx hb d_Known_hasAt_33 (by decide) ?_
    exact z_zret C hr hlk hP hD hS (by omega) (by omega) (by first | exact Or.inl rfl | exact Or.inr rfl) ⟨by first | exact bI_t (decide_eq_true (by omega)) | exact bI_f (decide_eq_false (by omega)), rfl⟩ d_Known_hasAt_34
  · skip
    have c_8 : ¬ n ≤ i := fun q9 => c_8 ((nI_leI (a := n) (b := i) (by omega) (by omega)).mpr q9)
    refine lv_aload_n hx hb d_Known_hasAt_11 rfl (lv_at hl 0 rfl) ?_
    refine z_get C hP hd q_Known 0 (by decide) k_91 (fun _ h9 => h9) rfl d_Known_hasAt_12 ?_
    refine lv_iload_n hx hb d_Known_hasAt_15 rfl (lv_at hl 1 rfl) ?_
    obtain ⟨a, hf, ⟨nm, nf, hm2, hm3, hz⟩⟩ := hE (i) (by omega)
    have nb := hN (i) (by omega)
    refine z_kq (z_runV (np := 1) C (c_AL_get l g T li ed n cap (i) a x f hli (hed (by omega)) (by omega) v1 (by omega) hf) hP hD hS hli (show classes[3]? = some (R_AL, F_AL, 3) from rfl) k_304 k_6 k_339 k_302 k_303 ⟨by decide, by decide, by decide⟩ ⟨Nat.le_of_ble_eq_true rfl, Nat.le_of_ble_eq_true rfl⟩ rfl hl.1 rfl (Nat.le_of_ble_eq_true rfl) d_Known_hasAt_16 ⟨by show _ ≤ 0; omega, by show _ ≤ 0; omega⟩) hS (fun r_16 w H locs hw hP hD hS => ?_)
    obtain ⟨rfl, hw⟩ := hw
    rw [hw] at hP hD
    refine z_cast C hP hm2 (show classes[9]? = some (R_Ent, F_Ent, 5) from rfl) k_340 k_986 d_Known_hasAt_19 ?_
    refine z_get C hP hm2 q_Ent 1 (by decide) k_370 (fun _ h9 => h9) rfl d_Known_hasAt_22 ?_
    refine lv_iload_n hx hb d_Known_hasAt_25 rfl (lv_at hl 2 rfl) ?_
    refine lv_icmp_ne (tgt := 33) hx hb d_Known_hasAt_26 (by decide) (fun c_26 => ?_) (fun c_26 => ?_)
    · skip
      have c_26 : ¬ ((kf (i)).2.1) = num := fun q9 => c_26 ((nI_eq (a := (kf (i)).2.1) (b := num) (by omega) (by omega)).mpr q9)
      refine lv_iconst (v := nI 0) hx hb d_Known_hasAt_33 (by decide) ?_
      exact z_zret C hr hlk hP hD hS (by omega) (by omega) (by first | exact Or.inl rfl | exact Or.inr rfl) ⟨by first | exact bI_t (decide_eq_true (by omega)) | exact bI_f (decide_eq_false (by omega)), rfl⟩ d_Known_hasAt_34
    · skip
      have c_26 : ((kf (i)).2.1) = num := (nI_eq (a := (kf (i)).2.1) (b := num) (by omega) (by omega)).mp c_26
      refine lv_iconst (v := nI 1) hx hb d_Known_hasAt_29 (by decide) ?_
      refine lv_goto (tgt := 34) hx hb d_Known_hasAt_30 (by decide) ?_
      exact z_zret C hr hlk hP hD hS (by omega) (by omega) (by first | exact Or.inl rfl | exact Or.inr rfl) ⟨by first | exact bI_t (decide_eq_true (by omega)) | exact bI_f (decide_eq_false (by omega)), rfl⟩ d_Known_hasAt_34
set_option maxHeartbeats 4000000 in
set_option maxRecDepth 100000 in
theorem c_Known_hasRoomFor (l : Launch) (g : zT) (T : va_W) (d li ed n : Nat) (x num : Int32) (hd : (d, zo 4 [.ref li]) ∈ T) (hli : (li, zo 3 [.int x, .ref ed, .int (nI n)]) ∈ T) (v1 : n < 1500) : Met l y_Known_hasRoomFor (zw y_Known_hasRoomFor b_Known_hasRoomFor 2 (some .boolean)) (zR 4 89 0 0) (zP g [.ref d, .int num] (T)) (zQi g (fun r w => r = nI 1 ∧ w = T)) 0 0 (zA g) := by
  refine zMet (by decide) (Nat.le_of_ble_eq_true rfl) ?_
  intro p e s m below meth c ls C hr hlk hnm hP hD hl
  have hx := C.1.1
  have hb := C.1.2.1
  have hS : va_S (zA g) s.heap s.heap [] := va_S.rf
  have hl : lv_has ls 2 [(0, .ref d), (1, .int num)] := hl
  refine lv_aload_n hx hb d_Known_hasRoomFor_0 rfl (lv_at hl 0 rfl) ?_
  refine z_get C hP hd q_Known 0 (by decide) k_91 (fun _ h9 => h9) rfl d_Known_hasRoomFor_1 ?_
  refine z_ki (z_runV (np := 0) C (c_AL_size l g T li ed x (nI n) hli) hP hD hS hli (show classes[3]? = some (R_AL, F_AL, 3) from rfl) k_296 k_6 k_334 k_294 k_295 ⟨by decide, by decide, by decide⟩ ⟨Nat.le_of_ble_eq_true rfl, Nat.le_of_ble_eq_true rfl⟩ rfl hl.1 rfl (Nat.le_of_ble_eq_true rfl) d_Known_hasRoomFor_4 ⟨by show _ ≤ 0; omega, by show _ ≤ 0; omega⟩) hS (fun r_4 w H locs hw hP hD hS => ?_)
  obtain ⟨rfl, hw⟩ := hw
  rw [hw] at hP hD
  refine lv_sipush (v := nI 1500) hx hb d_Known_hasRoomFor_7 (by decide) ?_
  refine lv_icmp_lt (tgt := 26) hx hb d_Known_hasRoomFor_10 (by decide) (fun c_10 => ?_) (fun c_10 => ?_)
  · skip
    have c_10 : n < 1500 := (nI_ltI (a := n) (b := 1500) (by omega) (by decide)).mp c_10
    refine lv_iconst (v := nI 1) hx hb d_Known_hasRoomFor_26 (by decide) ?_
    refine lv_goto (tgt := 31) hx hb d_Known_hasRoomFor_27 (by decide) ?_
    exact z_zret C hr hlk hP hD hS (by omega) (by omega) (by first | exact Or.inl rfl | exact Or.inr rfl) ⟨rfl, rfl⟩ d_Known_hasRoomFor_31
  · skip
    have c_10 : ¬ n < 1500 := fun q9 => c_10 ((nI_ltI (a := n) (b := 1500) (by omega) (by decide)).mpr q9)
    exact absurd c_10 (by omega)
set_option maxHeartbeats 4000000 in
set_option maxRecDepth 100000 in
theorem c_Known_agrees (l : Launch) (g : zT) (T : va_W) (d li ed n cap : Nat) (x : Int32) (f : Nat → Option Nat) (kf : Nat → zE) (hd : (d, zo 4 [.ref li]) ∈ T) (hli : (li, zo 3 [.int x, .ref ed, .int (nI n)]) ∈ T) (hed : 0 < n → (ed, zOb g cap f) ∈ T) (v1 : n ≤ cap) (v2 : cap < 60000) (hE : ∀ j, j < n → ∃ a, f j = some a ∧ isEnt g T a (kf j)) (hN : ∀ j, j < n → (kf j).2.1 ≤ 100000 ∧ (kf j).2.2.1 < 65536 ∧ (kf j).2.2.2.1 < 65536 ∧ (kf j).2.2.2.2 < 65536) (z : Int) (sv pl kd : Nat) (v5 : n ≤ 1500) (v6 : -1000000 < z) (v7 : z < 10000000000) (v8 : sv < 4294967296) (v9 : pl < 65536) (v10 : kd < 65536) (hSo : ∀ i j, i < j → j < n → (kf i).2.1 < (kf j).2.1) (hN1 : ∀ j, j < n → 1 ≤ (kf j).2.1) : Met l y_Known_agrees (zw y_Known_agrees b_Known_agrees 9 (some .boolean)) (zR 4 89 0 0) (zP g [.ref d, .long (lI z), .long (lN sv), .int (nI pl), .int (nI kd)] (T)) (zQi g (fun r w => (∃ b, r = bI b ∧ (b = true ↔ ∃ j, j < n ∧ ((kf j).2.1 : Int) = z ∧ (kf j).2.2.1 = sv ∧ (kf j).2.2.2.1 = pl ∧ (kf j).2.2.2.2 = kd)) ∧ w = T)) 0 0 (zA g) := by
  refine zMet (by decide) (Nat.le_of_ble_eq_true rfl) ?_
  intro p e s m below meth c ls C hr hlk hnm hP hD hl
  have hx := C.1.1
  have hb := C.1.2.1
  have hS : va_S (zA g) s.heap s.heap [] := va_S.rf
  have hl : lv_has ls 9 [(0, .ref d), (1, .long (lI z)), (3, .long (lN sv)), (5, .int (nI pl)), (6, .int (nI kd))] := hl
  refine lv_lload_n hx hb d_Known_agrees_0 rfl (lv_at hl 1 rfl) ?_
  refine lv_lconst (v := 1) hx hb d_Known_agrees_1 (by decide) ?_
  refine W.lcmp hx hb d_Known_agrees_2 ?_
  refine lv_if_lt (tgt := 14) hx hb d_Known_agrees_3 (by decide) (fun c_3 => ?_) (fun c_3 => ?_)
  · skip
    have c_3 : z < 1 := ((zc_lt).trans (zj_lt (a := z) (b := 1) rfl (by decide) (by omega) (by omega) (by omega) (by omega))).mp c_3
    refine lv_iconst (v := nI 0) hx hb d_Known_agrees_14 (by decide) ?_
    exact z_zret C hr hlk hP hD hS (by omega) (by omega) (by first | exact Or.inl rfl | exact Or.inr rfl) ⟨⟨false, rfl, fun q9 => absurd q9 (by decide), fun ⟨j, q1, q2, q3⟩ => by have := hN j q1; have := hN1 j q1; omega⟩, rfl⟩ d_Known_agrees_15
  · skip
    have c_3 : ¬ z < 1 := fun q9 => c_3 (((zc_lt).trans (zj_lt (a := z) (b := 1) rfl (by decide) (by omega) (by omega) (by omega) (by omega))).mpr q9)
    refine lv_lload_n hx hb d_Known_agrees_6 rfl (lv_at hl 1 rfl) ?_
    refine lv_ldc2 hx hb C.1.2.2.2.1 (C.ts k_686 rfl) d_Known_agrees_7 ?_
    refine W.lcmp hx hb d_Known_agrees_10 ?_
    refine lv_if_le (tgt := 16) hx hb d_Known_agrees_11 (by decide) (fun c_11 => ?_) (fun c_11 => ?_)
    · skip
      have c_11 : z ≤ 100000 := ((zc_le).trans (zj_le (a := z) (b := 100000) rfl (by decide) (by omega) (by omega) (by omega) (by omega))).mp c_11
      obtain ⟨num, hnum⟩ : ∃ num : Nat, z = (num : Int) := ⟨z.toNat, by omega⟩
      refine lv_aload_n hx hb d_Known_agrees_16 rfl (lv_at hl 0 rfl) ?_
      refine lv_lload_n hx hb d_Known_agrees_17 rfl (lv_at hl 1 rfl) ?_
      refine lv_l2i (v := nI num) hx hb d_Known_agrees_18 (by rw [lI_i, hnum, nI_iI]) ?_
      refine z_ki (z_runV (np := 1) C (c_Known_placeOf l g T d li ed n cap x f kf hd hli hed v1 v2 hE hN num v5 (by omega) hSo) hP hD hS hd (show classes[4]? = some (R_Known, F_Known, 1) from rfl) k_338 k_7 k_335 k_337 ks_Known_placeOf ⟨by decide, by decide, by decide⟩ ⟨Nat.le_of_ble_eq_true rfl, Nat.le_of_ble_eq_true rfl⟩ rfl hl.1 rfl (Nat.le_of_ble_eq_true rfl) d_Known_agrees_19 ⟨by show _ ≤ 0; omega, by show _ ≤ 0; omega⟩) hS (fun r_19 w H locs hw hP hD hS => ?_)
      obtain ⟨⟨k, rfl, hk1, hk2, hk3⟩, hw⟩ := hw
      rw [hw] at hP hD
      refine lv_istore (lv' := [(7, .int (nI k)), (0, .ref d), (1, .long (lI z)), (3, .long (lN sv)), (5, .int (nI pl)), (6, .int (nI kd))]) hx hb d_Known_agrees_22 hl (by decide) rfl (fun ls hl => ?_)
      refine lv_aload_n hx hb d_Known_agrees_24 rfl (lv_at hl 1 rfl) ?_
      refine lv_iload hx hb d_Known_agrees_25 (lv_at hl 0 rfl) ?_
      refine lv_lload_n hx hb d_Known_agrees_27 rfl (lv_at hl 2 rfl) ?_
      refine lv_l2i (v := nI num) hx hb d_Known_agrees_28 (by rw [lI_i, hnum, nI_iI]) ?_
      refine z_ki (z_runV (np := 2) C (c_Known_hasAt l g T d li ed n cap x f kf hd hli hed v1 v2 hE hN k num hk1 (by omega)) hP hD hS hd (show classes[4]? = some (R_Known, F_Known, 1) from rfl) k_344 k_7 k_341 k_343 ks_Known_hasAt ⟨by decide, by decide, by decide⟩ ⟨Nat.le_of_ble_eq_true rfl, Nat.le_of_ble_eq_true rfl⟩ rfl hl.1 rfl (Nat.le_of_ble_eq_true rfl) d_Known_agrees_29 ⟨by show _ ≤ 0; omega, by show _ ≤ 0; omega⟩) hS (fun r_29 w H locs hw hP hD hS => ?_)
      obtain ⟨rfl, hw⟩ := hw
      rw [hw] at hP hD
      refine lv_if_ne (tgt := 37) hx hb d_Known_agrees_32 (by decide) (fun c_32 => ?_) (fun c_32 => ?_)
      · skip
        have c_32 := of_decide_eq_true (bI_ne.mp c_32)
        refine lv_aload_n hx hb d_Known_agrees_37 rfl (lv_at hl 1 rfl) ?_
        refine z_get C hP hd q_Known 0 (by decide) k_91 (fun _ h9 => h9) rfl d_Known_agrees_38 ?_
        refine lv_iload hx hb d_Known_agrees_41 (lv_at hl 0 rfl) ?_
        obtain ⟨a, hf, ⟨nm, nf, hm2, hm3, hz⟩⟩ := hE (k) (by omega)
        have nb := hN (k) (by omega)
        refine z_kq (z_runV (np := 1) C (c_AL_get l g T li ed n cap (k) a x f hli (hed (by omega)) (by omega) v1 (by omega) hf) hP hD hS hli (show classes[3]? = some (R_AL, F_AL, 3) from rfl) k_304 k_6 k_339 k_302 k_303 ⟨by decide, by decide, by decide⟩ ⟨Nat.le_of_ble_eq_true rfl, Nat.le_of_ble_eq_true rfl⟩ rfl hl.1 rfl (Nat.le_of_ble_eq_true rfl) d_Known_agrees_43 ⟨by show _ ≤ 0; omega, by show _ ≤ 0; omega⟩) hS (fun r_43 w H locs hw hP hD hS => ?_)
        obtain ⟨rfl, hw⟩ := hw
        rw [hw] at hP hD
        refine z_cast C hP hm2 (show classes[9]? = some (R_Ent, F_Ent, 5) from rfl) k_340 k_986 d_Known_agrees_46 ?_
        refine lv_astore (lv' := [(8, .ref a), (7, .int (nI k)), (0, .ref d), (1, .long (lI z)), (3, .long (lN sv)), (5, .int (nI pl)), (6, .int (nI kd))]) hx hb d_Known_agrees_49 hl (by decide) rfl (fun ls hl => ?_)
        refine lv_aload hx hb d_Known_agrees_51 (lv_at hl 0 rfl) ?_
        refine z_get C hP hm2 q_Ent 2 (by decide) k_376 (fun _ h9 => h9) rfl d_Known_agrees_53 ?_
        refine lv_i2l (v := lN ((kf (k)).2.2.1)) hx hb d_Known_agrees_56 (nI_l (by omega)) ?_
        refine lv_lload_n hx hb d_Known_agrees_57 rfl (lv_at hl 4 rfl) ?_
        refine W.lcmp hx hb d_Known_agrees_58 ?_
        refine lv_if_ne (tgt := 86) hx hb d_Known_agrees_59 (by decide) (fun c_59 => ?_) (fun c_59 => ?_)
        · skip
          have c_59 : ¬ (((kf (k)).2.2.1) : Int) = (sv : Int) := fun q9 => c_59 (((zc_eq).trans (zj_eq (a := (((kf (k)).2.2.1) : Int)) (b := (sv : Int)) (lN_lI _) (lN_lI _) (by omega) (by omega) (by omega) (by omega))).mpr q9)
          refine lv_iconst (v := nI 0) hx hb d_Known_agrees_86 (by decide) ?_
          exact z_zret C hr hlk hP hD hS (by omega) (by omega) (by first | exact Or.inl rfl | exact Or.inr rfl) ⟨by
        first
        | exact ⟨true, rfl, fun _ => ⟨k, c_32.1, by omega, by omega, by omega, by omega⟩, fun _ => rfl⟩
        | exact ⟨false, rfl, fun q9 => absurd q9 (by decide), fun ⟨j, q1, q2, q3⟩ => by
            exfalso
            have e3 : j = k := by
              rcases Nat.lt_trichotomy j k with z9 | z9 | z9
              · have := hSo j k z9 c_32.1; omega
              · exact z9
              · have := hSo k j z9 q1; omega
            subst e3
            omega⟩, rfl⟩ d_Known_agrees_87
        · skip
          have c_59 : (((kf (k)).2.2.1) : Int) = (sv : Int) := ((zc_eq).trans (zj_eq (a := (((kf (k)).2.2.1) : Int)) (b := (sv : Int)) (lN_lI _) (lN_lI _) (by omega) (by omega) (by omega) (by omega))).mp c_59
          refine lv_aload hx hb d_Known_agrees_62 (lv_at hl 0 rfl) ?_
          refine z_get C hP hm2 q_Ent 3 (by decide) k_379 (fun _ h9 => h9) rfl d_Known_agrees_64 ?_
          refine lv_iload hx hb d_Known_agrees_67 (lv_at hl 5 rfl) ?_
          refine lv_icmp_ne (tgt := 86) hx hb d_Known_agrees_69 (by decide) (fun c_69 => ?_) (fun c_69 => ?_)
          · skip
            have c_69 : ¬ ((kf (k)).2.2.2.1) = pl := fun q9 => c_69 ((nI_eq (a := (kf (k)).2.2.2.1) (b := pl) (by omega) (by omega)).mpr q9)
            refine lv_iconst (v := nI 0) hx hb d_Known_agrees_86 (by decide) ?_
            exact z_zret C hr hlk hP hD hS (by omega) (by omega) (by first | exact Or.inl rfl | exact Or.inr rfl) ⟨by
        first
        | exact ⟨true, rfl, fun _ => ⟨k, c_32.1, by omega, by omega, by omega, by omega⟩, fun _ => rfl⟩
        | exact ⟨false, rfl, fun q9 => absurd q9 (by decide), fun ⟨j, q1, q2, q3⟩ => by
            exfalso
            have e3 : j = k := by
              rcases Nat.lt_trichotomy j k with z9 | z9 | z9
              · have := hSo j k z9 c_32.1; omega
              · exact z9
              · have := hSo k j z9 q1; omega
            subst e3
            omega⟩, rfl⟩ d_Known_agrees_87
          · skip
            have c_69 : ((kf (k)).2.2.2.1) = pl := (nI_eq (a := (kf (k)).2.2.2.1) (b := pl) (by omega) (by omega)).mp c_69
            refine lv_aload hx hb d_Known_agrees_72 (lv_at hl 0 rfl) ?_
            refine z_get C hP hm2 q_Ent 4 (by decide) k_382 (fun _ h9 => h9) rfl d_Known_agrees_74 ?_
            refine lv_iload hx hb d_Known_agrees_77 (lv_at hl 6 rfl) ?_
            refine lv_icmp_ne (tgt := 86) hx hb d_Known_agrees_79 (by decide) (fun c_79 => ?_) (fun c_79 => ?_)
            · skip
              have c_79 : ¬ ((kf (k)).2.2.2.2) = kd := fun q9 => c_79 ((nI_eq (a := (kf (k)).2.2.2.2) (b := kd) (by omega) (by omega)).mpr q9)
              refine lv_iconst (v := nI 0) hx hb d_Known_agrees_86 (by decide) ?_
              exact z_zret C hr hlk hP hD hS (by omega) (by omega) (by first | exact Or.inl rfl | exact Or.inr rfl) ⟨by
        first
        | exact ⟨true, rfl, fun _ => ⟨k, c_32.1, by omega, by omega, by omega, by omega⟩, fun _ => rfl⟩
        | exact ⟨false, rfl, fun q9 => absurd q9 (by decide), fun ⟨j, q1, q2, q3⟩ => by
            exfalso
            have e3 : j = k := by
              rcases Nat.lt_trichotomy j k with z9 | z9 | z9
              · have := hSo j k z9 c_32.1; omega
              · exact z9
              · have := hSo k j z9 q1; omega
            subst e3
            omega⟩, rfl⟩ d_Known_agrees_87
            · skip
              have c_79 : ((kf (k)).2.2.2.2) = kd := (nI_eq (a := (kf (k)).2.2.2.2) (b := kd) (by omega) (by omega)).mp c_79
              refine lv_iconst (v := nI 1) hx hb d_Known_agrees_82 (by decide) ?_
              refine lv_goto (tgt := 87) hx hb d_Known_agrees_83 (by decide) ?_
              exact z_zret C hr hlk hP hD hS (by omega) (by omega) (by first | exact Or.inl rfl | exact Or.inr rfl) ⟨by
        first
        | exact ⟨true, rfl, fun _ => ⟨k, c_32.1, by omega, by omega, by omega, by omega⟩, fun _ => rfl⟩
        | exact ⟨false, rfl, fun q9 => absurd q9 (by decide), fun ⟨j, q1, q2, q3⟩ => by
            exfalso
            have e3 : j = k := by
              rcases Nat.lt_trichotomy j k with z9 | z9 | z9
              · have := hSo j k z9 c_32.1; omega
              · exact z9
              · have := hSo k j z9 q1; omega
            subst e3
            omega⟩, rfl⟩ d_Known_agrees_87
      · skip
        have c_32 := of_decide_eq_false (bI_eq.mp c_32)
        refine lv_iconst (v := nI 0) hx hb d_Known_agrees_35 (by decide) ?_
        exact z_zret C hr hlk hP hD hS (by omega) (by omega) (by first | exact Or.inl rfl | exact Or.inr rfl) ⟨⟨false, rfl, fun q9 => absurd q9 (by decide), fun ⟨j, q1, q2, q3⟩ => by
        exfalso
        have e1 := hk3 k (Nat.le_refl _)
        have e2 : k ≤ j := by
          rcases Nat.lt_or_ge j k with z9 | z9
          · have := hk2 j z9; omega
          · exact z9
        rcases Nat.lt_or_ge k j with z9 | z9
        · have := hSo k j z9 q1; omega
        · have e3 : j = k := by omega
          rw [e3] at q2 q1
          omega⟩, rfl⟩ d_Known_agrees_36
    · skip
      have c_11 : ¬ z ≤ 100000 := fun q9 => c_11 (((zc_le).trans (zj_le (a := z) (b := 100000) rfl (by decide) (by omega) (by omega) (by omega) (by omega))).mpr q9)
      refine lv_iconst (v := nI 0) hx hb d_Known_agrees_14 (by decide) ?_
      exact z_zret C hr hlk hP hD hS (by omega) (by omega) (by first | exact Or.inl rfl | exact Or.inr rfl) ⟨⟨false, rfl, fun q9 => absurd q9 (by decide), fun ⟨j, q1, q2, q3⟩ => by have := hN j q1; have := hN1 j q1; omega⟩, rfl⟩ d_Known_agrees_15
set_option maxHeartbeats 4000000 in
set_option maxRecDepth 100000 in
theorem c_Known_learn (l : Launch) (g : zT) (T : va_W) (d li ed cap Bd : Nat) (xs : List Nat) (x : Int32) (f : Nat → Option Nat) (kf : Nat → zE) (hd : (d, zo 4 [.ref li]) ∈ T) (hL : zL f xs) (h1 : xs.length ≤ cap) (h3 : cap ≤ Bd) (h4 : Bd < 60000) (h5 : xs.length + xs.length / 2 + 10 ≤ Bd) (hc : cap = 0 → ed = g.2.2.2.1) (y nm0 num st pl kd : Nat) (hy : (y, zo 9 [.ref nm0, .int (nI num), .int (nI st), .int (nI pl), .int (nI kd)]) ∈ T) (he : ∀ z ∈ xs, zel T z) (hE : ∀ j, j < xs.length → ∃ a, f j = some a ∧ isEnt g T a (kf j)) (hN : ∀ j, j < xs.length → (kf j).2.1 ≤ 100000 ∧ (kf j).2.2.1 < 65536 ∧ (kf j).2.2.2.1 < 65536 ∧ (kf j).2.2.2.2 < 65536) (hSo : ∀ i j, i < j → j < xs.length → (kf i).2.1 < (kf j).2.1) (v5 : xs.length ≤ 1500) (v6 : num < 2 ^ 20) : Met l y_Known_learn (zw y_Known_learn b_Known_learn 3 (none)) (zR 6 137 1 (xs.length + xs.length / 2 + 10)) (zP g [.ref d, .ref y] ((li, zo 3 [.int x, .ref ed, .int (nI xs.length)]) :: (wA g ed cap f ++ T))) (zQv g (fun w => ∃ k, k ≤ xs.length ∧ (∀ j, j < k → (kf j).2.1 < num) ∧ (∀ j, k ≤ j → j < xs.length → ¬ (kf j).2.1 < num) ∧ ((k < xs.length ∧ (kf k).2.1 = num ∧ zLs g li (xs.set k y) Bd T w) ∨ (¬ (k < xs.length ∧ (kf k).2.1 = num) ∧ zLs g li (xs.insertIdx k y) Bd T w)))) 1 (xs.length + xs.length / 2 + 10) (zA g) := by
  refine zMet (by decide) (Nat.le_of_ble_eq_true rfl) ?_
  intro p e s m below meth c ls C hr hlk hnm hP hD hl
  have hx := C.1.1
  have hb := C.1.2.1
  have hS : va_S (zA g) s.heap s.heap [] := va_S.rf
  have hl : lv_has ls 3 [(0, .ref d), (1, .ref y)] := hl
  refine lv_aload_n hx hb d_Known_learn_0 rfl (lv_at hl 0 rfl) ?_
  refine lv_aload_n hx hb d_Known_learn_1 rfl (lv_at hl 1 rfl) ?_
  refine z_get C hP (List.mem_cons_of_mem _ (List.mem_append_right _ hy)) q_Ent 1 (by decide) k_370 (fun _ h9 => h9) rfl d_Known_learn_2 ?_
  refine z_ki (z_runV (np := 1) C (c_Known_placeOf l g ((li, zo 3 [.int x, .ref ed, .int (nI xs.length)]) :: (wA g ed cap f ++ T)) d li ed xs.length cap x f kf (List.mem_cons_of_mem _ (List.mem_append_right _ hd)) List.mem_cons_self (fun z => List.mem_cons_of_mem _ (wA_mem (by omega))) h1 (by omega) (fun j hj => by obtain ⟨a, q1, q2⟩ := hE j hj; exact ⟨a, q1, q2.mono fun _ q => List.mem_cons_of_mem _ (List.mem_append_right _ q)⟩) hN num v5 v6 hSo) hP hD hS (List.mem_cons_of_mem _ (List.mem_append_right _ hd)) (show classes[4]? = some (R_Known, F_Known, 1) from rfl) k_338 k_7 k_335 k_337 ks_Known_placeOf ⟨by decide, by decide, by decide⟩ ⟨Nat.le_of_ble_eq_true rfl, Nat.le_of_ble_eq_true rfl⟩ rfl hl.1 rfl (Nat.le_of_ble_eq_true rfl) d_Known_learn_5 ⟨by show _ ≤ 1; omega, by show _ ≤ (xs.length + xs.length / 2 + 10); omega⟩) hS (fun r_5 w H locs hw hP hD hS => ?_)
  obtain ⟨⟨k, rfl, hk1, hk2, hk3⟩, hw⟩ := hw
  rw [hw] at hP hD
  refine lv_istore_n (lv' := [(2, .int (nI k)), (0, .ref d), (1, .ref y)]) hx hb d_Known_learn_8 rfl hl (by decide) rfl (fun ls hl => ?_)
  refine lv_aload_n hx hb d_Known_learn_9 rfl (lv_at hl 1 rfl) ?_
  refine lv_iload_n hx hb d_Known_learn_10 rfl (lv_at hl 0 rfl) ?_
  refine lv_aload_n hx hb d_Known_learn_11 rfl (lv_at hl 2 rfl) ?_
  refine z_get C hP (List.mem_cons_of_mem _ (List.mem_append_right _ hy)) q_Ent 1 (by decide) k_370 (fun _ h9 => h9) rfl d_Known_learn_12 ?_
  refine z_ki (z_runV (np := 2) C (c_Known_hasAt l g ((li, zo 3 [.int x, .ref ed, .int (nI xs.length)]) :: (wA g ed cap f ++ T)) d li ed xs.length cap x f kf (List.mem_cons_of_mem _ (List.mem_append_right _ hd)) List.mem_cons_self (fun z => List.mem_cons_of_mem _ (wA_mem (by omega))) h1 (by omega) (fun j hj => by obtain ⟨a, q1, q2⟩ := hE j hj; exact ⟨a, q1, q2.mono fun _ q => List.mem_cons_of_mem _ (List.mem_append_right _ q)⟩) hN k num hk1 v6) hP hD hS (List.mem_cons_of_mem _ (List.mem_append_right _ hd)) (show classes[4]? = some (R_Known, F_Known, 1) from rfl) k_344 k_7 k_341 k_343 ks_Known_hasAt ⟨by decide, by decide, by decide⟩ ⟨Nat.le_of_ble_eq_true rfl, Nat.le_of_ble_eq_true rfl⟩ rfl hl.1 rfl (Nat.le_of_ble_eq_true rfl) d_Known_learn_15 ⟨by show _ ≤ 1; omega, by show _ ≤ (xs.length + xs.length / 2 + 10); omega⟩) hS (fun r_15 w H locs hw hP hD hS => ?_)
  obtain ⟨rfl, hw⟩ := hw
  rw [hw] at hP hD
  refine lv_if_eq (tgt := 34) hx hb d_Known_learn_18 (by decide) (fun c_18 => ?_) (fun c_18 => ?_)
  · skip
    have c_18 := of_decide_eq_false (bI_eq.mp c_18)
    refine lv_aload_n hx hb d_Known_learn_34 rfl (lv_at hl 1 rfl) ?_
    refine z_get C hP (List.mem_cons_of_mem _ (List.mem_append_right _ hd)) q_Known 0 (by decide) k_91 (fun _ h9 => h9) rfl d_Known_learn_35 ?_
    refine lv_iload_n hx hb d_Known_learn_38 rfl (lv_at hl 0 rfl) ?_
    refine lv_aload_n hx hb d_Known_learn_39 rfl (lv_at hl 2 rfl) ?_
    refine z_kv (z_runV (np := 2) C (c_AL_add2 l g T li ed cap y k Bd xs x f hL h1 h3 h4 h5 hc hk1 (Or.inl ⟨_, hy⟩) he) hP hD hS List.mem_cons_self (show classes[3]? = some (R_AL, F_AL, 3) from rfl) k_401 k_6 k_460 k_399 k_400 ⟨by decide, by decide, by decide⟩ ⟨Nat.le_of_ble_eq_true rfl, Nat.le_of_ble_eq_true rfl⟩ rfl hl.1 rfl (Nat.le_of_ble_eq_true rfl) d_Known_learn_40 ⟨by show _ ≤ 1; omega, by show _ ≤ (xs.length + xs.length / 2 + 10); omega⟩) hS (fun w H locs hw hP hD hS => ?_)
    exact z_vret C hr hlk hP hD hS (by omega) (by omega) ⟨k, hk1, hk2, hk3, Or.inr ⟨c_18, hw⟩⟩ d_Known_learn_43
  · skip
    have c_18 := of_decide_eq_true (bI_ne.mp c_18)
    have hcp : 0 < cap := by omega
    rw [wA_s hcp] at hP hD
    refine lv_aload_n hx hb d_Known_learn_21 rfl (lv_at hl 1 rfl) ?_
    refine z_get C hP (List.mem_cons_of_mem _ (List.mem_cons_of_mem _ hd)) q_Known 0 (by decide) k_91 (fun _ h9 => h9) rfl d_Known_learn_22 ?_
    refine lv_iload_n hx hb d_Known_learn_25 rfl (lv_at hl 0 rfl) ?_
    refine lv_aload_n hx hb d_Known_learn_26 rfl (lv_at hl 2 rfl) ?_
    have hP := z_Pq (z_bk (bs := [[(li, zo 3 [.int x, .ref ed, .int (nI xs.length)])], [(ed, zOb g cap f)], T]) (bs' := [[(ed, zOb g cap f)], [(li, zo 3 [.int x, .ref ed, .int (nI xs.length)])], T]) [1, 0, 2] rfl (by decide) rfl) hP
    have hD := z_Dq (z_bk (bs := [[(li, zo 3 [.int x, .ref ed, .int (nI xs.length)])], [(ed, zOb g cap f)], T]) (bs' := [[(ed, zOb g cap f)], [(li, zo 3 [.int x, .ref ed, .int (nI xs.length)])], T]) [1, 0, 2] rfl (by decide) rfl) hD
    obtain ⟨y0, hy0, -⟩ := hE k c_18.1
    refine z_kq (z_runV (np := 2) C (c_AL_set l g ((li, zo 3 [.int x, .ref ed, .int (nI xs.length)]) :: T) li ed xs.length cap k y0 y x f List.mem_cons_self c_18.1 h1 (by omega) hy0 (Or.inl ⟨_, List.mem_cons_of_mem _ hy⟩)) hP hD hS (List.mem_cons_of_mem _ List.mem_cons_self) (show classes[3]? = some (R_AL, F_AL, 3) from rfl) k_459 k_6 k_456 k_457 k_458 ⟨by decide, by decide, by decide⟩ ⟨Nat.le_of_ble_eq_true rfl, Nat.le_of_ble_eq_true rfl⟩ rfl hl.1 rfl (Nat.le_of_ble_eq_true rfl) d_Known_learn_27 ⟨by show _ ≤ 1; omega, by show _ ≤ (xs.length + xs.length / 2 + 10); omega⟩) hS (fun r_27 w H locs hw hP hD hS => ?_)
    obtain ⟨rfl, hw⟩ := hw
    rw [hw] at hP hD
    refine lv_pop hx hb d_Known_learn_30 rfl ?_
    refine lv_goto (tgt := 43) hx hb d_Known_learn_31 (by decide) ?_
    have hP := z_Pq (List.Perm.swap _ _ _) hP
    have hD := z_Dq (List.Perm.swap _ _ _) hD
    exact z_vret C hr hlk hP hD hS (by omega) (by omega) ⟨k, hk1, hk2, hk3, Or.inl ⟨c_18.1, c_18.2, x, ed, cap, _, by rw [List.length_set, wA_s hcp]; rfl, zL_set hL c_18.1, by rw [List.length_set]; exact h1, h3, fun h => by omega⟩⟩ d_Known_learn_43
set_option maxHeartbeats 4000000 in
set_option maxRecDepth 100000 in
theorem c_Known_init (l : Launch) (g : zT) (T : va_W) (d : Nat) : Met l y_Known_init (zw y_Known_init b_Known_init 1 (none)) (zR 4 80 1 3) (zP g [.ref d] ((d, zo 4 [.null]) :: T)) (zQv g (fun w => ∃ li, w = (d, zo 4 [.ref li]) :: (li, zo 3 [.int (nI 0), .ref g.2.2.2.1, .int (nI 0)]) :: T)) 1 3 (zA g) := by
  refine zMet (by decide) (Nat.le_of_ble_eq_true rfl) ?_
  intro p e s m below meth c ls C hr hlk hnm hP hD hl
  have hx := C.1.1
  have hb := C.1.2.1
  have hS : va_S (zA g) s.heap s.heap [] := va_S.rf
  have hl : lv_has ls 1 [(0, .ref d)] := hl
  refine lv_aload_n hx hb d_Known_init_0 rfl (lv_at hl 0 rfl) ?_
  refine W.objInit hx hb C.1.2.2.2.1 (C.ts k_88 rfl) (C.ts k_28 rfl) (C.ts k_29 rfl) rfl (by rw [C.1.2.2.1]; exact hl.1) rfl d_Known_init_1 (Nat.le_of_ble_eq_true rfl) (Nat.le_of_ble_eq_true rfl) ?_
  refine W.eq (g2 := F0 m 4 ls []) rfl ?_
  refine lv_aload_n hx hb d_Known_init_4 rfl (lv_at hl 0 rfl) ?_
  refine z_new C hP hD hS q_AL k_89 k_53 k_6 [.int (nI 0), .null, .int (nI 0)] (fun j hj => by rcases (show j = 0 ∨ j = 1 ∨ j = 2 by omega) with rfl | rfl | rfl <;> rfl) (by show _ ≤ 1; omega) (by show _ ≤ 3; omega) d_Known_init_5 (fun li H hP hD hS => ?_)
  refine lv_dup hx hb d_Known_init_8 rfl ?_
  refine z_kv (z_runI (np := 0) C (c_AL_init l g ((d, zo 4 [.null]) :: T) li (nI 0)) hP hD hS k_56 k_6 k_90 k_55 rfl ⟨by decide, by decide, by decide⟩ ⟨Nat.le_of_ble_eq_true rfl, Nat.le_of_ble_eq_true rfl⟩ rfl hl.1 rfl (Nat.le_of_ble_eq_true rfl) d_Known_init_9 ⟨by show _ ≤ 1; omega, by show _ ≤ 3; omega⟩) hS (fun w H locs hw hP hD hS => ?_)
  rw [hw] at hP hD
  refine z_putF C hP hD hS hnm 1 rfl q_Known 0 (by decide) k_91 (fun _ h9 => h9) rfl rfl rfl rfl (Nat.le_of_ble_eq_true rfl) d_Known_init_12 (ws' := (li, zo 3 [.int (nI 0), .ref g.2.2.2.1, .int (nI 0)]) :: (d, zo 4 [.ref li]) :: T) rfl (fun H locs hP hD hS => ?_)
  exact z_vret C hr hlk (z_Pq (z_bk (bs := [[(li, zo 3 [.int (nI 0), .ref g.2.2.2.1, .int (nI 0)])], [(d, zo 4 [.ref li])], T]) (bs' := [[(d, zo 4 [.ref li])], [(li, zo 3 [.int (nI 0), .ref g.2.2.2.1, .int (nI 0)])], T]) [1, 0, 2] rfl (by decide) rfl) hP) (z_Dq (z_bk (bs := [[(li, zo 3 [.int (nI 0), .ref g.2.2.2.1, .int (nI 0)])], [(d, zo 4 [.ref li])], T]) (bs' := [[(d, zo 4 [.ref li])], [(li, zo 3 [.int (nI 0), .ref g.2.2.2.1, .int (nI 0)])], T]) [1, 0, 2] rfl (by decide) rfl) hD) hS (by omega) (by omega) ⟨_, rfl⟩ d_Known_init_15
