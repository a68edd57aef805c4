set_option maxHeartbeats 4000000 in
set_option maxRecDepth 100000 in
theorem c_Dir_count (l : Launch) (g : zT) (T : va_W) (d li ed n : Nat) (x : Int32) (hd : (d, zo 2 [.ref li]) ∈ T) (hli : (li, zo 3 [.int x, .ref ed, .int (nI n)]) ∈ T) : Met l y_Dir_count (zw y_Dir_count b_Dir_count 1 (some .int)) (zR 1 20 0 0) (zP g [.ref d] (T)) (zQi g (fun r w => r = nI n ∧ w = T)) 0 0 (zA g) := by
  refine zMet (by decide) (Nat.le_of_ble_eq_true rfl) ?_
  intro p e s m below meth c ls C hr hlk hnm hP hD hl
  have hx := C.1.1
  have hb := C.1.2.1
  have hS : va_S (zA g) s.heap s.heap [] := va_S.rf
  have hl : lv_has ls 1 [(0, .ref d)] := hl
  refine lv_aload_n hx hb d_Dir_count_0 rfl (lv_at hl 0 rfl) ?_
  refine z_get C hP hd q_Dir 0 (by decide) k_78 (fun _ h9 => h9) rfl d_Dir_count_1 ?_
  refine z_ki (z_runV (np := 0) C (c_AL_size l g T li ed x (nI n) hli) hP hD hS hli (show classes[3]? = some (R_AL, F_AL, 3) from rfl) k_296 k_6 k_293 k_294 k_295 ⟨by decide, by decide, by decide⟩ ⟨Nat.le_of_ble_eq_true rfl, Nat.le_of_ble_eq_true rfl⟩ rfl hl.1 rfl (Nat.le_of_ble_eq_true rfl) d_Dir_count_4 ⟨by show _ ≤ 0; omega, by show _ ≤ 0; omega⟩) hS (fun r_4 w H locs hw hP hD hS => ?_)
  obtain ⟨rfl, hw⟩ := hw
  rw [hw] at hP hD
  exact z_iret C hr hlk hP hD hS (by omega) (by omega) ⟨rfl, rfl⟩ d_Dir_count_7
set_option maxHeartbeats 4000000 in
set_option maxRecDepth 100000 in
theorem c_Dir_isFull (l : Launch) (g : zT) (T : va_W) (d li ed n : Nat) (x : Int32) (hd : (d, zo 2 [.ref li]) ∈ T) (hli : (li, zo 3 [.int x, .ref ed, .int (nI n)]) ∈ T) (v1 : n < 60000) : Met l y_Dir_isFull (zw y_Dir_isFull b_Dir_isFull 1 (some .boolean)) (zR 1 20 0 0) (zP g [.ref d] (T)) (zQi g (fun r w => r = bI (decide (600 ≤ n)) ∧ w = T)) 0 0 (zA g) := by
  refine zMet (by decide) (Nat.le_of_ble_eq_true rfl) ?_
  intro p e s m below meth c ls C hr hlk hnm hP hD hl
  have hx := C.1.1
  have hb := C.1.2.1
  have hS : va_S (zA g) s.heap s.heap [] := va_S.rf
  have hl : lv_has ls 1 [(0, .ref d)] := hl
  refine lv_aload_n hx hb d_Dir_isFull_0 rfl (lv_at hl 0 rfl) ?_
  refine z_get C hP hd q_Dir 0 (by decide) k_78 (fun _ h9 => h9) rfl d_Dir_isFull_1 ?_
  refine z_ki (z_runV (np := 0) C (c_AL_size l g T li ed x (nI n) hli) hP hD hS hli (show classes[3]? = some (R_AL, F_AL, 3) from rfl) k_296 k_6 k_293 k_294 k_295 ⟨by decide, by decide, by decide⟩ ⟨Nat.le_of_ble_eq_true rfl, Nat.le_of_ble_eq_true rfl⟩ rfl hl.1 rfl (Nat.le_of_ble_eq_true rfl) d_Dir_isFull_4 ⟨by show _ ≤ 0; omega, by show _ ≤ 0; omega⟩) hS (fun r_4 w H locs hw hP hD hS => ?_)
  obtain ⟨rfl, hw⟩ := hw
  rw [hw] at hP hD
  refine lv_sipush (v := nI 600) hx hb d_Dir_isFull_7 (by decide) ?_
  refine lv_icmp_lt (tgt := 17) hx hb d_Dir_isFull_10 (by decide) (fun c_10 => ?_) (fun c_10 => ?_)
  · skip
    have c_10 : n < 600 := (nI_ltI (a := n) (b := 600) (by omega) (by decide)).mp c_10
    refine lv_iconst (v := nI 0) hx hb d_Dir_isFull_17 (by decide) ?_
    exact z_zret C hr hlk hP hD hS (by omega) (by omega) (by first | exact Or.inl rfl | exact Or.inr rfl) ⟨by first | exact bI_t (decide_eq_true (by omega)) | exact bI_f (decide_eq_false (by omega)), rfl⟩ d_Dir_isFull_18
  · skip
    have c_10 : ¬ n < 600 := fun q9 => c_10 ((nI_ltI (a := n) (b := 600) (by omega) (by decide)).mpr q9)
    refine lv_iconst (v := nI 1) hx hb d_Dir_isFull_13 (by decide) ?_
    refine lv_goto (tgt := 18) hx hb d_Dir_isFull_14 (by decide) ?_
    exact z_zret C hr hlk hP hD hS (by omega) (by omega) (by first | exact Or.inl rfl | exact Or.inr rfl) ⟨by first | exact bI_t (decide_eq_true (by omega)) | exact bI_f (decide_eq_false (by omega)), rfl⟩ d_Dir_isFull_18
set_option maxHeartbeats 4000000 in
set_option maxRecDepth 100000 in
theorem c_Dir_compareAt (l : Launch) (g : zT) (T : va_W) (d li ed n cap qt nt ln : Nat) (x : Int32) (f : Nat → Option Nat) (ft : Nat → UInt8) (nmf : Nat → List UInt8) (hd : (d, zo 2 [.ref li]) ∈ T) (hli : (li, zo 3 [.int x, .ref ed, .int (nI n)]) ∈ T) (hed : 0 < n → (ed, zOb g cap f) ∈ T) (hq : (qt, zBy g nt ft) ∈ T) (v1 : n ≤ cap) (v2 : cap < 60000) (v3 : ln ≤ nt) (v4 : nt < 2 ^ 19) (hE : ∀ j, j < n → ∃ a e, f j = some a ∧ isEnt g T a e ∧ e.1 = nmf j ∧ e.1.length ≤ 256) (i : Nat) (hi : i < n) : Met l y_Dir_compareAt (zw y_Dir_compareAt b_Dir_compareAt 5 (some .int)) (zR 3 64 0 0) (zP g [.ref d, .int (nI i), .ref qt, .int (nI ln)] (T)) (zQi g (fun r w => r = iI (cmpB (nmf i) (zl ft 0 ln)) ∧ w = T)) 0 0 (zA g) := by
  refine zMet (by decide) (Nat.le_of_ble_eq_true rfl) ?_
  intro p e s m below meth c ls C hr hlk hnm hP hD hl
  have hx := C.1.1
  have hb := C.1.2.1
  have hS : va_S (zA g) s.heap s.heap [] := va_S.rf
  have hl : lv_has ls 5 [(0, .ref d), (1, .int (nI i)), (2, .ref qt), (3, .int (nI ln))] := hl
  obtain ⟨a, e1, hf, ⟨nm, nf, hm2, hm3, hz⟩, hnm, hl9⟩ := hE i hi
  refine lv_aload_n hx hb d_Dir_compareAt_0 rfl (lv_at hl 0 rfl) ?_
  refine z_get C hP hd q_Dir 0 (by decide) k_78 (fun _ h9 => h9) rfl d_Dir_compareAt_1 ?_
  refine lv_iload_n hx hb d_Dir_compareAt_4 rfl (lv_at hl 1 rfl) ?_
  refine z_kq (z_runV (np := 1) C (c_AL_get l g T li ed n cap i a x f hli (hed (by omega)) hi v1 (by omega) hf) hP hD hS hli (show classes[3]? = some (R_AL, F_AL, 3) from rfl) k_304 k_6 k_301 k_302 k_303 ⟨by decide, by decide, by decide⟩ ⟨Nat.le_of_ble_eq_true rfl, Nat.le_of_ble_eq_true rfl⟩ rfl hl.1 rfl (Nat.le_of_ble_eq_true rfl) d_Dir_compareAt_5 ⟨by show _ ≤ 0; omega, by show _ ≤ 0; omega⟩) hS (fun r_5 w H locs hw hP hD hS => ?_)
  obtain ⟨rfl, hw⟩ := hw
  rw [hw] at hP hD
  refine z_cast C hP hm2 (show classes[9]? = some (R_Ent, F_Ent, 5) from rfl) k_315 k_986 d_Dir_compareAt_8 ?_
  refine z_get C hP hm2 q_Ent 0 (by decide) k_368 (fun _ h9 => h9) rfl d_Dir_compareAt_11 ?_
  refine lv_astore (lv' := [(4, .ref nm), (0, .ref d), (1, .int (nI i)), (2, .ref qt), (3, .int (nI ln))]) hx hb d_Dir_compareAt_14 hl (by decide) rfl (fun ls hl => ?_)
  refine lv_aload hx hb d_Dir_compareAt_16 (lv_at hl 0 rfl) ?_
  refine lv_iconst (v := nI 0) hx hb d_Dir_compareAt_18 (by decide) ?_
  refine lv_aload hx hb d_Dir_compareAt_19 (lv_at hl 0 rfl) ?_
  refine z_alenB C hP hm3 d_Dir_compareAt_21 ?_
  refine lv_aload_n hx hb d_Dir_compareAt_22 rfl (lv_at hl 3 rfl) ?_
  refine lv_iconst (v := nI 0) hx hb d_Dir_compareAt_23 (by decide) ?_
  refine lv_iload_n hx hb d_Dir_compareAt_24 rfl (lv_at hl 4 rfl) ?_
  refine z_ki (z_runS (np := 6) C (c_Nam_compare l g T nm 0 e1.1.length e1.1.length qt 0 ln nt nf ft hm3 hq (by omega) (by omega) (by omega) (by omega)) hP hD hS k_318 k_13 k_316 k_317 ⟨by decide, by decide, by decide⟩ ⟨Nat.le_of_ble_eq_true rfl, Nat.le_of_ble_eq_true rfl⟩ rfl hl.1 rfl (Nat.le_of_ble_eq_true rfl) d_Dir_compareAt_25 ⟨by show _ ≤ 0; omega, by show _ ≤ 0; omega⟩) hS (fun r_25 w H locs hw hP hD hS => ?_)
  obtain ⟨rfl, hw⟩ := hw
  rw [hw] at hP hD
  exact z_iret C hr hlk hP hD hS (by omega) (by omega) ⟨by rw [hz, hnm], rfl⟩ d_Dir_compareAt_28
set_option maxHeartbeats 4000000 in
set_option maxRecDepth 100000 in
theorem c_Dir_hasAt (l : Launch) (g : zT) (T : va_W) (d li ed n cap qt nt ln : Nat) (x : Int32) (f : Nat → Option Nat) (ft : Nat → UInt8) (nmf : Nat → List UInt8) (hd : (d, zo 2 [.ref li]) ∈ T) (hli : (li, zo 3 [.int x, .ref ed, .int (nI n)]) ∈ T) (hed : 0 < n → (ed, zOb g cap f) ∈ T) (hq : (qt, zBy g nt ft) ∈ T) (v1 : n ≤ cap) (v2 : cap < 60000) (v3 : ln ≤ nt) (v4 : nt < 2 ^ 19) (hE : ∀ j, j < n → ∃ a e, f j = some a ∧ isEnt g T a e ∧ e.1 = nmf j ∧ e.1.length ≤ 256) (i : Nat) (hi : i ≤ n) : Met l y_Dir_hasAt (zw y_Dir_hasAt b_Dir_hasAt 4 (some .boolean)) (zR 4 88 0 0) (zP g [.ref d, .int (nI i), .ref qt, .int (nI ln)] (T)) (zQi g (fun r w => r = bI (decide (i < n ∧ cmpB (nmf i) (zl ft 0 ln) = 0)) ∧ w = T)) 0 0 (zA g) := by
  refine zMet (by decide) (Nat.le_of_ble_eq_true rfl) ?_
  intro p e s m below meth c ls C hr hlk hnm hP hD hl
  have hx := C.1.1
  have hb := C.1.2.1
  have hS : va_S (zA g) s.heap s.heap [] := va_S.rf
  have hl : lv_has ls 4 [(0, .ref d), (1, .int (nI i)), (2, .ref qt), (3, .int (nI ln))] := hl
  refine lv_iload_n hx hb d_Dir_hasAt_0 rfl (lv_at hl 1 rfl) ?_
  refine lv_aload_n hx hb d_Dir_hasAt_1 rfl (lv_at hl 0 rfl) ?_
  refine z_get C hP hd q_Dir 0 (by decide) k_78 (fun _ h9 => h9) rfl d_Dir_hasAt_2 ?_
  refine z_ki (z_runV (np := 0) C (c_AL_size l g T li ed x (nI n) hli) hP hD hS hli (show classes[3]? = some (R_AL, F_AL, 3) from rfl) k_296 k_6 k_293 k_294 k_295 ⟨by decide, by decide, by decide⟩ ⟨Nat.le_of_ble_eq_true rfl, Nat.le_of_ble_eq_true rfl⟩ rfl hl.1 rfl (Nat.le_of_ble_eq_true rfl) d_Dir_hasAt_5 ⟨by show _ ≤ 0; omega, by show _ ≤ 0; omega⟩) hS (fun r_5 w H locs hw hP hD hS => ?_)
  obtain ⟨rfl, hw⟩ := hw
  rw [hw] at hP hD
  refine lv_icmp_ge (tgt := 25) hx hb d_Dir_hasAt_8 (by decide) (fun c_8 => ?_) (fun c_8 => ?_)
  · skip
    have c_8 : n ≤ i := (nI_leI (a := n) (b := i) (by omega) (by omega)).mp c_8
    refine lv_iconst (v := nI 0) hx hb d_Dir_hasAt_25 (by decide) ?_
    exact z_zret C hr hlk hP hD hS (by omega) (by omega) (by first | exact Or.inl rfl | exact Or.inr rfl) ⟨by first | exact bI_t (decide_eq_true (by omega)) | exact bI_f (decide_eq_false (by omega)), rfl⟩ d_Dir_hasAt_26
  · skip
    have c_8 : ¬ n ≤ i := fun q9 => c_8 ((nI_leI (a := n) (b := i) (by omega) (by omega)).mpr q9)
    refine lv_aload_n hx hb d_Dir_hasAt_11 rfl (lv_at hl 0 rfl) ?_
    refine lv_iload_n hx hb d_Dir_hasAt_12 rfl (lv_at hl 1 rfl) ?_
    refine lv_aload_n hx hb d_Dir_hasAt_13 rfl (lv_at hl 2 rfl) ?_
    refine lv_iload_n hx hb d_Dir_hasAt_14 rfl (lv_at hl 3 rfl) ?_
    refine z_ki (z_runV (np := 3) C (c_Dir_compareAt l g T d li ed n cap qt nt ln x f ft nmf hd hli hed hq v1 v2 v3 v4 hE i (by omega)) hP hD hS hd (show classes[2]? = some (R_Dir, F_Dir, 1) from rfl) k_300 k_3 k_297 k_299 ks_Dir_compareAt ⟨by decide, by decide, by decide⟩ ⟨Nat.le_of_ble_eq_true rfl, Nat.le_of_ble_eq_true rfl⟩ rfl hl.1 rfl (Nat.le_of_ble_eq_true rfl) d_Dir_hasAt_15 ⟨by show _ ≤ 0; omega, by show _ ≤ 0; omega⟩) hS (fun r_15 w H locs hw hP hD hS => ?_)
    obtain ⟨rfl, hw⟩ := hw
    rw [hw] at hP hD
    obtain ⟨a, e1, -, -, hnm, hl9⟩ := hE i (by omega)
    have rg := cmpB_rg (xs := nmf i) (ys := zl ft 0 ln) (by rw [← hnm]; omega) (by rw [zl_len]; omega)
    refine lv_if_ne (tgt := 25) hx hb d_Dir_hasAt_18 (by decide) (fun c_18 => ?_) (fun c_18 => ?_)
    · skip
      have c_18 : ¬ (cmpB (nmf i) (zl ft 0 ln)) = 0 := fun q9 => c_18 ((zi_eq (a := cmpB (nmf i) (zl ft 0 ln)) (b := 0) rfl (nI_iI _) (by omega) (by omega) (by omega) (by omega)).mpr q9)
      refine lv_iconst (v := nI 0) hx hb d_Dir_hasAt_25 (by decide) ?_
      exact z_zret C hr hlk hP hD hS (by omega) (by omega) (by first | exact Or.inl rfl | exact Or.inr rfl) ⟨by first | exact bI_t (decide_eq_true (by omega)) | exact bI_f (decide_eq_false (by omega)), rfl⟩ d_Dir_hasAt_26
    · skip
      have c_18 : (cmpB (nmf i) (zl ft 0 ln)) = 0 := (zi_eq (a := cmpB (nmf i) (zl ft 0 ln)) (b := 0) rfl (nI_iI _) (by omega) (by omega) (by omega) (by omega)).mp c_18
      refine lv_iconst (v := nI 1) hx hb d_Dir_hasAt_21 (by decide) ?_
      refine lv_goto (tgt := 26) hx hb d_Dir_hasAt_22 (by decide) ?_
      exact z_zret C hr hlk hP hD hS (by omega) (by omega) (by first | exact Or.inl rfl | exact Or.inr rfl) ⟨by first | exact bI_t (decide_eq_true (by omega)) | exact bI_f (decide_eq_false (by omega)), rfl⟩ d_Dir_hasAt_26
set_option maxHeartbeats 4000000 in
set_option maxRecDepth 100000 in
theorem c_Dir_placeOf (l : Launch) (g : zT) (T : va_W) (d li ed n cap qt nt ln : Nat) (x : Int32) (f : Nat → Option Nat) (ft : Nat → UInt8) (nmf : Nat → List UInt8) (hd : (d, zo 2 [.ref li]) ∈ T) (hli : (li, zo 3 [.int x, .ref ed, .int (nI n)]) ∈ T) (hed : 0 < n → (ed, zOb g cap f) ∈ T) (hq : (qt, zBy g nt ft) ∈ T) (v1 : n ≤ cap) (v2 : cap < 60000) (v3 : ln ≤ nt) (v4 : nt < 2 ^ 19) (hE : ∀ j, j < n → ∃ a e, f j = some a ∧ isEnt g T a e ∧ e.1 = nmf j ∧ e.1.length ≤ 256) (v5 : n ≤ 600) (hK : ∀ i j, i ≤ j → j < n → cmpB (nmf j) (zl ft 0 ln) < 0 → cmpB (nmf i) (zl ft 0 ln) < 0) : Met l y_Dir_placeOf (zw y_Dir_placeOf b_Dir_placeOf 7 (some .int)) (zR 4 88 0 0) (zP g [.ref d, .ref qt, .int (nI ln)] (T)) (zQi g (fun r w => (∃ k, r = nI k ∧ k ≤ n ∧ (∀ j, j < k → cmpB (nmf j) (zl ft 0 ln) < 0) ∧ ∀ j, k ≤ j → j < n → ¬ cmpB (nmf j) (zl ft 0 ln) < 0) ∧ w = T)) 0 0 (zA g) := by
  refine zMet (by decide) (Nat.le_of_ble_eq_true rfl) ?_
  intro p e s m below meth c ls C hr hlk hnm hP hD hl
  have hx := C.1.1
  have hb := C.1.2.1
  have hS : va_S (zA g) s.heap s.heap [] := va_S.rf
  have hl : lv_has ls 7 [(0, .ref d), (1, .ref qt), (2, .int (nI ln))] := hl
  have L_14 : ∀ (nu : Nat) (lo hi k : Nat) (_ : lo ≤ hi) (_ : hi ≤ n) (_ : k + (hi - lo) ≤ 600) (_ : ∀ j, j < lo → cmpB (nmf j) (zl ft 0 ln) < 0) (_ : ∀ j, hi ≤ j → j < n → ¬ cmpB (nmf j) (zl ft 0 ln) < 0) (_ : hi - lo < nu) (H : Heap) (locs : List Loc), va_P g.1 classes (T) H → va_D (zA g) (T) → va_S (zA g) s.heap H locs → ∀ ls : Array Slot, lv_has ls 7 [(0, .ref d), (1, .ref qt), (2, .int (nI ln)), (3, .int (nI lo)), (4, .int (nI hi)), (5, .int (nI k))] → W p l e (zR 4 88 0 0) s m [.ref d, .ref qt, .int (nI ln)].toArray below meth c H locs 0 0 (MQ below (zQi g (fun r w => (∃ k, r = nI k ∧ k ≤ n ∧ (∀ j, j < k → cmpB (nmf j) (zl ft 0 ln) < 0) ∧ ∀ j, k ≤ j → j < n → ¬ cmpB (nmf j) (zl ft 0 ln) < 0) ∧ w = T)) [.ref d, .ref qt, .int (nI ln)].toArray s 0 0 (zA g)) (F0 m 14 ls []) := by
    intro nu
    induction nu with
    | zero => intros; omega
    | succ nu ih =>
      intro lo hi k g1 g2 g3 g4 g5 hmu H locs hP hD hS ls hl
      refine lv_iload hx hb d_Dir_placeOf_14 (lv_at hl 5 rfl) ?_
      refine lv_sipush (v := nI 600) hx hb d_Dir_placeOf_16 (by decide) ?_
      refine lv_icmp_ge (tgt := 65) hx hb d_Dir_placeOf_19 (by decide) (fun c_19 => ?_) (fun c_19 => ?_)
      · skip
        have c_19 : 600 ≤ k := (nI_leI (a := 600) (b := k) (by decide) (by omega)).mp c_19
        refine lv_iload_n hx hb d_Dir_placeOf_65 rfl (lv_at hl 3 rfl) ?_
        exact z_iret C hr hlk hP hD hS (by omega) (by omega) ⟨⟨lo, rfl, by omega, g4, fun j hj hn9 => g5 j (by omega) hn9⟩, rfl⟩ d_Dir_placeOf_66
      · skip
        have c_19 : ¬ 600 ≤ k := fun q9 => c_19 ((nI_leI (a := 600) (b := k) (by decide) (by omega)).mpr q9)
        refine lv_iload_n hx hb d_Dir_placeOf_22 rfl (lv_at hl 3 rfl) ?_
        refine lv_iload hx hb d_Dir_placeOf_23 (lv_at hl 4 rfl) ?_
        refine lv_icmp_ge (tgt := 65) hx hb d_Dir_placeOf_25 (by decide) (fun c_25 => ?_) (fun c_25 => ?_)
        · skip
          have c_25 : hi ≤ lo := (nI_leI (a := hi) (b := lo) (by omega) (by omega)).mp c_25
          refine lv_iload_n hx hb d_Dir_placeOf_65 rfl (lv_at hl 3 rfl) ?_
          exact z_iret C hr hlk hP hD hS (by omega) (by omega) ⟨⟨lo, rfl, by omega, g4, fun j hj hn9 => g5 j (by omega) hn9⟩, rfl⟩ d_Dir_placeOf_66
        · skip
          have c_25 : ¬ hi ≤ lo := fun q9 => c_25 ((nI_leI (a := hi) (b := lo) (by omega) (by omega)).mpr q9)
          refine lv_iload_n hx hb d_Dir_placeOf_28 rfl (lv_at hl 3 rfl) ?_
          refine lv_iload hx hb d_Dir_placeOf_29 (lv_at hl 4 rfl) ?_
          refine z_iadd (v := nI (lo + hi)) C d_Dir_placeOf_31 (nI_add _ _) ?_
          refine lv_iconst (v := nI 2) hx hb d_Dir_placeOf_32 (by decide) ?_
          refine z_idiv (v := nI ((lo + hi) / 2)) C d_Dir_placeOf_33 (by decide) (pk_div (by omega) (by decide) (by decide)) ?_
          refine lv_istore (lv' := [(6, .int (nI ((lo + hi) / 2))), (0, .ref d), (1, .ref qt), (2, .int (nI ln)), (3, .int (nI lo)), (4, .int (nI hi)), (5, .int (nI k))]) hx hb d_Dir_placeOf_34 hl (by decide) rfl (fun ls hl => ?_)
          refine lv_aload_n hx hb d_Dir_placeOf_36 rfl (lv_at hl 1 rfl) ?_
          refine lv_iload hx hb d_Dir_placeOf_37 (lv_at hl 0 rfl) ?_
          refine lv_aload_n hx hb d_Dir_placeOf_39 rfl (lv_at hl 2 rfl) ?_
          refine lv_iload_n hx hb d_Dir_placeOf_40 rfl (lv_at hl 3 rfl) ?_
          refine z_ki (z_runV (np := 3) C (c_Dir_compareAt l g T d li ed n cap qt nt ln x f ft nmf hd hli hed hq v1 v2 v3 v4 hE ((lo + hi) / 2) (by omega)) hP hD hS hd (show classes[2]? = some (R_Dir, F_Dir, 1) from rfl) k_300 k_3 k_297 k_299 ks_Dir_compareAt ⟨by decide, by decide, by decide⟩ ⟨Nat.le_of_ble_eq_true rfl, Nat.le_of_ble_eq_true rfl⟩ rfl hl.1 rfl (Nat.le_of_ble_eq_true rfl) d_Dir_placeOf_41 ⟨by show _ ≤ 0; omega, by show _ ≤ 0; omega⟩) hS (fun r_41 w H locs hw hP hD hS => ?_)
          obtain ⟨rfl, hw⟩ := hw
          rw [hw] at hP hD
          obtain ⟨a, e1, -, -, hnm, hl9⟩ := hE ((lo + hi) / 2) (by omega)
          have rg := cmpB_rg (xs := nmf ((lo + hi) / 2)) (ys := zl ft 0 ln) (by rw [← hnm]; omega) (by rw [zl_len]; omega)
          refine lv_if_ge (tgt := 55) hx hb d_Dir_placeOf_44 (by decide) (fun c_44 => ?_) (fun c_44 => ?_)
          · skip
            have c_44 : 0 ≤ (cmpB (nmf ((lo + hi) / 2)) (zl ft 0 ln)) := (zi_le (a := 0) (b := cmpB (nmf ((lo + hi) / 2)) (zl ft 0 ln)) (nI_iI _) rfl (by omega) (by omega) (by omega) (by omega)).mp c_44
            refine lv_iload hx hb d_Dir_placeOf_55 (lv_at hl 0 rfl) ?_
            refine lv_istore (lv' := [(4, .int (nI ((lo + hi) / 2))), (6, .int (nI ((lo + hi) / 2))), (0, .ref d), (1, .ref qt), (2, .int (nI ln)), (3, .int (nI lo)), (5, .int (nI k))]) hx hb d_Dir_placeOf_57 hl (by decide) rfl (fun ls hl => ?_)
            refine lv_iinc (v := nI (k + 1)) (lv' := [(5, .int (nI (k + 1))), (4, .int (nI ((lo + hi) / 2))), (6, .int (nI ((lo + hi) / 2))), (0, .ref d), (1, .ref qt), (2, .int (nI ln)), (3, .int (nI lo))]) hx hb d_Dir_placeOf_59 hl (k := 6) rfl (by rw [show Int32.ofInt 1 = nI 1 by decide]; exact nI_add _ _) (by decide) rfl (fun ls hl => ?_)
            refine lv_goto (tgt := 14) hx hb d_Dir_placeOf_62 (by decide) ?_
            exact ih _ _ _ (by omega) (by omega) (by omega) (fun j hj => by first | exact g4 j hj | exact hK j ((lo + hi) / 2) (by omega) (by omega) (by omega)) (fun j hj hn9 => by first | exact g5 j hj hn9 | exact fun q9 => absurd (hK ((lo + hi) / 2) j hj hn9 q9) (by omega)) (by omega) _ _ hP hD hS ls (lv_sub hl [3, 4, 5, 6, 1, 0] rfl)
          · skip
            have c_44 : ¬ 0 ≤ (cmpB (nmf ((lo + hi) / 2)) (zl ft 0 ln)) := fun q9 => c_44 ((zi_le (a := 0) (b := cmpB (nmf ((lo + hi) / 2)) (zl ft 0 ln)) (nI_iI _) rfl (by omega) (by omega) (by omega) (by omega)).mpr q9)
            refine lv_iload hx hb d_Dir_placeOf_47 (lv_at hl 0 rfl) ?_
            refine lv_iconst (v := nI 1) hx hb d_Dir_placeOf_49 (by decide) ?_
            refine z_iadd (v := nI (((lo + hi) / 2) + 1)) C d_Dir_placeOf_50 (nI_add _ _) ?_
            refine lv_istore_n (lv' := [(3, .int (nI (((lo + hi) / 2) + 1))), (6, .int (nI ((lo + hi) / 2))), (0, .ref d), (1, .ref qt), (2, .int (nI ln)), (4, .int (nI hi)), (5, .int (nI k))]) hx hb d_Dir_placeOf_51 rfl hl (by decide) rfl (fun ls hl => ?_)
            refine lv_goto (tgt := 59) hx hb d_Dir_placeOf_52 (by decide) ?_
            refine lv_iinc (v := nI (k + 1)) (lv' := [(5, .int (nI (k + 1))), (3, .int (nI (((lo + hi) / 2) + 1))), (6, .int (nI ((lo + hi) / 2))), (0, .ref d), (1, .ref qt), (2, .int (nI ln)), (4, .int (nI hi))]) hx hb d_Dir_placeOf_59 hl (k := 6) rfl (by rw [show Int32.ofInt 1 = nI 1 by decide]; exact nI_add _ _) (by decide) rfl (fun ls hl => ?_)
            refine lv_goto (tgt := 14) hx hb d_Dir_placeOf_62 (by decide) ?_
            exact ih _ _ _ (by omega) (by omega) (by omega) (fun j hj => by first | exact g4 j hj | exact hK j ((lo + hi) / 2) (by omega) (by omega) (by omega)) (fun j hj hn9 => by first | exact g5 j hj hn9 | exact fun q9 => absurd (hK ((lo + hi) / 2) j hj hn9 q9) (by omega)) (by omega) _ _ hP hD hS ls (lv_sub hl [3, 4, 5, 1, 6, 0] rfl)
  refine lv_iconst (v := nI 0) hx hb d_Dir_placeOf_0 (by decide) ?_
  refine lv_istore_n (lv' := [(3, .int (nI 0)), (0, .ref d), (1, .ref qt), (2, .int (nI ln))]) hx hb d_Dir_placeOf_1 rfl hl (by decide) rfl (fun ls hl => ?_)
  refine lv_aload_n hx hb d_Dir_placeOf_2 rfl (lv_at hl 1 rfl) ?_
  refine z_get C hP hd q_Dir 0 (by decide) k_78 (fun _ h9 => h9) rfl d_Dir_placeOf_3 ?_
  refine z_ki (z_runV (np := 0) C (c_AL_size l g T li ed x (nI n) hli) hP hD hS hli (show classes[3]? = some (R_AL, F_AL, 3) from rfl) k_296 k_6 k_293 k_294 k_295 ⟨by decide, by decide, by decide⟩ ⟨Nat.le_of_ble_eq_true rfl, Nat.le_of_ble_eq_true rfl⟩ rfl hl.1 rfl (Nat.le_of_ble_eq_true rfl) d_Dir_placeOf_6 ⟨by show _ ≤ 0; omega, by show _ ≤ 0; omega⟩) hS (fun r_6 w H locs hw hP hD hS => ?_)
  obtain ⟨rfl, hw⟩ := hw
  rw [hw] at hP hD
  refine lv_istore (lv' := [(4, .int (nI n)), (3, .int (nI 0)), (0, .ref d), (1, .ref qt), (2, .int (nI ln))]) hx hb d_Dir_placeOf_9 hl (by decide) rfl (fun ls hl => ?_)
  refine lv_iconst (v := nI 0) hx hb d_Dir_placeOf_11 (by decide) ?_
  refine lv_istore (lv' := [(5, .int (nI 0)), (4, .int (nI n)), (3, .int (nI 0)), (0, .ref d), (1, .ref qt), (2, .int (nI ln))]) hx hb d_Dir_placeOf_12 hl (by decide) rfl (fun ls hl => ?_)
  exact L_14 _ 0 n 0 (Nat.zero_le _) (Nat.le_refl _) (by omega) (fun _ q9 => absurd q9 (Nat.not_lt_zero _)) (fun j q9 q8 => absurd q8 (by omega)) (Nat.lt_succ_self _) _ _ hP hD hS ls (lv_sub hl [3, 4, 5, 2, 1, 0] rfl)
set_option maxHeartbeats 4000000 in
set_option maxRecDepth 100000 in
theorem c_Dir_insert (l : Launch) (g : zT) (T : va_W) (d li ed cap Bd : Nat) (xs : List Nat) (x : Int32) (f : Nat → Option Nat) (hd : (d, zo 2 [.ref li]) ∈ T) (hL : zL f xs) (h1 : xs.length ≤ cap) (h3 : cap ≤ Bd) (h4 : Bd < 60000) (h5 : xs.length + xs.length / 2 + 10 ≤ Bd) (hc : cap = 0 → ed = g.2.2.2.1) (i y : Nat) (hi : i ≤ xs.length) (hy : zel T y) (he : ∀ z ∈ xs, zel T z) : Met l y_Dir_insert (zw y_Dir_insert b_Dir_insert 3 (none)) (zR 6 137 1 (xs.length + xs.length / 2 + 10)) (zP g [.ref d, .int (nI i), .ref y] ((li, zo 3 [.int x, .ref ed, .int (nI xs.length)]) :: (wA g ed cap f ++ T))) (zQv g (fun w => zLs g li (xs.insertIdx i y) Bd T w)) 1 (xs.length + xs.length / 2 + 10) (zA g) := by
  refine zMet (by decide) (Nat.le_of_ble_eq_true rfl) ?_
  intro p e s m below meth c ls C hr hlk hnm hP hD hl
  have hx := C.1.1
  have hb := C.1.2.1
  have hS : va_S (zA g) s.heap s.heap [] := va_S.rf
  have hl : lv_has ls 3 [(0, .ref d), (1, .int (nI i)), (2, .ref y)] := hl
  refine lv_aload_n hx hb d_Dir_insert_0 rfl (lv_at hl 0 rfl) ?_
  refine z_get C hP (List.mem_cons_of_mem _ (List.mem_append_right _ hd)) q_Dir 0 (by decide) k_78 (fun _ h9 => h9) rfl d_Dir_insert_1 ?_
  refine lv_iload_n hx hb d_Dir_insert_4 rfl (lv_at hl 1 rfl) ?_
  refine lv_aload_n hx hb d_Dir_insert_5 rfl (lv_at hl 2 rfl) ?_
  refine z_kv (z_runV (np := 2) C (c_AL_add2 l g T li ed cap y i Bd xs x f hL h1 h3 h4 h5 hc hi hy he) hP hD hS List.mem_cons_self (show classes[3]? = some (R_AL, F_AL, 3) from rfl) k_401 k_6 k_398 k_399 k_400 ⟨by decide, by decide, by decide⟩ ⟨Nat.le_of_ble_eq_true rfl, Nat.le_of_ble_eq_true rfl⟩ rfl hl.1 rfl (Nat.le_of_ble_eq_true rfl) d_Dir_insert_6 ⟨by show _ ≤ 1; omega, by show _ ≤ (xs.length + xs.length / 2 + 10); omega⟩) hS (fun w H locs hw hP hD hS => ?_)
  exact z_vret C hr hlk hP hD hS (by omega) (by omega) hw d_Dir_insert_9
set_option maxHeartbeats 4000000 in
set_option maxRecDepth 100000 in
theorem c_Dir_removeAt (l : Launch) (g : zT) (T : va_W) (d li ed cap Bd : Nat) (xs : List Nat) (x : Int32) (f : Nat → Option Nat) (hd : (d, zo 2 [.ref li]) ∈ T) (hL : zL f xs) (h1 : xs.length ≤ cap) (h3 : cap ≤ Bd) (h4 : Bd < 60000) (i y : Nat) (hi : xs[i]? = some y) (he : ∀ z ∈ xs, zel T z) : Met l y_Dir_removeAt (zw y_Dir_removeAt b_Dir_removeAt 2 (none)) (zR 3 72 0 0) (zP g [.ref d, .int (nI i)] ((li, zo 3 [.int x, .ref ed, .int (nI xs.length)]) :: (ed, zOb g cap f) :: T)) (zQv g (fun w => zLs g li (xs.eraseIdx i) Bd T w)) 0 0 (zA g) := by
  refine zMet (by decide) (Nat.le_of_ble_eq_true rfl) ?_
  intro p e s m below meth c ls C hr hlk hnm hP hD hl
  have hx := C.1.1
  have hb := C.1.2.1
  have hS : va_S (zA g) s.heap s.heap [] := va_S.rf
  have hl : lv_has ls 2 [(0, .ref d), (1, .int (nI i))] := hl
  refine lv_aload_n hx hb d_Dir_removeAt_0 rfl (lv_at hl 0 rfl) ?_
  refine z_get C hP (List.mem_cons_of_mem _ (List.mem_cons_of_mem _ hd)) q_Dir 0 (by decide) k_78 (fun _ h9 => h9) rfl d_Dir_removeAt_1 ?_
  refine lv_iload_n hx hb d_Dir_removeAt_4 rfl (lv_at hl 1 rfl) ?_
  refine z_kq (z_runV (np := 1) C (c_AL_remove l g T li ed cap i y Bd xs x f hL h1 h3 h4 hi he) hP hD hS List.mem_cons_self (show classes[3]? = some (R_AL, F_AL, 3) from rfl) k_480 k_6 k_477 k_478 k_479 ⟨by decide, by decide, by decide⟩ ⟨Nat.le_of_ble_eq_true rfl, Nat.le_of_ble_eq_true rfl⟩ rfl hl.1 rfl (Nat.le_of_ble_eq_true rfl) d_Dir_removeAt_5 ⟨by show _ ≤ 0; omega, by show _ ≤ 0; omega⟩) hS (fun r_5 w H locs hw hP hD hS => ?_)
  obtain ⟨rfl, hw⟩ := hw
  refine lv_pop hx hb d_Dir_removeAt_8 rfl ?_
  exact z_vret C hr hlk hP hD hS (by omega) (by omega) hw d_Dir_removeAt_9
set_option maxHeartbeats 4000000 in
set_option maxRecDepth 100000 in
theorem c_Dir_removeAll (l : Launch) (g : zT) (T : va_W) (d li ed cap Bd : Nat) (xs : List Nat) (x : Int32) (f : Nat → Option Nat) (hd : (d, zo 2 [.ref li]) ∈ T) (hL : zL f xs) (h1 : xs.length ≤ cap) (h3 : cap ≤ Bd) (h4 : Bd < 60000) (hc : cap = 0 → ed = g.2.2.2.1) : Met l y_Dir_removeAll (zw y_Dir_removeAll b_Dir_removeAll 1 (none)) (zR 1 23 0 0) (zP g [.ref d] ((li, zo 3 [.int x, .ref ed, .int (nI xs.length)]) :: (wA g ed cap f ++ T))) (zQv g (fun w => zLs g li [] Bd T w)) 0 0 (zA g) := by
  refine zMet (by decide) (Nat.le_of_ble_eq_true rfl) ?_
  intro p e s m below meth c ls C hr hlk hnm hP hD hl
  have hx := C.1.1
  have hb := C.1.2.1
  have hS : va_S (zA g) s.heap s.heap [] := va_S.rf
  have hl : lv_has ls 1 [(0, .ref d)] := hl
  refine lv_aload_n hx hb d_Dir_removeAll_0 rfl (lv_at hl 0 rfl) ?_
  refine z_get C hP (List.mem_cons_of_mem _ (List.mem_append_right _ hd)) q_Dir 0 (by decide) k_78 (fun _ h9 => h9) rfl d_Dir_removeAll_1 ?_
  refine z_kv (z_runV (np := 0) C (c_AL_clear l g T li ed cap xs.length Bd x f h1 h3 h4 hc) hP hD hS List.mem_cons_self (show classes[3]? = some (R_AL, F_AL, 3) from rfl) k_496 k_6 k_493 k_494 k_495 ⟨by decide, by decide, by decide⟩ ⟨Nat.le_of_ble_eq_true rfl, Nat.le_of_ble_eq_true rfl⟩ rfl hl.1 rfl (Nat.le_of_ble_eq_true rfl) d_Dir_removeAll_4 ⟨by show _ ≤ 0; omega, by show _ ≤ 0; omega⟩) hS (fun w H locs hw hP hD hS => ?_)
  exact z_vret C hr hlk hP hD hS (by omega) (by omega) hw d_Dir_removeAll_7
set_option maxHeartbeats 4000000 in
set_option maxRecDepth 100000 in
theorem c_Dir_init (l : Launch) (g : zT) (T : va_W) (d : Nat) : Met l y_Dir_init (zw y_Dir_init b_Dir_init 1 (none)) (zR 4 80 1 3) (zP g [.ref d] ((d, zo 2 [.null]) :: T)) (zQv g (fun w => ∃ li, w = (d, zo 2 [.ref li]) :: (li, zo 3 [.int (nI 0), .ref g.2.2.2.1, .int (nI 0)]) :: T)) 1 3 (zA g) := by
  refine zMet (by decide) (Nat.le_of_ble_eq_true rfl) ?_
  intro p e s m below meth c ls C hr hlk hnm hP hD hl
  have hx := C.1.1
  have hb := C.1.2.1
  have hS : va_S (zA g) s.heap s.heap [] := va_S.rf
  have hl : lv_has ls 1 [(0, .ref d)] := hl
  refine lv_aload_n hx hb d_Dir_init_0 rfl (lv_at hl 0 rfl) ?_
  refine W.objInit hx hb C.1.2.2.2.1 (C.ts k_51 rfl) (C.ts k_28 rfl) (C.ts k_29 rfl) rfl (by rw [C.1.2.2.1]; exact hl.1) rfl d_Dir_init_1 (Nat.le_of_ble_eq_true rfl) (Nat.le_of_ble_eq_true rfl) ?_
  refine W.eq (g2 := F0 m 4 ls []) rfl ?_
  refine lv_aload_n hx hb d_Dir_init_4 rfl (lv_at hl 0 rfl) ?_
  refine z_new C hP hD hS q_AL k_52 k_53 k_6 [.int (nI 0), .null, .int (nI 0)] (fun j hj => by rcases (show j = 0 ∨ j = 1 ∨ j = 2 by omega) with rfl | rfl | rfl <;> rfl) (by show _ ≤ 1; omega) (by show _ ≤ 3; omega) d_Dir_init_5 (fun li H hP hD hS => ?_)
  refine lv_dup hx hb d_Dir_init_8 rfl ?_
  refine z_kv (z_runI (np := 0) C (c_AL_init l g ((d, zo 2 [.null]) :: T) li (nI 0)) hP hD hS k_56 k_6 k_54 k_55 rfl ⟨by decide, by decide, by decide⟩ ⟨Nat.le_of_ble_eq_true rfl, Nat.le_of_ble_eq_true rfl⟩ rfl hl.1 rfl (Nat.le_of_ble_eq_true rfl) d_Dir_init_9 ⟨by show _ ≤ 1; omega, by show _ ≤ 3; omega⟩) hS (fun w H locs hw hP hD hS => ?_)
  rw [hw] at hP hD
  refine z_putF C hP hD hS hnm 1 rfl q_Dir 0 (by decide) k_78 (fun _ h9 => h9) rfl rfl rfl rfl (Nat.le_of_ble_eq_true rfl) d_Dir_init_12 (ws' := (li, zo 3 [.int (nI 0), .ref g.2.2.2.1, .int (nI 0)]) :: (d, zo 2 [.ref li]) :: T) rfl (fun H locs hP hD hS => ?_)
  exact z_vret C hr hlk (z_Pq (z_bk (bs := [[(li, zo 3 [.int (nI 0), .ref g.2.2.2.1, .int (nI 0)])], [(d, zo 2 [.ref li])], T]) (bs' := [[(d, zo 2 [.ref li])], [(li, zo 3 [.int (nI 0), .ref g.2.2.2.1, .int (nI 0)])], T]) [1, 0, 2] rfl (by decide) rfl) hP) (z_Dq (z_bk (bs := [[(li, zo 3 [.int (nI 0), .ref g.2.2.2.1, .int (nI 0)])], [(d, zo 2 [.ref li])], T]) (bs' := [[(d, zo 2 [.ref li])], [(li, zo 3 [.int (nI 0), .ref g.2.2.2.1, .int (nI 0)])], T]) [1, 0, 2] rfl (by decide) rfl) hD) hS (by omega) (by omega) ⟨_, rfl⟩ d_Dir_init_15
