set_option maxHeartbeats 4000000 in
set_option maxRecDepth 100000 in
theorem c_PRE_checkIndex (l : Launch) (g : zT) (T : va_W) (i n : Nat) (h1 : i < n) (h2 : n < 2 ^ 31) : Met l y_PRE_checkIndex (zw y_PRE_checkIndex b_PRE_checkIndex 3 (some .int)) (zR 0 0 0 0) (zP g [.int (nI i), .int (nI n), .null] (T)) (zQi g (fun r w => r = nI i ∧ w = T)) 0 0 (zA g) := by
  refine zMet (by decide) (Nat.le_of_ble_eq_true rfl) ?_
  intro p e s m below meth c ls C hr hlk hnm hP hD hl
  have hx := C.1.1
  have hb := C.1.2.1
  have hS : va_S (zA g) s.heap s.heap [] := va_S.rf
  have hl : lv_has ls 3 [(0, .int (nI i)), (1, .int (nI n)), (2, .null)] := hl
  refine lv_iload_n hx hb d_PRE_checkIndex_0 rfl (lv_at hl 0 rfl) ?_
  refine lv_if_lt (tgt := 9) hx hb d_PRE_checkIndex_1 (by decide) (fun c_1 => ?_) (fun c_1 => ?_)
  · skip
    have c_1 : i < 0 := (nI_ltI (a := i) (b := 0) (by omega) (by decide)).mp c_1
    exact absurd c_1 (by omega)
  · skip
    have c_1 : ¬ i < 0 := fun q9 => c_1 ((nI_ltI (a := i) (b := 0) (by omega) (by decide)).mpr q9)
    refine lv_iload_n hx hb d_PRE_checkIndex_4 rfl (lv_at hl 0 rfl) ?_
    refine lv_iload_n hx hb d_PRE_checkIndex_5 rfl (lv_at hl 1 rfl) ?_
    refine lv_icmp_lt (tgt := 16) hx hb d_PRE_checkIndex_6 (by decide) (fun c_6 => ?_) (fun c_6 => ?_)
    · skip
      have c_6 : i < n := (nI_ltI (a := i) (b := n) (by omega) (by omega)).mp c_6
      refine lv_iload_n hx hb d_PRE_checkIndex_16 rfl (lv_at hl 0 rfl) ?_
      exact z_iret C hr hlk hP hD hS (by omega) (by omega) ⟨rfl, rfl⟩ d_PRE_checkIndex_17
    · skip
      have c_6 : ¬ i < n := fun q9 => c_6 ((nI_ltI (a := i) (b := n) (by omega) (by omega)).mpr q9)
      exact absurd c_6 (by omega)
set_option maxHeartbeats 4000000 in
set_option maxRecDepth 100000 in
theorem c_OBJ_checkIndex (l : Launch) (g : zT) (T : va_W) (i n : Nat) (h1 : i < n) (h2 : n < 2 ^ 31) : Met l y_OBJ_checkIndex (zw y_OBJ_checkIndex b_OBJ_checkIndex 2 (some .int)) (zR 1 22 0 0) (zP g [.int (nI i), .int (nI n)] (T)) (zQi g (fun r w => r = nI i ∧ w = T)) 0 0 (zA g) := by
  refine zMet (by decide) (Nat.le_of_ble_eq_true rfl) ?_
  intro p e s m below meth c ls C hr hlk hnm hP hD hl
  have hx := C.1.1
  have hb := C.1.2.1
  have hS : va_S (zA g) s.heap s.heap [] := va_S.rf
  have hl : lv_has ls 2 [(0, .int (nI i)), (1, .int (nI n))] := hl
  refine lv_iload_n hx hb d_OBJ_checkIndex_0 rfl (lv_at hl 0 rfl) ?_
  refine lv_iload_n hx hb d_OBJ_checkIndex_1 rfl (lv_at hl 1 rfl) ?_
  refine lv_null hx hb d_OBJ_checkIndex_2 ?_
  refine z_ki (z_runS (np := 3) C (c_PRE_checkIndex l g T i n h1 h2) hP hD hS k_310 k_16 k_308 k_309 ⟨by decide, by decide, by decide⟩ ⟨Nat.le_of_ble_eq_true rfl, Nat.le_of_ble_eq_true rfl⟩ rfl hl.1 rfl (Nat.le_of_ble_eq_true rfl) d_OBJ_checkIndex_3 ⟨by show _ ≤ 0; omega, by show _ ≤ 0; omega⟩) hS (fun r_3 w H locs hw hP hD hS => ?_)
  obtain ⟨rfl, hw⟩ := hw
  rw [hw] at hP hD
  exact z_iret C hr hlk hP hD hS (by omega) (by omega) ⟨rfl, rfl⟩ d_OBJ_checkIndex_6
set_option maxHeartbeats 4000000 in
set_option maxRecDepth 100000 in
theorem c_AL_size (l : Launch) (g : zT) (T : va_W) (a ed : Nat) (x n : Int32) (hm : (a, zo 3 [.int x, .ref ed, .int n]) ∈ T) : Met l y_AL_size (zw y_AL_size b_AL_size 1 (some .int)) (zR 0 0 0 0) (zP g [.ref a] (T)) (zQi g (fun r w => r = n ∧ w = T)) 0 0 (zA g) := by
  refine zMet (by decide) (Nat.le_of_ble_eq_true rfl) ?_
  intro p e s m below meth c ls C hr hlk hnm hP hD hl
  have hx := C.1.1
  have hb := C.1.2.1
  have hS : va_S (zA g) s.heap s.heap [] := va_S.rf
  have hl : lv_has ls 1 [(0, .ref a)] := hl
  refine lv_aload_n hx hb d_AL_size_0 rfl (lv_at hl 0 rfl) ?_
  refine z_get C hP hm q_AL 2 (by decide) k_67 (fun _ h9 => h9) rfl d_AL_size_1 ?_
  exact z_iret C hr hlk hP hD hS (by omega) (by omega) ⟨rfl, rfl⟩ d_AL_size_4
set_option maxHeartbeats 4000000 in
set_option maxRecDepth 100000 in
theorem c_AL_elementData (l : Launch) (g : zT) (T : va_W) (a ed n cap i y : Nat) (x : Int32) (f : Nat → Option Nat) (hm : (a, zo 3 [.int x, .ref ed, .int (nI n)]) ∈ T) (he : (ed, zOb g cap f) ∈ T) (h1 : i < n) (h2 : n ≤ cap) (h3 : cap < 2 ^ 31) (h4 : f i = some y) : Met l y_AL_elementData (zw y_AL_elementData b_AL_elementData 2 (some (.object "java/lang/Object"))) (zR 0 0 0 0) (zP g [.ref a, .int (nI i)] (T)) (zQq g (fun r w => r = some y ∧ w = T)) 0 0 (zA g) := by
  refine zMet (by decide) (Nat.le_of_ble_eq_true rfl) ?_
  intro p e s m below meth c ls C hr hlk hnm hP hD hl
  have hx := C.1.1
  have hb := C.1.2.1
  have hS : va_S (zA g) s.heap s.heap [] := va_S.rf
  have hl : lv_has ls 2 [(0, .ref a), (1, .int (nI i))] := hl
  refine lv_aload_n hx hb d_AL_elementData_0 rfl (lv_at hl 0 rfl) ?_
  refine z_get C hP hm q_AL 1 (by decide) k_66 (fun _ h9 => h9) rfl d_AL_elementData_1 ?_
  refine lv_iload_n hx hb d_AL_elementData_4 rfl (lv_at hl 1 rfl) ?_
  refine z_aald C hP he i (by omega) (by omega) d_AL_elementData_5 ?_
  refine z_some' h4 ?_
  exact z_aret (v := some y) C hr (by first | exact Or.inl ⟨_, rfl⟩ | exact Or.inr ⟨_, rfl⟩) hlk hP hD hS (by omega) (by omega) ⟨rfl, rfl⟩ d_AL_elementData_6
set_option maxHeartbeats 4000000 in
set_option maxRecDepth 100000 in
theorem c_AL_get (l : Launch) (g : zT) (T : va_W) (a ed n cap i y : Nat) (x : Int32) (f : Nat → Option Nat) (hm : (a, zo 3 [.int x, .ref ed, .int (nI n)]) ∈ T) (he : (ed, zOb g cap f) ∈ T) (h1 : i < n) (h2 : n ≤ cap) (h3 : cap < 2 ^ 31) (h4 : f i = some y) : Met l y_AL_get (zw y_AL_get b_AL_get 2 (some (.object "java/lang/Object"))) (zR 2 43 0 0) (zP g [.ref a, .int (nI i)] (T)) (zQq g (fun r w => r = some y ∧ w = T)) 0 0 (zA g) := by
  refine zMet (by decide) (Nat.le_of_ble_eq_true rfl) ?_
  intro p e s m below meth c ls C hr hlk hnm hP hD hl
  have hx := C.1.1
  have hb := C.1.2.1
  have hS : va_S (zA g) s.heap s.heap [] := va_S.rf
  have hl : lv_has ls 2 [(0, .ref a), (1, .int (nI i))] := hl
  refine lv_iload_n hx hb d_AL_get_0 rfl (lv_at hl 1 rfl) ?_
  refine lv_aload_n hx hb d_AL_get_1 rfl (lv_at hl 0 rfl) ?_
  refine z_get C hP hm q_AL 2 (by decide) k_67 (fun _ h9 => h9) rfl d_AL_get_2 ?_
  refine z_ki (z_runS (np := 2) C (c_OBJ_checkIndex l g T i n h1 (by omega)) hP hD hS k_307 k_15 k_305 k_306 ⟨by decide, by decide, by decide⟩ ⟨Nat.le_of_ble_eq_true rfl, Nat.le_of_ble_eq_true rfl⟩ rfl hl.1 rfl (Nat.le_of_ble_eq_true rfl) d_AL_get_5 ⟨by show _ ≤ 0; omega, by show _ ≤ 0; omega⟩) hS (fun r_5 w H locs hw hP hD hS => ?_)
  obtain ⟨rfl, hw⟩ := hw
  rw [hw] at hP hD
  refine lv_pop hx hb d_AL_get_8 rfl ?_
  refine lv_aload_n hx hb d_AL_get_9 rfl (lv_at hl 0 rfl) ?_
  refine lv_iload_n hx hb d_AL_get_10 rfl (lv_at hl 1 rfl) ?_
  refine z_kq (z_runV (np := 1) C (c_AL_elementData l g T a ed n cap i y x f hm he h1 h2 h3 h4) hP hD hS hm (show classes[3]? = some (R_AL, F_AL, 3) from rfl) k_314 k_6 k_311 k_312 k_313 ⟨by decide, by decide, by decide⟩ ⟨Nat.le_of_ble_eq_true rfl, Nat.le_of_ble_eq_true rfl⟩ rfl hl.1 rfl (Nat.le_of_ble_eq_true rfl) d_AL_get_11 ⟨by show _ ≤ 0; omega, by show _ ≤ 0; omega⟩) hS (fun r_11 w H locs hw hP hD hS => ?_)
  obtain ⟨rfl, hw⟩ := hw
  rw [hw] at hP hD
  exact z_aret (v := some y) C hr (by first | exact Or.inl ⟨_, rfl⟩ | exact Or.inr ⟨_, rfl⟩) hlk hP hD hS (by omega) (by omega) ⟨rfl, rfl⟩ d_AL_get_14
set_option maxHeartbeats 4000000 in
set_option maxRecDepth 100000 in
theorem c_AL_set (l : Launch) (g : zT) (T : va_W) (a ed n cap i y z : Nat) (x : Int32) (f : Nat → Option Nat) (hm : (a, zo 3 [.int x, .ref ed, .int (nI n)]) ∈ T) (h1 : i < n) (h2 : n ≤ cap) (h3 : cap < 2 ^ 31) (h4 : f i = some y) (h5 : zel T z) : Met l y_AL_set (zw y_AL_set b_AL_set 4 (some (.object "java/lang/Object"))) (zR 2 43 0 0) (zP g [.ref a, .int (nI i), .ref z] ((ed, zOb g cap f) :: T)) (zQq g (fun r w => r = some y ∧ w = (ed, zOb g cap (va_up f i (some z))) :: T)) 0 0 (zA g) := by
  refine zMet (by decide) (Nat.le_of_ble_eq_true rfl) ?_
  intro p e s m below meth c ls C hr hlk hnm hP hD hl
  have hx := C.1.1
  have hb := C.1.2.1
  have hS : va_S (zA g) s.heap s.heap [] := va_S.rf
  have hl : lv_has ls 4 [(0, .ref a), (1, .int (nI i)), (2, .ref z)] := hl
  refine lv_iload_n hx hb d_AL_set_0 rfl (lv_at hl 1 rfl) ?_
  refine lv_aload_n hx hb d_AL_set_1 rfl (lv_at hl 0 rfl) ?_
  refine z_get C hP (List.mem_cons_of_mem _ hm) q_AL 2 (by decide) k_67 (fun _ h9 => h9) rfl d_AL_set_2 ?_
  refine z_ki (z_runS (np := 2) C (c_OBJ_checkIndex l g ((ed, zOb g cap f) :: T) i n h1 (by omega)) hP hD hS k_307 k_15 k_305 k_306 ⟨by decide, by decide, by decide⟩ ⟨Nat.le_of_ble_eq_true rfl, Nat.le_of_ble_eq_true rfl⟩ rfl hl.1 rfl (Nat.le_of_ble_eq_true rfl) d_AL_set_5 ⟨by show _ ≤ 0; omega, by show _ ≤ 0; omega⟩) hS (fun r_5 w H locs hw hP hD hS => ?_)
  obtain ⟨rfl, hw⟩ := hw
  rw [hw] at hP hD
  refine lv_pop hx hb d_AL_set_8 rfl ?_
  refine lv_aload_n hx hb d_AL_set_9 rfl (lv_at hl 0 rfl) ?_
  refine lv_iload_n hx hb d_AL_set_10 rfl (lv_at hl 1 rfl) ?_
  refine z_kq (z_runV (np := 1) C (c_AL_elementData l g ((ed, zOb g cap f) :: T) a ed n cap i y x f (List.mem_cons_of_mem _ hm) List.mem_cons_self h1 h2 h3 h4) hP hD hS (List.mem_cons_of_mem _ hm) (show classes[3]? = some (R_AL, F_AL, 3) from rfl) k_314 k_6 k_311 k_312 k_313 ⟨by decide, by decide, by decide⟩ ⟨Nat.le_of_ble_eq_true rfl, Nat.le_of_ble_eq_true rfl⟩ rfl hl.1 rfl (Nat.le_of_ble_eq_true rfl) d_AL_set_11 ⟨by show _ ≤ 0; omega, by show _ ≤ 0; omega⟩) hS (fun r_11 w H locs hw hP hD hS => ?_)
  obtain ⟨rfl, hw⟩ := hw
  rw [hw] at hP hD
  refine lv_astore_n (lv' := [(3, .ref y), (0, .ref a), (1, .int (nI i)), (2, .ref z)]) hx hb d_AL_set_14 rfl hl (by decide) rfl (fun ls hl => ?_)
  refine lv_aload_n hx hb d_AL_set_15 rfl (lv_at hl 1 rfl) ?_
  refine z_get C hP (List.mem_cons_of_mem _ hm) q_AL 1 (by decide) k_66 (fun _ h9 => h9) rfl d_AL_set_16 ?_
  refine lv_iload_n hx hb d_AL_set_19 rfl (lv_at hl 2 rfl) ?_
  refine lv_aload_n hx hb d_AL_set_20 rfl (lv_at hl 3 rfl) ?_
  refine z_aast C hP hD hS 0 rfl i (by omega) (by omega) (h5.mono fun _ q => List.mem_cons_of_mem _ q) d_AL_set_21 (ws' := (ed, zOb g cap (va_up f i (some z))) :: T) rfl (fun H locs hP hD hS => ?_)
  refine lv_aload_n hx hb d_AL_set_22 rfl (lv_at hl 0 rfl) ?_
  exact z_aret (v := some y) C hr (by first | exact Or.inl ⟨_, rfl⟩ | exact Or.inr ⟨_, rfl⟩) hlk hP hD hS (by omega) (by omega) ⟨rfl, rfl⟩ d_AL_set_23
set_option maxHeartbeats 4000000 in
set_option maxRecDepth 100000 in
theorem c_ABC_init (l : Launch) (g : zT) (T : va_W) (a : Nat) : Met l y_ABC_init (zw y_ABC_init b_ABC_init 1 (none)) (zR 1 20 0 0) (zP g [.ref a] (T)) (zQv g (fun w => w = T)) 0 0 (zA g) := by
  refine zMet (by decide) (Nat.le_of_ble_eq_true rfl) ?_
  intro p e s m below meth c ls C hr hlk hnm hP hD hl
  have hx := C.1.1
  have hb := C.1.2.1
  have hS : va_S (zA g) s.heap s.heap [] := va_S.rf
  have hl : lv_has ls 1 [(0, .ref a)] := hl
  refine lv_aload_n hx hb d_ABC_init_0 rfl (lv_at hl 0 rfl) ?_
  refine W.objInit hx hb C.1.2.2.2.1 (C.ts k_63 rfl) (C.ts k_28 rfl) (C.ts k_29 rfl) rfl (by rw [C.1.2.2.1]; exact hl.1) rfl d_ABC_init_1 (Nat.le_of_ble_eq_true rfl) (Nat.le_of_ble_eq_true rfl) ?_
  refine W.eq (g2 := F0 m 4 ls []) rfl ?_
  exact z_vret C hr hlk hP hD hS (by omega) (by omega) rfl d_ABC_init_4
set_option maxHeartbeats 4000000 in
set_option maxRecDepth 100000 in
theorem c_ABL_init (l : Launch) (g : zT) (T : va_W) (a : Nat) (x : Int32) : Met l y_ABL_init (zw y_ABL_init b_ABL_init 1 (none)) (zR 2 40 0 0) (zP g [.ref a] ((a, zo 3 [.int x, .null, .int (nI 0)]) :: T)) (zQv g (fun w => w = (a, zo 3 [.int (nI 0), .null, .int (nI 0)]) :: T)) 0 0 (zA g) := by
  refine zMet (by decide) (Nat.le_of_ble_eq_true rfl) ?_
  intro p e s m below meth c ls C hr hlk hnm hP hD hl
  have hx := C.1.1
  have hb := C.1.2.1
  have hS : va_S (zA g) s.heap s.heap [] := va_S.rf
  have hl : lv_has ls 1 [(0, .ref a)] := hl
  refine lv_aload_n hx hb d_ABL_init_0 rfl (lv_at hl 0 rfl) ?_
  refine z_kv (z_runI (np := 0) C (c_ABC_init l g ((a, zo 3 [.int x, .null, .int (nI 0)]) :: T) a) hP hD hS k_62 k_4 k_60 k_61 rfl ⟨by decide, by decide, by decide⟩ ⟨Nat.le_of_ble_eq_true rfl, Nat.le_of_ble_eq_true rfl⟩ rfl hl.1 rfl (Nat.le_of_ble_eq_true rfl) d_ABL_init_1 ⟨by show _ ≤ 0; omega, by show _ ≤ 0; omega⟩) hS (fun w H locs hw hP hD hS => ?_)
  rw [hw] at hP hD
  refine lv_aload_n hx hb d_ABL_init_4 rfl (lv_at hl 0 rfl) ?_
  refine lv_iconst (v := nI 0) hx hb d_ABL_init_5 (by decide) ?_
  refine z_put C hP hD hS 0 rfl q_AL 0 (by decide) k_68 (fun _ h9 => h9) rfl rfl rfl (Nat.le_of_ble_eq_true rfl) d_ABL_init_6 (ws' := (a, zo 3 [.int (nI 0), .null, .int (nI 0)]) :: T) rfl (fun H locs hP hD hS => ?_)
  exact z_vret C hr hlk hP hD hS (by omega) (by omega) rfl d_ABL_init_9
set_option maxHeartbeats 4000000 in
set_option maxRecDepth 100000 in
theorem c_AL_init (l : Launch) (g : zT) (T : va_W) (a : Nat) (x : Int32) : Met l y_AL_init (zw y_AL_init b_AL_init 1 (none)) (zR 3 60 0 0) (zP g [.ref a] ((a, zo 3 [.int x, .null, .int (nI 0)]) :: T)) (zQv g (fun w => w = (a, zo 3 [.int (nI 0), .ref g.2.2.2.1, .int (nI 0)]) :: T)) 0 0 (zA g) := by
  refine zMet (by decide) (Nat.le_of_ble_eq_true rfl) ?_
  intro p e s m below meth c ls C hr hlk hnm hP hD hl
  have hx := C.1.1
  have hb := C.1.2.1
  have hS : va_S (zA g) s.heap s.heap [] := va_S.rf
  have hl : lv_has ls 1 [(0, .ref a)] := hl
  refine lv_aload_n hx hb d_AL_init_0 rfl (lv_at hl 0 rfl) ?_
  refine z_kv (z_runI (np := 0) C (c_ABL_init l g T a x) hP hD hS k_59 k_5 k_57 k_58 rfl ⟨by decide, by decide, by decide⟩ ⟨Nat.le_of_ble_eq_true rfl, Nat.le_of_ble_eq_true rfl⟩ rfl hl.1 rfl (Nat.le_of_ble_eq_true rfl) d_AL_init_1 ⟨by show _ ≤ 0; omega, by show _ ≤ 0; omega⟩) hS (fun w H locs hw hP hD hS => ?_)
  rw [hw] at hP hD
  refine lv_aload_n hx hb d_AL_init_4 rfl (lv_at hl 0 rfl) ?_
  refine va_gets hx hb C.2.2.2.2.1.1 hS C.1.2.2.2.1 (C.ts k_64 rfl) (fun _ h9 => h9) d_AL_init_5 ?_
  refine z_put C hP hD hS 0 rfl q_AL 1 (by decide) k_66 (fun _ h9 => h9) rfl rfl rfl (Nat.le_of_ble_eq_true rfl) d_AL_init_8 (ws' := (a, zo 3 [.int (nI 0), .ref g.2.2.2.1, .int (nI 0)]) :: T) rfl (fun H locs hP hD hS => ?_)
  exact z_vret C hr hlk hP hD hS (by omega) (by omega) rfl d_AL_init_11
set_option maxHeartbeats 4000000 in
set_option maxRecDepth 100000 in
theorem c_AL_rangeCheckForAdd (l : Launch) (g : zT) (T : va_W) (a ed n i : Nat) (x : Int32) (hm : (a, zo 3 [.int x, .ref ed, .int (nI n)]) ∈ T) (h1 : i ≤ n) (h2 : n < 2 ^ 31) : Met l y_AL_rangeCheckForAdd (zw y_AL_rangeCheckForAdd b_AL_rangeCheckForAdd 2 (none)) (zR 0 0 0 0) (zP g [.ref a, .int (nI i)] (T)) (zQv g (fun w => w = T)) 0 0 (zA g) := by
  refine zMet (by decide) (Nat.le_of_ble_eq_true rfl) ?_
  intro p e s m below meth c ls C hr hlk hnm hP hD hl
  have hx := C.1.1
  have hb := C.1.2.1
  have hS : va_S (zA g) s.heap s.heap [] := va_S.rf
  have hl : lv_has ls 2 [(0, .ref a), (1, .int (nI i))] := hl
  refine lv_iload_n hx hb d_AL_rangeCheckForAdd_0 rfl (lv_at hl 1 rfl) ?_
  refine lv_aload_n hx hb d_AL_rangeCheckForAdd_1 rfl (lv_at hl 0 rfl) ?_
  refine z_get C hP hm q_AL 2 (by decide) k_67 (fun _ h9 => h9) rfl d_AL_rangeCheckForAdd_2 ?_
  refine lv_icmp_gt (tgt := 12) hx hb d_AL_rangeCheckForAdd_5 (by decide) (fun c_5 => ?_) (fun c_5 => ?_)
  · skip
    have c_5 : n < i := (nI_ltI (a := n) (b := i) (by omega) (by omega)).mp c_5
    exact absurd c_5 (by omega)
  · skip
    have c_5 : ¬ n < i := fun q9 => c_5 ((nI_ltI (a := n) (b := i) (by omega) (by omega)).mpr q9)
    refine lv_iload_n hx hb d_AL_rangeCheckForAdd_8 rfl (lv_at hl 1 rfl) ?_
    refine lv_if_ge (tgt := 25) hx hb d_AL_rangeCheckForAdd_9 (by decide) (fun c_9 => ?_) (fun c_9 => ?_)
    · skip
      have c_9 : 0 ≤ i := (nI_leI (a := 0) (b := i) (by decide) (by omega)).mp c_9
      exact z_vret C hr hlk hP hD hS (by omega) (by omega) rfl d_AL_rangeCheckForAdd_25
    · skip
      have c_9 : ¬ 0 ≤ i := fun q9 => c_9 ((nI_leI (a := 0) (b := i) (by decide) (by omega)).mpr q9)
      exact absurd c_9 (by omega)
set_option maxHeartbeats 4000000 in
set_option maxRecDepth 100000 in
theorem c_ASP_newLength (l : Launch) (g : zT) (T : va_W) (o a b : Nat) (h1 : 0 < o + max a b) (h2 : o + max a b < 2147483639) : Met l y_ASP_newLength (zw y_ASP_newLength b_ASP_newLength 4 (some .int)) (zR 1 21 0 0) (zP g [.int (nI o), .int (nI a), .int (nI b)] (T)) (zQi g (fun r w => r = nI (o + max a b) ∧ w = T)) 0 0 (zA g) := by
  refine zMet (by decide) (Nat.le_of_ble_eq_true rfl) ?_
  intro p e s m below meth c ls C hr hlk hnm hP hD hl
  have hx := C.1.1
  have hb := C.1.2.1
  have hS : va_S (zA g) s.heap s.heap [] := va_S.rf
  have hl : lv_has ls 4 [(0, .int (nI o)), (1, .int (nI a)), (2, .int (nI b))] := hl
  refine lv_iload_n hx hb d_ASP_newLength_0 rfl (lv_at hl 0 rfl) ?_
  refine lv_iload_n hx hb d_ASP_newLength_1 rfl (lv_at hl 1 rfl) ?_
  refine lv_iload_n hx hb d_ASP_newLength_2 rfl (lv_at hl 2 rfl) ?_
  refine va_mmax hx hb (by rw [C.1.2.2.1]; exact hl.1.symm) C.1.2.2.2.1 (C.ts k_417 rfl) (C.ts k_418 rfl) (C.ts k_17 rfl) (C.ts k_419 rfl) (Nat.le_of_ble_eq_true rfl) (Nat.le_of_ble_eq_true rfl) (by show _ ≤ 0; omega) (by show _ ≤ 0; omega) d_ASP_newLength_3 ?_
  refine z_topi (y := nI (max a b)) (zn_max (by omega) (by omega)) ?_
  refine z_iadd (v := nI (o + (max a b))) C d_ASP_newLength_6 (nI_add _ _) ?_
  refine lv_istore_n (lv' := [(3, .int (nI (o + (max a b)))), (0, .int (nI o)), (1, .int (nI a)), (2, .int (nI b))]) hx hb d_ASP_newLength_7 rfl hl (by decide) rfl (fun ls hl => ?_)
  refine lv_iconst (v := nI 0) hx hb d_ASP_newLength_8 (by decide) ?_
  refine lv_iload_n hx hb d_ASP_newLength_9 rfl (lv_at hl 0 rfl) ?_
  refine lv_icmp_ge (tgt := 21) hx hb d_ASP_newLength_10 (by decide) (fun c_10 => ?_) (fun c_10 => ?_)
  · skip
    have c_10 : (o + (max a b)) ≤ 0 := (nI_leI (a := o + (max a b)) (b := 0) (by omega) (by decide)).mp c_10
    exact absurd c_10 (by omega)
  · skip
    have c_10 : ¬ (o + (max a b)) ≤ 0 := fun q9 => c_10 ((nI_leI (a := o + (max a b)) (b := 0) (by omega) (by decide)).mpr q9)
    refine lv_iload_n hx hb d_ASP_newLength_13 rfl (lv_at hl 0 rfl) ?_
    refine lv_ldc (v := nI 2147483639) hx hb C.1.2.2.2.1 (C.ts k_420 rfl) d_ASP_newLength_14 ?_
    refine lv_icmp_gt (tgt := 21) hx hb d_ASP_newLength_16 (by decide) (fun c_16 => ?_) (fun c_16 => ?_)
    · skip
      have c_16 : 2147483639 < (o + (max a b)) := (nI_ltI (a := 2147483639) (b := o + (max a b)) (by decide) (by omega)).mp c_16
      exact absurd c_16 (by omega)
    · skip
      have c_16 : ¬ 2147483639 < (o + (max a b)) := fun q9 => c_16 ((nI_ltI (a := 2147483639) (b := o + (max a b)) (by decide) (by omega)).mpr q9)
      refine lv_iload_n hx hb d_ASP_newLength_19 rfl (lv_at hl 0 rfl) ?_
      exact z_iret C hr hlk hP hD hS (by omega) (by omega) ⟨rfl, rfl⟩ d_ASP_newLength_20
set_option maxHeartbeats 4000000 in
set_option maxRecDepth 100000 in
theorem c_ARR_copyB (l : Launch) (g : zT) (T : va_W) (q n k : Nat) (f : Nat → UInt8) (hm : (q, zBy g n f) ∈ T) (h1 : k < n) (h2 : n < 2 ^ 29) : Met l y_ARR_copyB (zw y_ARR_copyB b_ARR_copyB 3 (some (.array .byte))) (zR 1 26 1 k) (zP g [.ref q, .int (nI k)] (T)) (zQq g (fun r w => ∃ q2, r = some q2 ∧ w = (q2, zBy g k f) :: T)) 1 k (zA g) := by
  refine zMet (by decide) (Nat.le_of_ble_eq_true rfl) ?_
  intro p e s m below meth c ls C hr hlk hnm hP hD hl
  have hx := C.1.1
  have hb := C.1.2.1
  have hS : va_S (zA g) s.heap s.heap [] := va_S.rf
  have hl : lv_has ls 3 [(0, .ref q), (1, .int (nI k))] := hl
  refine lv_iload_n hx hb d_ARR_copyB_0 rfl (lv_at hl 1 rfl) ?_
  refine lv_aload_n hx hb d_ARR_copyB_1 rfl (lv_at hl 0 rfl) ?_
  refine z_alenB C hP hm d_ARR_copyB_2 ?_
  refine lv_icmp_ne (tgt := 14) hx hb d_ARR_copyB_3 (by decide) (fun c_3 => ?_) (fun c_3 => ?_)
  · skip
    have c_3 : ¬ k = n := fun q9 => c_3 ((nI_eq (a := k) (b := n) (by omega) (by omega)).mpr q9)
    refine lv_iload_n hx hb d_ARR_copyB_14 rfl (lv_at hl 1 rfl) ?_
    refine z_newB C hP hD hS k_45 k (by omega) (by show _ ≤ 1; omega) (by show _ ≤ k; omega) d_ARR_copyB_15 (fun q15 H hP hD hS => ?_)
    refine lv_astore_n (lv' := [(2, .ref q15), (0, .ref q), (1, .int (nI k))]) hx hb d_ARR_copyB_17 rfl hl (by decide) rfl (fun ls hl => ?_)
    refine lv_aload_n hx hb d_ARR_copyB_18 rfl (lv_at hl 1 rfl) ?_
    refine lv_iconst (v := nI 0) hx hb d_ARR_copyB_19 (by decide) ?_
    refine lv_aload_n hx hb d_ARR_copyB_20 rfl (lv_at hl 0 rfl) ?_
    refine lv_iconst (v := nI 0) hx hb d_ARR_copyB_21 (by decide) ?_
    refine lv_aload_n hx hb d_ARR_copyB_22 rfl (lv_at hl 1 rfl) ?_
    refine z_alenB C hP (List.mem_cons_of_mem _ hm) d_ARR_copyB_23 ?_
    refine lv_iload_n hx hb d_ARR_copyB_24 rfl (lv_at hl 2 rfl) ?_
    refine va_mmin hx hb (by rw [C.1.2.2.1]; exact hl.1.symm) C.1.2.2.2.1 (C.ts k_357 rfl) (C.ts k_320 rfl) (C.ts k_17 rfl) (C.ts k_321 rfl) (Nat.le_of_ble_eq_true rfl) (Nat.le_of_ble_eq_true rfl) (by show _ ≤ 1; omega) (by show _ ≤ k; omega) d_ARR_copyB_25 ?_
    refine z_topi (y := nI k) ((zn_min (by omega) (by omega)).trans (congrArg nI (Nat.min_eq_right (by omega)))) ?_
    refine z_copyB C hP hD hS hl.1 (List.mem_cons_of_mem _ hm) 0 rfl 0 0 k (by omega) (by omega) (by omega) (by omega) k_358 (Nat.le_of_ble_eq_true rfl) (Nat.le_of_ble_eq_true rfl) d_ARR_copyB_28 (ws' := (q15, zBy g k (va_cpy f (fun _ => 0) 0 0 k)) :: T) rfl (fun H locs hP hD hS => ?_)
    refine lv_aload_n hx hb d_ARR_copyB_31 rfl (lv_at hl 0 rfl) ?_
    have hP := z_cB (f' := f) hP (fun j hj => by rw [pk_cpy_in (by omega) (by omega)]; congr 1; omega)
    have hD := z_Dc (e2 := zBy g k f) hD
    exact z_aret (v := some q15) C hr (by first | exact Or.inl ⟨_, rfl⟩ | exact Or.inr ⟨_, rfl⟩) hlk hP hD hS (by omega) (by omega) ⟨_, rfl, rfl⟩ d_ARR_copyB_32
  · skip
    have c_3 : k = n := (nI_eq (a := k) (b := n) (by omega) (by omega)).mp c_3
    exact absurd c_3 (by omega)
set_option maxHeartbeats 4000000 in
set_option maxRecDepth 100000 in
theorem c_ARR_copy3 (l : Launch) (g : zT) (T : va_W) (a n k : Nat) (f : Nat → Option Nat) (hm : (a, zOb g n f) ∈ T) (h1 : n ≤ k) (h2 : k < 100000000) (he : ∀ j, j < n → ∀ y, f j = some y → zel T y) : Met l y_ARR_copy3 (zw y_ARR_copy3 b_ARR_copy3 4 (some (.array (.object "java/lang/Object")))) (zR 1 26 1 k) (zP g [.ref a, .int (nI k), .ref g.2.2.2.2] (T)) (zQq g (fun r w => ∃ q f2, r = some q ∧ w = (q, zOb g k f2) :: T ∧ ∀ j, j < n → f2 j = f j)) 1 k (zA g) := by
  refine zMet (by decide) (Nat.le_of_ble_eq_true rfl) ?_
  intro p e s m below meth c ls C hr hlk hnm hP hD hl
  have hx := C.1.1
  have hb := C.1.2.1
  have hS : va_S (zA g) s.heap s.heap [] := va_S.rf
  have hl : lv_has ls 4 [(0, .ref a), (1, .int (nI k)), (2, .ref g.2.2.2.2)] := hl
  refine lv_aload_n hx hb d_ARR_copy3_0 rfl (lv_at hl 2 rfl) ?_
  refine z_ldcM C k_446 d_ARR_copy3_1 ?_
  refine lv_acmp_ne (rx := some g.2.2.2.2) (ry := some g.2.2.2.2) (tgt := 13) hx hb d_ARR_copy3_3 (by decide) (fun c_3 => ?_) (fun c_3 => ?_)
  · skip
    exact absurd rfl c_3
  · skip
    refine lv_iload_n hx hb d_ARR_copy3_6 rfl (lv_at hl 1 rfl) ?_
    refine z_newO C hP hD hS k_448 k (by omega) (by show _ ≤ 1; omega) (by show _ ≤ k; omega) d_ARR_copy3_7 (fun q7 H hP hD hS => ?_)
    refine lv_goto (tgt := 24) hx hb d_ARR_copy3_10 (by decide) ?_
    refine lv_astore_n (lv' := [(3, .ref q7), (0, .ref a), (1, .int (nI k)), (2, .ref g.2.2.2.2)]) hx hb d_ARR_copy3_24 rfl hl (by decide) rfl (fun ls hl => ?_)
    refine lv_aload_n hx hb d_ARR_copy3_25 rfl (lv_at hl 1 rfl) ?_
    refine lv_iconst (v := nI 0) hx hb d_ARR_copy3_26 (by decide) ?_
    refine lv_aload_n hx hb d_ARR_copy3_27 rfl (lv_at hl 0 rfl) ?_
    refine lv_iconst (v := nI 0) hx hb d_ARR_copy3_28 (by decide) ?_
    refine lv_aload_n hx hb d_ARR_copy3_29 rfl (lv_at hl 1 rfl) ?_
    refine z_alenO C hP (List.mem_cons_of_mem _ hm) d_ARR_copy3_30 ?_
    refine lv_iload_n hx hb d_ARR_copy3_31 rfl (lv_at hl 2 rfl) ?_
    refine va_mmin hx hb (by rw [C.1.2.2.1]; exact hl.1.symm) C.1.2.2.2.1 (C.ts k_357 rfl) (C.ts k_320 rfl) (C.ts k_17 rfl) (C.ts k_321 rfl) (Nat.le_of_ble_eq_true rfl) (Nat.le_of_ble_eq_true rfl) (by show _ ≤ 1; omega) (by show _ ≤ k; omega) d_ARR_copy3_32 ?_
    refine z_topi (y := nI n) ((zn_min (by omega) (by omega)).trans (congrArg nI (Nat.min_eq_left (by omega)))) ?_
    refine z_copyO C hP hD hS hl.1 (List.mem_cons_of_mem _ hm) 0 rfl 0 0 n (by omega) (by omega) (by omega) (by omega) (fun i hi y hy => (he i hi y (by rw [Nat.zero_add] at hy; exact hy)).mono fun _ q => List.mem_cons_of_mem _ q) k_358 (Nat.le_of_ble_eq_true rfl) (Nat.le_of_ble_eq_true rfl) d_ARR_copy3_35 (ws' := (q7, zOb g k (va_cpy f (fun _ => none) 0 0 n)) :: T) rfl (fun H locs hP hD hS => ?_)
    refine lv_aload_n hx hb d_ARR_copy3_38 rfl (lv_at hl 0 rfl) ?_
    exact z_aret (v := some q7) C hr (by first | exact Or.inl ⟨_, rfl⟩ | exact Or.inr ⟨_, rfl⟩) hlk hP hD hS (by omega) (by omega) ⟨_, _, rfl, rfl, fun j hj => by rw [pk_cpy_in (by omega) (by omega)]; congr 1; omega⟩ d_ARR_copy3_39
set_option maxHeartbeats 4000000 in
set_option maxRecDepth 100000 in
theorem c_ARR_copy2 (l : Launch) (g : zT) (T : va_W) (a n k : Nat) (f : Nat → Option Nat) (hm : (a, zOb g n f) ∈ T) (h1 : n ≤ k) (h2 : k < 100000000) (he : ∀ j, j < n → ∀ y, f j = some y → zel T y) : Met l y_ARR_copy2 (zw y_ARR_copy2 b_ARR_copy2 2 (some (.array (.object "java/lang/Object")))) (zR 2 49 1 k) (zP g [.ref a, .int (nI k)] (T)) (zQq g (fun r w => ∃ q f2, r = some q ∧ w = (q, zOb g k f2) :: T ∧ ∀ j, j < n → f2 j = f j)) 1 k (zA g) := by
  refine zMet (by decide) (Nat.le_of_ble_eq_true rfl) ?_
  intro p e s m below meth c ls C hr hlk hnm hP hD hl
  have hx := C.1.1
  have hb := C.1.2.1
  have hS : va_S (zA g) s.heap s.heap [] := va_S.rf
  have hl : lv_has ls 2 [(0, .ref a), (1, .int (nI k))] := hl
  refine lv_aload_n hx hb d_ARR_copy2_0 rfl (lv_at hl 0 rfl) ?_
  refine lv_iload_n hx hb d_ARR_copy2_1 rfl (lv_at hl 1 rfl) ?_
  refine lv_aload_n hx hb d_ARR_copy2_2 rfl (lv_at hl 0 rfl) ?_
  refine z_getC C hP hl.1 hm k_427 (Nat.le_of_ble_eq_true rfl) (Nat.le_of_ble_eq_true rfl) d_ARR_copy2_3 ?_
  refine z_kq (z_runS (np := 3) C (c_ARR_copy3 l g T a n k f hm h1 h2 he) hP hD hS k_445 k_18 k_443 k_444 ⟨by decide, by decide, by decide⟩ ⟨Nat.le_of_ble_eq_true rfl, Nat.le_of_ble_eq_true rfl⟩ rfl hl.1 rfl (Nat.le_of_ble_eq_true rfl) d_ARR_copy2_6 ⟨by show _ ≤ 1; omega, by show _ ≤ k; omega⟩) hS (fun r_6 w H locs hw hP hD hS => ?_)
  obtain ⟨q, f2, rfl, hw, hf⟩ := hw
  rw [hw] at hP hD
  exact z_aret (v := some q) C hr (by first | exact Or.inl ⟨_, rfl⟩ | exact Or.inr ⟨_, rfl⟩) hlk hP hD hS (by omega) (by omega) ⟨_, _, rfl, rfl, hf⟩ d_ARR_copy2_9
set_option maxHeartbeats 4000000 in
set_option maxRecDepth 100000 in
theorem c_AL_grow1_0 (l : Launch) (g : zT) (T : va_W) (a : Nat) (x : Int32) : Met l y_AL_grow1 (zw y_AL_grow1 b_AL_grow1 4 (some (.array (.object "java/lang/Object")))) (zR 3 70 1 10) (zP g [.ref a, .int (nI 1)] ((a, zo 3 [.int x, .ref g.2.2.2.1, .int (nI 0)]) :: T)) (zQq g (fun r w => ∃ q, r = some q ∧ w = (q, zOb g 10 (fun _ => none)) :: (a, zo 3 [.int x, .ref q, .int (nI 0)]) :: T)) 1 10 (zA g) := by
  refine zMet (by decide) (Nat.le_of_ble_eq_true rfl) ?_
  intro p e s m below meth c ls C hr hlk hnm hP hD hl
  have hx := C.1.1
  have hb := C.1.2.1
  have hS : va_S (zA g) s.heap s.heap [] := va_S.rf
  have hl : lv_has ls 4 [(0, .ref a), (1, .int (nI 1))] := hl
  refine lv_aload_n hx hb d_AL_grow1_0 rfl (lv_at hl 0 rfl) ?_
  refine z_get C hP List.mem_cons_self q_AL 1 (by decide) k_66 (fun _ h9 => h9) rfl d_AL_grow1_1 ?_
  refine va_tlen (v := nI 0) hx hb C.2.2.2.2.1.2 hS rfl d_AL_grow1_4 ?_
  refine lv_istore_n (lv' := [(2, .int (nI 0)), (0, .ref a), (1, .int (nI 1))]) hx hb d_AL_grow1_5 rfl hl (by decide) rfl (fun ls hl => ?_)
  refine lv_iload_n hx hb d_AL_grow1_6 rfl (lv_at hl 0 rfl) ?_
  refine lv_if_gt (tgt := 20) hx hb d_AL_grow1_7 (by decide) (fun c_7 => ?_) (fun c_7 => ?_)
  · skip
    have c_7 : 0 < 0 := (nI_ltI (a := 0) (b := 0) (by decide) (by decide)).mp c_7
    exact absurd c_7 (by omega)
  · skip
    have c_7 : ¬ 0 < 0 := fun q9 => c_7 ((nI_ltI (a := 0) (b := 0) (by decide) (by decide)).mpr q9)
    refine lv_aload_n hx hb d_AL_grow1_10 rfl (lv_at hl 1 rfl) ?_
    refine z_get C hP List.mem_cons_self q_AL 1 (by decide) k_66 (fun _ h9 => h9) rfl d_AL_grow1_11 ?_
    refine va_gets hx hb C.2.2.2.2.1.1 hS C.1.2.2.2.1 (C.ts k_64 rfl) (fun _ h9 => h9) d_AL_grow1_14 ?_
    refine lv_acmp_eq (rx := some g.2.2.2.1) (ry := some g.2.2.2.1) (tgt := 45) hx hb d_AL_grow1_17 (by decide) (fun c_17 => ?_) (fun c_17 => ?_)
    · skip
      refine lv_aload_n hx hb d_AL_grow1_45 rfl (lv_at hl 1 rfl) ?_
      refine lv_bipush (v := nI 10) hx hb d_AL_grow1_46 (by decide) ?_
      refine lv_iload_n hx hb d_AL_grow1_48 rfl (lv_at hl 2 rfl) ?_
      refine va_mmax hx hb (by rw [C.1.2.2.1]; exact hl.1.symm) C.1.2.2.2.1 (C.ts k_449 rfl) (C.ts k_418 rfl) (C.ts k_17 rfl) (C.ts k_419 rfl) (Nat.le_of_ble_eq_true rfl) (Nat.le_of_ble_eq_true rfl) (by show _ ≤ 1; omega) (by show _ ≤ 10; omega) d_AL_grow1_49 ?_
      refine z_topi (y := nI 10) (by decide) ?_
      refine z_newO C hP hD hS k_450 10 (by omega) (by show _ ≤ 1; omega) (by show _ ≤ 10; omega) d_AL_grow1_52 (fun q52 H hP hD hS => ?_)
      refine lv_dup_x1 hx hb d_AL_grow1_55 rfl rfl ?_
      refine z_put C hP hD hS 1 rfl q_AL 1 (by decide) k_66 (fun _ h9 => h9) rfl rfl rfl (Nat.le_of_ble_eq_true rfl) d_AL_grow1_56 (ws' := (q52, zOb g 10 (fun _ => none)) :: (a, zo 3 [.int x, .ref q52, .int (nI 0)]) :: T) rfl (fun H locs hP hD hS => ?_)
      exact z_aret (v := some q52) C hr (by first | exact Or.inl ⟨_, rfl⟩ | exact Or.inr ⟨_, rfl⟩) hlk hP hD hS (by omega) (by omega) ⟨_, rfl, rfl⟩ d_AL_grow1_59
    · skip
      exact absurd rfl c_17
set_option maxHeartbeats 4000000 in
set_option maxRecDepth 100000 in
theorem c_AL_grow0_0 (l : Launch) (g : zT) (T : va_W) (a : Nat) (x : Int32) : Met l y_AL_grow0 (zw y_AL_grow0 b_AL_grow0 1 (some (.array (.object "java/lang/Object")))) (zR 4 93 1 10) (zP g [.ref a] ((a, zo 3 [.int x, .ref g.2.2.2.1, .int (nI 0)]) :: T)) (zQq g (fun r w => ∃ q, r = some q ∧ w = (q, zOb g 10 (fun _ => none)) :: (a, zo 3 [.int x, .ref q, .int (nI 0)]) :: T)) 1 10 (zA g) := by
  refine zMet (by decide) (Nat.le_of_ble_eq_true rfl) ?_
  intro p e s m below meth c ls C hr hlk hnm hP hD hl
  have hx := C.1.1
  have hb := C.1.2.1
  have hS : va_S (zA g) s.heap s.heap [] := va_S.rf
  have hl : lv_has ls 1 [(0, .ref a)] := hl
  refine lv_aload_n hx hb d_AL_grow0_0 rfl (lv_at hl 0 rfl) ?_
  refine lv_aload_n hx hb d_AL_grow0_1 rfl (lv_at hl 0 rfl) ?_
  refine z_get C hP List.mem_cons_self q_AL 2 (by decide) k_67 (fun _ h9 => h9) rfl d_AL_grow0_2 ?_
  refine lv_iconst (v := nI 1) hx hb d_AL_grow0_5 (by decide) ?_
  refine z_iadd (v := nI 1) C d_AL_grow0_6 (by decide) ?_
  refine z_kq (z_runV (np := 1) C (c_AL_grow1_0 l g T a x) hP hD hS List.mem_cons_self (show classes[3]? = some (R_AL, F_AL, 3) from rfl) k_413 k_6 k_410 k_412 ks_AL_grow1 ⟨by decide, by decide, by decide⟩ ⟨Nat.le_of_ble_eq_true rfl, Nat.le_of_ble_eq_true rfl⟩ rfl hl.1 rfl (Nat.le_of_ble_eq_true rfl) d_AL_grow0_7 ⟨by show _ ≤ 1; omega, by show _ ≤ 10; omega⟩) hS (fun r_7 w H locs hw hP hD hS => ?_)
  obtain ⟨q, rfl, hw⟩ := hw
  rw [hw] at hP hD
  exact z_aret (v := some q) C hr (by first | exact Or.inl ⟨_, rfl⟩ | exact Or.inr ⟨_, rfl⟩) hlk hP hD hS (by omega) (by omega) ⟨_, rfl, rfl⟩ d_AL_grow0_10
set_option maxHeartbeats 4000000 in
set_option maxRecDepth 100000 in
theorem c_AL_grow1 (l : Launch) (g : zT) (T : va_W) (a ed n : Nat) (x : Int32) (f : Nat → Option Nat) (hm : (ed, zOb g n f) ∈ T) (h1 : 0 < n) (h2 : n < 60000000) (he : ∀ j, j < n → ∀ y, f j = some y → zel T y) : Met l y_AL_grow1 (zw y_AL_grow1 b_AL_grow1 4 (some (.array (.object "java/lang/Object")))) (zR 3 70 1 (n + max 1 (n / 2))) (zP g [.ref a, .int (nI (n + 1))] ((a, zo 3 [.int x, .ref ed, .int (nI n)]) :: T)) (zQq g (fun r w => ∃ q f2, r = some q ∧ w = (q, zOb g (n + max 1 (n / 2)) f2) :: (a, zo 3 [.int x, .ref q, .int (nI n)]) :: T ∧ ∀ j, j < n → f2 j = f j)) 1 (n + max 1 (n / 2)) (zA g) := by
  refine zMet (by decide) (Nat.le_of_ble_eq_true rfl) ?_
  intro p e s m below meth c ls C hr hlk hnm hP hD hl
  have hx := C.1.1
  have hb := C.1.2.1
  have hS : va_S (zA g) s.heap s.heap [] := va_S.rf
  have hl : lv_has ls 4 [(0, .ref a), (1, .int (nI (n + 1)))] := hl
  refine lv_aload_n hx hb d_AL_grow1_0 rfl (lv_at hl 0 rfl) ?_
  refine z_get C hP List.mem_cons_self q_AL 1 (by decide) k_66 (fun _ h9 => h9) rfl d_AL_grow1_1 ?_
  refine z_alenO C hP (List.mem_cons_of_mem _ hm) d_AL_grow1_4 ?_
  refine lv_istore_n (lv' := [(2, .int (nI n)), (0, .ref a), (1, .int (nI (n + 1)))]) hx hb d_AL_grow1_5 rfl hl (by decide) rfl (fun ls hl => ?_)
  refine lv_iload_n hx hb d_AL_grow1_6 rfl (lv_at hl 0 rfl) ?_
  refine lv_if_gt (tgt := 20) hx hb d_AL_grow1_7 (by decide) (fun c_7 => ?_) (fun c_7 => ?_)
  · skip
    have c_7 : 0 < n := (nI_ltI (a := 0) (b := n) (by decide) (by omega)).mp c_7
    refine lv_iload_n hx hb d_AL_grow1_20 rfl (lv_at hl 0 rfl) ?_
    refine lv_iload_n hx hb d_AL_grow1_21 rfl (lv_at hl 2 rfl) ?_
    refine lv_iload_n hx hb d_AL_grow1_22 rfl (lv_at hl 0 rfl) ?_
    refine z_isub (v := nI 1) C d_AL_grow1_23 ((pk_sub (by omega)).trans (congrArg nI (by omega))) ?_
    refine lv_iload_n hx hb d_AL_grow1_24 rfl (lv_at hl 0 rfl) ?_
    refine lv_iconst (v := nI 1) hx hb d_AL_grow1_25 (by decide) ?_
    refine z_ishr (v := nI (n / 2)) C d_AL_grow1_26 (pk_shrN (k := 1) (by omega) _ (by decide)) ?_
    refine z_ki (z_runS (np := 3) C (c_ASP_newLength l g ((a, zo 3 [.int x, .ref ed, .int (nI n)]) :: T) n 1 (n / 2) (by omega) (by omega)) hP hD hS k_416 k_20 k_414 k_415 ⟨by decide, by decide, by decide⟩ ⟨Nat.le_of_ble_eq_true rfl, Nat.le_of_ble_eq_true rfl⟩ rfl hl.1 rfl (Nat.le_of_ble_eq_true rfl) d_AL_grow1_27 ⟨by show _ ≤ 1; omega, by show _ ≤ (n + max 1 (n / 2)); omega⟩) hS (fun r_27 w H locs hw hP hD hS => ?_)
    obtain ⟨rfl, hw⟩ := hw
    rw [hw] at hP hD
    refine lv_istore_n (lv' := [(3, .int (nI (n + max 1 (n / 2)))), (2, .int (nI n)), (0, .ref a), (1, .int (nI (n + 1)))]) hx hb d_AL_grow1_30 rfl hl (by decide) rfl (fun ls hl => ?_)
    refine lv_aload_n hx hb d_AL_grow1_31 rfl (lv_at hl 2 rfl) ?_
    refine lv_aload_n hx hb d_AL_grow1_32 rfl (lv_at hl 2 rfl) ?_
    refine z_get C hP List.mem_cons_self q_AL 1 (by decide) k_66 (fun _ h9 => h9) rfl d_AL_grow1_33 ?_
    refine lv_iload_n hx hb d_AL_grow1_36 rfl (lv_at hl 0 rfl) ?_
    refine z_kq (z_runS (np := 2) C (c_ARR_copy2 l g ((a, zo 3 [.int x, .ref ed, .int (nI n)]) :: T) ed n (n + max 1 (n / 2)) f (List.mem_cons_of_mem _ hm) (by omega) (by omega) (fun j hj y hy => (he j hj y hy).mono fun _ q => List.mem_cons_of_mem _ q)) hP hD hS k_426 k_18 k_424 k_425 ⟨by decide, by decide, by decide⟩ ⟨Nat.le_of_ble_eq_true rfl, Nat.le_of_ble_eq_true rfl⟩ rfl hl.1 rfl (Nat.le_of_ble_eq_true rfl) d_AL_grow1_37 ⟨by show _ ≤ 1; omega, by show _ ≤ (n + max 1 (n / 2)); omega⟩) hS (fun r_37 w H locs hw hP hD hS => ?_)
    obtain ⟨q, f2, rfl, hw, hf⟩ := hw
    rw [hw] at hP hD
    refine lv_dup_x1 hx hb d_AL_grow1_40 rfl rfl ?_
    refine z_put C hP hD hS 1 rfl q_AL 1 (by decide) k_66 (fun _ h9 => h9) rfl rfl rfl (Nat.le_of_ble_eq_true rfl) d_AL_grow1_41 (ws' := (q, zOb g (n + max 1 (n / 2)) f2) :: (a, zo 3 [.int x, .ref q, .int (nI n)]) :: T) rfl (fun H locs hP hD hS => ?_)
    exact z_aret (v := some q) C hr (by first | exact Or.inl ⟨_, rfl⟩ | exact Or.inr ⟨_, rfl⟩) hlk hP hD hS (by omega) (by omega) ⟨_, _, rfl, rfl, hf⟩ d_AL_grow1_44
  · skip
    have c_7 : ¬ 0 < n := fun q9 => c_7 ((nI_ltI (a := 0) (b := n) (by decide) (by omega)).mpr q9)
    exact absurd c_7 (by omega)
set_option maxHeartbeats 4000000 in
set_option maxRecDepth 100000 in
theorem c_AL_grow0 (l : Launch) (g : zT) (T : va_W) (a ed n : Nat) (x : Int32) (f : Nat → Option Nat) (hm : (ed, zOb g n f) ∈ T) (h1 : 0 < n) (h2 : n < 60000000) (he : ∀ j, j < n → ∀ y, f j = some y → zel T y) : Met l y_AL_grow0 (zw y_AL_grow0 b_AL_grow0 1 (some (.array (.object "java/lang/Object")))) (zR 4 93 1 (n + max 1 (n / 2))) (zP g [.ref a] ((a, zo 3 [.int x, .ref ed, .int (nI n)]) :: T)) (zQq g (fun r w => ∃ q f2, r = some q ∧ w = (q, zOb g (n + max 1 (n / 2)) f2) :: (a, zo 3 [.int x, .ref q, .int (nI n)]) :: T ∧ ∀ j, j < n → f2 j = f j)) 1 (n + max 1 (n / 2)) (zA g) := by
  refine zMet (by decide) (Nat.le_of_ble_eq_true rfl) ?_
  intro p e s m below meth c ls C hr hlk hnm hP hD hl
  have hx := C.1.1
  have hb := C.1.2.1
  have hS : va_S (zA g) s.heap s.heap [] := va_S.rf
  have hl : lv_has ls 1 [(0, .ref a)] := hl
  refine lv_aload_n hx hb d_AL_grow0_0 rfl (lv_at hl 0 rfl) ?_
  refine lv_aload_n hx hb d_AL_grow0_1 rfl (lv_at hl 0 rfl) ?_
  refine z_get C hP List.mem_cons_self q_AL 2 (by decide) k_67 (fun _ h9 => h9) rfl d_AL_grow0_2 ?_
  refine lv_iconst (v := nI 1) hx hb d_AL_grow0_5 (by decide) ?_
  refine z_iadd (v := nI (n + 1)) C d_AL_grow0_6 (nI_add _ _) ?_
  refine z_kq (z_runV (np := 1) C (c_AL_grow1 l g T a ed n x f hm h1 h2 he) hP hD hS List.mem_cons_self (show classes[3]? = some (R_AL, F_AL, 3) from rfl) k_413 k_6 k_410 k_412 ks_AL_grow1 ⟨by decide, by decide, by decide⟩ ⟨Nat.le_of_ble_eq_true rfl, Nat.le_of_ble_eq_true rfl⟩ rfl hl.1 rfl (Nat.le_of_ble_eq_true rfl) d_AL_grow0_7 ⟨by show _ ≤ 1; omega, by show _ ≤ (n + max 1 (n / 2)); omega⟩) hS (fun r_7 w H locs hw hP hD hS => ?_)
  obtain ⟨q, f2, rfl, hw, hf⟩ := hw
  rw [hw] at hP hD
  exact z_aret (v := some q) C hr (by first | exact Or.inl ⟨_, rfl⟩ | exact Or.inr ⟨_, rfl⟩) hlk hP hD hS (by omega) (by omega) ⟨_, _, rfl, rfl, hf⟩ d_AL_grow0_10
