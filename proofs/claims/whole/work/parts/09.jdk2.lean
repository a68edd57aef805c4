set_option maxHeartbeats 4000000 in
set_option maxRecDepth 100000 in
theorem c_AL_add2_0 (l : Launch) (g : zT) (T : va_W) (a y Bd : Nat) (x : Int32) (h0 : 10 ≤ Bd) (hy : zel T y) : Met l y_AL_add2 (zw y_AL_add2 b_AL_add2 5 (none)) (zR 5 113 1 10) (zP g [.ref a, .int (nI 0), .ref y] ((a, zo 3 [.int x, .ref g.2.2.2.1, .int (nI 0)]) :: T)) (zQv g (fun w => zLs g a (([] : List Nat).insertIdx 0 y) Bd T w)) 1 10 (zA g) := by
  refine zMet (by decide) (Nat.le_of_ble_eq_true rfl) ?_
  intro p e s m below meth c ls C hr hlk hnm hP hD hl
  have hx := C.1.1
  have hb := C.1.2.1
  have hS : va_S (zA g) s.heap s.heap [] := va_S.rf
  have hl : lv_has ls 5 [(0, .ref a), (1, .int (nI 0)), (2, .ref y)] := hl
  refine lv_aload_n hx hb d_AL_add2_0 rfl (lv_at hl 0 rfl) ?_
  refine lv_iload_n hx hb d_AL_add2_1 rfl (lv_at hl 1 rfl) ?_
  refine z_kv (z_runV (np := 1) C (c_AL_rangeCheckForAdd l g ((a, zo 3 [.int x, .ref g.2.2.2.1, .int (nI 0)]) :: T) a g.2.2.2.1 0 0 x List.mem_cons_self (by omega) (by omega)) hP hD hS List.mem_cons_self (show classes[3]? = some (R_AL, F_AL, 3) from rfl) k_405 k_6 k_402 k_404 ks_AL_rangeCheckForAdd ⟨by decide, by decide, by decide⟩ ⟨Nat.le_of_ble_eq_true rfl, Nat.le_of_ble_eq_true rfl⟩ rfl hl.1 rfl (Nat.le_of_ble_eq_true rfl) d_AL_add2_2 ⟨by show _ ≤ 1; omega, by show _ ≤ 10; omega⟩) hS (fun w H locs hw hP hD hS => ?_)
  rw [hw] at hP hD
  refine lv_aload_n hx hb d_AL_add2_5 rfl (lv_at hl 0 rfl) ?_
  refine lv_dup hx hb d_AL_add2_6 rfl ?_
  refine z_get C hP List.mem_cons_self q_AL 0 (by decide) k_69 (u_same (C.ts k_70 rfl)) rfl d_AL_add2_7 ?_
  refine lv_iconst (v := nI 1) hx hb d_AL_add2_10 (by decide) ?_
  refine z_iadd (v := x + (nI 1)) C d_AL_add2_11 rfl ?_
  refine z_put C hP hD hS 0 rfl q_AL 0 (by decide) k_69 (u_same (C.ts k_70 rfl)) rfl rfl rfl (Nat.le_of_ble_eq_true rfl) d_AL_add2_12 (ws' := (a, zo 3 [.int (x + (nI 1)), .ref g.2.2.2.1, .int (nI 0)]) :: T) rfl (fun H locs hP hD hS => ?_)
  refine lv_aload_n hx hb d_AL_add2_15 rfl (lv_at hl 0 rfl) ?_
  refine z_get C hP List.mem_cons_self q_AL 2 (by decide) k_67 (fun _ h9 => h9) rfl d_AL_add2_16 ?_
  refine lv_dup hx hb d_AL_add2_19 rfl ?_
  refine lv_istore_n (lv' := [(3, .int (nI 0)), (0, .ref a), (1, .int (nI 0)), (2, .ref y)]) hx hb d_AL_add2_20 rfl hl (by decide) rfl (fun ls hl => ?_)
  refine lv_aload_n hx hb d_AL_add2_21 rfl (lv_at hl 1 rfl) ?_
  refine z_get C hP List.mem_cons_self q_AL 1 (by decide) k_66 (fun _ h9 => h9) rfl d_AL_add2_22 ?_
  refine lv_dup hx hb d_AL_add2_25 rfl ?_
  refine lv_astore (lv' := [(4, .ref g.2.2.2.1), (3, .int (nI 0)), (0, .ref a), (1, .int (nI 0)), (2, .ref y)]) hx hb d_AL_add2_26 hl (by decide) rfl (fun ls hl => ?_)
  refine va_tlen (v := nI 0) hx hb C.2.2.2.2.1.2 hS rfl d_AL_add2_28 ?_
  refine lv_icmp_ne (tgt := 38) hx hb d_AL_add2_29 (by decide) (fun c_29 => ?_) (fun c_29 => ?_)
  · skip
    have c_29 : ¬ 0 = 0 := fun q9 => c_29 ((nI_eq (a := 0) (b := 0) (by decide) (by decide)).mpr q9)
    exact absurd c_29 (by omega)
  · skip
    have c_29 : 0 = 0 := (nI_eq (a := 0) (b := 0) (by decide) (by decide)).mp c_29
    refine lv_aload_n hx hb d_AL_add2_32 rfl (lv_at hl 2 rfl) ?_
    refine z_kq (z_runV (np := 0) C (c_AL_grow0_0 l g T a (x + 1)) hP hD hS List.mem_cons_self (show classes[3]? = some (R_AL, F_AL, 3) from rfl) k_409 k_6 k_406 k_408 ks_AL_grow0 ⟨by decide, by decide, by decide⟩ ⟨Nat.le_of_ble_eq_true rfl, Nat.le_of_ble_eq_true rfl⟩ rfl hl.1 rfl (Nat.le_of_ble_eq_true rfl) d_AL_add2_33 ⟨by show _ ≤ 1; omega, by show _ ≤ 10; omega⟩) hS (fun r_33 w H locs hw hP hD hS => ?_)
    obtain ⟨q, rfl, hw⟩ := hw
    rw [hw] at hP hD
    refine lv_astore (lv' := [(4, .ref q), (3, .int (nI 0)), (0, .ref a), (1, .int (nI 0)), (2, .ref y)]) hx hb d_AL_add2_36 hl (by decide) rfl (fun ls hl => ?_)
    refine lv_aload hx hb d_AL_add2_38 (lv_at hl 0 rfl) ?_
    refine lv_iload_n hx hb d_AL_add2_40 rfl (lv_at hl 3 rfl) ?_
    refine lv_aload hx hb d_AL_add2_41 (lv_at hl 0 rfl) ?_
    refine lv_iload_n hx hb d_AL_add2_43 rfl (lv_at hl 3 rfl) ?_
    refine lv_iconst (v := nI 1) hx hb d_AL_add2_44 (by decide) ?_
    refine z_iadd (v := nI 1) C d_AL_add2_45 (by decide) ?_
    refine lv_iload_n hx hb d_AL_add2_46 rfl (lv_at hl 1 rfl) ?_
    refine lv_iload_n hx hb d_AL_add2_47 rfl (lv_at hl 3 rfl) ?_
    refine z_isub (v := nI 0) C d_AL_add2_48 (by decide) ?_
    refine z_copyO C hP hD hS hl.1 List.mem_cons_self 0 rfl 0 1 0 (by omega) (by omega) (by omega) (by omega) (fun i hi => absurd hi (Nat.not_lt_zero _)) k_451 (Nat.le_of_ble_eq_true rfl) (Nat.le_of_ble_eq_true rfl) d_AL_add2_49 (ws' := (q, zOb g 10 (va_cpy (fun _ => none) (fun _ => none) 0 1 0)) :: (a, zo 3 [.int (x + 1), .ref q, .int (nI 0)]) :: T) rfl (fun H locs hP hD hS => ?_)
    refine lv_aload hx hb d_AL_add2_52 (lv_at hl 0 rfl) ?_
    refine lv_iload_n hx hb d_AL_add2_54 rfl (lv_at hl 3 rfl) ?_
    refine lv_aload_n hx hb d_AL_add2_55 rfl (lv_at hl 4 rfl) ?_
    refine z_aast C hP hD hS 0 rfl 0 (by omega) (by omega) (hy.mono fun _ z => List.mem_cons_of_mem _ (List.mem_cons_of_mem _ z)) d_AL_add2_56 (ws' := (q, zOb g 10 (va_up (va_cpy (fun _ => none) (fun _ => none) 0 1 0) 0 (some y))) :: (a, zo 3 [.int (x + 1), .ref q, .int (nI 0)]) :: T) rfl (fun H locs hP hD hS => ?_)
    refine lv_aload_n hx hb d_AL_add2_57 rfl (lv_at hl 2 rfl) ?_
    refine lv_iload_n hx hb d_AL_add2_58 rfl (lv_at hl 1 rfl) ?_
    refine lv_iconst (v := nI 1) hx hb d_AL_add2_59 (by decide) ?_
    refine z_iadd (v := nI 1) C d_AL_add2_60 (by decide) ?_
    refine z_put C hP hD hS 1 rfl q_AL 2 (by decide) k_67 (fun _ h9 => h9) rfl rfl rfl (Nat.le_of_ble_eq_true rfl) d_AL_add2_61 (ws' := (q, zOb g 10 (va_up (va_cpy (fun _ => none) (fun _ => none) 0 1 0) 0 (some y))) :: (a, zo 3 [.int (x + 1), .ref q, .int (nI 1)]) :: T) rfl (fun H locs hP hD hS => ?_)
    exact z_vret C hr hlk (z_Pq (z_bk (bs := [[(q, zOb g 10 (va_up (va_cpy (fun _ => none) (fun _ => none) 0 1 0) 0 (some y)))], [(a, zo 3 [.int (x + 1), .ref q, .int (nI 1)])], T]) (bs' := [[(a, zo 3 [.int (x + 1), .ref q, .int (nI 1)])], [(q, zOb g 10 (va_up (va_cpy (fun _ => none) (fun _ => none) 0 1 0) 0 (some y)))], T]) [1, 0, 2] rfl (by decide) rfl) hP) (z_Dq (z_bk (bs := [[(q, zOb g 10 (va_up (va_cpy (fun _ => none) (fun _ => none) 0 1 0) 0 (some y)))], [(a, zo 3 [.int (x + 1), .ref q, .int (nI 1)])], T]) (bs' := [[(a, zo 3 [.int (x + 1), .ref q, .int (nI 1)])], [(q, zOb g 10 (va_up (va_cpy (fun _ => none) (fun _ => none) 0 1 0) 0 (some y)))], T]) [1, 0, 2] rfl (by decide) rfl) hD) hS (by omega) (by omega) ⟨_, _, 10, _, rfl, zL_ins (zL_0 (fun _ => none)) (Nat.le_refl _) (fun j hj => absurd hj (Nat.not_lt_zero _)) (va_up_self _ _ _) (fun j h1 h2 => absurd h2 (Nat.not_lt.mpr h1)), Nat.le_of_ble_eq_true rfl, h0, fun h => absurd h (by decide)⟩ d_AL_add2_64
set_option maxHeartbeats 4000000 in
set_option maxRecDepth 100000 in
theorem c_AL_add2_1 (l : Launch) (g : zT) (T : va_W) (a ed cap y i Bd : Nat) (xs : List Nat) (x : Int32) (f : Nat → Option Nat) (hL : zL f xs) (h1 : xs.length ≤ cap) (h2 : 0 < cap) (h3 : cap ≤ Bd) (h4 : Bd < 60000) (h5 : xs.length + xs.length / 2 + 10 ≤ Bd) (hi : i ≤ xs.length) (hy : zel T y) (he : ∀ z ∈ xs, zel T z) : Met l y_AL_add2 (zw y_AL_add2 b_AL_add2 5 (none)) (zR 5 113 1 (xs.length + xs.length / 2 + 10)) (zP g [.ref a, .int (nI i), .ref y] ((a, zo 3 [.int x, .ref ed, .int (nI xs.length)]) :: (ed, zOb g cap f) :: T)) (zQv g (fun w => zLs g a (xs.insertIdx i y) Bd T w)) 1 (xs.length + xs.length / 2 + 10) (zA g) := by
  refine zMet (by decide) (Nat.le_of_ble_eq_true rfl) ?_
  intro p e s m below meth c ls C hr hlk hnm hP hD hl
  have hx := C.1.1
  have hb := C.1.2.1
  have hS : va_S (zA g) s.heap s.heap [] := va_S.rf
  have hl : lv_has ls 5 [(0, .ref a), (1, .int (nI i)), (2, .ref y)] := hl
  have L_38 : ∀ (q cap2 : Nat) (f2 : Nat → Option Nat) (_ : xs.length < cap2) (_ : cap2 ≤ Bd) (_ : zL f2 xs) (H : Heap) (locs : List Loc), va_P g.1 classes ((a, zo 3 [.int (x + 1), .ref q, .int (nI xs.length)]) :: (q, zOb g cap2 f2) :: T) H → va_D (zA g) ((a, zo 3 [.int (x + 1), .ref q, .int (nI xs.length)]) :: (q, zOb g cap2 f2) :: T) → va_S (zA g) s.heap H locs → ∀ ls : Array Slot, lv_has ls 5 [(0, .ref a), (1, .int (nI i)), (2, .ref y), (3, .int (nI xs.length)), (4, .ref q)] → W p l e (zR 5 113 1 (xs.length + xs.length / 2 + 10)) s m [.ref a, .int (nI i), .ref y].toArray below meth c H locs 1 (xs.length + xs.length / 2 + 10) (MQ below (zQv g (fun w => zLs g a (xs.insertIdx i y) Bd T w)) [.ref a, .int (nI i), .ref y].toArray s 1 (xs.length + xs.length / 2 + 10) (zA g)) (F0 m 38 ls []) := by
    intro q cap2 f2 g1 g2 g3 H locs hP hD hS ls hl
    refine lv_aload hx hb d_AL_add2_38 (lv_at hl 4 rfl) ?_
    refine lv_iload_n hx hb d_AL_add2_40 rfl (lv_at hl 1 rfl) ?_
    refine lv_aload hx hb d_AL_add2_41 (lv_at hl 4 rfl) ?_
    refine lv_iload_n hx hb d_AL_add2_43 rfl (lv_at hl 1 rfl) ?_
    refine lv_iconst (v := nI 1) hx hb d_AL_add2_44 (by decide) ?_
    refine z_iadd (v := nI (i + 1)) C d_AL_add2_45 (nI_add _ _) ?_
    refine lv_iload_n hx hb d_AL_add2_46 rfl (lv_at hl 3 rfl) ?_
    refine lv_iload_n hx hb d_AL_add2_47 rfl (lv_at hl 1 rfl) ?_
    refine z_isub (v := nI (xs.length - i)) C d_AL_add2_48 (pk_sub (by omega)) ?_
    refine z_copyO C hP hD hS hl.1 (List.mem_cons_of_mem _ List.mem_cons_self) 1 rfl i (i + 1) (xs.length - i) (by omega) (by omega) (by omega) (by omega) (fun j hj z hz => (he z (zL_mem g3 (by omega) hz)).mono fun _ q => List.mem_cons_of_mem _ (List.mem_cons_of_mem _ q)) k_451 (Nat.le_of_ble_eq_true rfl) (Nat.le_of_ble_eq_true rfl) d_AL_add2_49 (ws' := (a, zo 3 [.int (x + 1), .ref q, .int (nI xs.length)]) :: (q, zOb g cap2 (va_cpy f2 f2 i (i + 1) (xs.length - i))) :: T) rfl (fun H locs hP hD hS => ?_)
    refine lv_aload hx hb d_AL_add2_52 (lv_at hl 4 rfl) ?_
    refine lv_iload_n hx hb d_AL_add2_54 rfl (lv_at hl 1 rfl) ?_
    refine lv_aload_n hx hb d_AL_add2_55 rfl (lv_at hl 2 rfl) ?_
    refine z_aast C hP hD hS 1 rfl i (by omega) (by omega) (hy.mono fun _ z => List.mem_cons_of_mem _ (List.mem_cons_of_mem _ z)) d_AL_add2_56 (ws' := (a, zo 3 [.int (x + 1), .ref q, .int (nI xs.length)]) :: (q, zOb g cap2 (va_up (va_cpy f2 f2 i (i + 1) (xs.length - i)) i (some y))) :: T) rfl (fun H locs hP hD hS => ?_)
    refine lv_aload_n hx hb d_AL_add2_57 rfl (lv_at hl 0 rfl) ?_
    refine lv_iload_n hx hb d_AL_add2_58 rfl (lv_at hl 3 rfl) ?_
    refine lv_iconst (v := nI 1) hx hb d_AL_add2_59 (by decide) ?_
    refine z_iadd (v := nI (xs.length + 1)) C d_AL_add2_60 (nI_add _ _) ?_
    refine z_put C hP hD hS 0 rfl q_AL 2 (by decide) k_67 (fun _ h9 => h9) rfl rfl rfl (Nat.le_of_ble_eq_true rfl) d_AL_add2_61 (ws' := (a, zo 3 [.int (x + 1), .ref q, .int (nI (xs.length + 1))]) :: (q, zOb g cap2 (va_up (va_cpy f2 f2 i (i + 1) (xs.length - i)) i (some y))) :: T) rfl (fun H locs hP hD hS => ?_)
    have hlen : (xs.insertIdx i y).length = xs.length + 1 := List.length_insertIdx_of_le_length hi y
    exact z_vret C hr hlk hP hD hS (by omega) (by omega) ⟨x + 1, q, cap2, _, by rw [hlen, wA_s (by omega)]; rfl, zL_ins g3 hi (fun j hj => by rw [va_up_ne _ _ (by omega), pk_cpy_out (Or.inl (by omega))]) (va_up_self _ _ _) (fun j q1 q2 => by rw [va_up_ne _ _ (by omega), pk_cpy_in (by omega) (by omega)]; congr 1; omega), by rw [hlen]; omega, g2, fun h => by omega⟩ d_AL_add2_64
  refine lv_aload_n hx hb d_AL_add2_0 rfl (lv_at hl 0 rfl) ?_
  refine lv_iload_n hx hb d_AL_add2_1 rfl (lv_at hl 1 rfl) ?_
  refine z_kv (z_runV (np := 1) C (c_AL_rangeCheckForAdd l g ((a, zo 3 [.int x, .ref ed, .int (nI xs.length)]) :: (ed, zOb g cap f) :: T) a ed xs.length i x List.mem_cons_self (by omega) (by omega)) hP hD hS List.mem_cons_self (show classes[3]? = some (R_AL, F_AL, 3) from rfl) k_405 k_6 k_402 k_404 ks_AL_rangeCheckForAdd ⟨by decide, by decide, by decide⟩ ⟨Nat.le_of_ble_eq_true rfl, Nat.le_of_ble_eq_true rfl⟩ rfl hl.1 rfl (Nat.le_of_ble_eq_true rfl) d_AL_add2_2 ⟨by show _ ≤ 1; omega, by show _ ≤ (xs.length + xs.length / 2 + 10); omega⟩) hS (fun w H locs hw hP hD hS => ?_)
  rw [hw] at hP hD
  refine lv_aload_n hx hb d_AL_add2_5 rfl (lv_at hl 0 rfl) ?_
  refine lv_dup hx hb d_AL_add2_6 rfl ?_
  refine z_get C hP List.mem_cons_self q_AL 0 (by decide) k_69 (u_same (C.ts k_70 rfl)) rfl d_AL_add2_7 ?_
  refine lv_iconst (v := nI 1) hx hb d_AL_add2_10 (by decide) ?_
  refine z_iadd (v := x + 1) C d_AL_add2_11 rfl ?_
  refine z_put C hP hD hS 0 rfl q_AL 0 (by decide) k_69 (u_same (C.ts k_70 rfl)) rfl rfl rfl (Nat.le_of_ble_eq_true rfl) d_AL_add2_12 (ws' := (a, zo 3 [.int (x + 1), .ref ed, .int (nI xs.length)]) :: (ed, zOb g cap f) :: T) rfl (fun H locs hP hD hS => ?_)
  refine lv_aload_n hx hb d_AL_add2_15 rfl (lv_at hl 0 rfl) ?_
  refine z_get C hP List.mem_cons_self q_AL 2 (by decide) k_67 (fun _ h9 => h9) rfl d_AL_add2_16 ?_
  refine lv_dup hx hb d_AL_add2_19 rfl ?_
  refine lv_istore_n (lv' := [(3, .int (nI xs.length)), (0, .ref a), (1, .int (nI i)), (2, .ref y)]) hx hb d_AL_add2_20 rfl hl (by decide) rfl (fun ls hl => ?_)
  refine lv_aload_n hx hb d_AL_add2_21 rfl (lv_at hl 1 rfl) ?_
  refine z_get C hP List.mem_cons_self q_AL 1 (by decide) k_66 (fun _ h9 => h9) rfl d_AL_add2_22 ?_
  refine lv_dup hx hb d_AL_add2_25 rfl ?_
  refine lv_astore (lv' := [(4, .ref ed), (3, .int (nI xs.length)), (0, .ref a), (1, .int (nI i)), (2, .ref y)]) hx hb d_AL_add2_26 hl (by decide) rfl (fun ls hl => ?_)
  refine z_alenO C hP (List.mem_cons_of_mem _ List.mem_cons_self) d_AL_add2_28 ?_
  refine lv_icmp_ne (tgt := 38) hx hb d_AL_add2_29 (by decide) (fun c_29 => ?_) (fun c_29 => ?_)
  · skip
    have c_29 : ¬ xs.length = cap := fun q9 => c_29 ((nI_eq (a := xs.length) (b := cap) (by omega) (by omega)).mpr q9)
    refine W.widen (k := 1) (n := xs.length + xs.length / 2 + 10) (by omega) (by omega) ?_
    exact L_38 ed cap f (by omega) (by omega) hL _ _ hP hD hS ls (lv_sub hl [2, 3, 4, 1, 0] rfl)
  · skip
    have c_29 : xs.length = cap := (nI_eq (a := xs.length) (b := cap) (by omega) (by omega)).mp c_29
    refine lv_aload_n hx hb d_AL_add2_32 rfl (lv_at hl 2 rfl) ?_
    refine z_kq (z_runV (np := 0) C (c_AL_grow0 l g ((ed, zOb g cap f) :: T) a ed xs.length (x + 1) f (by rw [c_29]; exact List.mem_cons_self) (by omega) (by omega) (fun j hj z hz => (he z (zL_mem hL (by omega) hz)).mono fun _ q => List.mem_cons_of_mem _ q)) hP hD hS List.mem_cons_self (show classes[3]? = some (R_AL, F_AL, 3) from rfl) k_409 k_6 k_406 k_408 ks_AL_grow0 ⟨by decide, by decide, by decide⟩ ⟨Nat.le_of_ble_eq_true rfl, Nat.le_of_ble_eq_true rfl⟩ rfl hl.1 rfl (Nat.le_of_ble_eq_true rfl) d_AL_add2_33 ⟨by show _ ≤ 1; omega, by show _ ≤ (xs.length + xs.length / 2 + 10); omega⟩) hS (fun r_33 w H locs hw hP hD hS => ?_)
    obtain ⟨q, f2, rfl, hw, hf⟩ := hw
    rw [hw] at hP hD
    refine lv_astore (lv' := [(4, .ref q), (3, .int (nI xs.length)), (0, .ref a), (1, .int (nI i)), (2, .ref y)]) hx hb d_AL_add2_36 hl (by decide) rfl (fun ls hl => ?_)
    refine W.widen (k := 1) (n := xs.length + xs.length / 2 + 10) (by omega) (by omega) ?_
    have hP : va_P g.1 classes ((a, zo 3 [.int (x + 1), .ref q, .int (nI xs.length)]) :: (q, zOb g (xs.length + max 1 (xs.length / 2)) f2) :: T) H := z_Ps hP (fun z hz => by simp only [List.mem_cons] at hz ⊢; rcases hz with h | h | h <;> simp [h])
    have hD : va_D (zA g) ((a, zo 3 [.int (x + 1), .ref q, .int (nI xs.length)]) :: (q, zOb g (xs.length + max 1 (xs.length / 2)) f2) :: T) := z_Dq (List.Perm.swap _ _ _) (z_Dsub hD (List.Sublist.cons₂ _ (List.Sublist.cons₂ _ (List.sublist_cons_self _ _))))
    exact L_38 q (xs.length + max 1 (xs.length / 2)) f2 (by omega) (by omega) (zL_eq hL hf) _ _ hP hD hS ls (lv_sub hl [2, 3, 4, 1, 0] rfl)
set_option maxHeartbeats 4000000 in
set_option maxRecDepth 100000 in
theorem c_AL_add3_0 (l : Launch) (g : zT) (T : va_W) (a y Bd : Nat) (x : Int32) (h0 : 10 ≤ Bd) (hy : zel T y) : Met l y_AL_add3 (zw y_AL_add3 b_AL_add3 4 (none)) (zR 5 113 1 10) (zP g [.ref a, .ref y, .ref g.2.2.2.1, .int (nI 0)] ((a, zo 3 [.int x, .ref g.2.2.2.1, .int (nI 0)]) :: T)) (zQv g (fun w => zLs g a (([] : List Nat) ++ [y]) Bd T w)) 1 10 (zA g) := by
  refine zMet (by decide) (Nat.le_of_ble_eq_true rfl) ?_
  intro p e s m below meth c ls C hr hlk hnm hP hD hl
  have hx := C.1.1
  have hb := C.1.2.1
  have hS : va_S (zA g) s.heap s.heap [] := va_S.rf
  have hl : lv_has ls 4 [(0, .ref a), (1, .ref y), (2, .ref g.2.2.2.1), (3, .int (nI 0))] := hl
  refine lv_iload_n hx hb d_AL_add3_0 rfl (lv_at hl 3 rfl) ?_
  refine lv_aload_n hx hb d_AL_add3_1 rfl (lv_at hl 2 rfl) ?_
  refine va_tlen (v := nI 0) hx hb C.2.2.2.2.1.2 hS rfl d_AL_add3_2 ?_
  refine lv_icmp_ne (tgt := 11) hx hb d_AL_add3_3 (by decide) (fun c_3 => ?_) (fun c_3 => ?_)
  · skip
    have c_3 : ¬ 0 = 0 := fun q9 => c_3 ((nI_eq (a := 0) (b := 0) (by decide) (by decide)).mpr q9)
    exact absurd c_3 (by omega)
  · skip
    have c_3 : 0 = 0 := (nI_eq (a := 0) (b := 0) (by decide) (by decide)).mp c_3
    refine lv_aload_n hx hb d_AL_add3_6 rfl (lv_at hl 0 rfl) ?_
    refine z_kq (z_runV (np := 0) C (c_AL_grow0_0 l g T a x) hP hD hS List.mem_cons_self (show classes[3]? = some (R_AL, F_AL, 3) from rfl) k_409 k_6 k_406 k_408 ks_AL_grow0 ⟨by decide, by decide, by decide⟩ ⟨Nat.le_of_ble_eq_true rfl, Nat.le_of_ble_eq_true rfl⟩ rfl hl.1 rfl (Nat.le_of_ble_eq_true rfl) d_AL_add3_7 ⟨by show _ ≤ 1; omega, by show _ ≤ 10; omega⟩) hS (fun r_7 w H locs hw hP hD hS => ?_)
    obtain ⟨q, rfl, hw⟩ := hw
    rw [hw] at hP hD
    refine lv_astore_n (lv' := [(2, .ref q), (0, .ref a), (1, .ref y), (3, .int (nI 0))]) hx hb d_AL_add3_10 rfl hl (by decide) rfl (fun ls hl => ?_)
    refine lv_aload_n hx hb d_AL_add3_11 rfl (lv_at hl 0 rfl) ?_
    refine lv_iload_n hx hb d_AL_add3_12 rfl (lv_at hl 3 rfl) ?_
    refine lv_aload_n hx hb d_AL_add3_13 rfl (lv_at hl 2 rfl) ?_
    refine z_aast C hP hD hS 0 rfl 0 (by omega) (by omega) (hy.mono fun _ z => List.mem_cons_of_mem _ (List.mem_cons_of_mem _ z)) d_AL_add3_14 (ws' := (q, zOb g 10 (va_up (fun _ => none) 0 (some y))) :: (a, zo 3 [.int x, .ref q, .int (nI 0)]) :: T) rfl (fun H locs hP hD hS => ?_)
    refine lv_aload_n hx hb d_AL_add3_15 rfl (lv_at hl 1 rfl) ?_
    refine lv_iload_n hx hb d_AL_add3_16 rfl (lv_at hl 3 rfl) ?_
    refine lv_iconst (v := nI 1) hx hb d_AL_add3_17 (by decide) ?_
    refine z_iadd (v := nI 1) C d_AL_add3_18 (by decide) ?_
    refine z_put C hP hD hS 1 rfl q_AL 2 (by decide) k_67 (fun _ h9 => h9) rfl rfl rfl (Nat.le_of_ble_eq_true rfl) d_AL_add3_19 (ws' := (q, zOb g 10 (va_up (fun _ => none) 0 (some y))) :: (a, zo 3 [.int x, .ref q, .int (nI 1)]) :: T) rfl (fun H locs hP hD hS => ?_)
    exact z_vret C hr hlk (z_Pq (z_bk (bs := [[(q, zOb g 10 (va_up (fun _ => none) 0 (some y)))], [(a, zo 3 [.int x, .ref q, .int (nI 1)])], T]) (bs' := [[(a, zo 3 [.int x, .ref q, .int (nI 1)])], [(q, zOb g 10 (va_up (fun _ => none) 0 (some y)))], T]) [1, 0, 2] rfl (by decide) rfl) hP) (z_Dq (z_bk (bs := [[(q, zOb g 10 (va_up (fun _ => none) 0 (some y)))], [(a, zo 3 [.int x, .ref q, .int (nI 1)])], T]) (bs' := [[(a, zo 3 [.int x, .ref q, .int (nI 1)])], [(q, zOb g 10 (va_up (fun _ => none) 0 (some y)))], T]) [1, 0, 2] rfl (by decide) rfl) hD) hS (by omega) (by omega) ⟨_, _, 10, _, rfl, zL_app (zL_0 (fun _ => none)), Nat.le_of_ble_eq_true rfl, h0, fun h => absurd h (by decide)⟩ d_AL_add3_22
set_option maxHeartbeats 4000000 in
set_option maxRecDepth 100000 in
theorem c_AL_add3_1 (l : Launch) (g : zT) (T : va_W) (a ed cap y Bd : Nat) (xs : List Nat) (x : Int32) (f : Nat → Option Nat) (hL : zL f xs) (h1 : xs.length ≤ cap) (h2 : 0 < cap) (h3 : cap ≤ Bd) (h4 : Bd < 60000) (h5 : xs.length + xs.length / 2 + 10 ≤ Bd) (hy : zel T y) (he : ∀ z ∈ xs, zel T z) : Met l y_AL_add3 (zw y_AL_add3 b_AL_add3 4 (none)) (zR 5 113 1 (xs.length + xs.length / 2 + 10)) (zP g [.ref a, .ref y, .ref ed, .int (nI xs.length)] ((a, zo 3 [.int x, .ref ed, .int (nI xs.length)]) :: (ed, zOb g cap f) :: T)) (zQv g (fun w => zLs g a (xs ++ [y]) Bd T w)) 1 (xs.length + xs.length / 2 + 10) (zA g) := by
  refine zMet (by decide) (Nat.le_of_ble_eq_true rfl) ?_
  intro p e s m below meth c ls C hr hlk hnm hP hD hl
  have hx := C.1.1
  have hb := C.1.2.1
  have hS : va_S (zA g) s.heap s.heap [] := va_S.rf
  have hl : lv_has ls 4 [(0, .ref a), (1, .ref y), (2, .ref ed), (3, .int (nI xs.length))] := hl
  have L_11 : ∀ (q cap2 : Nat) (f2 : Nat → Option Nat) (_ : xs.length < cap2) (_ : cap2 ≤ Bd) (_ : zL f2 xs) (H : Heap) (locs : List Loc), va_P g.1 classes ((a, zo 3 [.int x, .ref q, .int (nI xs.length)]) :: (q, zOb g cap2 f2) :: T) H → va_D (zA g) ((a, zo 3 [.int x, .ref q, .int (nI xs.length)]) :: (q, zOb g cap2 f2) :: T) → va_S (zA g) s.heap H locs → ∀ ls : Array Slot, lv_has ls 4 [(0, .ref a), (1, .ref y), (3, .int (nI xs.length)), (2, .ref q)] → W p l e (zR 5 113 1 (xs.length + xs.length / 2 + 10)) s m [.ref a, .ref y, .ref ed, .int (nI xs.length)].toArray below meth c H locs 1 (xs.length + xs.length / 2 + 10) (MQ below (zQv g (fun w => zLs g a (xs ++ [y]) Bd T w)) [.ref a, .ref y, .ref ed, .int (nI xs.length)].toArray s 1 (xs.length + xs.length / 2 + 10) (zA g)) (F0 m 11 ls []) := by
    intro q cap2 f2 g1 g2 g3 H locs hP hD hS ls hl
    refine lv_aload_n hx hb d_AL_add3_11 rfl (lv_at hl 3 rfl) ?_
    refine lv_iload_n hx hb d_AL_add3_12 rfl (lv_at hl 2 rfl) ?_
    refine lv_aload_n hx hb d_AL_add3_13 rfl (lv_at hl 1 rfl) ?_
    refine z_aast C hP hD hS 1 rfl xs.length (by omega) (by omega) (hy.mono fun _ z => List.mem_cons_of_mem _ (List.mem_cons_of_mem _ z)) d_AL_add3_14 (ws' := (a, zo 3 [.int x, .ref q, .int (nI xs.length)]) :: (q, zOb g cap2 (va_up f2 xs.length (some y))) :: T) rfl (fun H locs hP hD hS => ?_)
    refine lv_aload_n hx hb d_AL_add3_15 rfl (lv_at hl 0 rfl) ?_
    refine lv_iload_n hx hb d_AL_add3_16 rfl (lv_at hl 2 rfl) ?_
    refine lv_iconst (v := nI 1) hx hb d_AL_add3_17 (by decide) ?_
    refine z_iadd (v := nI (xs.length + 1)) C d_AL_add3_18 (nI_add _ _) ?_
    refine z_put C hP hD hS 0 rfl q_AL 2 (by decide) k_67 (fun _ h9 => h9) rfl rfl rfl (Nat.le_of_ble_eq_true rfl) d_AL_add3_19 (ws' := (a, zo 3 [.int x, .ref q, .int (nI (xs.length + 1))]) :: (q, zOb g cap2 (va_up f2 xs.length (some y))) :: T) rfl (fun H locs hP hD hS => ?_)
    have hlen : (xs ++ [y]).length = xs.length + 1 := by simp
    exact z_vret C hr hlk hP hD hS (by omega) (by omega) ⟨x, q, cap2, _, by rw [hlen, wA_s (by omega)]; rfl, zL_app g3, by rw [hlen]; omega, g2, fun h => by omega⟩ d_AL_add3_22
  refine lv_iload_n hx hb d_AL_add3_0 rfl (lv_at hl 3 rfl) ?_
  refine lv_aload_n hx hb d_AL_add3_1 rfl (lv_at hl 2 rfl) ?_
  refine z_alenO C hP (List.mem_cons_of_mem _ List.mem_cons_self) d_AL_add3_2 ?_
  refine lv_icmp_ne (tgt := 11) hx hb d_AL_add3_3 (by decide) (fun c_3 => ?_) (fun c_3 => ?_)
  · skip
    have c_3 : ¬ xs.length = cap := fun q9 => c_3 ((nI_eq (a := xs.length) (b := cap) (by omega) (by omega)).mpr q9)
    refine W.widen (k := 1) (n := xs.length + xs.length / 2 + 10) (by omega) (by omega) ?_
    exact L_11 ed cap f (by omega) (by omega) hL _ _ hP hD hS ls (lv_sub hl [0, 1, 3, 2] rfl)
  · skip
    have c_3 : xs.length = cap := (nI_eq (a := xs.length) (b := cap) (by omega) (by omega)).mp c_3
    refine lv_aload_n hx hb d_AL_add3_6 rfl (lv_at hl 0 rfl) ?_
    refine z_kq (z_runV (np := 0) C (c_AL_grow0 l g ((ed, zOb g cap f) :: T) a ed xs.length x f (by rw [c_3]; exact List.mem_cons_self) (by omega) (by omega) (fun j hj z hz => (he z (zL_mem hL (by omega) hz)).mono fun _ q => List.mem_cons_of_mem _ q)) hP hD hS List.mem_cons_self (show classes[3]? = some (R_AL, F_AL, 3) from rfl) k_409 k_6 k_406 k_408 ks_AL_grow0 ⟨by decide, by decide, by decide⟩ ⟨Nat.le_of_ble_eq_true rfl, Nat.le_of_ble_eq_true rfl⟩ rfl hl.1 rfl (Nat.le_of_ble_eq_true rfl) d_AL_add3_7 ⟨by show _ ≤ 1; omega, by show _ ≤ (xs.length + xs.length / 2 + 10); omega⟩) hS (fun r_7 w H locs hw hP hD hS => ?_)
    obtain ⟨q, f2, rfl, hw, hf⟩ := hw
    rw [hw] at hP hD
    refine lv_astore_n (lv' := [(2, .ref q), (0, .ref a), (1, .ref y), (3, .int (nI xs.length))]) hx hb d_AL_add3_10 rfl hl (by decide) rfl (fun ls hl => ?_)
    refine W.widen (k := 1) (n := xs.length + xs.length / 2 + 10) (by omega) (by omega) ?_
    have hP : va_P g.1 classes ((a, zo 3 [.int x, .ref q, .int (nI xs.length)]) :: (q, zOb g (xs.length + max 1 (xs.length / 2)) f2) :: T) H := z_Ps hP (fun z hz => by simp only [List.mem_cons] at hz ⊢; rcases hz with h | h | h <;> simp [h])
    have hD : va_D (zA g) ((a, zo 3 [.int x, .ref q, .int (nI xs.length)]) :: (q, zOb g (xs.length + max 1 (xs.length / 2)) f2) :: T) := z_Dq (List.Perm.swap _ _ _) (z_Dsub hD (List.Sublist.cons₂ _ (List.Sublist.cons₂ _ (List.sublist_cons_self _ _))))
    exact L_11 q (xs.length + max 1 (xs.length / 2)) f2 (by omega) (by omega) (zL_eq hL hf) _ _ hP hD hS ls (lv_sub hl [1, 2, 3, 0] rfl)
set_option maxHeartbeats 4000000 in
set_option maxRecDepth 100000 in
theorem c_AL_add1_0 (l : Launch) (g : zT) (T : va_W) (a y Bd : Nat) (x : Int32) (h0 : 10 ≤ Bd) (hy : zel T y) : Met l y_AL_add1 (zw y_AL_add1 b_AL_add1 2 (some .boolean)) (zR 6 136 1 10) (zP g [.ref a, .ref y] ((a, zo 3 [.int x, .ref g.2.2.2.1, .int (nI 0)]) :: T)) (zQi g (fun r w => zLs g a (([] : List Nat) ++ [y]) Bd T w)) 1 10 (zA g) := by
  refine zMet (by decide) (Nat.le_of_ble_eq_true rfl) ?_
  intro p e s m below meth c ls C hr hlk hnm hP hD hl
  have hx := C.1.1
  have hb := C.1.2.1
  have hS : va_S (zA g) s.heap s.heap [] := va_S.rf
  have hl : lv_has ls 2 [(0, .ref a), (1, .ref y)] := hl
  refine lv_aload_n hx hb d_AL_add1_0 rfl (lv_at hl 0 rfl) ?_
  refine lv_dup hx hb d_AL_add1_1 rfl ?_
  refine z_get C hP List.mem_cons_self q_AL 0 (by decide) k_69 (u_same (C.ts k_70 rfl)) rfl d_AL_add1_2 ?_
  refine lv_iconst (v := nI 1) hx hb d_AL_add1_5 (by decide) ?_
  refine z_iadd (v := x + 1) C d_AL_add1_6 rfl ?_
  refine z_put C hP hD hS 0 rfl q_AL 0 (by decide) k_69 (u_same (C.ts k_70 rfl)) rfl rfl rfl (Nat.le_of_ble_eq_true rfl) d_AL_add1_7 (ws' := (a, zo 3 [.int (x + 1), .ref g.2.2.2.1, .int (nI 0)]) :: T) rfl (fun H locs hP hD hS => ?_)
  refine lv_aload_n hx hb d_AL_add1_10 rfl (lv_at hl 0 rfl) ?_
  refine lv_aload_n hx hb d_AL_add1_11 rfl (lv_at hl 1 rfl) ?_
  refine lv_aload_n hx hb d_AL_add1_12 rfl (lv_at hl 0 rfl) ?_
  refine z_get C hP List.mem_cons_self q_AL 1 (by decide) k_66 (fun _ h9 => h9) rfl d_AL_add1_13 ?_
  refine lv_aload_n hx hb d_AL_add1_16 rfl (lv_at hl 0 rfl) ?_
  refine z_get C hP List.mem_cons_self q_AL 2 (by decide) k_67 (fun _ h9 => h9) rfl d_AL_add1_17 ?_
  refine z_kv (z_runV (np := 3) C (c_AL_add3_0 l g T a y Bd (x + 1) h0 hy) hP hD hS List.mem_cons_self (show classes[3]? = some (R_AL, F_AL, 3) from rfl) k_590 k_6 k_587 k_589 ks_AL_add3 ⟨by decide, by decide, by decide⟩ ⟨Nat.le_of_ble_eq_true rfl, Nat.le_of_ble_eq_true rfl⟩ rfl hl.1 rfl (Nat.le_of_ble_eq_true rfl) d_AL_add1_20 ⟨by show _ ≤ 1; omega, by show _ ≤ 10; omega⟩) hS (fun w H locs hw hP hD hS => ?_)
  have hP : va_P g.1 classes w H := hP
  refine lv_iconst (v := nI 1) hx hb d_AL_add1_23 (by decide) ?_
  exact z_zret C hr hlk hP hD hS (by omega) (by omega) (by first | exact Or.inl rfl | exact Or.inr rfl) hw d_AL_add1_24
set_option maxHeartbeats 4000000 in
set_option maxRecDepth 100000 in
theorem c_AL_add1_1 (l : Launch) (g : zT) (T : va_W) (a ed cap y Bd : Nat) (xs : List Nat) (x : Int32) (f : Nat → Option Nat) (hL : zL f xs) (h1 : xs.length ≤ cap) (h2 : 0 < cap) (h3 : cap ≤ Bd) (h4 : Bd < 60000) (h5 : xs.length + xs.length / 2 + 10 ≤ Bd) (hy : zel T y) (he : ∀ z ∈ xs, zel T z) : Met l y_AL_add1 (zw y_AL_add1 b_AL_add1 2 (some .boolean)) (zR 6 136 1 (xs.length + xs.length / 2 + 10)) (zP g [.ref a, .ref y] ((a, zo 3 [.int x, .ref ed, .int (nI xs.length)]) :: (ed, zOb g cap f) :: T)) (zQi g (fun r w => zLs g a (xs ++ [y]) Bd T w)) 1 (xs.length + xs.length / 2 + 10) (zA g) := by
  refine zMet (by decide) (Nat.le_of_ble_eq_true rfl) ?_
  intro p e s m below meth c ls C hr hlk hnm hP hD hl
  have hx := C.1.1
  have hb := C.1.2.1
  have hS : va_S (zA g) s.heap s.heap [] := va_S.rf
  have hl : lv_has ls 2 [(0, .ref a), (1, .ref y)] := hl
  refine lv_aload_n hx hb d_AL_add1_0 rfl (lv_at hl 0 rfl) ?_
  refine lv_dup hx hb d_AL_add1_1 rfl ?_
  refine z_get C hP List.mem_cons_self q_AL 0 (by decide) k_69 (u_same (C.ts k_70 rfl)) rfl d_AL_add1_2 ?_
  refine lv_iconst (v := nI 1) hx hb d_AL_add1_5 (by decide) ?_
  refine z_iadd (v := x + 1) C d_AL_add1_6 rfl ?_
  refine z_put C hP hD hS 0 rfl q_AL 0 (by decide) k_69 (u_same (C.ts k_70 rfl)) rfl rfl rfl (Nat.le_of_ble_eq_true rfl) d_AL_add1_7 (ws' := (a, zo 3 [.int (x + 1), .ref ed, .int (nI xs.length)]) :: (ed, zOb g cap f) :: T) rfl (fun H locs hP hD hS => ?_)
  refine lv_aload_n hx hb d_AL_add1_10 rfl (lv_at hl 0 rfl) ?_
  refine lv_aload_n hx hb d_AL_add1_11 rfl (lv_at hl 1 rfl) ?_
  refine lv_aload_n hx hb d_AL_add1_12 rfl (lv_at hl 0 rfl) ?_
  refine z_get C hP List.mem_cons_self q_AL 1 (by decide) k_66 (fun _ h9 => h9) rfl d_AL_add1_13 ?_
  refine lv_aload_n hx hb d_AL_add1_16 rfl (lv_at hl 0 rfl) ?_
  refine z_get C hP List.mem_cons_self q_AL 2 (by decide) k_67 (fun _ h9 => h9) rfl d_AL_add1_17 ?_
  refine z_kv (z_runV (np := 3) C (c_AL_add3_1 l g T a ed cap y Bd xs (x + 1) f hL h1 h2 h3 h4 h5 hy he) hP hD hS List.mem_cons_self (show classes[3]? = some (R_AL, F_AL, 3) from rfl) k_590 k_6 k_587 k_589 ks_AL_add3 ⟨by decide, by decide, by decide⟩ ⟨Nat.le_of_ble_eq_true rfl, Nat.le_of_ble_eq_true rfl⟩ rfl hl.1 rfl (Nat.le_of_ble_eq_true rfl) d_AL_add1_20 ⟨by show _ ≤ 1; omega, by show _ ≤ (xs.length + xs.length / 2 + 10); omega⟩) hS (fun w H locs hw hP hD hS => ?_)
  refine lv_iconst (v := nI 1) hx hb d_AL_add1_23 (by decide) ?_
  exact z_zret C hr hlk hP hD hS (by omega) (by omega) (by first | exact Or.inl rfl | exact Or.inr rfl) hw d_AL_add1_24
set_option maxHeartbeats 4000000 in
set_option maxRecDepth 100000 in
theorem c_AL_fastRemove (l : Launch) (g : zT) (T : va_W) (a ed cap i : Nat) (xs : List Nat) (x : Int32) (f : Nat → Option Nat) (hL : zL f xs) (h1 : xs.length ≤ cap) (h2 : cap < 60000) (hi : i < xs.length) (he : ∀ z ∈ xs, zel T z) : Met l y_AL_fastRemove (zw y_AL_fastRemove b_AL_fastRemove 4 (none)) (zR 1 26 0 0) (zP g [.ref a, .ref ed, .int (nI i)] ((a, zo 3 [.int x, .ref ed, .int (nI xs.length)]) :: (ed, zOb g cap f) :: T)) (zQv g (fun w => ∃ f2, w = (a, zo 3 [.int (x + 1), .ref ed, .int (nI (xs.length - 1))]) :: (ed, zOb g cap f2) :: T ∧ zL f2 (xs.eraseIdx i))) 0 0 (zA g) := by
  refine zMet (by decide) (Nat.le_of_ble_eq_true rfl) ?_
  intro p e s m below meth c ls C hr hlk hnm hP hD hl
  have hx := C.1.1
  have hb := C.1.2.1
  have hS : va_S (zA g) s.heap s.heap [] := va_S.rf
  have hl : lv_has ls 4 [(0, .ref a), (1, .ref ed), (2, .int (nI i))] := hl
  have L_34 : ∀ (f2 : Nat → Option Nat) (_ : ∀ j, j < xs.length - 1 → f2 j = if j < i then f j else f (j + 1)) (H : Heap) (locs : List Loc), va_P g.1 classes ((a, zo 3 [.int (x + 1), .ref ed, .int (nI xs.length)]) :: (ed, zOb g cap f2) :: T) H → va_D (zA g) ((a, zo 3 [.int (x + 1), .ref ed, .int (nI xs.length)]) :: (ed, zOb g cap f2) :: T) → va_S (zA g) s.heap H locs → ∀ ls : Array Slot, lv_has ls 4 [(0, .ref a), (1, .ref ed), (2, .int (nI i)), (3, .int (nI (xs.length - 1)))] → W p l e (zR 1 26 0 0) s m [.ref a, .ref ed, .int (nI i)].toArray below meth c H locs 0 0 (MQ below (zQv g (fun w => ∃ f2, w = (a, zo 3 [.int (x + 1), .ref ed, .int (nI (xs.length - 1))]) :: (ed, zOb g cap f2) :: T ∧ zL f2 (xs.eraseIdx i))) [.ref a, .ref ed, .int (nI i)].toArray s 0 0 (zA g)) (F0 m 34 ls []) := by
    intro f2 g1 H locs hP hD hS ls hl
    refine lv_aload_n hx hb d_AL_fastRemove_34 rfl (lv_at hl 1 rfl) ?_
    refine lv_aload_n hx hb d_AL_fastRemove_35 rfl (lv_at hl 0 rfl) ?_
    refine lv_iload_n hx hb d_AL_fastRemove_36 rfl (lv_at hl 3 rfl) ?_
    refine lv_dup_x1 hx hb d_AL_fastRemove_37 rfl rfl ?_
    refine z_put C hP hD hS 0 rfl q_AL 2 (by decide) k_67 (fun _ h9 => h9) rfl rfl rfl (Nat.le_of_ble_eq_true rfl) d_AL_fastRemove_38 (ws' := (a, zo 3 [.int (x + 1), .ref ed, .int (nI (xs.length - 1))]) :: (ed, zOb g cap f2) :: T) rfl (fun H locs hP hD hS => ?_)
    refine lv_null hx hb d_AL_fastRemove_41 ?_
    refine z_aastN C hP hD hS 1 rfl (xs.length - 1) (by omega) (by omega) d_AL_fastRemove_42 (ws' := (a, zo 3 [.int (x + 1), .ref ed, .int (nI (xs.length - 1))]) :: (ed, zOb g cap (va_up f2 (xs.length - 1) none)) :: T) rfl (fun H locs hP hD hS => ?_)
    exact z_vret C hr hlk hP hD hS (by omega) (by omega) ⟨_, rfl, zL_del hL hi (fun j hj => by rw [va_up_ne _ _ (by omega)]; exact g1 j hj)⟩ d_AL_fastRemove_43
  refine lv_aload_n hx hb d_AL_fastRemove_0 rfl (lv_at hl 0 rfl) ?_
  refine lv_dup hx hb d_AL_fastRemove_1 rfl ?_
  refine z_get C hP List.mem_cons_self q_AL 0 (by decide) k_69 (u_same (C.ts k_70 rfl)) rfl d_AL_fastRemove_2 ?_
  refine lv_iconst (v := nI 1) hx hb d_AL_fastRemove_5 (by decide) ?_
  refine z_iadd (v := x + 1) C d_AL_fastRemove_6 rfl ?_
  refine z_put C hP hD hS 0 rfl q_AL 0 (by decide) k_69 (u_same (C.ts k_70 rfl)) rfl rfl rfl (Nat.le_of_ble_eq_true rfl) d_AL_fastRemove_7 (ws' := (a, zo 3 [.int (x + 1), .ref ed, .int (nI xs.length)]) :: (ed, zOb g cap f) :: T) rfl (fun H locs hP hD hS => ?_)
  refine lv_aload_n hx hb d_AL_fastRemove_10 rfl (lv_at hl 0 rfl) ?_
  refine z_get C hP List.mem_cons_self q_AL 2 (by decide) k_67 (fun _ h9 => h9) rfl d_AL_fastRemove_11 ?_
  refine lv_iconst (v := nI 1) hx hb d_AL_fastRemove_14 (by decide) ?_
  refine z_isub (v := nI (xs.length - 1)) C d_AL_fastRemove_15 (pk_sub (by omega)) ?_
  refine lv_dup hx hb d_AL_fastRemove_16 rfl ?_
  refine lv_istore_n (lv' := [(3, .int (nI (xs.length - 1))), (0, .ref a), (1, .ref ed), (2, .int (nI i))]) hx hb d_AL_fastRemove_17 rfl hl (by decide) rfl (fun ls hl => ?_)
  refine lv_iload_n hx hb d_AL_fastRemove_18 rfl (lv_at hl 3 rfl) ?_
  refine lv_icmp_le (tgt := 34) hx hb d_AL_fastRemove_19 (by decide) (fun c_19 => ?_) (fun c_19 => ?_)
  · skip
    have c_19 : (xs.length - 1) ≤ i := (nI_leI (a := xs.length - 1) (b := i) (by omega) (by omega)).mp c_19
    exact L_34 f (fun j hj => by rw [if_pos (by omega)]) _ _ hP hD hS ls (lv_sub hl [1, 2, 3, 0] rfl)
  · skip
    have c_19 : ¬ (xs.length - 1) ≤ i := fun q9 => c_19 ((nI_leI (a := xs.length - 1) (b := i) (by omega) (by omega)).mpr q9)
    refine lv_aload_n hx hb d_AL_fastRemove_22 rfl (lv_at hl 2 rfl) ?_
    refine lv_iload_n hx hb d_AL_fastRemove_23 rfl (lv_at hl 3 rfl) ?_
    refine lv_iconst (v := nI 1) hx hb d_AL_fastRemove_24 (by decide) ?_
    refine z_iadd (v := nI (i + 1)) C d_AL_fastRemove_25 (nI_add _ _) ?_
    refine lv_aload_n hx hb d_AL_fastRemove_26 rfl (lv_at hl 2 rfl) ?_
    refine lv_iload_n hx hb d_AL_fastRemove_27 rfl (lv_at hl 3 rfl) ?_
    refine lv_iload_n hx hb d_AL_fastRemove_28 rfl (lv_at hl 0 rfl) ?_
    refine lv_iload_n hx hb d_AL_fastRemove_29 rfl (lv_at hl 3 rfl) ?_
    refine z_isub (v := nI ((xs.length - 1) - i)) C d_AL_fastRemove_30 (pk_sub (by omega)) ?_
    refine z_copyO C hP hD hS hl.1 (List.mem_cons_of_mem _ List.mem_cons_self) 1 rfl (i + 1) i ((xs.length - 1) - i) (by omega) (by omega) (by omega) (by omega) (fun j hj z hz => (he z (zL_mem hL (by omega) hz)).mono fun _ q => List.mem_cons_of_mem _ (List.mem_cons_of_mem _ q)) k_451 (Nat.le_of_ble_eq_true rfl) (Nat.le_of_ble_eq_true rfl) d_AL_fastRemove_31 (ws' := (a, zo 3 [.int (x + 1), .ref ed, .int (nI xs.length)]) :: (ed, zOb g cap (va_cpy f f (i + 1) i ((xs.length - 1) - i))) :: T) rfl (fun H locs hP hD hS => ?_)
    exact L_34 _ (fun j hj => by split; exact pk_cpy_out (Or.inl (by omega)); rw [pk_cpy_in (by omega) (by omega)]; congr 1; omega) _ _ hP hD hS ls (lv_sub hl [1, 2, 3, 0] rfl)
set_option maxHeartbeats 4000000 in
set_option maxRecDepth 100000 in
theorem c_AL_remove (l : Launch) (g : zT) (T : va_W) (a ed cap i y Bd : Nat) (xs : List Nat) (x : Int32) (f : Nat → Option Nat) (hL : zL f xs) (h1 : xs.length ≤ cap) (h2 : cap ≤ Bd) (h3 : Bd < 60000) (hi : xs[i]? = some y) (he : ∀ z ∈ xs, zel T z) : Met l y_AL_remove (zw y_AL_remove b_AL_remove 4 (some (.object "java/lang/Object"))) (zR 2 49 0 0) (zP g [.ref a, .int (nI i)] ((a, zo 3 [.int x, .ref ed, .int (nI xs.length)]) :: (ed, zOb g cap f) :: T)) (zQq g (fun r w => r = some y ∧ zLs g a (xs.eraseIdx i) Bd T w)) 0 0 (zA g) := by
  refine zMet (by decide) (Nat.le_of_ble_eq_true rfl) ?_
  intro p e s m below meth c ls C hr hlk hnm hP hD hl
  have hx := C.1.1
  have hb := C.1.2.1
  have hS : va_S (zA g) s.heap s.heap [] := va_S.rf
  have hl : lv_has ls 4 [(0, .ref a), (1, .int (nI i))] := hl
  have hi2 : i < xs.length := (List.getElem?_eq_some_iff.mp hi).1
  refine lv_iload_n hx hb d_AL_remove_0 rfl (lv_at hl 1 rfl) ?_
  refine lv_aload_n hx hb d_AL_remove_1 rfl (lv_at hl 0 rfl) ?_
  refine z_get C hP List.mem_cons_self q_AL 2 (by decide) k_67 (fun _ h9 => h9) rfl d_AL_remove_2 ?_
  refine z_ki (z_runS (np := 2) C (c_OBJ_checkIndex l g ((a, zo 3 [.int x, .ref ed, .int (nI xs.length)]) :: (ed, zOb g cap f) :: T) i xs.length hi2 (by omega)) hP hD hS k_307 k_15 k_305 k_306 ⟨by decide, by decide, by decide⟩ ⟨Nat.le_of_ble_eq_true rfl, Nat.le_of_ble_eq_true rfl⟩ rfl hl.1 rfl (Nat.le_of_ble_eq_true rfl) d_AL_remove_5 ⟨by show _ ≤ 0; omega, by show _ ≤ 0; omega⟩) hS (fun r_5 w H locs hw hP hD hS => ?_)
  obtain ⟨rfl, hw⟩ := hw
  rw [hw] at hP hD
  refine lv_pop hx hb d_AL_remove_8 rfl ?_
  refine lv_aload_n hx hb d_AL_remove_9 rfl (lv_at hl 0 rfl) ?_
  refine z_get C hP List.mem_cons_self q_AL 1 (by decide) k_66 (fun _ h9 => h9) rfl d_AL_remove_10 ?_
  refine lv_astore_n (lv' := [(2, .ref ed), (0, .ref a), (1, .int (nI i))]) hx hb d_AL_remove_13 rfl hl (by decide) rfl (fun ls hl => ?_)
  refine lv_aload_n hx hb d_AL_remove_14 rfl (lv_at hl 0 rfl) ?_
  refine lv_iload_n hx hb d_AL_remove_15 rfl (lv_at hl 2 rfl) ?_
  refine z_aald C hP (List.mem_cons_of_mem _ List.mem_cons_self) i (by omega) (by omega) d_AL_remove_16 ?_
  refine z_some' (zL_get hL hi) ?_
  refine lv_astore_n (lv' := [(3, .ref y), (2, .ref ed), (0, .ref a), (1, .int (nI i))]) hx hb d_AL_remove_17 rfl hl (by decide) rfl (fun ls hl => ?_)
  refine lv_aload_n hx hb d_AL_remove_18 rfl (lv_at hl 2 rfl) ?_
  refine lv_aload_n hx hb d_AL_remove_19 rfl (lv_at hl 1 rfl) ?_
  refine lv_iload_n hx hb d_AL_remove_20 rfl (lv_at hl 3 rfl) ?_
  refine z_kv (z_runV (np := 2) C (c_AL_fastRemove l g T a ed cap i xs x f hL h1 (by omega) hi2 he) hP hD hS List.mem_cons_self (show classes[3]? = some (R_AL, F_AL, 3) from rfl) k_484 k_6 k_481 k_483 ks_AL_fastRemove ⟨by decide, by decide, by decide⟩ ⟨Nat.le_of_ble_eq_true rfl, Nat.le_of_ble_eq_true rfl⟩ rfl hl.1 rfl (Nat.le_of_ble_eq_true rfl) d_AL_remove_21 ⟨by show _ ≤ 0; omega, by show _ ≤ 0; omega⟩) hS (fun w H locs hw hP hD hS => ?_)
  obtain ⟨f2, hw, g1⟩ := hw
  rw [hw] at hP hD
  refine lv_aload_n hx hb d_AL_remove_24 rfl (lv_at hl 0 rfl) ?_
  have hlen : (xs.eraseIdx i).length = xs.length - 1 := List.length_eraseIdx_of_lt hi2
  exact z_aret (v := some y) C hr (by first | exact Or.inl ⟨_, rfl⟩ | exact Or.inr ⟨_, rfl⟩) hlk hP hD hS (by omega) (by omega) ⟨rfl, x + 1, ed, cap, f2, by rw [hlen, wA_s (by omega)]; rfl, g1, by omega, h2, fun h => by omega⟩ d_AL_remove_25
set_option maxHeartbeats 4000000 in
set_option maxRecDepth 100000 in
theorem c_AL_clear_0 (l : Launch) (g : zT) (T : va_W) (a Bd : Nat) (x : Int32) : Met l y_AL_clear (zw y_AL_clear b_AL_clear 4 (none)) (zR 0 0 0 0) (zP g [.ref a] ((a, zo 3 [.int x, .ref g.2.2.2.1, .int (nI 0)]) :: T)) (zQv g (fun w => zLs g a [] Bd T w)) 0 0 (zA g) := by
  refine zMet (by decide) (Nat.le_of_ble_eq_true rfl) ?_
  intro p e s m below meth c ls C hr hlk hnm hP hD hl
  have hx := C.1.1
  have hb := C.1.2.1
  have hS : va_S (zA g) s.heap s.heap [] := va_S.rf
  have hl : lv_has ls 4 [(0, .ref a)] := hl
  refine lv_aload_n hx hb d_AL_clear_0 rfl (lv_at hl 0 rfl) ?_
  refine lv_dup hx hb d_AL_clear_1 rfl ?_
  refine z_get C hP List.mem_cons_self q_AL 0 (by decide) k_69 (u_same (C.ts k_70 rfl)) rfl d_AL_clear_2 ?_
  refine lv_iconst (v := nI 1) hx hb d_AL_clear_5 (by decide) ?_
  refine z_iadd (v := x + 1) C d_AL_clear_6 rfl ?_
  refine z_put C hP hD hS 0 rfl q_AL 0 (by decide) k_69 (u_same (C.ts k_70 rfl)) rfl rfl rfl (Nat.le_of_ble_eq_true rfl) d_AL_clear_7 (ws' := (a, zo 3 [.int (x + 1), .ref g.2.2.2.1, .int (nI 0)]) :: T) rfl (fun H locs hP hD hS => ?_)
  refine lv_aload_n hx hb d_AL_clear_10 rfl (lv_at hl 0 rfl) ?_
  refine z_get C hP List.mem_cons_self q_AL 1 (by decide) k_66 (fun _ h9 => h9) rfl d_AL_clear_11 ?_
  refine lv_astore_n (lv' := [(1, .ref g.2.2.2.1), (0, .ref a)]) hx hb d_AL_clear_14 rfl hl (by decide) rfl (fun ls hl => ?_)
  refine lv_aload_n hx hb d_AL_clear_15 rfl (lv_at hl 1 rfl) ?_
  refine z_get C hP List.mem_cons_self q_AL 2 (by decide) k_67 (fun _ h9 => h9) rfl d_AL_clear_16 ?_
  refine lv_istore_n (lv' := [(2, .int (nI 0)), (1, .ref g.2.2.2.1), (0, .ref a)]) hx hb d_AL_clear_19 rfl hl (by decide) rfl (fun ls hl => ?_)
  refine lv_aload_n hx hb d_AL_clear_20 rfl (lv_at hl 2 rfl) ?_
  refine lv_iconst (v := nI 0) hx hb d_AL_clear_21 (by decide) ?_
  refine lv_dup_x1 hx hb d_AL_clear_22 rfl rfl ?_
  refine z_put C hP hD hS 0 rfl q_AL 2 (by decide) k_67 (fun _ h9 => h9) rfl rfl rfl (Nat.le_of_ble_eq_true rfl) d_AL_clear_23 (ws' := (a, zo 3 [.int (x + 1), .ref g.2.2.2.1, .int (nI 0)]) :: T) rfl (fun H locs hP hD hS => ?_)
  refine lv_istore_n (lv' := [(3, .int (nI 0)), (2, .int (nI 0)), (1, .ref g.2.2.2.1), (0, .ref a)]) hx hb d_AL_clear_26 rfl hl (by decide) rfl (fun ls hl => ?_)
  refine lv_iload_n hx hb d_AL_clear_27 rfl (lv_at hl 0 rfl) ?_
  refine lv_iload_n hx hb d_AL_clear_28 rfl (lv_at hl 1 rfl) ?_
  refine lv_icmp_ge (tgt := 42) hx hb d_AL_clear_29 (by decide) (fun c_29 => ?_) (fun c_29 => ?_)
  · skip
    have c_29 : 0 ≤ 0 := (nI_leI (a := 0) (b := 0) (by decide) (by decide)).mp c_29
    exact z_vret C hr hlk hP hD hS (by omega) (by omega) ⟨x + 1, _, 0, fun _ => none, rfl, zL_0 _, Nat.le_refl _, Nat.zero_le _, fun _ => rfl⟩ d_AL_clear_42
  · skip
    have c_29 : ¬ 0 ≤ 0 := fun q9 => c_29 ((nI_leI (a := 0) (b := 0) (by decide) (by decide)).mpr q9)
    exact absurd c_29 (by omega)
set_option maxHeartbeats 4000000 in
set_option maxRecDepth 100000 in
theorem c_AL_clear_1 (l : Launch) (g : zT) (T : va_W) (a ed cap n Bd : Nat) (x : Int32) (f : Nat → Option Nat) (h1 : n ≤ cap) (h2 : 0 < cap) (h3 : cap ≤ Bd) (h4 : Bd < 60000) : Met l y_AL_clear (zw y_AL_clear b_AL_clear 4 (none)) (zR 0 0 0 0) (zP g [.ref a] ((a, zo 3 [.int x, .ref ed, .int (nI n)]) :: (ed, zOb g cap f) :: T)) (zQv g (fun w => zLs g a [] Bd T w)) 0 0 (zA g) := by
  refine zMet (by decide) (Nat.le_of_ble_eq_true rfl) ?_
  intro p e s m below meth c ls C hr hlk hnm hP hD hl
  have hx := C.1.1
  have hb := C.1.2.1
  have hS : va_S (zA g) s.heap s.heap [] := va_S.rf
  have hl : lv_has ls 4 [(0, .ref a)] := hl
  have L_27 : ∀ (nu : Nat) (i : Nat) (f2 : Nat → Option Nat) (_ : i ≤ n) (_ : n - i < nu) (H : Heap) (locs : List Loc), va_P g.1 classes ((a, zo 3 [.int (x + 1), .ref ed, .int (nI 0)]) :: (ed, zOb g cap f2) :: T) H → va_D (zA g) ((a, zo 3 [.int (x + 1), .ref ed, .int (nI 0)]) :: (ed, zOb g cap f2) :: T) → va_S (zA g) s.heap H locs → ∀ ls : Array Slot, lv_has ls 4 [(0, .ref a), (1, .ref ed), (2, .int (nI n)), (3, .int (nI i))] → W p l e (zR 0 0 0 0) s m [.ref a].toArray below meth c H locs 0 0 (MQ below (zQv g (fun w => zLs g a [] Bd T w)) [.ref a].toArray s 0 0 (zA g)) (F0 m 27 ls []) := by
    intro nu
    induction nu with
    | zero => intros; omega
    | succ nu ih =>
      intro i f2 hi hmu H locs hP hD hS ls hl
      refine lv_iload_n hx hb d_AL_clear_27 rfl (lv_at hl 3 rfl) ?_
      refine lv_iload_n hx hb d_AL_clear_28 rfl (lv_at hl 2 rfl) ?_
      refine lv_icmp_ge (tgt := 42) hx hb d_AL_clear_29 (by decide) (fun c_29 => ?_) (fun c_29 => ?_)
      · skip
        have c_29 : n ≤ i := (nI_leI (a := n) (b := i) (by omega) (by omega)).mp c_29
        exact z_vret C hr hlk hP hD hS (by omega) (by omega) ⟨x + 1, ed, cap, f2, by rw [wA_s h2]; rfl, zL_0 _, Nat.zero_le _, h3, fun h => by omega⟩ d_AL_clear_42
      · skip
        have c_29 : ¬ n ≤ i := fun q9 => c_29 ((nI_leI (a := n) (b := i) (by omega) (by omega)).mpr q9)
        refine lv_aload_n hx hb d_AL_clear_32 rfl (lv_at hl 1 rfl) ?_
        refine lv_iload_n hx hb d_AL_clear_33 rfl (lv_at hl 3 rfl) ?_
        refine lv_null hx hb d_AL_clear_34 ?_
        refine z_aastN C hP hD hS 1 rfl i (by omega) (by omega) d_AL_clear_35 (ws' := (a, zo 3 [.int (x + 1), .ref ed, .int (nI 0)]) :: (ed, zOb g cap (va_up f2 i none)) :: T) rfl (fun H locs hP hD hS => ?_)
        refine lv_iinc (v := nI (i + 1)) (lv' := [(3, .int (nI (i + 1))), (0, .ref a), (1, .ref ed), (2, .int (nI n))]) hx hb d_AL_clear_36 hl (k := 3) rfl (by rw [show Int32.ofInt 1 = nI 1 by decide]; exact nI_add _ _) (by decide) rfl (fun ls hl => ?_)
        refine lv_goto (tgt := 27) hx hb d_AL_clear_39 (by decide) ?_
        exact ih (i + 1) _ (by omega) (by omega) _ _ hP hD hS ls (lv_sub hl [1, 2, 3, 0] rfl)
  refine lv_aload_n hx hb d_AL_clear_0 rfl (lv_at hl 0 rfl) ?_
  refine lv_dup hx hb d_AL_clear_1 rfl ?_
  refine z_get C hP List.mem_cons_self q_AL 0 (by decide) k_69 (u_same (C.ts k_70 rfl)) rfl d_AL_clear_2 ?_
  refine lv_iconst (v := nI 1) hx hb d_AL_clear_5 (by decide) ?_
  refine z_iadd (v := x + 1) C d_AL_clear_6 rfl ?_
  refine z_put C hP hD hS 0 rfl q_AL 0 (by decide) k_69 (u_same (C.ts k_70 rfl)) rfl rfl rfl (Nat.le_of_ble_eq_true rfl) d_AL_clear_7 (ws' := (a, zo 3 [.int (x + 1), .ref ed, .int (nI n)]) :: (ed, zOb g cap f) :: T) rfl (fun H locs hP hD hS => ?_)
  refine lv_aload_n hx hb d_AL_clear_10 rfl (lv_at hl 0 rfl) ?_
  refine z_get C hP List.mem_cons_self q_AL 1 (by decide) k_66 (fun _ h9 => h9) rfl d_AL_clear_11 ?_
  refine lv_astore_n (lv' := [(1, .ref ed), (0, .ref a)]) hx hb d_AL_clear_14 rfl hl (by decide) rfl (fun ls hl => ?_)
  refine lv_aload_n hx hb d_AL_clear_15 rfl (lv_at hl 1 rfl) ?_
  refine z_get C hP List.mem_cons_self q_AL 2 (by decide) k_67 (fun _ h9 => h9) rfl d_AL_clear_16 ?_
  refine lv_istore_n (lv' := [(2, .int (nI n)), (1, .ref ed), (0, .ref a)]) hx hb d_AL_clear_19 rfl hl (by decide) rfl (fun ls hl => ?_)
  refine lv_aload_n hx hb d_AL_clear_20 rfl (lv_at hl 2 rfl) ?_
  refine lv_iconst (v := nI 0) hx hb d_AL_clear_21 (by decide) ?_
  refine lv_dup_x1 hx hb d_AL_clear_22 rfl rfl ?_
  refine z_put C hP hD hS 0 rfl q_AL 2 (by decide) k_67 (fun _ h9 => h9) rfl rfl rfl (Nat.le_of_ble_eq_true rfl) d_AL_clear_23 (ws' := (a, zo 3 [.int (x + 1), .ref ed, .int (nI 0)]) :: (ed, zOb g cap f) :: T) rfl (fun H locs hP hD hS => ?_)
  refine lv_istore_n (lv' := [(3, .int (nI 0)), (2, .int (nI n)), (1, .ref ed), (0, .ref a)]) hx hb d_AL_clear_26 rfl hl (by decide) rfl (fun ls hl => ?_)
  exact L_27 _ 0 f (Nat.zero_le _) (Nat.lt_succ_self _) _ _ hP hD hS ls (lv_sub hl [3, 2, 1, 0] rfl)
theorem zl_nil {xs : List Nat} (h : xs.length ≤ 0) : xs = [] := List.eq_nil_of_length_eq_zero (Nat.le_zero.mp h)
theorem c_AL_add2 (l : Launch) (g : zT) (T : va_W) (a ed cap y i Bd : Nat) (xs : List Nat) (x : Int32) (f : Nat → Option Nat) (hL : zL f xs) (h1 : xs.length ≤ cap) (h3 : cap ≤ Bd) (h4 : Bd < 60000) (h5 : xs.length + xs.length / 2 + 10 ≤ Bd) (hc : cap = 0 → ed = g.2.2.2.1) (hi : i ≤ xs.length) (hy : zel T y) (he : ∀ z ∈ xs, zel T z) : Met l y_AL_add2 (zw y_AL_add2 b_AL_add2 5 none) (zR 5 113 1 (xs.length + xs.length / 2 + 10)) (zP g [.ref a, .int (nI i), .ref y] ((a, zo 3 [.int x, .ref ed, .int (nI xs.length)]) :: (wA g ed cap f ++ T))) (zQv g (fun w => zLs g a (xs.insertIdx i y) Bd T w)) 1 (xs.length + xs.length / 2 + 10) (zA g) := by
  rcases Nat.eq_zero_or_pos cap with h | h
  · subst h
    obtain rfl := zl_nil h1
    obtain rfl := hc rfl
    obtain rfl := Nat.le_zero.mp hi
    exact c_AL_add2_0 l g T a y Bd x (by omega) hy
  · rw [wA_s h]
    exact c_AL_add2_1 l g T a ed cap y i Bd xs x f hL h1 h h3 h4 h5 hi hy he
theorem c_AL_add1 (l : Launch) (g : zT) (T : va_W) (a ed cap y Bd : Nat) (xs : List Nat) (x : Int32) (f : Nat → Option Nat) (hL : zL f xs) (h1 : xs.length ≤ cap) (h3 : cap ≤ Bd) (h4 : Bd < 60000) (h5 : xs.length + xs.length / 2 + 10 ≤ Bd) (hc : cap = 0 → ed = g.2.2.2.1) (hy : zel T y) (he : ∀ z ∈ xs, zel T z) : Met l y_AL_add1 (zw y_AL_add1 b_AL_add1 2 (some .boolean)) (zR 6 136 1 (xs.length + xs.length / 2 + 10)) (zP g [.ref a, .ref y] ((a, zo 3 [.int x, .ref ed, .int (nI xs.length)]) :: (wA g ed cap f ++ T))) (zQi g (fun r w => zLs g a (xs ++ [y]) Bd T w)) 1 (xs.length + xs.length / 2 + 10) (zA g) := by
  rcases Nat.eq_zero_or_pos cap with h | h
  · subst h
    obtain rfl := zl_nil h1
    obtain rfl := hc rfl
    exact c_AL_add1_0 l g T a y Bd x (by omega) hy
  · rw [wA_s h]
    exact c_AL_add1_1 l g T a ed cap y Bd xs x f hL h1 h h3 h4 h5 hy he
theorem c_AL_clear (l : Launch) (g : zT) (T : va_W) (a ed cap n Bd : Nat) (x : Int32) (f : Nat → Option Nat) (h1 : n ≤ cap) (h3 : cap ≤ Bd) (h4 : Bd < 60000) (hc : cap = 0 → ed = g.2.2.2.1) : Met l y_AL_clear (zw y_AL_clear b_AL_clear 4 none) (zR 0 0 0 0) (zP g [.ref a] ((a, zo 3 [.int x, .ref ed, .int (nI n)]) :: (wA g ed cap f ++ T))) (zQv g (fun w => zLs g a [] Bd T w)) 0 0 (zA g) := by
  rcases Nat.eq_zero_or_pos cap with h | h
  · subst h
    obtain rfl := Nat.le_zero.mp h1
    obtain rfl := hc rfl
    exact c_AL_clear_0 l g T a Bd x
  · rw [wA_s h]
    exact c_AL_clear_1 l g T a ed cap n Bd x f h1 h h3 h4

