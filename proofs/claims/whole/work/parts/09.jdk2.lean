set_option maxHeartbeats 4000000 in
set_option maxRecDepth 100000 in
theorem c_AL_add2_0 (l : Launch) (g : zT) (T : va_W) (a y Bd : Nat) (x : Int32) (h0 : 10 ≤ Bd) (hy : zel T y) : Met l y_AL_add2 (zw y_AL_add2 b_AL_add2 5 (none)) (zR 5 113 1 10) (zP g [.ref a, .int (nI 0), .ref y] ((a, zo 3 [.int x, .ref g.2.2.2.1, .int (nI 0)]) :: T)) (zQv g (fun w => zLs g a (([] : List Nat).insertIdx 0 y) Bd T w)) 1 10 (zA g) := by
  refine zMet (by decide) (Nat.le_of_ble_eq_true rfl) ?_
  intro p e s m below meth c ls C hr hlk hnm hP hD hl
  have hx := C.1.1
  have hb := C.1.2.1
  have hS : va_S (zA g) s.heap s.heap [] := va_S.rf
  have hl : lv_has ls 5 [(0, .ref a), (1, .int (nI 0)), (2, .ref y)] := hl
  refine lv_aload_n hx hb d_AL_add2_0 rfl (lv_at hl 0 rfl) ?_
  refine lv_iload_n hx hb d_AL_add2_1 rfl (lv_at hl 1 rfl) ?_
  refine z_kv (z_runV (np := 1) C (c_AL_rangeCheckForAdd l g ((a, zo 3 [.int x, .ref g.2.2.2.1, .int (nI 0)]) :: T) a g.2.2.2.1 0 0 x List.mem_cons_self (by omega) (by omega)) hP hD hS List.mem_cons_self (show classes[3]? = some (R_AL, F_AL, 3) from rfl) k_405 k_6 k_402 k_404 ks_AL_rangeCheckForAdd ⟨by decide, by decide, by decide⟩ ⟨Nat.le_of_ble_eq_true rfl, Nat.le_of_ble_eq_true rfl⟩ rfl hl.1 rfl (Nat.le_of_ble_eq_true rfl) d_AL_add2_2 ⟨by show _ ≤ 1; omega, by show _ ≤ 10; omega⟩) hS (fun w H locs hw hP hD hS => ?_)
  rw [hw] at hP hD
  refine lv_aload_n hx hb d_AL_add2_5 rfl (lv_at hl 0 rfl) ?_
  refine lv_dup hx hb d_AL_add2_6 rfl ?_
  refine z_get C hP List.mem_cons_self q_AL 0 (by decide) k_69 (u_same (C.ts k_70 rfl)) rfl d_AL_add2_7 ?_
  refine lv_iconst (v := nI 1) hx hb d_AL_add2_10 (by decide) ?_
  refine z_iadd (v := x + (nI 1)) C d_AL_add2_11 rfl ?_
  refine z_put C hP hD hS 0 rfl q_AL 0 (by decide) k_69 (u_same (C.ts k_70 rfl)) rfl rfl rfl (Nat.le_of_ble_eq_true rfl) d_AL_add2_12 (ws' := (a, zo 3 [.int (x + (nI 1)), .ref g.2.2.2.1, .int (nI 0)]) :: T) rfl (fun H locs hP hD hS => ?_)
  refine lv_aload_n hx hb d_AL_add2_15 rfl (lv_at hl 0 rfl) ?_
  refine z_get C hP List.mem_cons_self q_AL 2 (by decide) k_67 (fun _ h9 => h9) rfl d_AL_add2_16 ?_
  refine lv_dup hx hb d_AL_add2_19 rfl ?_
  refine lv_istore_n (lv' := [(3, .int (nI 0)), (0, .ref a), (1, .int (nI 0)), (2, .ref y)]) hx hb d_AL_add2_20 rfl hl (by decide) rfl (fun ls hl => ?_)
  refine lv_aload_n hx hb d_AL_add2_21 rfl (lv_at hl 1 rfl) ?_
  refine z_get C hP List.mem_cons_self q_AL 1 (by decide) k_66 (fun _ h9 => h9) rfl d_AL_add2_22 ?_
  refine lv_dup hx hb d_AL_add2_25 rfl ?_
  refine lv_astore (lv' := [(4, .ref g.2.2.2.1), (3, .int (nI 0)), (0, .ref a), (1, .int (nI 0)), (2, .ref y)]) hx hb d_AL_add2_26 hl (by decide) rfl (fun ls hl => ?_)
  refine va_tlen (v := nI 0) hx hb C.2.2.2.2.1.2 hS rfl d_AL_add2_28 ?_
  refine lv_icmp_ne (tgt := 38) hx hb d_AL_add2_29 (by decide) (fun c_29 => ?_) (fun c_29 => ?_)
  · skip
    have c_29 : ¬ 0 = 0 := fun q9 => c_29 ((nI_eq (a := 0) (b := 0) (by decide) (by decide)).mpr q9)
    exact absurd c_29 (by omega)
  · skip
    have c_29 : 0 = 0 := (nI_eq (a := 0) (b := 0) (by decide) (by decide)).mp c_29
    refine lv_aload_n hx hb d_AL_add2_32 rfl (lv_at hl 2 rfl) ?_
    refine z_kq (z_runV (np := 0) C (c_AL_grow0_0 l g T a (x + 1)) hP hD hS List.mem_cons_self (show classes[3]? = some (R_AL, F_AL, 3) from rfl) k_409 k_6 k_406 k_408 ks_AL_grow0 ⟨by decide, by decide, by decide⟩ ⟨Nat.le_of_ble_eq_true rfl, Nat.le_of_ble_eq_true rfl⟩ rfl hl.1 rfl (Nat.le_of_ble_eq_true rfl) d_AL_add2_33 ⟨by show _ ≤ 1; omega, by show _ ≤ 10; omega⟩) hS (fun r_33 w H locs hw hP hD hS => ?_)
    obtain ⟨q, rfl, hw⟩ := hw
    rw [hw] at hP hD
    refine lv_astore (lv' := [(4, .ref q), (3, .int (nI 0)), (0, .ref a), (1, .int (nI 0)), (2, .ref y)]) hx hb d_AL_add2_36 hl (by decide) rfl (fun ls hl => ?_)
    refine lv_aload hx hb d_AL_add2_38 (lv_at hl 0 rfl) ?_
    refine lv_iload_n hx hb d_AL_add2_40 rfl (lv_at hl 3 rfl) ?_
    refine lv_aload hx hb d_AL_add2_41 (lv_at hl 0 rfl) ?_
    refine lv_iload_n hx hb d_AL_add2_43 rfl (lv_at hl 3 rfl) ?_
    refine lv_iconst (v := nI 1) hx hb d_AL_add2_44 (by decide) ?_
    refine z_iadd (v := nI 1) C d_AL_add2_45 (by decide) ?_
    refine lv_iload_n hx hb d_AL_add2_46 rfl (lv_at hl 1 rfl) ?_
    refine lv_iload_n hx hb d_AL_add2_47 rfl (lv_at hl 3 rfl) ?_
    refine z_isub (v := nI 0) C d_AL_add2_48 (by decide) ?_
    refine z_copyO C hP hD hS hl.1 List.mem_cons_self 0 rfl 0 1 0 (by omega) (by omega) (by omega) (by omega) (fun i hi => absurd hi (Nat.not_lt_zero _)) k_451 (Nat.le_of_ble_eq_true rfl) (Nat.le_of_ble_eq_true rfl) d_AL_add2_49 (ws' := (q, zOb g 10 (va_cpy (fun _ => none) (fun _ => none) 0 1 0)) :: (a, zo 3 [.int (x + 1), .ref q, .int (nI 0)]) :: T) rfl (fun H locs hP hD hS => ?_)
    refine lv_aload hx hb d_AL_add2_52 (lv_at hl 0 rfl) ?_
    refine lv_iload_n hx hb d_AL_add2_54 rfl (lv_at hl 3 rfl) ?_
    refine lv_aload_n hx hb d_AL_add2_55 rfl (lv_at hl 4 rfl) ?_
    refine z_aast C hP hD hS 0 rfl 0 (by omega) (by omega) (hy.mono fun _ z => List.mem_cons_of_mem _ (List.mem_cons_of_mem _ z)) d_AL_add2_56 (ws' := (q, zOb g 10 (va_up (va_cpy (fun _ => none) (fun _ => none) 0 1 0) 0 (some y))) :: (a, zo 3 [.int (x + 1), .ref q, .int (nI 0)]) :: T) rfl (fun H locs hP hD hS => ?_)
    refine lv_aload_n hx hb d_AL_add2_57 rfl (lv_at hl 2 rfl) ?_
    refine lv_iload_n hx hb d_AL_add2_58 rfl (lv_at hl 1 rfl) ?_
    refine lv_iconst (v := nI 1) hx hb d_AL_add2_59 (by decide) ?_
    refine z_iadd (v := nI 1) C d_AL_add2_60 (by decide) ?_
    refine z_put C hP hD hS 1 rfl q_AL 2 (by decide) k_67 (fun _ h9 => h9) rfl rfl rfl (Nat.le_of_ble_eq_true rfl) d_AL_add2_61 (ws' := (q, zOb g 10 (va_up (va_cpy (fun _ => none) (fun _ => none) 0 1 0) 0 (some y))) :: (a, zo 3 [.int (x + 1), .ref q, .int (nI 1)]) :: T) rfl (fun H locs hP hD hS => ?_)
    exact z_vret C hr hlk (z_Pq (z_bk (bs := [[(q, zOb g 10 (va_up (va_cpy (fun _ => none) (fun _ => none) 0 1 0) 0 (some y)))], [(a, zo 3 [.int (x + 1), .ref q, .int (nI 1)])], T]) (bs' := [[(a, zo 3 [.int (x + 1), .ref q, .int (nI 1)])], [(q, zOb g 10 (va_up (va_cpy (fun _ => none) (fun _ => none) 0 1 0) 0 (some y)))], T]) [1, 0, 2] rfl (by decide) rfl) hP) (z_Dq (z_bk (bs := [[(q, zOb g 10 (va_up (va_cpy (fun _ => none) (fun _ => none) 0 1 0) 0 (some y)))], [(a, zo 3 [.int (x + 1), .ref q, .int (nI 1)])], T]) (bs' := [[(a, zo 3 [.int (x + 1), .ref q, .int (nI 1)])], [(q, zOb g 10 (va_up (va_cpy (fun _ => none) (fun _ => none) 0 1 0) 0 (some y)))], T]) [1, 0, 2] rfl (by decide) rfl) hD) hS (by omega) (by omega) ⟨_, _, 10, _, rfl, zL_ins (zL_0 (fun _ => none)) (Nat.le_refl _) (fun j hj => absurd hj (Nat.not_lt_zero _)) (va_up_self _ _ _) (fun j h1 h2 => absurd h2 (Nat.not_lt.mpr h1)), Nat.le_of_ble_eq_true rfl, h0, fun h => absurd h (by decide)⟩ d_AL_add2_64
set_option maxHeartbeats 4000000 in
set_option maxRecDepth 100000 in
theorem c_AL_add2_1 (l : Launch) (g : zT) (T : va_W) (a ed cap y i Bd : Nat) (xs : List Nat) (x : Int32) (f : Nat → Option Nat) (hL : zL f xs) (h1 : xs.length ≤ cap) (h2 : 0 < cap) (h3 : cap ≤ Bd) (h4 : Bd < 60000) (h5 : xs.length + xs.length / 2 + 10 ≤ Bd) (hi : i ≤ xs.length) (hy : zel T y) (he : ∀ z ∈ xs, zel T z) : Met l y_AL_add2 (zw y_AL_add2 b_AL_add2 5 (none)) (zR 5 113 1 (xs.length + xs.length / 2 + 10)) (zP g [.ref a, .int (nI i), .ref y] ((a, zo 3 [.int x, .ref ed, .int (nI xs.length)]) :: (ed, zOb g cap f) :: T)) (zQv g (fun w => zLs g a (xs.insertIdx i y) Bd T w)) 1 (xs.length + xs.length / 2 + 10) (zA g) := by
  refine zMet (by decide) (Nat.le_of_ble_eq_true rfl) ?_
  intro p e s m below meth c ls C hr hlk hnm hP hD hl
  have hx := C.1.1
  have hb := C.1.2.1
  have hS : va_S (zA g) s.heap s.heap [] := va_S.rf
  have hl : lv_has ls 5 [(0, .ref a), (1, .int (nI i)), (2, .ref y)] := hl
  have L_38 : ∀ (q cap2 : Nat) (f2 : Nat → Option Nat) (_ : xs.length < cap2) (_ : cap2 ≤ Bd) (_ : zL f2 xs) (H : Heap) (locs : List Loc), va_P g.1 classes ((a, zo 3 [.int (x + 1), .ref q, .int (nI xs.length)]) :: (q, zOb g cap2 f2) :: T) H → va_D (zA g) ((a, zo 3 [.int (x + 1), .ref q, .int (nI xs.length)]) :: (q, zOb g cap2 f2) :: T) → va_S (zA g) s.heap H locs → ∀ ls : Array Slot, lv_has ls 5 [(0, .ref a), (1, .int (nI i)), (2, .ref y), (3, .int (nI xs.length)), (4, .ref q)] → W p l e (zR 5 113 1 (xs.length + xs.length / 2 + 10)) s m [.ref a, .int (nI i), .ref y].toArray below meth c H locs 1 (xs.length + xs.length / 2 + 10) (MQ below (zQv g (fun w => zLs g a (xs.insertIdx i y) Bd T w)) [.ref a, .int (nI i), .ref y].toArray s 1 (xs.length + xs.length / 2 + 10) (zA g)) (F0 m 38 ls []) := by
    intro q cap2 f2 g1 g2 g3 H locs hP hD hS ls hl
    refine lv_aload hx hb d_AL_add2_38 (lv_at hl 4 rfl) ?_
    refine lv_iload_n hx hb d_AL_add2_40 rfl (lv_at hl 1 rfl) ?_
    refine lv_aload hx hb d_AL_add2_41 (lv_at hl 4 rfl) ?_
    refine lv_iload_n hx hb d_AL_add2_43 rfl (lv_at hl 1 rfl) ?_
    refine lv_iconst (v := nI 1) hx hb d_AL_add2_44 (by decide) ?_
    refine z_iadd (v := nI (i + 1)) C d_AL_add2_45 (nI_add _ _) ?_
    refine lv_iload_n hx hb d_AL_add2_46 rfl (lv_at hl 3 rfl) ?_
    refine lv_iload_n hx hb d_AL_add2_47 rfl (lv_at hl 1 rfl) ?_
    refine z_isub (v := nI (xs.length - i)) C d_AL_add2_48 (pk_sub (by omega)) ?_
    refine z_copyO C hP hD hS hl.1 (List.mem_cons_of_mem _ List.mem_cons_self) 1 rfl i (i + 1) (xs.length - i) (by omega) (by omega) (by omega) (by omega) (fun j hj z hz => (he z (zL_mem g3 (by omega) hz)).mono fun _ q => List.mem_cons_of_mem _ (List.mem_cons_of_mem _ q)) k_451 (Nat.le_of_ble_eq_true rfl) (Nat.le_of_ble_eq_true rfl) d_AL_add2_49 (ws' := (a, zo 3 [.int (x + 1), .ref q, .int (nI xs.length)]) :: (q, zOb g cap2 (va_cpy f2 f2 i (i + 1) (xs.length - i))) :: T) rfl (fun H locs hP hD hS => ?_)
    refine lv_aload hx hb d_AL_add2_52 (lv_at hl 4 rfl) ?_
    refine lv_iload_n hx hb d_AL_add2_54 rfl (lv_at hl 1 rfl) ?_
    refine lv_aload_n hx hb d_AL_add2_55 rfl (lv_at hl 2 rfl) ?_
    refine z_aast C hP hD hS 1 rfl i (by omega) (by omega) (hy.mono fun _ z => List.mem_cons_of_mem _ (List.mem_cons_of_mem _ z)) d_AL_add2_56 (ws' := (a, zo 3 [.int (x + 1), .ref q, .int (nI xs.length)]) :: (q, zOb g cap2 (va_up (va_cpy f2 f2 i (i + 1) (xs.length - i)) i (some y))) :: T) rfl (fun H locs hP hD hS => ?_)
    refine lv_aload_n hx hb d_AL_add2_57 rfl (lv_at hl 0 rfl) ?_
    refine lv_iload_n hx hb d_AL_add2_58 rfl (lv_at hl 3 rfl) ?_
    refine lv_iconst (v := nI 1) hx hb d_AL_add2_59 (by decide) ?_
    refine z_iadd (v := nI (xs.length + 1)) C d_AL_add2_60 (nI_add _ _) ?_
    refine z_put C hP hD hS 0 rfl q_AL 2 (by decide) k_67 (fun _ h9 => h9) rfl rfl rfl (Nat.le_of_ble_eq_true rfl) d_AL_add2_61 (ws' := (a, zo 3 [.int (x + 1), .ref q, .int (nI (xs.length + 1))]) :: (q, zOb g cap2 (va_up (va_cpy f2 f2 i (i + 1) (xs.length - i)) i (some y))) :: T) rfl (fun H locs hP hD hS => ?_)
    have hlen : (xs.insertIdx i y).length = xs.length + 1 := List.length_insertIdx_of_le_length hi y
    exact z_vret C hr hlk hP hD hS (by omega) (by omega) ⟨x + 1, q, cap2, _, by rw [hlen, wA_s (by omega)]; rfl, zL_ins g3 hi (fun j hj => by rw [va_up_ne _ _ (by omega), pk_cpy_out (Or.inl (by omega))]) (va_up_self _ _ _) (fun j q1 q2 => by rw [va_up_ne _ _ (by omega), pk_cpy_in (by omega) (by omega)]; congr 1; omega), by rw [hlen]; omega, g2, fun h => by omega⟩ d_AL_add2_64
  refine lv_aload_n hx hb d_AL_add2_0 rfl (lv_at hl 0 rfl) ?_
  refine lv_iload_n hx hb d_AL_add2_1 rfl (lv_at hl 1 rfl) ?_
  refine z_kv (z_runV (np := 1) C (c_AL_rangeCheckForAdd l g ((a, zo 3 [.int x, .ref ed, .int (nI xs.length)]) :: (ed, zOb g cap f) :: T) a ed xs.length i x List.mem_cons_self (by omega) (by omega)) hP hD hS List.mem_cons_self (show classes[3]? = some (R_AL, F_AL, 3) from rfl) k_405 k_6 k_402 k_404 ks_AL_rangeCheckForAdd ⟨by decide, by decide, by decide⟩ ⟨Nat.le_of_ble_eq_true rfl, Nat.le_of_ble_eq_true rfl⟩ rfl hl.1 rfl (Nat.le_of_ble_eq_true rfl) d_AL_add2_2 ⟨by show _ ≤ 1; omega, by show _ ≤ (xs.length + xs.length / 2 + 10); omega⟩) hS (fun w H locs hw hP hD hS => ?_)
  rw [hw] at hP hD
  refine lv_aload_n hx hb d_AL_add2_5 rfl (lv_at hl 0 rfl) ?_
  refine lv_dup hx hb d_AL_add2_6 rfl ?_
  refine z_get C hP List.mem_cons_self q_AL 0 (by decide) k_69 (u_same (C.ts k_70 rfl)) rfl d_AL_add2_7 ?_
  refine lv_iconst (v := nI 1) hx hb d_AL_add2_10 (by decide) ?_
  refine z_iadd (v := x + 1) C d_AL_add2_11 rfl ?_
  refine z_put C hP hD hS 0 rfl q_AL 0 (by decide) k_69 (u_same (C.ts k_70 rfl)) rfl rfl rfl (Nat.le_of_ble_eq_true rfl) d_AL_add2_12 (ws' := (a, zo 3 [.int (x + 1), .ref ed, .int (nI xs.length)]) :: (ed, zOb g cap f) :: T) rfl (fun H locs hP hD hS => ?_)
  refine lv_aload_n hx hb d_AL_add2_15 rfl (lv_at hl 0 rfl) ?_
  refine z_get C hP List.mem_cons_self q_AL 2 (by decide) k_67 (fun _ h9 => h9) rfl d_AL_add2_16 ?_
  refine lv_dup hx hb d_AL_add2_19 rfl ?_
  refine lv_istore_n (lv' := [(3, .int (nI xs.length)), (0, .ref a), (1, .int (nI i)), (2, .ref y)]) hx hb d_AL_add2_20 rfl hl (by decide) rfl (fun ls hl => ?_)
  refine lv_aload_n hx hb d_AL_add2_21 rfl (lv_at hl 1 rfl) ?_
  refine z_get C hP List.mem_cons_self q_AL 1 (by decide) k_66 (fun _ h9 => h9) rfl d_AL_add2_22 ?_
  refine lv_dup hx hb d_AL_add2_25 rfl ?_
  refine lv_astore (lv' := [(4, .ref ed), (3, .int (nI xs.length)), (0, .ref a), (1, .int (nI i)), (2, .ref y)]) hx hb d_AL_add2_26 hl (by decide) rfl (fun ls hl => ?_)
  refine z_alenO C hP (List.mem_cons_of_mem _ List.mem_cons_self) d_AL_add2_28 ?_
  refine lv_icmp_ne (tgt := 38) hx hb d_AL_add2_29 (by decide) (fun c_29 => ?_) (fun c_29 => ?_)
  · skip
    have c_29 : ¬ xs.length = cap := fun q9 => c_29 ((nI_eq (a := xs.length) (b := cap) (by omega) (by omega)).mpr q9)
    refine W.widen (k := 1) (n := xs.length + xs.length / 2 + 10) (by omega) (by omega) ?_
    exact L_38 ed cap f (by omega) (by omega) hL _ _ hP hD hS ls (lv_sub hl [2, 3, 4, 1, 0] rfl)
  · skip
    have c_29 : xs.length = cap := (nI_eq (a := xs.length) (b := cap) (by omega) (by omega)).mp c_29
    refine lv_aload_n hx hb d_AL_add2_32 rfl (lv_at hl 2 rfl) ?_
    refine z_kq (z_runV (np := 0) C (c_AL_grow0 l g ((ed, zOb g cap f) :: T) a ed xs.length (x + 1) f (by rw [c_29]; exact List.mem_cons_self) (by omega) (by omega) (fun j hj z hz => (he z (zL_mem hL (by omega) hz)).mono fun _ q => List.mem_cons_of_mem _ q)) hP hD hS List.mem_cons_self (show classes[3]? = some (R_AL, F_AL, 3) from rfl) k_409 k_6 k_406 k_408 ks_AL_grow0 ⟨by decide, by decide, by decide⟩ ⟨Nat.le_of_ble_eq_true rfl, Nat.le_of_ble_eq_true rfl⟩ rfl hl.1 rfl (Nat.le_of_ble_eq_true rfl) d_AL_add2_33 ⟨by show _ ≤ 1; omega, by show _ ≤ (xs.length + xs.length / 2 + 10); omega⟩) hS (fun r_33 w H locs hw hP hD hS => ?_)
    obtain ⟨q, f2, rfl, hw, hf⟩ := hw
    rw [hw] at hP hD
    refine lv_astore (lv' := [(4, .ref q), (3, .int (nI xs.length)), (0, .ref a), (1, .int (nI i)), (2, .ref y)]) hx hb d_AL_add2_36 hl (by decide) rfl (fun ls hl => ?_)
    refine W.widen (k := 1) (n := xs.length + xs.length / 2 + 10) (by omega) (by omega) ?_
    have hP : va_P g.1 classes ((a, zo 3 [.int (x + 1), .ref q, .int (nI xs.length)]) :: (q, zOb g (xs.length + max 1 (xs.length / 2)) f2) :: T) H := z_Ps hP (fun z hz => by simp only [List.mem_cons] at hz ⊢; rcases hz with h | h | h <;> simp [h])
    have hD : va_D (zA g) ((a, zo 3 [.int (x + 1), .ref q, .int (nI xs.length)]) :: (q, zOb g (xs.length + max 1 (xs.length / 2)) f2) :: T) := z_Dq (List.Perm.swap _ _ _) (z_Dsub hD (List.Sublist.cons₂ _ (List.Sublist.cons₂ _ (List.sublist_cons_self _ _))))
    exact L_38 q (xs.length + max 1 (xs.length / 2)) f2 (by omega) (by omega) (zL_eq hL hf) _ _ hP hD hS ls (lv_sub hl [2, 3, 4, 1, 0] rfl)
