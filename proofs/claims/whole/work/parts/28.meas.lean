set_option maxHeartbeats 4000000 in
set_option maxRecDepth 100000 in
theorem c_Lst_measure (l : Launch) (g : zT) (T : va_W) (h rw len hd bg mk ly : Nat) (dr li ed n cap : Nat) (x : Int32) (f : Nat → Option Nat) (ef : Nat → zE) (hdr : (dr, zo 2 [.ref li]) ∈ T) (hli : (li, zo 3 [.int x, .ref ed, .int (nI n)]) ∈ T) (hed : 0 < n → (ed, zOb g cap f) ∈ T) (k1 : n ≤ cap) (k2 : cap < 60000) (k3 : n ≤ 600) (hE : ∀ j, j < n → ∃ a, f j = some a ∧ isEnt g T a (ef j)) (hO : ∀ j, j < n → okE (ef j)) (b b0 hs en ha hn he ea : Nat) (hh : (h, zo 5 [.ref rw, .int (nI len), .int (nI hd), .int (nI bg), .ref mk, .ref ly]) ∈ T) (y1 : b ≤ 40000) (y2 : hs < 2 ^ 20) (y3 : hn < 2 ^ 20) : Met l y_Lst_measure (zw y_Lst_measure b_Lst_measure 4 (some .int)) (zR 3 65 0 0) (zP g [.ref h, .ref dr, .int (nI b)] ((ly, zo 6 [.int (nI b0), .int (nI hs), .int (nI en), .int (nI ha), .int (nI hn), .int (nI he), .int (nI ea)]) :: T)) (zQi g (fun r w => r = nI (layN b ef n).2.1 ∧ ∃ (hs en ha hn he ea : Nat), w = (ly, zo 6 [.int (nI b), .int (nI hs), .int (nI en), .int (nI ha), .int (nI hn), .int (nI he), .int (nI ea)]) :: T ∧ hs < 2 ^ 20 ∧ hn < 2 ^ 20)) 0 0 (zA g) := by
  refine zMet (by decide) (Nat.le_of_ble_eq_true rfl) ?_
  intro p e s m below meth c ls C hr hlk hnm hP hD hl
  have hx := C.1.1
  have hb := C.1.2.1
  have hS : va_S (zA g) s.heap s.heap [] := va_S.rf
  have hl : lv_has ls 4 [(0, .ref h), (1, .ref dr), (2, .int (nI b))] := hl
  have L_10 : ∀ (nu : Nat) (i hs en ha hn he ea : Nat) (_ : i ≤ n) (_ : layR (hs, en, ha, hn, he, ea) (layN b ef i)) (_ : hs < 2 ^ 20) (_ : hn < 2 ^ 20) (_ : n - i < nu) (H : Heap) (locs : List Loc), va_P g.1 classes ((ly, zo 6 [.int (nI b), .int (nI hs), .int (nI en), .int (nI ha), .int (nI hn), .int (nI he), .int (nI ea)]) :: T) H → va_D (zA g) ((ly, zo 6 [.int (nI b), .int (nI hs), .int (nI en), .int (nI ha), .int (nI hn), .int (nI he), .int (nI ea)]) :: T) → va_S (zA g) s.heap H locs → ∀ ls : Array Slot, lv_has ls 4 [(0, .ref h), (1, .ref dr), (2, .int (nI b)), (3, .int (nI i))] → W p l e (zR 3 65 0 0) s m [.ref h, .ref dr, .int (nI b)].toArray below meth c H locs 0 0 (MQ below (zQi g (fun r w => r = nI (layN b ef n).2.1 ∧ ∃ (hs en ha hn he ea : Nat), w = (ly, zo 6 [.int (nI b), .int (nI hs), .int (nI en), .int (nI ha), .int (nI hn), .int (nI he), .int (nI ea)]) :: T ∧ hs < 2 ^ 20 ∧ hn < 2 ^ 20)) [.ref h, .ref dr, .int (nI b)].toArray s 0 0 (zA g)) (F0 m 10 ls []) := by
    intro nu
    induction nu with
    | zero => intros; omega
    | succ nu ih =>
      intro i hs en ha hn he ea hi hR g1 g2 hmu H locs hP hD hS ls hl
      refine lv_iload_n hx hb d_Lst_measure_10 rfl (lv_at hl 3 rfl) ?_
      refine lv_aload_n hx hb d_Lst_measure_11 rfl (lv_at hl 1 rfl) ?_
      refine z_get C hP (List.mem_cons_of_mem _ hdr) q_Dir 0 (by decide) k_79 (fun _ h9 => h9) rfl d_Lst_measure_12 ?_
      refine z_ki (z_runV (np := 0) C (c_AL_size l g ((ly, zo 6 [.int (nI b), .int (nI hs), .int (nI en), .int (nI ha), .int (nI hn), .int (nI he), .int (nI ea)]) :: T) li ed x (nI n) (List.mem_cons_of_mem _ hli)) hP hD hS (List.mem_cons_of_mem _ hli) (show classes[3]? = some (R_AL, F_AL, 3) from rfl) k_296 k_6 k_514 k_294 k_295 ⟨by decide, by decide, by decide⟩ ⟨Nat.le_of_ble_eq_true rfl, Nat.le_of_ble_eq_true rfl⟩ rfl hl.1 rfl (Nat.le_of_ble_eq_true rfl) d_Lst_measure_15 ⟨by show _ ≤ 0; omega, by show _ ≤ 0; omega⟩) hS (fun r_15 w H locs hw hP hD hS => ?_)
      obtain ⟨rfl, hw⟩ := hw
      rw [hw] at hP hD
      refine lv_icmp_ge (tgt := 46) hx hb d_Lst_measure_18 (by decide) (fun c_18 => ?_) (fun c_18 => ?_)
      · skip
        have c_18 : n ≤ i := (nI_leI (a := n) (b := i) (by omega) (by omega)).mp c_18
        refine lv_aload_n hx hb d_Lst_measure_46 rfl (lv_at hl 0 rfl) ?_
        refine z_get C hP (List.mem_cons_of_mem _ hh) q_Lst 5 (by decide) k_151 (fun _ h9 => h9) rfl d_Lst_measure_47 ?_
        refine z_get C hP List.mem_cons_self q_Lay 2 (by decide) k_112 (fun _ h9 => h9) rfl d_Lst_measure_50 ?_
        exact z_iret C hr hlk hP hD hS (by omega) (by omega) ⟨by rw [show n = i by omega, ← layR_e hR], _, _, _, _, _, _, rfl, g1, g2⟩ d_Lst_measure_53
      · skip
        have c_18 : ¬ n ≤ i := fun q9 => c_18 ((nI_leI (a := n) (b := i) (by omega) (by omega)).mpr q9)
        refine lv_aload_n hx hb d_Lst_measure_21 rfl (lv_at hl 0 rfl) ?_
        refine z_get C hP (List.mem_cons_of_mem _ hh) q_Lst 5 (by decide) k_151 (fun _ h9 => h9) rfl d_Lst_measure_22 ?_
        refine lv_aload_n hx hb d_Lst_measure_25 rfl (lv_at hl 1 rfl) ?_
        refine z_get C hP (List.mem_cons_of_mem _ hdr) q_Dir 0 (by decide) k_79 (fun _ h9 => h9) rfl d_Lst_measure_26 ?_
        refine lv_iload_n hx hb d_Lst_measure_29 rfl (lv_at hl 3 rfl) ?_
        obtain ⟨a, hf, ⟨nm, nf, hm2, hm3, hz⟩⟩ := hE i (by omega)
        have ho := hO i (by omega)
        have bd9 := layN_bd (b := b) (fun j hj => hO j (Nat.lt_trans hj (show i < n by omega)))
        have q1 := layR_e hR
        have q2 := layR_a hR
        have q3 := layR_h hR
        unfold okE at ho
        dsimp only at q1 q2 q3
        refine z_kq (z_runV (np := 1) C (c_AL_get l g ((ly, zo 6 [.int (nI b), .int (nI hs), .int (nI en), .int (nI ha), .int (nI hn), .int (nI he), .int (nI ea)]) :: T) li ed n cap i a x f (List.mem_cons_of_mem _ hli) (List.mem_cons_of_mem _ (hed (by omega))) (by omega) k1 (by omega) hf) hP hD hS (List.mem_cons_of_mem _ hli) (show classes[3]? = some (R_AL, F_AL, 3) from rfl) k_304 k_6 k_515 k_302 k_303 ⟨by decide, by decide, by decide⟩ ⟨Nat.le_of_ble_eq_true rfl, Nat.le_of_ble_eq_true rfl⟩ rfl hl.1 rfl (Nat.le_of_ble_eq_true rfl) d_Lst_measure_30 ⟨by show _ ≤ 0; omega, by show _ ≤ 0; omega⟩) hS (fun r_30 w H locs hw hP hD hS => ?_)
        obtain ⟨rfl, hw⟩ := hw
        rw [hw] at hP hD
        refine z_cast C hP (List.mem_cons_of_mem _ hm2) (show classes[9]? = some (R_Ent, F_Ent, 5) from rfl) k_516 k_986 d_Lst_measure_33 ?_
        refine z_ki (z_runV (np := 1) C (c_Lay_lay l g T ly b hs en ha hn he ea a nm (ef i).2.1 (ef i).2.2.1 (ef i).2.2.2.1 (ef i).2.2.2.2 (ef i).1.length nf hm2 hm3 (by omega) (by omega) (by omega) (by omega) (by omega) (by omega) (by omega) (by omega) (by omega)) hP hD hS List.mem_cons_self (show classes[6]? = some (R_Lay, F_Lay, 7) from rfl) k_520 k_9 k_517 k_518 k_519 ⟨by decide, by decide, by decide⟩ ⟨Nat.le_of_ble_eq_true rfl, Nat.le_of_ble_eq_true rfl⟩ rfl hl.1 rfl (Nat.le_of_ble_eq_true rfl) d_Lst_measure_36 ⟨by show _ ≤ 0; omega, by show _ ≤ 0; omega⟩) hS (fun r_36 w H locs hw hP hD hS => ?_)
        obtain ⟨rfl, hw⟩ := hw
        rw [hw] at hP hD
        refine lv_pop hx hb d_Lst_measure_39 rfl ?_
        refine lv_iinc (v := nI (i + 1)) (lv' := [(3, .int (nI (i + 1))), (0, .ref h), (1, .ref dr), (2, .int (nI b))]) hx hb d_Lst_measure_40 hl (k := 3) rfl (by rw [show Int32.ofInt 1 = nI 1 by decide]; exact nI_add _ _) (by decide) rfl (fun ls hl => ?_)
        refine lv_goto (tgt := 10) hx hb d_Lst_measure_43 (by decide) ?_
        exact ih (i + 1) _ _ _ _ _ _ (by omega) (Or.inl (by show _ = layS b (layN b ef i) (ef i); rw [← layR_s hR]; unfold layS; split <;> (rename_i q9; simp [q9]))) (by split <;> omega) (by split <;> omega) (by omega) _ _ hP hD hS ls (lv_sub hl [1, 2, 3, 0] rfl)
  refine lv_aload_n hx hb d_Lst_measure_0 rfl (lv_at hl 0 rfl) ?_
  refine z_get C hP (List.mem_cons_of_mem _ hh) q_Lst 5 (by decide) k_151 (fun _ h9 => h9) rfl d_Lst_measure_1 ?_
  refine lv_iload_n hx hb d_Lst_measure_4 rfl (lv_at hl 2 rfl) ?_
  refine z_kv (z_runV (np := 1) C (c_Lay_restart l g T ly b (nI b0) (nI hs) (nI en) (nI ha) (nI hn) (nI he) (nI ea)) hP hD hS List.mem_cons_self (show classes[6]? = some (R_Lay, F_Lay, 7) from rfl) k_513 k_9 k_510 k_511 k_512 ⟨by decide, by decide, by decide⟩ ⟨Nat.le_of_ble_eq_true rfl, Nat.le_of_ble_eq_true rfl⟩ rfl hl.1 rfl (Nat.le_of_ble_eq_true rfl) d_Lst_measure_5 ⟨by show _ ≤ 0; omega, by show _ ≤ 0; omega⟩) hS (fun w H locs hw hP hD hS => ?_)
  rw [hw] at hP hD
  refine lv_iconst (v := nI 0) hx hb d_Lst_measure_8 (by decide) ?_
  refine lv_istore_n (lv' := [(3, .int (nI 0)), (0, .ref h), (1, .ref dr), (2, .int (nI b))]) hx hb d_Lst_measure_9 rfl hl (by decide) rfl (fun ls hl => ?_)
  exact L_10 _ 0 hs 0 0 hn 0 ea (Nat.zero_le _) (Or.inr ⟨rfl, rfl, rfl, rfl⟩) y2 y3 (Nat.lt_succ_self _) _ _ hP hD hS ls (lv_sub hl [1, 2, 3, 0] rfl)
