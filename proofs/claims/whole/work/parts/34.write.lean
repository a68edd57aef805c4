set_option maxHeartbeats 4000000 in
set_option maxRecDepth 100000 in
theorem c_Lst_write (l : Launch) (g : zT) (T : va_W) (h rw len hd bg mk ly rn : Nat) (rf : Nat → UInt8) (dr li ed n cap : Nat) (x : Int32) (f : Nat → Option Nat) (ef : Nat → zE) (hdr : (dr, zo 2 [.ref li]) ∈ T) (hli : (li, zo 3 [.int x, .ref ed, .int (nI n)]) ∈ T) (hed : 0 < n → (ed, zOb g cap f) ∈ T) (k1 : n ≤ cap) (k2 : cap < 60000) (k3 : n ≤ 600) (hE : ∀ j, j < n → ∃ a, f j = some a ∧ isEnt g T a (ef j)) (hO : ∀ j, j < n → okE (ef j)) (b b0 hs en ha hn he ea : Nat) (med mcap : Nat) (mx : Int32) (mfn : Nat → Option Nat) (xs : List Nat) (m1 : xs.length ≤ mcap) (m2 : mcap ≤ 200) (mc0 : mcap = 0 → med = g.2.2.2.1) (y1 : (layN b ef n).2.1 + 12 ≤ rn) (y2 : rn ≤ 65536) (y3 : b ≤ 40000) (y7 : hs < 2 ^ 20) (y8 : hn < 2 ^ 20) : Met l y_Lst_write (zw y_Lst_write b_Lst_write 5 (some .boolean)) (zR 9 203 30 600) (zP g [.ref h, .ref dr, .int (nI b)] ((h, zo 5 [.ref rw, .int (nI len), .int (nI hd), .int (nI bg), .ref mk, .ref ly]) :: (rw, zBy g rn rf) :: (ly, zo 6 [.int (nI b0), .int (nI hs), .int (nI en), .int (nI ha), .int (nI hn), .int (nI he), .int (nI ea)]) :: (mk, zo 3 [.int mx, .ref med, .int (nI xs.length)]) :: (wA g med mcap mfn ++ T))) (zQi g (fun r w => r = nI 1 ∧ ∃ (Na : va_W) (xs : List Nat) (mx : Int32) (med mcap hs en ha hn he ea : Nat) (mfn : Nat → Option Nat), w = (h, zo 5 [.ref rw, .int (nI ((layN b ef n).2.1)), .int (nI (hdN b ef n)), .int (nI b), .ref mk, .ref ly]) :: (rw, zBy g rn (mkF b ef rf n)) :: (ly, zo 6 [.int (nI b), .int (nI hs), .int (nI en), .int (nI ha), .int (nI hn), .int (nI he), .int (nI ea)]) :: (mk, zo 3 [.int mx, .ref med, .int (nI xs.length)]) :: (wA g med mcap mfn ++ (Na ++ T)) ∧ isMks g (Na ++ T) xs (mkL b ef n) ∧ zL mfn xs ∧ xs.length ≤ mcap ∧ mcap ≤ 200 ∧ (mcap = 0 → med = g.2.2.2.1) ∧ hs < 2 ^ 20 ∧ hn < 2 ^ 20)) 30 600 (zA g) := by
  refine zMet (by decide) (Nat.le_of_ble_eq_true rfl) ?_
  intro p e s m below meth c ls C hr hlk hnm hP hD hl
  have hx := C.1.1
  have hb := C.1.2.1
  have hS : va_S (zA g) s.heap s.heap [] := va_S.rf
  have hl : lv_has ls 5 [(0, .ref h), (1, .ref dr), (2, .int (nI b))] := hl
  have L_65 : ∀ (nu : Nat) (i hd2 hs en ha hn he ea med mcap cc ss : Nat) (f2 : Nat → UInt8) (Na : va_W) (xs : List Nat) (mx : Int32) (mfn : Nat → Option Nat) (_ : i ≤ n) (_ : layR (hs, en, ha, hn, he, ea) (layN b ef i)) (_ : hs < 2 ^ 20) (_ : hn < 2 ^ 20) (_ : f2 = mkF b ef rf i) (_ : hd2 = hdN b ef i) (_ : isMks g (Na ++ T) xs (mkL b ef i)) (_ : zL mfn xs) (_ : xs.length ≤ mcap) (_ : mcap ≤ 200) (_ : mcap = 0 → med = g.2.2.2.1) (_ : cc ≤ 2 * xs.length) (_ : ss ≤ 40 * xs.length) (_ : n - i < nu) (H : Heap) (locs : List Loc), va_P g.1 classes ((h, zo 5 [.ref rw, .int (nI ((layN b ef n).2.1)), .int (nI hd2), .int (nI b), .ref mk, .ref ly]) :: (rw, zBy g rn f2) :: (ly, zo 6 [.int (nI b), .int (nI hs), .int (nI en), .int (nI ha), .int (nI hn), .int (nI he), .int (nI ea)]) :: (mk, zo 3 [.int mx, .ref med, .int (nI xs.length)]) :: (wA g med mcap mfn ++ (Na ++ T))) H → va_D (zA g) ((h, zo 5 [.ref rw, .int (nI ((layN b ef n).2.1)), .int (nI hd2), .int (nI b), .ref mk, .ref ly]) :: (rw, zBy g rn f2) :: (ly, zo 6 [.int (nI b), .int (nI hs), .int (nI en), .int (nI ha), .int (nI hn), .int (nI he), .int (nI ea)]) :: (mk, zo 3 [.int mx, .ref med, .int (nI xs.length)]) :: (wA g med mcap mfn ++ (Na ++ T))) → va_S (zA g) s.heap H locs → ∀ ls : Array Slot, lv_has ls 5 [(0, .ref h), (1, .ref dr), (2, .int (nI b)), (3, .int (nI ((layN b ef n).2.1))), (4, .int (nI i))] → W p l e (zR 9 203 30 600) s m [.ref h, .ref dr, .int (nI b)].toArray below meth c H locs cc ss (MQ below (zQi g (fun r w => r = nI 1 ∧ ∃ (Na : va_W) (xs : List Nat) (mx : Int32) (med mcap hs en ha hn he ea : Nat) (mfn : Nat → Option Nat), w = (h, zo 5 [.ref rw, .int (nI ((layN b ef n).2.1)), .int (nI (hdN b ef n)), .int (nI b), .ref mk, .ref ly]) :: (rw, zBy g rn (mkF b ef rf n)) :: (ly, zo 6 [.int (nI b), .int (nI hs), .int (nI en), .int (nI ha), .int (nI hn), .int (nI he), .int (nI ea)]) :: (mk, zo 3 [.int mx, .ref med, .int (nI xs.length)]) :: (wA g med mcap mfn ++ (Na ++ T)) ∧ isMks g (Na ++ T) xs (mkL b ef n) ∧ zL mfn xs ∧ xs.length ≤ mcap ∧ mcap ≤ 200 ∧ (mcap = 0 → med = g.2.2.2.1) ∧ hs < 2 ^ 20 ∧ hn < 2 ^ 20)) [.ref h, .ref dr, .int (nI b)].toArray s 30 600 (zA g)) (F0 m 65 ls []) := by
    intro nu
    induction nu with
    | zero => intros; omega
    | succ nu ih =>
      intro i hd2 hs en ha hn he ea med mcap cc ss f2 Na xs mx mfn hi hR g1 g2 e1 e2 hM hL m1 m2 mc0 r1 r2 hmu H locs hP hD hS ls hl
      have few0 := mkL_few (b := b) (n := i) (fun j hj => hO j (by omega))
      have bd0 := layN_bd (b := b) (n := i) (fun j hj => hO j (by omega))
      have bm0 := layN_mono (b := b) (ef := ef) hi
      have hx0 : xs.length ≤ 12 := by rw [hM.1]; omega
      refine lv_iload hx hb d_Lst_write_65 (lv_at hl 4 rfl) ?_
      refine lv_aload_n hx hb d_Lst_write_67 rfl (lv_at hl 1 rfl) ?_
      refine z_get C hP (List.mem_cons_of_mem _ (List.mem_cons_of_mem _ (List.mem_cons_of_mem _ (List.mem_cons_of_mem _ (List.mem_append_right _ (List.mem_append_right _ hdr)))))) q_Dir 0 (by decide) k_79 (fun _ h9 => h9) rfl d_Lst_write_68 ?_
      refine z_ki (z_runV (np := 0) C (c_AL_size l g ((h, zo 5 [.ref rw, .int (nI ((layN b ef n).2.1)), .int (nI hd2), .int (nI b), .ref mk, .ref ly]) :: (rw, zBy g rn f2) :: (ly, zo 6 [.int (nI b), .int (nI hs), .int (nI en), .int (nI ha), .int (nI hn), .int (nI he), .int (nI ea)]) :: (mk, zo 3 [.int mx, .ref med, .int (nI xs.length)]) :: (wA g med mcap mfn ++ (Na ++ T))) li ed x (nI n) (List.mem_cons_of_mem _ (List.mem_cons_of_mem _ (List.mem_cons_of_mem _ (List.mem_cons_of_mem _ (List.mem_append_right _ (List.mem_append_right _ hli))))))) hP hD hS (List.mem_cons_of_mem _ (List.mem_cons_of_mem _ (List.mem_cons_of_mem _ (List.mem_cons_of_mem _ (List.mem_append_right _ (List.mem_append_right _ hli)))))) (show classes[3]? = some (R_AL, F_AL, 3) from rfl) k_296 k_6 k_514 k_294 k_295 ⟨by decide, by decide, by decide⟩ ⟨Nat.le_of_ble_eq_true rfl, Nat.le_of_ble_eq_true rfl⟩ rfl hl.1 rfl (Nat.le_of_ble_eq_true rfl) d_Lst_write_71 ⟨by show _ ≤ 30; omega, by show _ ≤ 600; omega⟩) hS (fun r_71 w H locs hw hP hD hS => ?_)
      obtain ⟨rfl, hw⟩ := hw
      rw [hw] at hP hD
      refine lv_icmp_ge (tgt := 99) hx hb d_Lst_write_74 (by decide) (fun c_74 => ?_) (fun c_74 => ?_)
      · skip
        have c_74 : n ≤ i := (nI_leI (a := n) (b := i) (by omega) (by omega)).mp c_74
        refine lv_iconst (v := nI 1) hx hb d_Lst_write_99 (by decide) ?_
        exact z_zret C hr hlk hP hD hS (by omega) (by omega) (by first | exact Or.inl rfl | exact Or.inr rfl) ⟨rfl, Na, xs, mx, med, mcap, hs, en, ha, hn, he, ea, mfn, by rw [e1, e2, show n = i by omega], by rw [show n = i by omega]; exact hM, hL, m1, m2, mc0, g1, g2⟩ d_Lst_write_100
      · skip
        have c_74 : ¬ n ≤ i := fun q9 => c_74 ((nI_leI (a := n) (b := i) (by omega) (by omega)).mpr q9)
        refine lv_aload_n hx hb d_Lst_write_77 rfl (lv_at hl 0 rfl) ?_
        refine lv_aload_n hx hb d_Lst_write_78 rfl (lv_at hl 1 rfl) ?_
        refine z_get C hP (List.mem_cons_of_mem _ (List.mem_cons_of_mem _ (List.mem_cons_of_mem _ (List.mem_cons_of_mem _ (List.mem_append_right _ (List.mem_append_right _ hdr)))))) q_Dir 0 (by decide) k_79 (fun _ h9 => h9) rfl d_Lst_write_79 ?_
        refine lv_iload hx hb d_Lst_write_82 (lv_at hl 4 rfl) ?_
        obtain ⟨a, hf, ⟨nm, nf, hm2, hm3, hz⟩⟩ := hE i (by omega)
        have ho := hO i (by omega)
        unfold okE at ho
        have bd9 := layN_bd (b := b) (fun j hj => hO j (Nat.lt_trans hj (show i < n by omega)))
        have bm9 := layN_mono (b := b) (ef := ef) (show i + 1 ≤ n by omega)
        have few := mkL_few (b := b) (fun j hj => hO j (Nat.lt_trans hj (show i < n by omega)))
        have q1 := layR_e hR
        have q2 := layR_a hR
        have q3 := layR_h hR
        dsimp only at q1 q2 q3
        have hml := hM.1
        have hdl := hdN_le (b := b) (ef := ef) (n := i)
        have hFe : layF b hs en ha hn he (ef i).2.1 (ef i).2.2.1 = fitB b ef i := layR_F hR
        have bn9 : en + 8 + (ef i).1.length ≤ (layN b ef (i + 1)).2.1 ∧ (¬ fitB b ef i = true → en + 20 + (ef i).1.length ≤ (layN b ef (i + 1)).2.1) := by
                rcases @layN_s b ef i with ⟨w1, w2⟩ | ⟨w1, w2⟩
                · rw [w2]; refine ⟨?_, fun w3 => absurd w1 w3⟩; show _ ≤ (layN b ef i).2.1 + (8 + (ef i).1.length); omega
                · rw [w2]; refine ⟨?_, fun _ => ?_⟩
                  · show _ ≤ (layN b ef i).2.1 + 12 + (8 + (ef i).1.length); omega
                  · show _ ≤ (layN b ef i).2.1 + 12 + (8 + (ef i).1.length); omega
        have hy1 : en + 20 + (ef i).1.length ≤ rn := by omega
        refine z_kq (z_runV (np := 1) C (c_AL_get l g ((h, zo 5 [.ref rw, .int (nI ((layN b ef n).2.1)), .int (nI hd2), .int (nI b), .ref mk, .ref ly]) :: (rw, zBy g rn f2) :: (ly, zo 6 [.int (nI b), .int (nI hs), .int (nI en), .int (nI ha), .int (nI hn), .int (nI he), .int (nI ea)]) :: (mk, zo 3 [.int mx, .ref med, .int (nI xs.length)]) :: (wA g med mcap mfn ++ (Na ++ T))) li ed n cap i a x f (List.mem_cons_of_mem _ (List.mem_cons_of_mem _ (List.mem_cons_of_mem _ (List.mem_cons_of_mem _ (List.mem_append_right _ (List.mem_append_right _ hli)))))) (List.mem_cons_of_mem _ (List.mem_cons_of_mem _ (List.mem_cons_of_mem _ (List.mem_cons_of_mem _ (List.mem_append_right _ (List.mem_append_right _ (hed (by omega)))))))) (by omega) k1 (by omega) hf) hP hD hS (List.mem_cons_of_mem _ (List.mem_cons_of_mem _ (List.mem_cons_of_mem _ (List.mem_cons_of_mem _ (List.mem_append_right _ (List.mem_append_right _ hli)))))) (show classes[3]? = some (R_AL, F_AL, 3) from rfl) k_304 k_6 k_515 k_302 k_303 ⟨by decide, by decide, by decide⟩ ⟨Nat.le_of_ble_eq_true rfl, Nat.le_of_ble_eq_true rfl⟩ rfl hl.1 rfl (Nat.le_of_ble_eq_true rfl) d_Lst_write_84 ⟨by show _ ≤ 30; omega, by show _ ≤ 600; omega⟩) hS (fun r_84 w H locs hw hP hD hS => ?_)
        obtain ⟨rfl, hw⟩ := hw
        rw [hw] at hP hD
        refine z_cast C hP (List.mem_cons_of_mem _ (List.mem_cons_of_mem _ (List.mem_cons_of_mem _ (List.mem_cons_of_mem _ (List.mem_append_right _ (List.mem_append_right _ hm2)))))) (show classes[9]? = some (R_Ent, F_Ent, 5) from rfl) k_516 k_986 d_Lst_write_87 ?_
        by_cases hQ : layF b hs en ha hn he (ef i).2.1 (ef i).2.2.1 = true ∨ (b + en) / 8192 = (b + ha) / 8192
        · skip
          refine z_kv (z_runV (np := 1) C (c_Lst_writeNext_0 l g (Na ++ T) h rw (layN b ef n).2.1 hd2 mk ly rn f2 b hs en ha hn he ea a nm (ef i).2.1 (ef i).2.2.1 (ef i).2.2.2.1 (ef i).2.2.2.2 (ef i).1.length nf (List.mem_append_right _ hm2) (List.mem_append_right _ hm3) med mcap 200 mx mfn xs hL m1 m2 (by omega) (by omega) mc0 hM.el hy1 y2 y3 (by omega) (by omega) g1 g2 (by omega) (by omega) (by omega) (by omega) hQ) hP hD hS List.mem_cons_self (show classes[5]? = some (R_Lst, F_Lst, 6) from rfl) k_537 k_8 k_534 k_536 ks_Lst_writeNext ⟨by decide, by decide, by decide⟩ ⟨Nat.le_of_ble_eq_true rfl, Nat.le_of_ble_eq_true rfl⟩ rfl hl.1 rfl (Nat.le_of_ble_eq_true rfl) d_Lst_write_90 ⟨by show _ ≤ 30; omega, by show _ ≤ 600; omega⟩) hS (fun w H locs hw hP hD hS => ?_)
          obtain ⟨N, xs2, mx2, med2, mcap2, mfn2, hs2, en2, ha2, hn2, he2, ea2, hw, hS2, hL2, hl2, hb2, hc2, hcs⟩ := hw
          rw [hw] at hP hD
          rw [hz] at hP hD hS2
          refine lv_iinc (v := nI (i + 1)) (lv' := [(4, .int (nI (i + 1))), (0, .ref h), (1, .ref dr), (2, .int (nI b)), (3, .int (nI ((layN b ef n).2.1)))]) hx hb d_Lst_write_93 hl (k := 4) rfl (by rw [show Int32.ofInt 1 = nI 1 by decide]; exact nI_add _ _) (by decide) rfl (fun ls hl => ?_)
          refine lv_goto (tgt := 65) hx hb d_Lst_write_96 (by decide) ?_
          rw [← List.append_assoc N] at hP hD
          rw [hFe] at hP hD
          have hSN : (hs2, en2, ha2, hn2, he2, ea2) = layN b ef (i + 1) := hS2.trans (layR_s hR)
          have hwr : wrE b (hs, en, ha, hn, he, ea) f2 (ef i) = mkF b ef rf (i + 1) := by rw [e1]; exact wrE_R hR
          have hws : wrE b (hs, en, ha, hn, he, ea) f2 ((ef i).1, (ef i).2.1, (ef i).2.2.1, (ef i).2.2.2.1, (ef i).2.2.2.2) = mkF b ef rf (i + 1) := hwr
          rw [hws] at hP hD
          have hhd : (if fitB b ef i = true then hd2 else hd2 + 1) = hdN b ef (i + 1) := by rw [e2]; rfl
          rw [hhd] at hP hD
          have hbs : hs2 < 2 ^ 20 ∧ hn2 < 2 ^ 20 := by
                  unfold layS at hS2
                  split at hS2 <;> cases hS2 <;> (constructor <;> first | exact g1 | exact g2 | (show (ef i).2.2.1 < 1048576; omega) | (show (ef i).2.1 < 1048576; omega))
          have hml2 : isMks g ((N ++ Na) ++ T) xs2 (mkL b ef (i + 1)) ∧ xs2.length = (mkL b ef (i + 1)).length := by
                  have e5 : mkL b ef (i + 1) = if fitB b ef i = true ∨ (b + (layN b ef i).2.1) / 8192 = (b + (layN b ef i).2.2.1) / 8192 then mkL b ef i else mkL b ef i ++ [(nI (layN b ef i).2.1, nI (8194 * ((b + (layN b ef i).2.1) / 8192)), (ef i).1)] := rfl
                  rw [hFe, q1, q2] at hcs
                  have e6 : isMks g ((N ++ Na) ++ T) xs2 (mkL b ef (i + 1)) := by
                    rcases hcs with ⟨z1, rfl, rfl⟩ | ⟨z1, q, rfl, rfl⟩
                    · rw [e5, if_pos z1]; exact hM
                    · rw [e5, if_neg z1]
                      exact (hM.mono fun _ z => List.mem_cons_of_mem _ z).add ⟨nm, nf, List.mem_cons_self, List.mem_cons_of_mem _ (List.mem_append_right _ hm3), hz⟩
                  exact ⟨e6, e6.1⟩
          have hxl : xs.length ≤ xs2.length := by rcases hcs with ⟨-, -, z3⟩ | ⟨-, q, -, z3⟩ <;> rw [z3] <;> simp
          have hx2 : ¬ (layF b hs en ha hn he (ef i).2.1 (ef i).2.2.1 = true ∨ (b + en) / 8192 = (b + ha) / 8192) → xs2.length = xs.length + 1 := by rcases hcs with ⟨z1, -, -⟩ | ⟨-, q, -, z3⟩; exact fun z9 => absurd z1 z9; exact fun _ => by rw [z3]; simp
          exact ih (i + 1) _ _ _ _ _ _ _ _ _ _ _ _ (N ++ Na) xs2 _ _ (by omega) (Or.inl hSN) hbs.1 hbs.2 rfl rfl hml2.1 hL2 hl2 hb2 hc2 (by first | omega | (have := hx2 hQ; omega)) (by first | omega | (have := hx2 hQ; omega)) (by omega) _ _ hP hD hS ls (lv_sub hl [1, 2, 3, 4, 0] rfl)
        · skip
          refine z_kv (z_runV (np := 1) C (c_Lst_writeNext_1 l g (Na ++ T) h rw (layN b ef n).2.1 hd2 mk ly rn f2 b hs en ha hn he ea a nm (ef i).2.1 (ef i).2.2.1 (ef i).2.2.2.1 (ef i).2.2.2.2 (ef i).1.length nf (List.mem_append_right _ hm2) (List.mem_append_right _ hm3) med mcap 200 mx mfn xs hL m1 m2 (by omega) (by omega) mc0 hM.el hy1 y2 y3 (by omega) (by omega) g1 g2 (by omega) (by omega) (by omega) (by omega) hQ) hP hD hS List.mem_cons_self (show classes[5]? = some (R_Lst, F_Lst, 6) from rfl) k_537 k_8 k_534 k_536 ks_Lst_writeNext ⟨by decide, by decide, by decide⟩ ⟨Nat.le_of_ble_eq_true rfl, Nat.le_of_ble_eq_true rfl⟩ rfl hl.1 rfl (Nat.le_of_ble_eq_true rfl) d_Lst_write_90 ⟨by show _ ≤ 30; omega, by show _ ≤ 600; omega⟩) hS (fun w H locs hw hP hD hS => ?_)
          obtain ⟨N, xs2, mx2, med2, mcap2, mfn2, hs2, en2, ha2, hn2, he2, ea2, hw, hS2, hL2, hl2, hb2, hc2, hcs⟩ := hw
          rw [hw] at hP hD
          rw [hz] at hP hD hS2
          refine lv_iinc (v := nI (i + 1)) (lv' := [(4, .int (nI (i + 1))), (0, .ref h), (1, .ref dr), (2, .int (nI b)), (3, .int (nI ((layN b ef n).2.1)))]) hx hb d_Lst_write_93 hl (k := 4) rfl (by rw [show Int32.ofInt 1 = nI 1 by decide]; exact nI_add _ _) (by decide) rfl (fun ls hl => ?_)
          refine lv_goto (tgt := 65) hx hb d_Lst_write_96 (by decide) ?_
          rw [← List.append_assoc N] at hP hD
          rw [hFe] at hP hD
          have hSN : (hs2, en2, ha2, hn2, he2, ea2) = layN b ef (i + 1) := hS2.trans (layR_s hR)
          have hwr : wrE b (hs, en, ha, hn, he, ea) f2 (ef i) = mkF b ef rf (i + 1) := by rw [e1]; exact wrE_R hR
          have hws : wrE b (hs, en, ha, hn, he, ea) f2 ((ef i).1, (ef i).2.1, (ef i).2.2.1, (ef i).2.2.2.1, (ef i).2.2.2.2) = mkF b ef rf (i + 1) := hwr
          rw [hws] at hP hD
          have hhd : (if fitB b ef i = true then hd2 else hd2 + 1) = hdN b ef (i + 1) := by rw [e2]; rfl
          rw [hhd] at hP hD
          have hbs : hs2 < 2 ^ 20 ∧ hn2 < 2 ^ 20 := by
                  unfold layS at hS2
                  split at hS2 <;> cases hS2 <;> (constructor <;> first | exact g1 | exact g2 | (show (ef i).2.2.1 < 1048576; omega) | (show (ef i).2.1 < 1048576; omega))
          have hml2 : isMks g ((N ++ Na) ++ T) xs2 (mkL b ef (i + 1)) ∧ xs2.length = (mkL b ef (i + 1)).length := by
                  have e5 : mkL b ef (i + 1) = if fitB b ef i = true ∨ (b + (layN b ef i).2.1) / 8192 = (b + (layN b ef i).2.2.1) / 8192 then mkL b ef i else mkL b ef i ++ [(nI (layN b ef i).2.1, nI (8194 * ((b + (layN b ef i).2.1) / 8192)), (ef i).1)] := rfl
                  rw [hFe, q1, q2] at hcs
                  have e6 : isMks g ((N ++ Na) ++ T) xs2 (mkL b ef (i + 1)) := by
                    rcases hcs with ⟨z1, rfl, rfl⟩ | ⟨z1, q, rfl, rfl⟩
                    · rw [e5, if_pos z1]; exact hM
                    · rw [e5, if_neg z1]
                      exact (hM.mono fun _ z => List.mem_cons_of_mem _ z).add ⟨nm, nf, List.mem_cons_self, List.mem_cons_of_mem _ (List.mem_append_right _ hm3), hz⟩
                  exact ⟨e6, e6.1⟩
          have hxl : xs.length ≤ xs2.length := by rcases hcs with ⟨-, -, z3⟩ | ⟨-, q, -, z3⟩ <;> rw [z3] <;> simp
          have hx2 : ¬ (layF b hs en ha hn he (ef i).2.1 (ef i).2.2.1 = true ∨ (b + en) / 8192 = (b + ha) / 8192) → xs2.length = xs.length + 1 := by rcases hcs with ⟨z1, -, -⟩ | ⟨-, q, -, z3⟩; exact fun z9 => absurd z1 z9; exact fun _ => by rw [z3]; simp
          exact ih (i + 1) _ _ _ _ _ _ _ _ _ _ _ _ (N ++ Na) xs2 _ _ (by omega) (Or.inl hSN) hbs.1 hbs.2 rfl rfl hml2.1 hL2 hl2 hb2 hc2 (by first | omega | (have := hx2 hQ; omega)) (by first | omega | (have := hx2 hQ; omega)) (by omega) _ _ hP hD hS ls (lv_sub hl [1, 2, 3, 4, 0] rfl)
  refine lv_aload_n hx hb d_Lst_write_0 rfl (lv_at hl 0 rfl) ?_
  refine lv_aload_n hx hb d_Lst_write_1 rfl (lv_at hl 1 rfl) ?_
  refine lv_iload_n hx hb d_Lst_write_2 rfl (lv_at hl 2 rfl) ?_
  have hP : va_P g.1 classes ((ly, zo 6 [.int (nI b0), .int (nI hs), .int (nI en), .int (nI ha), .int (nI hn), .int (nI he), .int (nI ea)]) :: (h, zo 5 [.ref rw, .int (nI len), .int (nI hd), .int (nI bg), .ref mk, .ref ly]) :: (rw, zBy g rn rf) :: (mk, zo 3 [.int mx, .ref med, .int (nI xs.length)]) :: (wA g med mcap mfn ++ T)) _ := z_Pq (z_bk (bs := [[(h, zo 5 [.ref rw, .int (nI len), .int (nI hd), .int (nI bg), .ref mk, .ref ly])], [(rw, zBy g rn rf)], [(ly, zo 6 [.int (nI b0), .int (nI hs), .int (nI en), .int (nI ha), .int (nI hn), .int (nI he), .int (nI ea)])], [(mk, zo 3 [.int mx, .ref med, .int (nI xs.length)])], wA g med mcap mfn, T]) (bs' := [[(ly, zo 6 [.int (nI b0), .int (nI hs), .int (nI en), .int (nI ha), .int (nI hn), .int (nI he), .int (nI ea)])], [(h, zo 5 [.ref rw, .int (nI len), .int (nI hd), .int (nI bg), .ref mk, .ref ly])], [(rw, zBy g rn rf)], [(mk, zo 3 [.int mx, .ref med, .int (nI xs.length)])], wA g med mcap mfn, T]) [2, 0, 1, 3, 4, 5] rfl (by decide) rfl) hP
  have hD : va_D (zA g) ((ly, zo 6 [.int (nI b0), .int (nI hs), .int (nI en), .int (nI ha), .int (nI hn), .int (nI he), .int (nI ea)]) :: (h, zo 5 [.ref rw, .int (nI len), .int (nI hd), .int (nI bg), .ref mk, .ref ly]) :: (rw, zBy g rn rf) :: (mk, zo 3 [.int mx, .ref med, .int (nI xs.length)]) :: (wA g med mcap mfn ++ T)) := z_Dq (z_bk (bs := [[(h, zo 5 [.ref rw, .int (nI len), .int (nI hd), .int (nI bg), .ref mk, .ref ly])], [(rw, zBy g rn rf)], [(ly, zo 6 [.int (nI b0), .int (nI hs), .int (nI en), .int (nI ha), .int (nI hn), .int (nI he), .int (nI ea)])], [(mk, zo 3 [.int mx, .ref med, .int (nI xs.length)])], wA g med mcap mfn, T]) (bs' := [[(ly, zo 6 [.int (nI b0), .int (nI hs), .int (nI en), .int (nI ha), .int (nI hn), .int (nI he), .int (nI ea)])], [(h, zo 5 [.ref rw, .int (nI len), .int (nI hd), .int (nI bg), .ref mk, .ref ly])], [(rw, zBy g rn rf)], [(mk, zo 3 [.int mx, .ref med, .int (nI xs.length)])], wA g med mcap mfn, T]) [2, 0, 1, 3, 4, 5] rfl (by decide) rfl) hD
  refine z_ki (z_runV (np := 2) C (c_Lst_measure l g ((h, zo 5 [.ref rw, .int (nI len), .int (nI hd), .int (nI bg), .ref mk, .ref ly]) :: (rw, zBy g rn rf) :: (mk, zo 3 [.int mx, .ref med, .int (nI xs.length)]) :: (wA g med mcap mfn ++ T)) h rw len hd bg mk ly dr li ed n cap x f ef (List.mem_cons_of_mem _ (List.mem_cons_of_mem _ (List.mem_cons_of_mem _ (List.mem_append_right _ hdr)))) (List.mem_cons_of_mem _ (List.mem_cons_of_mem _ (List.mem_cons_of_mem _ (List.mem_append_right _ hli)))) (fun q9 => (List.mem_cons_of_mem _ (List.mem_cons_of_mem _ (List.mem_cons_of_mem _ (List.mem_append_right _ (hed q9)))))) k1 k2 k3 (fun j hj => by obtain ⟨a, q1, q2⟩ := hE j hj; exact ⟨a, q1, q2.mono fun _ q9 => (List.mem_cons_of_mem _ (List.mem_cons_of_mem _ (List.mem_cons_of_mem _ (List.mem_append_right _ q9))))⟩) hO b b0 hs en ha hn he ea List.mem_cons_self y3 y7 y8) hP hD hS (List.mem_cons_of_mem _ List.mem_cons_self) (show classes[5]? = some (R_Lst, F_Lst, 6) from rfl) k_509 k_8 k_506 k_508 ks_Lst_measure ⟨by decide, by decide, by decide⟩ ⟨Nat.le_of_ble_eq_true rfl, Nat.le_of_ble_eq_true rfl⟩ rfl hl.1 rfl (Nat.le_of_ble_eq_true rfl) d_Lst_write_3 ⟨by show _ ≤ 30; omega, by show _ ≤ 600; omega⟩) hS (fun r_3 w H locs hw hP hD hS => ?_)
  obtain ⟨rfl, hs1, en1, ha1, hn1, he1, ea1, hw, z1, z2⟩ := hw
  rw [hw] at hP hD
  refine lv_istore_n (lv' := [(3, .int (nI ((layN b ef n).2.1))), (0, .ref h), (1, .ref dr), (2, .int (nI b))]) hx hb d_Lst_write_6 rfl hl (by decide) rfl (fun ls hl => ?_)
  refine lv_iload_n hx hb d_Lst_write_7 rfl (lv_at hl 0 rfl) ?_
  refine lv_ldc (v := nI 65536) hx hb C.1.2.2.2.1 (C.ts k_532 rfl) d_Lst_write_8 ?_
  refine lv_icmp_le (tgt := 15) hx hb d_Lst_write_10 (by decide) (fun c_10 => ?_) (fun c_10 => ?_)
  · skip
    have c_10 : ((layN b ef n).2.1) ≤ 65536 := (nI_leI (a := (layN b ef n).2.1) (b := 65536) (by omega) (by decide)).mp c_10
    refine lv_iload_n hx hb d_Lst_write_15 rfl (lv_at hl 0 rfl) ?_
    refine lv_aload_n hx hb d_Lst_write_16 rfl (lv_at hl 1 rfl) ?_
    refine z_get C hP (List.mem_cons_of_mem _ List.mem_cons_self) q_Lst 0 (by decide) k_136 (fun _ h9 => h9) rfl d_Lst_write_17 ?_
    refine z_alenB C hP (List.mem_cons_of_mem _ (List.mem_cons_of_mem _ List.mem_cons_self)) d_Lst_write_20 ?_
    refine lv_icmp_le (tgt := 32) hx hb d_Lst_write_21 (by decide) (fun c_21 => ?_) (fun c_21 => ?_)
    · skip
      have c_21 : ((layN b ef n).2.1) ≤ rn := (nI_leI (a := (layN b ef n).2.1) (b := rn) (by omega) (by omega)).mp c_21
      refine lv_aload_n hx hb d_Lst_write_32 rfl (lv_at hl 1 rfl) ?_
      refine lv_iload_n hx hb d_Lst_write_33 rfl (lv_at hl 0 rfl) ?_
      refine z_put C hP hD hS 1 rfl q_Lst 1 (by decide) k_140 (fun _ h9 => h9) rfl rfl rfl (Nat.le_of_ble_eq_true rfl) d_Lst_write_34 (ws' := (ly, zo 6 [.int (nI b), .int (nI hs1), .int (nI en1), .int (nI ha1), .int (nI hn1), .int (nI he1), .int (nI ea1)]) :: (h, zo 5 [.ref rw, .int (nI ((layN b ef n).2.1)), .int (nI hd), .int (nI bg), .ref mk, .ref ly]) :: (rw, zBy g rn rf) :: (mk, zo 3 [.int mx, .ref med, .int (nI xs.length)]) :: (wA g med mcap mfn ++ T)) rfl (fun H locs hP hD hS => ?_)
      refine lv_aload_n hx hb d_Lst_write_37 rfl (lv_at hl 1 rfl) ?_
      refine lv_iconst (v := nI 0) hx hb d_Lst_write_38 (by decide) ?_
      refine z_put C hP hD hS 1 rfl q_Lst 2 (by decide) k_144 (fun _ h9 => h9) rfl rfl rfl (Nat.le_of_ble_eq_true rfl) d_Lst_write_39 (ws' := (ly, zo 6 [.int (nI b), .int (nI hs1), .int (nI en1), .int (nI ha1), .int (nI hn1), .int (nI he1), .int (nI ea1)]) :: (h, zo 5 [.ref rw, .int (nI ((layN b ef n).2.1)), .int (nI 0), .int (nI bg), .ref mk, .ref ly]) :: (rw, zBy g rn rf) :: (mk, zo 3 [.int mx, .ref med, .int (nI xs.length)]) :: (wA g med mcap mfn ++ T)) rfl (fun H locs hP hD hS => ?_)
      refine lv_aload_n hx hb d_Lst_write_42 rfl (lv_at hl 1 rfl) ?_
      refine lv_iload_n hx hb d_Lst_write_43 rfl (lv_at hl 3 rfl) ?_
      refine z_put C hP hD hS 1 rfl q_Lst 3 (by decide) k_146 (fun _ h9 => h9) rfl rfl rfl (Nat.le_of_ble_eq_true rfl) d_Lst_write_44 (ws' := (ly, zo 6 [.int (nI b), .int (nI hs1), .int (nI en1), .int (nI ha1), .int (nI hn1), .int (nI he1), .int (nI ea1)]) :: (h, zo 5 [.ref rw, .int (nI ((layN b ef n).2.1)), .int (nI 0), .int (nI b), .ref mk, .ref ly]) :: (rw, zBy g rn rf) :: (mk, zo 3 [.int mx, .ref med, .int (nI xs.length)]) :: (wA g med mcap mfn ++ T)) rfl (fun H locs hP hD hS => ?_)
      refine lv_aload_n hx hb d_Lst_write_47 rfl (lv_at hl 1 rfl) ?_
      refine z_get C hP (List.mem_cons_of_mem _ List.mem_cons_self) q_Lst 4 (by decide) k_148 (fun _ h9 => h9) rfl d_Lst_write_48 ?_
      have hP : va_P g.1 classes ((mk, zo 3 [.int mx, .ref med, .int (nI xs.length)]) :: (wA g med mcap mfn ++ (ly, zo 6 [.int (nI b), .int (nI hs1), .int (nI en1), .int (nI ha1), .int (nI hn1), .int (nI he1), .int (nI ea1)]) :: (h, zo 5 [.ref rw, .int (nI ((layN b ef n).2.1)), .int (nI 0), .int (nI b), .ref mk, .ref ly]) :: (rw, zBy g rn rf) :: T)) _ := z_Pq (z_bk (bs := [[(ly, zo 6 [.int (nI b), .int (nI hs1), .int (nI en1), .int (nI ha1), .int (nI hn1), .int (nI he1), .int (nI ea1)])], [(h, zo 5 [.ref rw, .int (nI ((layN b ef n).2.1)), .int (nI 0), .int (nI b), .ref mk, .ref ly])], [(rw, zBy g rn rf)], [(mk, zo 3 [.int mx, .ref med, .int (nI xs.length)])], wA g med mcap mfn, T]) (bs' := [[(mk, zo 3 [.int mx, .ref med, .int (nI xs.length)])], wA g med mcap mfn, [(ly, zo 6 [.int (nI b), .int (nI hs1), .int (nI en1), .int (nI ha1), .int (nI hn1), .int (nI he1), .int (nI ea1)])], [(h, zo 5 [.ref rw, .int (nI ((layN b ef n).2.1)), .int (nI 0), .int (nI b), .ref mk, .ref ly])], [(rw, zBy g rn rf)], T]) [3, 4, 0, 1, 2, 5] rfl (by decide) rfl) hP
      have hD : va_D (zA g) ((mk, zo 3 [.int mx, .ref med, .int (nI xs.length)]) :: (wA g med mcap mfn ++ (ly, zo 6 [.int (nI b), .int (nI hs1), .int (nI en1), .int (nI ha1), .int (nI hn1), .int (nI he1), .int (nI ea1)]) :: (h, zo 5 [.ref rw, .int (nI ((layN b ef n).2.1)), .int (nI 0), .int (nI b), .ref mk, .ref ly]) :: (rw, zBy g rn rf) :: T)) := z_Dq (z_bk (bs := [[(ly, zo 6 [.int (nI b), .int (nI hs1), .int (nI en1), .int (nI ha1), .int (nI hn1), .int (nI he1), .int (nI ea1)])], [(h, zo 5 [.ref rw, .int (nI ((layN b ef n).2.1)), .int (nI 0), .int (nI b), .ref mk, .ref ly])], [(rw, zBy g rn rf)], [(mk, zo 3 [.int mx, .ref med, .int (nI xs.length)])], wA g med mcap mfn, T]) (bs' := [[(mk, zo 3 [.int mx, .ref med, .int (nI xs.length)])], wA g med mcap mfn, [(ly, zo 6 [.int (nI b), .int (nI hs1), .int (nI en1), .int (nI ha1), .int (nI hn1), .int (nI he1), .int (nI ea1)])], [(h, zo 5 [.ref rw, .int (nI ((layN b ef n).2.1)), .int (nI 0), .int (nI b), .ref mk, .ref ly])], [(rw, zBy g rn rf)], T]) [3, 4, 0, 1, 2, 5] rfl (by decide) rfl) hD
      refine z_kv (z_runV (np := 0) C (c_AL_clear l g ((ly, zo 6 [.int (nI b), .int (nI hs1), .int (nI en1), .int (nI ha1), .int (nI hn1), .int (nI he1), .int (nI ea1)]) :: (h, zo 5 [.ref rw, .int (nI ((layN b ef n).2.1)), .int (nI 0), .int (nI b), .ref mk, .ref ly]) :: (rw, zBy g rn rf) :: T) mk med mcap xs.length 200 mx mfn m1 m2 (by omega) mc0) hP hD hS List.mem_cons_self (show classes[3]? = some (R_AL, F_AL, 3) from rfl) k_496 k_6 k_533 k_494 k_495 ⟨by decide, by decide, by decide⟩ ⟨Nat.le_of_ble_eq_true rfl, Nat.le_of_ble_eq_true rfl⟩ rfl hl.1 rfl (Nat.le_of_ble_eq_true rfl) d_Lst_write_51 ⟨by show _ ≤ 30; omega, by show _ ≤ 600; omega⟩) hS (fun w H locs hw hP hD hS => ?_)
      obtain ⟨mx1, med1, mcap1, mfn1, hw, hL1, hl1, hb1, hc1⟩ := hw
      rw [hw] at hP hD
      refine lv_aload_n hx hb d_Lst_write_54 rfl (lv_at hl 1 rfl) ?_
      refine z_get C hP (List.mem_cons_of_mem _ (List.mem_append_right _ (List.mem_cons_of_mem _ List.mem_cons_self))) q_Lst 5 (by decide) k_151 (fun _ h9 => h9) rfl d_Lst_write_55 ?_
      refine lv_iload_n hx hb d_Lst_write_58 rfl (lv_at hl 3 rfl) ?_
      have hP : va_P g.1 classes ((ly, zo 6 [.int (nI b), .int (nI hs1), .int (nI en1), .int (nI ha1), .int (nI hn1), .int (nI he1), .int (nI ea1)]) :: (mk, zo 3 [.int mx1, .ref med1, .int (nI (([] : List Nat).length))]) :: (wA g med1 mcap1 mfn1 ++ (h, zo 5 [.ref rw, .int (nI ((layN b ef n).2.1)), .int (nI 0), .int (nI b), .ref mk, .ref ly]) :: (rw, zBy g rn rf) :: T)) _ := z_Pq (z_bk (bs := [[(mk, zo 3 [.int mx1, .ref med1, .int (nI (([] : List Nat).length))])], wA g med1 mcap1 mfn1, [(ly, zo 6 [.int (nI b), .int (nI hs1), .int (nI en1), .int (nI ha1), .int (nI hn1), .int (nI he1), .int (nI ea1)])], [(h, zo 5 [.ref rw, .int (nI ((layN b ef n).2.1)), .int (nI 0), .int (nI b), .ref mk, .ref ly])], [(rw, zBy g rn rf)], T]) (bs' := [[(ly, zo 6 [.int (nI b), .int (nI hs1), .int (nI en1), .int (nI ha1), .int (nI hn1), .int (nI he1), .int (nI ea1)])], [(mk, zo 3 [.int mx1, .ref med1, .int (nI (([] : List Nat).length))])], wA g med1 mcap1 mfn1, [(h, zo 5 [.ref rw, .int (nI ((layN b ef n).2.1)), .int (nI 0), .int (nI b), .ref mk, .ref ly])], [(rw, zBy g rn rf)], T]) [2, 0, 1, 3, 4, 5] rfl (by decide) rfl) hP
      have hD : va_D (zA g) ((ly, zo 6 [.int (nI b), .int (nI hs1), .int (nI en1), .int (nI ha1), .int (nI hn1), .int (nI he1), .int (nI ea1)]) :: (mk, zo 3 [.int mx1, .ref med1, .int (nI (([] : List Nat).length))]) :: (wA g med1 mcap1 mfn1 ++ (h, zo 5 [.ref rw, .int (nI ((layN b ef n).2.1)), .int (nI 0), .int (nI b), .ref mk, .ref ly]) :: (rw, zBy g rn rf) :: T)) := z_Dq (z_bk (bs := [[(mk, zo 3 [.int mx1, .ref med1, .int (nI (([] : List Nat).length))])], wA g med1 mcap1 mfn1, [(ly, zo 6 [.int (nI b), .int (nI hs1), .int (nI en1), .int (nI ha1), .int (nI hn1), .int (nI he1), .int (nI ea1)])], [(h, zo 5 [.ref rw, .int (nI ((layN b ef n).2.1)), .int (nI 0), .int (nI b), .ref mk, .ref ly])], [(rw, zBy g rn rf)], T]) (bs' := [[(ly, zo 6 [.int (nI b), .int (nI hs1), .int (nI en1), .int (nI ha1), .int (nI hn1), .int (nI he1), .int (nI ea1)])], [(mk, zo 3 [.int mx1, .ref med1, .int (nI (([] : List Nat).length))])], wA g med1 mcap1 mfn1, [(h, zo 5 [.ref rw, .int (nI ((layN b ef n).2.1)), .int (nI 0), .int (nI b), .ref mk, .ref ly])], [(rw, zBy g rn rf)], T]) [2, 0, 1, 3, 4, 5] rfl (by decide) rfl) hD
      refine z_kv (z_runV (np := 1) C (c_Lay_restart l g ((mk, zo 3 [.int mx1, .ref med1, .int (nI (([] : List Nat).length))]) :: (wA g med1 mcap1 mfn1 ++ (h, zo 5 [.ref rw, .int (nI ((layN b ef n).2.1)), .int (nI 0), .int (nI b), .ref mk, .ref ly]) :: (rw, zBy g rn rf) :: T)) ly b (nI b) (nI hs1) (nI en1) (nI ha1) (nI hn1) (nI he1) (nI ea1)) hP hD hS List.mem_cons_self (show classes[6]? = some (R_Lay, F_Lay, 7) from rfl) k_513 k_9 k_510 k_511 k_512 ⟨by decide, by decide, by decide⟩ ⟨Nat.le_of_ble_eq_true rfl, Nat.le_of_ble_eq_true rfl⟩ rfl hl.1 rfl (Nat.le_of_ble_eq_true rfl) d_Lst_write_59 ⟨by show _ ≤ 30; omega, by show _ ≤ 600; omega⟩) hS (fun w H locs hw hP hD hS => ?_)
      rw [hw] at hP hD
      refine lv_iconst (v := nI 0) hx hb d_Lst_write_62 (by decide) ?_
      refine lv_istore (lv' := [(4, .int (nI 0)), (3, .int (nI ((layN b ef n).2.1))), (0, .ref h), (1, .ref dr), (2, .int (nI b))]) hx hb d_Lst_write_63 hl (by decide) rfl (fun ls hl => ?_)
      exact L_65 _ 0 0 hs1 0 0 hn1 0 ea1 med1 mcap1 0 0 rf [] [] mx1 mfn1 (Nat.zero_le _) (Or.inr ⟨rfl, rfl, rfl, rfl⟩) z1 z2 rfl rfl isMks_0 hL1 hl1 hb1 hc1 (Nat.zero_le _) (Nat.zero_le _) (Nat.lt_succ_self _) _ _ (z_Pq (z_bk (bs := [[(ly, zo 6 [.int (nI b), .int (nI hs1), .int (nI 0), .int (nI 0), .int (nI hn1), .int (nI 0), .int (nI ea1)])], [(mk, zo 3 [.int mx1, .ref med1, .int (nI (([] : List Nat).length))])], wA g med1 mcap1 mfn1, [(h, zo 5 [.ref rw, .int (nI ((layN b ef n).2.1)), .int (nI 0), .int (nI b), .ref mk, .ref ly])], [(rw, zBy g rn rf)], T]) (bs' := [[(h, zo 5 [.ref rw, .int (nI ((layN b ef n).2.1)), .int (nI 0), .int (nI b), .ref mk, .ref ly])], [(rw, zBy g rn rf)], [(ly, zo 6 [.int (nI b), .int (nI hs1), .int (nI 0), .int (nI 0), .int (nI hn1), .int (nI 0), .int (nI ea1)])], [(mk, zo 3 [.int mx1, .ref med1, .int (nI (([] : List Nat).length))])], wA g med1 mcap1 mfn1, T]) [3, 4, 0, 1, 2, 5] rfl (by decide) rfl) hP) (z_Dq (z_bk (bs := [[(ly, zo 6 [.int (nI b), .int (nI hs1), .int (nI 0), .int (nI 0), .int (nI hn1), .int (nI 0), .int (nI ea1)])], [(mk, zo 3 [.int mx1, .ref med1, .int (nI (([] : List Nat).length))])], wA g med1 mcap1 mfn1, [(h, zo 5 [.ref rw, .int (nI ((layN b ef n).2.1)), .int (nI 0), .int (nI b), .ref mk, .ref ly])], [(rw, zBy g rn rf)], T]) (bs' := [[(h, zo 5 [.ref rw, .int (nI ((layN b ef n).2.1)), .int (nI 0), .int (nI b), .ref mk, .ref ly])], [(rw, zBy g rn rf)], [(ly, zo 6 [.int (nI b), .int (nI hs1), .int (nI 0), .int (nI 0), .int (nI hn1), .int (nI 0), .int (nI ea1)])], [(mk, zo 3 [.int mx1, .ref med1, .int (nI (([] : List Nat).length))])], wA g med1 mcap1 mfn1, T]) [3, 4, 0, 1, 2, 5] rfl (by decide) rfl) hD) hS ls (lv_sub hl [2, 3, 4, 1, 0] rfl)
    · skip
      have c_21 : ¬ ((layN b ef n).2.1) ≤ rn := fun q9 => c_21 ((nI_leI (a := (layN b ef n).2.1) (b := rn) (by omega) (by omega)).mpr q9)
      exact absurd c_21 (by omega)
  · skip
    have c_10 : ¬ ((layN b ef n).2.1) ≤ 65536 := fun q9 => c_10 ((nI_leI (a := (layN b ef n).2.1) (b := 65536) (by omega) (by decide)).mpr q9)
    exact absurd c_10 (by omega)
