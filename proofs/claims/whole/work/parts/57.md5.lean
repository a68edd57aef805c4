set_option maxHeartbeats 4000000 in
set_option maxRecDepth 100000 in
theorem c_Mod_sort (l : Launch) (g : zT) (T : va_W) (o ts ta ne ans anm anu asa apl akd nk akn aks akp akk bg sz hd alg ni aip aix aiz aim aod av hv lf sn pv : Nat) (ho : (o, zo 11 [.int (nI ts), .ref ta, .int (nI ne), .ref ans, .ref anm, .ref anu, .ref asa, .ref apl, .ref akd, .int (nI nk), .ref akn, .ref aks, .ref akp, .ref akk, .int (nI bg), .int (nI sz), .int (nI hd), .ref alg, .int (nI ni), .ref aip, .ref aix, .ref aiz, .ref aim, .ref aod, .int (nI av), .int (nI hv), .int (nI lf), .int (nI sn), .int (nI pv)]) ∈ T) (nsz : Nat → Nat) (hns : (ans, zIn g 600 (nN nsz)) ∈ T) (nmb : Nat → UInt8) (hnb : (anm, zBy g 153600 nmb) ∈ T) (od : Nat → Nat) (v2 : ne ≤ 600) (v3 : ∀ j, j < ne → nsz j ≤ 256) : Met l y_Mod_sort (zw y_Mod_sort b_Mod_sort 4 (none)) (zR 2 45 0 0) (zP g [.ref o] ((aod, zIn g 600 (nN od)) :: T)) (zQv g (fun w => w = (aod, zIn g 600 (nN (ordN (nmE nmb nsz) ne od ne))) :: T)) 0 0 (zA g) := by
  refine zMet (by decide) (Nat.le_of_ble_eq_true rfl) ?_
  intro p e s m below meth c ls C hr hlk hnm hP hD hl
  have hx := C.1.1
  have hb := C.1.2.1
  have hS : va_S (zA g) s.heap s.heap [] := va_S.rf
  have hl : lv_has ls 4 [(0, .ref o)] := hl
  have L_2 : ∀ (nu : Nat) (i : Nat) (_ : i ≤ ne) (_ : ne - i < nu) (H : Heap) (locs : List Loc), va_P g.1 classes ((aod, zIn g 600 (nN (ordN (nmE nmb nsz) ne od i))) :: T) H → va_D (zA g) ((aod, zIn g 600 (nN (ordN (nmE nmb nsz) ne od i))) :: T) → va_S (zA g) s.heap H locs → ∀ ls : Array Slot, lv_has ls 4 [(0, .ref o), (1, .int (nI i))] → W p l e (zR 2 45 0 0) s m [.ref o].toArray below meth c H locs 0 0 (MQ below (zQv g (fun w => w = (aod, zIn g 600 (nN (ordN (nmE nmb nsz) ne od ne))) :: T)) [.ref o].toArray s 0 0 (zA g)) (F0 m 2 ls []) := by
    intro nu
    induction nu with
    | zero => intros; omega
    | succ nu ih =>
      intro i g1 hmu H locs hP hD hS ls hl
      have L_45 : ∀ (rr : Nat) (_ : rr = rkN (nmE nmb nsz) i ne) (_ : i < ne) (H : Heap) (locs : List Loc), va_P g.1 classes ((aod, zIn g 600 (nN (ordN (nmE nmb nsz) ne od i))) :: T) H → va_D (zA g) ((aod, zIn g 600 (nN (ordN (nmE nmb nsz) ne od i))) :: T) → va_S (zA g) s.heap H locs → ∀ ls : Array Slot, lv_has ls 4 [(0, .ref o), (1, .int (nI i)), (2, .int (nI rr))] → W p l e (zR 2 45 0 0) s m [.ref o].toArray below meth c H locs 0 0 (MQ below (zQv g (fun w => w = (aod, zIn g 600 (nN (ordN (nmE nmb nsz) ne od ne))) :: T)) [.ref o].toArray s 0 0 (zA g)) (F0 m 45 ls []) := by
        intro rr g5 g3 H locs hP hD hS ls hl
        refine lv_aload_n hx hb d_Mod_sort_45 rfl (lv_at hl 0 rfl) ?_
        refine z_get C hP (List.mem_cons_of_mem _ ho) q_Mod 23 (by decide) k_751 (fun _ h9 => h9) rfl d_Mod_sort_46 ?_
        have rk := rkN_lt (nmE nmb nsz) (show i < ne by omega)
        refine lv_iload_n hx hb d_Mod_sort_49 rfl (lv_at hl 2 rfl) ?_
        refine lv_iload_n hx hb d_Mod_sort_50 rfl (lv_at hl 1 rfl) ?_
        refine z_iast C hP hD hS 0 rfl rr (by omega) (by omega) d_Mod_sort_51 (ws' := (aod, zIn g 600 (upd (nN (ordN (nmE nmb nsz) ne od i)) rr (nI i))) :: T) rfl (fun H locs hP hD hS => ?_)
        rw [upd_nN] at hP hD
        refine lv_iinc (v := nI (i + 1)) (lv' := [(1, .int (nI (i + 1))), (0, .ref o), (2, .int (nI rr))]) hx hb d_Mod_sort_52 hl (k := 1) rfl (by rw [show Int32.ofInt 1 = nI 1 by decide]; exact nI_add _ _) (by decide) rfl (fun ls hl => ?_)
        refine lv_goto (tgt := 2) hx hb d_Mod_sort_55 (by decide) ?_
        rw [g5, ← ordN_s] at hP hD
        exact ih (i + 1) (by omega) (by omega) _ _ hP hD hS ls (lv_sub hl [1, 0] rfl)
      have L_14 : ∀ (nu : Nat) (k : Nat) (_ : k ≤ ne) (_ : i < ne) (_ : ne - k < nu) (H : Heap) (locs : List Loc), va_P g.1 classes ((aod, zIn g 600 (nN (ordN (nmE nmb nsz) ne od i))) :: T) H → va_D (zA g) ((aod, zIn g 600 (nN (ordN (nmE nmb nsz) ne od i))) :: T) → va_S (zA g) s.heap H locs → ∀ ls : Array Slot, lv_has ls 4 [(0, .ref o), (1, .int (nI i)), (2, .int (nI (rkN (nmE nmb nsz) i k))), (3, .int (nI k))] → W p l e (zR 2 45 0 0) s m [.ref o].toArray below meth c H locs 0 0 (MQ below (zQv g (fun w => w = (aod, zIn g 600 (nN (ordN (nmE nmb nsz) ne od ne))) :: T)) [.ref o].toArray s 0 0 (zA g)) (F0 m 14 ls []) := by
        intro nu
        induction nu with
        | zero => intros; omega
        | succ nu ih =>
          intro k g2 g3 hmu H locs hP hD hS ls hl
          have L_38 : ∀ (_ : k < ne) (H : Heap) (locs : List Loc), va_P g.1 classes ((aod, zIn g 600 (nN (ordN (nmE nmb nsz) ne od i))) :: T) H → va_D (zA g) ((aod, zIn g 600 (nN (ordN (nmE nmb nsz) ne od i))) :: T) → va_S (zA g) s.heap H locs → ∀ ls : Array Slot, lv_has ls 4 [(0, .ref o), (1, .int (nI i)), (3, .int (nI k))] → W p l e (zR 2 45 0 0) s m [.ref o].toArray below meth c H locs 0 0 (MQ below (zQv g (fun w => w = (aod, zIn g 600 (nN (ordN (nmE nmb nsz) ne od ne))) :: T)) [.ref o].toArray s 0 0 (zA g)) (F0 m 38 ls [.int (nI (rkN (nmE nmb nsz) i (k + 1)))]) := by
            intro g4 H locs hP hD hS ls hl
            refine lv_istore_n (lv' := [(2, .int (nI (rkN (nmE nmb nsz) i (k + 1)))), (0, .ref o), (1, .int (nI i)), (3, .int (nI k))]) hx hb d_Mod_sort_38 rfl hl (by decide) rfl (fun ls hl => ?_)
            refine lv_iinc (v := nI (k + 1)) (lv' := [(3, .int (nI (k + 1))), (2, .int (nI (rkN (nmE nmb nsz) i (k + 1)))), (0, .ref o), (1, .int (nI i))]) hx hb d_Mod_sort_39 hl (k := 3) rfl (by rw [show Int32.ofInt 1 = nI 1 by decide]; exact nI_add _ _) (by decide) rfl (fun ls hl => ?_)
            refine lv_goto (tgt := 14) hx hb d_Mod_sort_42 (by decide) ?_
            exact ih (k + 1) (by omega) (by omega) (by omega) _ _ hP hD hS ls (lv_sub hl [2, 3, 1, 0] rfl)
          refine lv_iload_n hx hb d_Mod_sort_14 rfl (lv_at hl 3 rfl) ?_
          refine lv_aload_n hx hb d_Mod_sort_15 rfl (lv_at hl 0 rfl) ?_
          refine z_get C hP (List.mem_cons_of_mem _ ho) q_Mod 2 (by decide) k_730 (fun _ h9 => h9) rfl d_Mod_sort_16 ?_
          refine lv_icmp_ge (tgt := 45) hx hb d_Mod_sort_19 (by decide) (fun c_19 => ?_) (fun c_19 => ?_)
          · skip
            have c_19 : ne ≤ k := (nI_leI (a := ne) (b := k) (by omega) (by omega)).mp c_19
            exact L_45 _ (by rw [show ne = k by omega]) (by omega) _ _ hP hD hS ls (lv_sub hl [0, 1, 2] rfl)
          · skip
            have c_19 : ¬ ne ≤ k := fun q9 => c_19 ((nI_leI (a := ne) (b := k) (by omega) (by omega)).mpr q9)
            refine lv_aload_n hx hb d_Mod_sort_22 rfl (lv_at hl 0 rfl) ?_
            refine lv_iload_n hx hb d_Mod_sort_23 rfl (lv_at hl 3 rfl) ?_
            refine lv_iload_n hx hb d_Mod_sort_24 rfl (lv_at hl 1 rfl) ?_
            refine z_ki (z_runV (np := 2) C (c_Mod_isBefore l g ((aod, zIn g 600 (nN (ordN (nmE nmb nsz) ne od i))) :: T) o ts ta ne ans anm anu asa apl akd nk akn aks akp akk bg sz hd alg ni aip aix aiz aim aod av hv lf sn pv (List.mem_cons_of_mem _ ho) nsz (List.mem_cons_of_mem _ hns) nmb (List.mem_cons_of_mem _ hnb) k i (by omega) (by omega) (v3 k (by omega)) (v3 i (by omega))) hP hD hS (List.mem_cons_of_mem _ ho) (show classes[11]? = some (R_Mod, F_Mod, 29) from rfl) k_871 k_12 k_868 k_870 ks_Mod_isBefore ⟨by decide, by decide, by decide⟩ ⟨Nat.le_of_ble_eq_true rfl, Nat.le_of_ble_eq_true rfl⟩ rfl hl.1 rfl (Nat.le_of_ble_eq_true rfl) d_Mod_sort_25 ⟨by show _ ≤ 0; omega, by show _ ≤ 0; omega⟩) hS (fun r_25 w H locs hw hP hD hS => ?_)
            obtain ⟨rfl, hw⟩ := hw
            rw [hw] at hP hD
            refine lv_if_eq (tgt := 37) hx hb d_Mod_sort_28 (by decide) (fun c_28 => ?_) (fun c_28 => ?_)
            · skip
              refine lv_iload_n hx hb d_Mod_sort_37 rfl (lv_at hl 2 rfl) ?_
              refine z_topi (y := nI (rkN (nmE nmb nsz) i (k + 1))) (by rw [show rkN (nmE nmb nsz) i (k + 1) = rkN (nmE nmb nsz) i k from if_neg (of_decide_eq_false (bI_eq.mp c_28))]) ?_
              exact L_38 (by omega) _ _ hP hD hS ls (lv_sub hl [0, 1, 3] rfl)
            · skip
              refine lv_iload_n hx hb d_Mod_sort_31 rfl (lv_at hl 2 rfl) ?_
              refine lv_iconst (v := nI 1) hx hb d_Mod_sort_32 (by decide) ?_
              refine z_iadd (v := nI ((rkN (nmE nmb nsz) i k) + 1)) C d_Mod_sort_33 (nI_add _ _) ?_
              refine lv_goto (tgt := 38) hx hb d_Mod_sort_34 (by decide) ?_
              refine z_topi (y := nI (rkN (nmE nmb nsz) i (k + 1))) (by rw [show rkN (nmE nmb nsz) i (k + 1) = rkN (nmE nmb nsz) i k + 1 from if_pos (of_decide_eq_true (bI_ne.mp c_28))]) ?_
              exact L_38 (by omega) _ _ hP hD hS ls (lv_sub hl [0, 1, 3] rfl)
      refine lv_iload_n hx hb d_Mod_sort_2 rfl (lv_at hl 1 rfl) ?_
      refine lv_aload_n hx hb d_Mod_sort_3 rfl (lv_at hl 0 rfl) ?_
      refine z_get C hP (List.mem_cons_of_mem _ ho) q_Mod 2 (by decide) k_730 (fun _ h9 => h9) rfl d_Mod_sort_4 ?_
      refine lv_icmp_ge (tgt := 58) hx hb d_Mod_sort_7 (by decide) (fun c_7 => ?_) (fun c_7 => ?_)
      · skip
        have c_7 : ne ≤ i := (nI_leI (a := ne) (b := i) (by omega) (by omega)).mp c_7
        exact z_vret C hr hlk hP hD hS (by omega) (by omega) (by rw [show ne = i by omega]) d_Mod_sort_58
      · skip
        have c_7 : ¬ ne ≤ i := fun q9 => c_7 ((nI_leI (a := ne) (b := i) (by omega) (by omega)).mpr q9)
        refine lv_iconst (v := nI 0) hx hb d_Mod_sort_10 (by decide) ?_
        refine lv_istore_n (lv' := [(2, .int (nI 0)), (0, .ref o), (1, .int (nI i))]) hx hb d_Mod_sort_11 rfl hl (by decide) rfl (fun ls hl => ?_)
        refine lv_iconst (v := nI 0) hx hb d_Mod_sort_12 (by decide) ?_
        refine lv_istore_n (lv' := [(3, .int (nI 0)), (2, .int (nI 0)), (0, .ref o), (1, .int (nI i))]) hx hb d_Mod_sort_13 rfl hl (by decide) rfl (fun ls hl => ?_)
        exact L_14 _ 0 (Nat.zero_le _) (by omega) (Nat.lt_succ_self _) _ _ hP hD hS ls (lv_sub hl [2, 3, 1, 0] rfl)
  refine lv_iconst (v := nI 0) hx hb d_Mod_sort_0 (by decide) ?_
  refine lv_istore_n (lv' := [(1, .int (nI 0)), (0, .ref o)]) hx hb d_Mod_sort_1 rfl hl (by decide) rfl (fun ls hl => ?_)
  exact L_2 _ 0 (Nat.zero_le _) (Nat.lt_succ_self _) _ _ hP hD hS ls (lv_sub hl [1, 0] rfl)
set_option maxHeartbeats 4000000 in
set_option maxRecDepth 100000 in
theorem c_Mod_takes (l : Launch) (g : zT) (T : va_W) (o ts ta ne ans anm anu asa apl akd nk akn aks akp akk bg sz hd alg ni aip aix aiz aim aod av hv lf sn pv : Nat) (ho : (o, zo 11 [.int (nI ts), .ref ta, .int (nI ne), .ref ans, .ref anm, .ref anu, .ref asa, .ref apl, .ref akd, .int (nI nk), .ref akn, .ref aks, .ref akp, .ref akk, .int (nI bg), .int (nI sz), .int (nI hd), .ref alg, .int (nI ni), .ref aip, .ref aix, .ref aiz, .ref aim, .ref aod, .int (nI av), .int (nI hv), .int (nI lf), .int (nI sn), .int (nI pv)]) ∈ T) (num : Nat → Nat) (hnu : (anu, zIn g 600 (nN num)) ∈ T) (sta : Nat → Nat) (hsa : (asa, zIn g 600 (nN sta)) ∈ T) (od : Nat → Nat) (hod : (aod, zIn g 600 (nN od)) ∈ T) (i fr k to b : Nat) (y1 : od i < 600) (y2 : od k < 600) (y3 : num (od i) ≤ 100000) (y4 : num (od k) ≤ 100000) (y5 : sta (od i) < 2 ^ 20) (y6 : sta (od k) < 2 ^ 20) (y7 : i ≤ k) (y8 : k < 600) (y9 : to ≤ 2 ^ 20) (z1 : fr ≤ 2 ^ 20) (z2 : b ≤ 40000) : Met l y_Mod_takes (zw y_Mod_takes b_Mod_takes 9 (some .boolean)) (zR 0 0 0 0) (zP g [.ref o, .int (nI i), .int (nI fr), .int (nI k), .int (nI to), .int (nI b)] (T)) (zQi g (fun r w => r = bI (tkB b i fr k to (num (od i)) (num (od k)) (sta (od i)) (sta (od k))) ∧ w = T)) 0 0 (zA g) := by
  refine zMet (by decide) (Nat.le_of_ble_eq_true rfl) ?_
  intro p e s m below meth c ls C hr hlk hnm hP hD hl
  have hx := C.1.1
  have hb := C.1.2.1
  have hS : va_S (zA g) s.heap s.heap [] := va_S.rf
  have hl : lv_has ls 9 [(0, .ref o), (1, .int (nI i)), (2, .int (nI fr)), (3, .int (nI k)), (4, .int (nI to)), (5, .int (nI b))] := hl
  refine lv_aload_n hx hb d_Mod_takes_0 rfl (lv_at hl 0 rfl) ?_
  refine z_get C hP ho q_Mod 23 (by decide) k_751 (fun _ h9 => h9) rfl d_Mod_takes_1 ?_
  refine lv_iload_n hx hb d_Mod_takes_4 rfl (lv_at hl 1 rfl) ?_
  refine z_iald C hP hod i (by omega) (by omega) d_Mod_takes_5 ?_
  refine z_topi (y := nI (od i)) rfl ?_
  refine lv_istore (lv' := [(6, .int (nI (od i))), (0, .ref o), (1, .int (nI i)), (2, .int (nI fr)), (3, .int (nI k)), (4, .int (nI to)), (5, .int (nI b))]) hx hb d_Mod_takes_6 hl (by decide) rfl (fun ls hl => ?_)
  refine lv_aload_n hx hb d_Mod_takes_8 rfl (lv_at hl 1 rfl) ?_
  refine z_get C hP ho q_Mod 23 (by decide) k_751 (fun _ h9 => h9) rfl d_Mod_takes_9 ?_
  refine lv_iload_n hx hb d_Mod_takes_12 rfl (lv_at hl 4 rfl) ?_
  refine z_iald C hP hod k (by omega) (by omega) d_Mod_takes_13 ?_
  refine z_topi (y := nI (od k)) rfl ?_
  refine lv_istore (lv' := [(7, .int (nI (od k))), (6, .int (nI (od i))), (0, .ref o), (1, .int (nI i)), (2, .int (nI fr)), (3, .int (nI k)), (4, .int (nI to)), (5, .int (nI b))]) hx hb d_Mod_takes_14 hl (by decide) rfl (fun ls hl => ?_)
  refine lv_aload_n hx hb d_Mod_takes_16 rfl (lv_at hl 2 rfl) ?_
  refine z_get C hP ho q_Mod 5 (by decide) k_733 (fun _ h9 => h9) rfl d_Mod_takes_17 ?_
  refine lv_iload hx hb d_Mod_takes_20 (lv_at hl 0 rfl) ?_
  refine z_iald C hP hnu (od k) (by omega) (by omega) d_Mod_takes_22 ?_
  refine z_topi (y := nI (num (od k))) rfl ?_
  refine lv_aload_n hx hb d_Mod_takes_23 rfl (lv_at hl 2 rfl) ?_
  refine z_get C hP ho q_Mod 5 (by decide) k_733 (fun _ h9 => h9) rfl d_Mod_takes_24 ?_
  refine lv_iload hx hb d_Mod_takes_27 (lv_at hl 1 rfl) ?_
  refine z_iald C hP hnu (od i) (by omega) (by omega) d_Mod_takes_29 ?_
  refine z_topi (y := nI (num (od i))) rfl ?_
  refine z_isub (v := iI ((num (od k) : Int) - (num (od i) : Int))) C d_Mod_takes_30 (nI_sub _ _) ?_
  refine lv_istore (lv' := [(8, .int (iI ((num (od k) : Int) - (num (od i) : Int)))), (7, .int (nI (od k))), (6, .int (nI (od i))), (0, .ref o), (1, .int (nI i)), (2, .int (nI fr)), (3, .int (nI k)), (4, .int (nI to)), (5, .int (nI b))]) hx hb d_Mod_takes_31 hl (by decide) rfl (fun ls hl => ?_)
  refine lv_iload_n hx hb d_Mod_takes_33 rfl (lv_at hl 6 rfl) ?_
  refine lv_iload_n hx hb d_Mod_takes_34 rfl (lv_at hl 4 rfl) ?_
  refine lv_icmp_eq (tgt := 99) hx hb d_Mod_takes_35 (by decide) (fun c_35 => ?_) (fun c_35 => ?_)
  · skip
    have c_35 : k = i := (nI_eq (a := k) (b := i) (by omega) (by omega)).mp c_35
    refine lv_iconst (v := nI 1) hx hb d_Mod_takes_99 (by decide) ?_
    refine lv_goto (tgt := 104) hx hb d_Mod_takes_100 (by decide) ?_
    exact z_zret C hr hlk hP hD hS (by omega) (by omega) (by first | exact Or.inl rfl | exact Or.inr rfl) ⟨by unfold tkB; first | exact bI_t (decide_eq_true (by omega)) | exact bI_f (decide_eq_false (by omega)), rfl⟩ d_Mod_takes_104
  · skip
    have c_35 : ¬ k = i := fun q9 => c_35 ((nI_eq (a := k) (b := i) (by omega) (by omega)).mpr q9)
    refine lv_iload_n hx hb d_Mod_takes_38 rfl (lv_at hl 6 rfl) ?_
    refine lv_iload_n hx hb d_Mod_takes_39 rfl (lv_at hl 4 rfl) ?_
    refine z_isub (v := nI (k - i)) C d_Mod_takes_40 (pk_sub (by omega)) ?_
    refine lv_sipush (v := nI 256) hx hb d_Mod_takes_41 (by decide) ?_
    refine lv_icmp_ge (tgt := 103) hx hb d_Mod_takes_44 (by decide) (fun c_44 => ?_) (fun c_44 => ?_)
    · skip
      have c_44 : 256 ≤ (k - i) := (nI_leI (a := 256) (b := k - i) (by decide) (by omega)).mp c_44
      refine lv_iconst (v := nI 0) hx hb d_Mod_takes_103 (by decide) ?_
      exact z_zret C hr hlk hP hD hS (by omega) (by omega) (by first | exact Or.inl rfl | exact Or.inr rfl) ⟨by unfold tkB; first | exact bI_t (decide_eq_true (by omega)) | exact bI_f (decide_eq_false (by omega)), rfl⟩ d_Mod_takes_104
    · skip
      have c_44 : ¬ 256 ≤ (k - i) := fun q9 => c_44 ((nI_leI (a := 256) (b := k - i) (by decide) (by omega)).mpr q9)
      refine lv_aload_n hx hb d_Mod_takes_47 rfl (lv_at hl 3 rfl) ?_
      refine z_get C hP ho q_Mod 6 (by decide) k_734 (fun _ h9 => h9) rfl d_Mod_takes_48 ?_
      refine lv_iload hx hb d_Mod_takes_51 (lv_at hl 2 rfl) ?_
      refine z_iald C hP hsa (od i) (by omega) (by omega) d_Mod_takes_53 ?_
      refine z_topi (y := nI (sta (od i))) rfl ?_
      refine lv_aload_n hx hb d_Mod_takes_54 rfl (lv_at hl 3 rfl) ?_
      refine z_get C hP ho q_Mod 6 (by decide) k_734 (fun _ h9 => h9) rfl d_Mod_takes_55 ?_
      refine lv_iload hx hb d_Mod_takes_58 (lv_at hl 1 rfl) ?_
      refine z_iald C hP hsa (od k) (by omega) (by omega) d_Mod_takes_60 ?_
      refine z_topi (y := nI (sta (od k))) rfl ?_
      refine lv_icmp_ne (tgt := 103) hx hb d_Mod_takes_61 (by decide) (fun c_61 => ?_) (fun c_61 => ?_)
      · skip
        have c_61 : ¬ (sta (od i)) = (sta (od k)) := fun q9 => c_61 ((nI_eq (a := sta (od i)) (b := sta (od k)) (by omega) (by omega)).mpr q9)
        refine lv_iconst (v := nI 0) hx hb d_Mod_takes_103 (by decide) ?_
        exact z_zret C hr hlk hP hD hS (by omega) (by omega) (by first | exact Or.inl rfl | exact Or.inr rfl) ⟨by unfold tkB; first | exact bI_t (decide_eq_true (by omega)) | exact bI_f (decide_eq_false (by omega)), rfl⟩ d_Mod_takes_104
      · skip
        have c_61 : (sta (od i)) = (sta (od k)) := (nI_eq (a := sta (od i)) (b := sta (od k)) (by omega) (by omega)).mp c_61
        refine lv_iload hx hb d_Mod_takes_64 (lv_at hl 0 rfl) ?_
        refine lv_sipush (v := iI (-32768)) hx hb d_Mod_takes_66 (by decide) ?_
        refine lv_icmp_lt (tgt := 103) hx hb d_Mod_takes_69 (by decide) (fun c_69 => ?_) (fun c_69 => ?_)
        · skip
          have c_69 : ((num (od k) : Int) - (num (od i) : Int)) < (-32768) := (zi_lt (a := (num (od k) : Int) - (num (od i) : Int)) (b := -32768) rfl rfl (by omega) (by omega) (by omega) (by omega)).mp c_69
          refine lv_iconst (v := nI 0) hx hb d_Mod_takes_103 (by decide) ?_
          exact z_zret C hr hlk hP hD hS (by omega) (by omega) (by first | exact Or.inl rfl | exact Or.inr rfl) ⟨by unfold tkB; first | exact bI_t (decide_eq_true (by omega)) | exact bI_f (decide_eq_false (by omega)), rfl⟩ d_Mod_takes_104
        · skip
          have c_69 : ¬ ((num (od k) : Int) - (num (od i) : Int)) < (-32768) := fun q9 => c_69 ((zi_lt (a := (num (od k) : Int) - (num (od i) : Int)) (b := -32768) rfl rfl (by omega) (by omega) (by omega) (by omega)).mpr q9)
          refine lv_iload hx hb d_Mod_takes_72 (lv_at hl 0 rfl) ?_
          refine lv_ldc (v := nI 32768) hx hb C.1.2.2.2.1 (C.ts k_880 rfl) d_Mod_takes_74 ?_
          refine lv_icmp_ge (tgt := 103) hx hb d_Mod_takes_76 (by decide) (fun c_76 => ?_) (fun c_76 => ?_)
          · skip
            have c_76 : 32768 ≤ ((num (od k) : Int) - (num (od i) : Int)) := (zi_le (a := 32768) (b := (num (od k) : Int) - (num (od i) : Int)) (nI_iI _) rfl (by omega) (by omega) (by omega) (by omega)).mp c_76
            refine lv_iconst (v := nI 0) hx hb d_Mod_takes_103 (by decide) ?_
            exact z_zret C hr hlk hP hD hS (by omega) (by omega) (by first | exact Or.inl rfl | exact Or.inr rfl) ⟨by unfold tkB; first | exact bI_t (decide_eq_true (by omega)) | exact bI_f (decide_eq_false (by omega)), rfl⟩ d_Mod_takes_104
          · skip
            have c_76 : ¬ 32768 ≤ ((num (od k) : Int) - (num (od i) : Int)) := fun q9 => c_76 ((zi_le (a := 32768) (b := (num (od k) : Int) - (num (od i) : Int)) (nI_iI _) rfl (by omega) (by omega) (by omega) (by omega)).mpr q9)
            refine lv_iload hx hb d_Mod_takes_79 (lv_at hl 8 rfl) ?_
            refine lv_iload hx hb d_Mod_takes_81 (lv_at hl 7 rfl) ?_
            refine z_iadd (v := nI (b + to)) C d_Mod_takes_83 (nI_add _ _) ?_
            refine lv_sipush (v := nI 8192) hx hb d_Mod_takes_84 (by decide) ?_
            refine z_idiv (v := nI ((b + to) / 8192)) C d_Mod_takes_87 (by decide) (pk_div (by omega) (by decide) (by decide)) ?_
            refine lv_iload hx hb d_Mod_takes_88 (lv_at hl 8 rfl) ?_
            refine lv_iload_n hx hb d_Mod_takes_90 rfl (lv_at hl 5 rfl) ?_
            refine z_iadd (v := nI (b + fr)) C d_Mod_takes_91 (nI_add _ _) ?_
            refine lv_sipush (v := nI 8192) hx hb d_Mod_takes_92 (by decide) ?_
            refine z_idiv (v := nI ((b + fr) / 8192)) C d_Mod_takes_95 (by decide) (pk_div (by omega) (by decide) (by decide)) ?_
            refine lv_icmp_ne (tgt := 103) hx hb d_Mod_takes_96 (by decide) (fun c_96 => ?_) (fun c_96 => ?_)
            · skip
              have c_96 : ¬ ((b + to) / 8192) = ((b + fr) / 8192) := fun q9 => c_96 ((nI_eq (a := (b + to) / 8192) (b := (b + fr) / 8192) (by omega) (by omega)).mpr q9)
              refine lv_iconst (v := nI 0) hx hb d_Mod_takes_103 (by decide) ?_
              exact z_zret C hr hlk hP hD hS (by omega) (by omega) (by first | exact Or.inl rfl | exact Or.inr rfl) ⟨by unfold tkB; first | exact bI_t (decide_eq_true (by omega)) | exact bI_f (decide_eq_false (by omega)), rfl⟩ d_Mod_takes_104
            · skip
              have c_96 : ((b + to) / 8192) = ((b + fr) / 8192) := (nI_eq (a := (b + to) / 8192) (b := (b + fr) / 8192) (by omega) (by omega)).mp c_96
              refine lv_iconst (v := nI 1) hx hb d_Mod_takes_99 (by decide) ?_
              refine lv_goto (tgt := 104) hx hb d_Mod_takes_100 (by decide) ?_
              exact z_zret C hr hlk hP hD hS (by omega) (by omega) (by first | exact Or.inl rfl | exact Or.inr rfl) ⟨by unfold tkB; first | exact bI_t (decide_eq_true (by omega)) | exact bI_f (decide_eq_false (by omega)), rfl⟩ d_Mod_takes_104
set_option maxHeartbeats 4000000 in
set_option maxRecDepth 100000 in
theorem c_Mod_measure (l : Launch) (g : zT) (T : va_W) (o ts ta ne ans anm anu asa apl akd nk akn aks akp akk bg sz hd alg ni aip aix aiz aim aod av hv lf sn pv : Nat) (ho : (o, zo 11 [.int (nI ts), .ref ta, .int (nI ne), .ref ans, .ref anm, .ref anu, .ref asa, .ref apl, .ref akd, .int (nI nk), .ref akn, .ref aks, .ref akp, .ref akk, .int (nI bg), .int (nI sz), .int (nI hd), .ref alg, .int (nI ni), .ref aip, .ref aix, .ref aiz, .ref aim, .ref aod, .int (nI av), .int (nI hv), .int (nI lf), .int (nI sn), .int (nI pv)]) ∈ T) (nsz : Nat → Nat) (hns : (ans, zIn g 600 (nN nsz)) ∈ T) (num : Nat → Nat) (hnu : (anu, zIn g 600 (nN num)) ∈ T) (sta : Nat → Nat) (hsa : (asa, zIn g 600 (nN sta)) ∈ T) (od : Nat → Nat) (hod : (aod, zIn g 600 (nN od)) ∈ T) (nmb : Nat → UInt8) (pla kin : Nat → Nat) (b : Nat) (v2 : ne ≤ 600) (v3 : ∀ j, j < ne → okE (mdE nmb nsz num sta pla kin j)) (v4 : ∀ j, j < ne → od j < ne) (v5 : b ≤ 40000)  : Met l y_Mod_measure (zw y_Mod_measure b_Mod_measure 6 (some .int)) (zR 1 28 0 0) (zP g [.ref o, .int (nI b)] (T)) (zQi g (fun r w => r = nI (layN b (mdO nmb nsz num sta pla kin od) ne).2.1 ∧ w = T)) 0 0 (zA g) := by
  refine zMet (by decide) (Nat.le_of_ble_eq_true rfl) ?_
  intro p e s m below meth c ls C hr hlk hnm hP hD hl
  have hx := C.1.1
  have hb := C.1.2.1
  have hS : va_S (zA g) s.heap s.heap [] := va_S.rf
  have hl : lv_has ls 6 [(0, .ref o), (1, .int (nI b))] := hl
  have L_10 : ∀ (nu : Nat) (k to i fr : Nat) (_ : k ≤ ne) (_ : to = (layN b (mdO nmb nsz num sta pla kin od) k).2.1) (_ : i = k - (layN b (mdO nmb nsz num sta pla kin od) k).2.2.2.2.1) (_ : fr = (layN b (mdO nmb nsz num sta pla kin od) k).2.2.1)  (_ : ne - k < nu) (H : Heap) (locs : List Loc), va_P g.1 classes (T) H → va_D (zA g) (T) → va_S (zA g) s.heap H locs → ∀ ls : Array Slot, lv_has ls 6 [(0, .ref o), (1, .int (nI b)), (2, .int (nI to)), (3, .int (nI i)), (4, .int (nI fr)), (5, .int (nI k))] → W p l e (zR 1 28 0 0) s m [.ref o, .int (nI b)].toArray below meth c H locs 0 0 (MQ below (zQi g (fun r w => r = nI (layN b (mdO nmb nsz num sta pla kin od) ne).2.1 ∧ w = T)) [.ref o, .int (nI b)].toArray s 0 0 (zA g)) (F0 m 10 ls []) := by
    intro nu
    induction nu with
    | zero => intros; omega
    | succ nu ih =>
      intro k to i fr g0 g1 g2 g3 hmu H locs hP hD hS ls hl
      have L_49 : ∀ (t3 i fr : Nat) (_ : k < ne) (_ : t3 + 8 + nsz (od k) = (layN b (mdO nmb nsz num sta pla kin od) (k + 1)).2.1) (_ : i = k + 1 - (layN b (mdO nmb nsz num sta pla kin od) (k + 1)).2.2.2.2.1) (_ : fr = (layN b (mdO nmb nsz num sta pla kin od) (k + 1)).2.2.1) (H : Heap) (locs : List Loc), va_P g.1 classes (T) H → va_D (zA g) (T) → va_S (zA g) s.heap H locs → ∀ ls : Array Slot, lv_has ls 6 [(0, .ref o), (1, .int (nI b)), (2, .int (nI t3)), (3, .int (nI i)), (4, .int (nI fr)), (5, .int (nI k))] → W p l e (zR 1 28 0 0) s m [.ref o, .int (nI b)].toArray below meth c H locs 0 0 (MQ below (zQi g (fun r w => r = nI (layN b (mdO nmb nsz num sta pla kin od) ne).2.1 ∧ w = T)) [.ref o, .int (nI b)].toArray s 0 0 (zA g)) (F0 m 49 ls []) := by
        intro t3 i fr h0 h1 h2 h3 H locs hP hD hS ls hl
        have ok_k := v3 (od k) (v4 k (by omega))
        have od_k := v4 k (by omega)
        unfold okE at ok_k
        have nl_k : (mdE nmb nsz num sta pla kin (od k)).1.length = nsz (od k) := zl_len _ _ _
        rw [nl_k] at ok_k
        have nm_k : num (od k) ≤ 100000 := ok_k.2.2.2.1
        have st_k : sta (od k) ≤ 65535 := ok_k.2.2.2.2.1
        have pl_k : pla (od k) ≤ 8191 := ok_k.2.2.2.2.2.1
        have kd_k : kin (od k) ≤ 7 := ok_k.2.2.2.2.2.2.2
        refine lv_iload_n hx hb d_Mod_measure_49 rfl (lv_at hl 2 rfl) ?_
        refine lv_bipush (v := nI 8) hx hb d_Mod_measure_50 (by decide) ?_
        refine z_iadd (v := nI (t3 + 8)) C d_Mod_measure_52 (nI_add _ _) ?_
        refine lv_aload_n hx hb d_Mod_measure_53 rfl (lv_at hl 0 rfl) ?_
        refine z_get C hP ho q_Mod 3 (by decide) k_731 (fun _ h9 => h9) rfl d_Mod_measure_54 ?_
        refine lv_aload_n hx hb d_Mod_measure_57 rfl (lv_at hl 0 rfl) ?_
        refine z_get C hP ho q_Mod 23 (by decide) k_751 (fun _ h9 => h9) rfl d_Mod_measure_58 ?_
        refine lv_iload hx hb d_Mod_measure_61 (lv_at hl 5 rfl) ?_
        refine z_iald C hP hod k (by omega) (by omega) d_Mod_measure_63 ?_
        refine z_topi (y := nI (od k)) rfl ?_
        refine z_iald C hP hns (od k) (by omega) (by omega) d_Mod_measure_64 ?_
        refine z_topi (y := nI (nsz (od k))) rfl ?_
        refine z_iadd (v := nI (t3 + 8 + (nsz (od k)))) C d_Mod_measure_65 (nI_add _ _) ?_
        refine lv_istore_n (lv' := [(2, .int (nI (t3 + 8 + (nsz (od k))))), (0, .ref o), (1, .int (nI b)), (3, .int (nI i)), (4, .int (nI fr)), (5, .int (nI k))]) hx hb d_Mod_measure_66 rfl hl (by decide) rfl (fun ls hl => ?_)
        refine lv_iinc (v := nI (k + 1)) (lv' := [(5, .int (nI (k + 1))), (2, .int (nI (t3 + 8 + (nsz (od k))))), (0, .ref o), (1, .int (nI b)), (3, .int (nI i)), (4, .int (nI fr))]) hx hb d_Mod_measure_67 hl (k := 5) rfl (by rw [show Int32.ofInt 1 = nI 1 by decide]; exact nI_add _ _) (by decide) rfl (fun ls hl => ?_)
        refine lv_goto (tgt := 10) hx hb d_Mod_measure_70 (by decide) ?_
        exact ih (k + 1) _ _ _ (by omega) h1 h2 h3 (by omega) _ _ hP hD hS ls (lv_sub hl [2, 3, 1, 4, 5, 0] rfl)
      have L_38 : ∀ (_ : k < ne) (_ : fitB b (mdO nmb nsz num sta pla kin od) k = false) (H : Heap) (locs : List Loc), va_P g.1 classes (T) H → va_D (zA g) (T) → va_S (zA g) s.heap H locs → ∀ ls : Array Slot, lv_has ls 6 [(0, .ref o), (1, .int (nI b)), (2, .int (nI to)), (5, .int (nI k))] → W p l e (zR 1 28 0 0) s m [.ref o, .int (nI b)].toArray below meth c H locs 0 0 (MQ below (zQi g (fun r w => r = nI (layN b (mdO nmb nsz num sta pla kin od) ne).2.1 ∧ w = T)) [.ref o, .int (nI b)].toArray s 0 0 (zA g)) (F0 m 38 ls []) := by
        intro h0 hf H locs hP hD hS ls hl
        have ok_k := v3 (od k) (v4 k (by omega))
        have od_k := v4 k (by omega)
        unfold okE at ok_k
        have nl_k : (mdE nmb nsz num sta pla kin (od k)).1.length = nsz (od k) := zl_len _ _ _
        rw [nl_k] at ok_k
        have nm_k : num (od k) ≤ 100000 := ok_k.2.2.2.1
        have st_k : sta (od k) ≤ 65535 := ok_k.2.2.2.2.1
        have pl_k : pla (od k) ≤ 8191 := ok_k.2.2.2.2.2.1
        have kd_k : kin (od k) ≤ 7 := ok_k.2.2.2.2.2.2.2
        have lb := layN_bd (b := b) (ef := (mdO nmb nsz num sta pla kin od)) (n := k) (fun j hj => v3 (od j) (v4 j (by omega)))
        refine lv_iload hx hb d_Mod_measure_38 (lv_at hl 3 rfl) ?_
        refine lv_istore_n (lv' := [(3, .int (nI k)), (0, .ref o), (1, .int (nI b)), (2, .int (nI to)), (5, .int (nI k))]) hx hb d_Mod_measure_40 rfl hl (by decide) rfl (fun ls hl => ?_)
        refine lv_iload_n hx hb d_Mod_measure_41 rfl (lv_at hl 3 rfl) ?_
        refine lv_istore (lv' := [(4, .int (nI to)), (3, .int (nI k)), (0, .ref o), (1, .int (nI b)), (2, .int (nI to)), (5, .int (nI k))]) hx hb d_Mod_measure_42 hl (by decide) rfl (fun ls hl => ?_)
        refine lv_iload_n hx hb d_Mod_measure_44 rfl (lv_at hl 4 rfl) ?_
        refine lv_bipush (v := nI 12) hx hb d_Mod_measure_45 (by decide) ?_
        refine z_iadd (v := nI (to + 12)) C d_Mod_measure_47 (nI_add _ _) ?_
        refine lv_istore_n (lv' := [(2, .int (nI (to + 12))), (4, .int (nI to)), (3, .int (nI k)), (0, .ref o), (1, .int (nI b)), (5, .int (nI k))]) hx hb d_Mod_measure_48 rfl hl (by decide) rfl (fun ls hl => ?_)
        obtain ⟨q1, q2, q3, q4⟩ := lay_new hf
        have q7 : ((mdO nmb nsz num sta pla kin od) k).1.length = nsz (od k) := zl_len _ _ _
        rw [q7] at q3
        exact L_49 (to + 12) k to (by omega) (by omega) q1 (by rw [g1, q2]) _ _ hP hD hS ls (lv_sub hl [3, 4, 0, 2, 1, 5] rfl)
      refine lv_iload hx hb d_Mod_measure_10 (lv_at hl 5 rfl) ?_
      refine lv_aload_n hx hb d_Mod_measure_12 rfl (lv_at hl 0 rfl) ?_
      refine z_get C hP ho q_Mod 2 (by decide) k_730 (fun _ h9 => h9) rfl d_Mod_measure_13 ?_
      refine lv_icmp_ge (tgt := 73) hx hb d_Mod_measure_16 (by decide) (fun c_16 => ?_) (fun c_16 => ?_)
      · skip
        have c_16 : ne ≤ k := (nI_leI (a := ne) (b := k) (by omega) (by omega)).mp c_16
        refine lv_iload_n hx hb d_Mod_measure_73 rfl (lv_at hl 2 rfl) ?_
        exact z_iret C hr hlk hP hD hS (by omega) (by omega) ⟨by rw [g1, show k = ne by omega], rfl⟩ d_Mod_measure_74
      · skip
        have c_16 : ¬ ne ≤ k := fun q9 => c_16 ((nI_leI (a := ne) (b := k) (by omega) (by omega)).mpr q9)
        have ok_k := v3 (od k) (v4 k (by omega))
        have od_k := v4 k (by omega)
        unfold okE at ok_k
        have nl_k : (mdE nmb nsz num sta pla kin (od k)).1.length = nsz (od k) := zl_len _ _ _
        rw [nl_k] at ok_k
        have nm_k : num (od k) ≤ 100000 := ok_k.2.2.2.1
        have st_k : sta (od k) ≤ 65535 := ok_k.2.2.2.2.1
        have pl_k : pla (od k) ≤ 8191 := ok_k.2.2.2.2.2.1
        have kd_k : kin (od k) ≤ 7 := ok_k.2.2.2.2.2.2.2
        have lb := layN_bd (b := b) (ef := (mdO nmb nsz num sta pla kin od)) (n := k) (fun j hj => v3 (od j) (v4 j (by omega)))
        refine lv_iload hx hb d_Mod_measure_19 (lv_at hl 5 rfl) ?_
        refine lv_if_eq (tgt := 38) hx hb d_Mod_measure_21 (by decide) (fun c_21 => ?_) (fun c_21 => ?_)
        · skip
          have c_21 : k = 0 := (nI_eq (a := k) (b := 0) (by omega) (by decide)).mp c_21
          exact L_38 (by omega) (by rw [c_21]; exact fit_0) _ _ hP hD hS ls (lv_sub hl [0, 1, 2, 5] rfl)
        · skip
          have c_21 : ¬ k = 0 := fun q9 => c_21 ((nI_eq (a := k) (b := 0) (by omega) (by decide)).mpr q9)
          refine lv_aload_n hx hb d_Mod_measure_24 rfl (lv_at hl 0 rfl) ?_
          refine lv_iload_n hx hb d_Mod_measure_25 rfl (lv_at hl 3 rfl) ?_
          refine lv_iload hx hb d_Mod_measure_26 (lv_at hl 4 rfl) ?_
          refine lv_iload hx hb d_Mod_measure_28 (lv_at hl 5 rfl) ?_
          refine lv_iload_n hx hb d_Mod_measure_30 rfl (lv_at hl 2 rfl) ?_
          refine lv_iload_n hx hb d_Mod_measure_31 rfl (lv_at hl 1 rfl) ?_
          have ok_i := v3 (od i) (v4 i (by omega))
          have od_i := v4 i (by omega)
          unfold okE at ok_i
          have nl_i : (mdE nmb nsz num sta pla kin (od i)).1.length = nsz (od i) := zl_len _ _ _
          rw [nl_i] at ok_i
          have nm_i : num (od i) ≤ 100000 := ok_i.2.2.2.1
          have st_i : sta (od i) ≤ 65535 := ok_i.2.2.2.2.1
          have pl_i : pla (od i) ≤ 8191 := ok_i.2.2.2.2.2.1
          have kd_i : kin (od i) ≤ 7 := ok_i.2.2.2.2.2.2.2
          refine z_ki (z_runV (np := 5) C (c_Mod_takes l g T o ts ta ne ans anm anu asa apl akd nk akn aks akp akk bg sz hd alg ni aip aix aiz aim aod av hv lf sn pv ho num hnu sta hsa od hod i fr k to b (by omega) (by omega) (by omega) (by omega) (by omega) (by omega) (by omega) (by omega) (by omega) (by omega) (by omega)) hP hD hS ho (show classes[11]? = some (R_Mod, F_Mod, 29) from rfl) k_879 k_12 k_876 k_878 ks_Mod_takes ⟨by decide, by decide, by decide⟩ ⟨Nat.le_of_ble_eq_true rfl, Nat.le_of_ble_eq_true rfl⟩ rfl hl.1 rfl (Nat.le_of_ble_eq_true rfl) d_Mod_measure_32 ⟨by show _ ≤ 0; omega, by show _ ≤ 0; omega⟩) hS (fun r_32 w H locs hw hP hD hS => ?_)
          obtain ⟨rfl, hw⟩ := hw
          rw [hw] at hP hD
          refine lv_if_ne (tgt := 49) hx hb d_Mod_measure_35 (by decide) (fun c_35 => ?_) (fun c_35 => ?_)
          · skip
            have c_35 : fitB b (mdO nmb nsz num sta pla kin od) k = true := by rw [← tk_fit (ef := (mdO nmb nsz num sta pla kin od)) (i := i) (by omega) g2, ← g1, ← g3]; exact bI_ne.mp c_35
            obtain ⟨q1, q2, q3, q4, q5, q6⟩ := lay_fit c_35 g2
            have q7 : ((mdO nmb nsz num sta pla kin od) k).1.length = nsz (od k) := zl_len _ _ _
            rw [q7] at q5
            exact L_49 to i fr (by omega) (by omega) q2 (by rw [g3, q3]) _ _ hP hD hS ls (lv_sub hl [0, 1, 2, 3, 4, 5] rfl)
          · skip
            have c_35 : fitB b (mdO nmb nsz num sta pla kin od) k = false := by rw [← tk_fit (ef := (mdO nmb nsz num sta pla kin od)) (i := i) (by omega) g2, ← g1, ← g3]; exact bI_eq.mp c_35
            exact L_38 (by omega) c_35 _ _ hP hD hS ls (lv_sub hl [0, 1, 2, 5] rfl)
  refine lv_iconst (v := nI 0) hx hb d_Mod_measure_0 (by decide) ?_
  refine lv_istore_n (lv' := [(2, .int (nI 0)), (0, .ref o), (1, .int (nI b))]) hx hb d_Mod_measure_1 rfl hl (by decide) rfl (fun ls hl => ?_)
  refine lv_iconst (v := nI 0) hx hb d_Mod_measure_2 (by decide) ?_
  refine lv_istore_n (lv' := [(3, .int (nI 0)), (2, .int (nI 0)), (0, .ref o), (1, .int (nI b))]) hx hb d_Mod_measure_3 rfl hl (by decide) rfl (fun ls hl => ?_)
  refine lv_iconst (v := nI 0) hx hb d_Mod_measure_4 (by decide) ?_
  refine lv_istore (lv' := [(4, .int (nI 0)), (3, .int (nI 0)), (2, .int (nI 0)), (0, .ref o), (1, .int (nI b))]) hx hb d_Mod_measure_5 hl (by decide) rfl (fun ls hl => ?_)
  refine lv_iconst (v := nI 0) hx hb d_Mod_measure_7 (by decide) ?_
  refine lv_istore (lv' := [(5, .int (nI 0)), (4, .int (nI 0)), (3, .int (nI 0)), (2, .int (nI 0)), (0, .ref o), (1, .int (nI b))]) hx hb d_Mod_measure_8 hl (by decide) rfl (fun ls hl => ?_)
  exact L_10 _ 0 0 0 0 (Nat.zero_le _) rfl rfl rfl (Nat.lt_succ_self _) _ _ hP hD hS ls (lv_sub hl [4, 5, 3, 2, 1, 0] rfl)
set_option maxHeartbeats 4000000 in
set_option maxRecDepth 100000 in
theorem c_Mod_put (l : Launch) (g : zT) (T : va_W) (o ts ta ne ans anm anu asa apl akd nk akn aks akp akk bg sz hd alg ni aip aix aiz aim aod av hv lf sn pv : Nat) (f : Nat → UInt8) (v : Int32) (n : Nat) (v1 : sz + n ≤ 65536) (v2 : n ≤ 4) : Met l y_Mod_put (zw y_Mod_put b_Mod_put 4 (none)) (zR 0 0 0 0) (zP g [.ref o, .int v, .int (nI n)] ((o, zo 11 [.int (nI ts), .ref ta, .int (nI ne), .ref ans, .ref anm, .ref anu, .ref asa, .ref apl, .ref akd, .int (nI nk), .ref akn, .ref aks, .ref akp, .ref akk, .int (nI bg), .int (nI sz), .int (nI hd), .ref alg, .int (nI ni), .ref aip, .ref aix, .ref aiz, .ref aim, .ref aod, .int (nI av), .int (nI hv), .int (nI lf), .int (nI sn), .int (nI pv)]) :: (alg, zBy g 65536 f) :: T)) (zQv g (fun w => w = (o, zo 11 [.int (nI ts), .ref ta, .int (nI ne), .ref ans, .ref anm, .ref anu, .ref asa, .ref apl, .ref akd, .int (nI nk), .ref akn, .ref aks, .ref akp, .ref akk, .int (nI bg), .int (nI (sz + n)), .int (nI hd), .ref alg, .int (nI ni), .ref aip, .ref aix, .ref aiz, .ref aim, .ref aod, .int (nI av), .int (nI hv), .int (nI lf), .int (nI sn), .int (nI pv)]) :: (alg, zBy g 65536 (wr f sz (btL v n))) :: T)) 0 0 (zA g) := by
  refine zMet (by decide) (Nat.le_of_ble_eq_true rfl) ?_
  intro p e s m below meth c ls C hr hlk hnm hP hD hl
  have hx := C.1.1
  have hb := C.1.2.1
  have hS : va_S (zA g) s.heap s.heap [] := va_S.rf
  have hl : lv_has ls 4 [(0, .ref o), (1, .int v), (2, .int (nI n))] := hl
  have L_2 : ∀ (nu : Nat) (k s2 : Nat) (_ : k ≤ n) (_ : s2 = sz + k) (_ : n - k < nu) (H : Heap) (locs : List Loc), va_P g.1 classes ((o, zo 11 [.int (nI ts), .ref ta, .int (nI ne), .ref ans, .ref anm, .ref anu, .ref asa, .ref apl, .ref akd, .int (nI nk), .ref akn, .ref aks, .ref akp, .ref akk, .int (nI bg), .int (nI s2), .int (nI hd), .ref alg, .int (nI ni), .ref aip, .ref aix, .ref aiz, .ref aim, .ref aod, .int (nI av), .int (nI hv), .int (nI lf), .int (nI sn), .int (nI pv)]) :: (alg, zBy g 65536 (wr f sz (btL v k))) :: T) H → va_D (zA g) ((o, zo 11 [.int (nI ts), .ref ta, .int (nI ne), .ref ans, .ref anm, .ref anu, .ref asa, .ref apl, .ref akd, .int (nI nk), .ref akn, .ref aks, .ref akp, .ref akk, .int (nI bg), .int (nI s2), .int (nI hd), .ref alg, .int (nI ni), .ref aip, .ref aix, .ref aiz, .ref aim, .ref aod, .int (nI av), .int (nI hv), .int (nI lf), .int (nI sn), .int (nI pv)]) :: (alg, zBy g 65536 (wr f sz (btL v k))) :: T) → va_S (zA g) s.heap H locs → ∀ ls : Array Slot, lv_has ls 4 [(0, .ref o), (1, .int v), (2, .int (nI n)), (3, .int (nI k))] → W p l e (zR 0 0 0 0) s m [.ref o, .int v, .int (nI n)].toArray below meth c H locs 0 0 (MQ below (zQv g (fun w => w = (o, zo 11 [.int (nI ts), .ref ta, .int (nI ne), .ref ans, .ref anm, .ref anu, .ref asa, .ref apl, .ref akd, .int (nI nk), .ref akn, .ref aks, .ref akp, .ref akk, .int (nI bg), .int (nI (sz + n)), .int (nI hd), .ref alg, .int (nI ni), .ref aip, .ref aix, .ref aiz, .ref aim, .ref aod, .int (nI av), .int (nI hv), .int (nI lf), .int (nI sn), .int (nI pv)]) :: (alg, zBy g 65536 (wr f sz (btL v n))) :: T)) [.ref o, .int v, .int (nI n)].toArray s 0 0 (zA g)) (F0 m 2 ls []) := by
    intro nu
    induction nu with
    | zero => intros; omega
    | succ nu ih =>
      intro k s2 g1 g2 hmu H locs hP hD hS ls hl
      refine lv_iload_n hx hb d_Mod_put_2 rfl (lv_at hl 3 rfl) ?_
      refine lv_iload_n hx hb d_Mod_put_3 rfl (lv_at hl 2 rfl) ?_
      refine lv_icmp_ge (tgt := 39) hx hb d_Mod_put_4 (by decide) (fun c_4 => ?_) (fun c_4 => ?_)
      · skip
        have c_4 : n ≤ k := (nI_leI (a := n) (b := k) (by omega) (by omega)).mp c_4
        exact z_vret C hr hlk hP hD hS (by omega) (by omega) (by rw [show s2 = sz + n by omega, show k = n by omega]) d_Mod_put_39
      · skip
        have c_4 : ¬ n ≤ k := fun q9 => c_4 ((nI_leI (a := n) (b := k) (by omega) (by omega)).mpr q9)
        refine lv_aload_n hx hb d_Mod_put_7 rfl (lv_at hl 0 rfl) ?_
        refine z_get C hP List.mem_cons_self q_Mod 17 (by decide) k_745 (fun _ h9 => h9) rfl d_Mod_put_8 ?_
        refine lv_aload_n hx hb d_Mod_put_11 rfl (lv_at hl 0 rfl) ?_
        refine z_get C hP List.mem_cons_self q_Mod 15 (by decide) k_743 (fun _ h9 => h9) rfl d_Mod_put_12 ?_
        refine lv_iload_n hx hb d_Mod_put_15 rfl (lv_at hl 1 rfl) ?_
        refine lv_bipush (v := nI 8) hx hb d_Mod_put_16 (by decide) ?_
        refine lv_iload_n hx hb d_Mod_put_18 rfl (lv_at hl 3 rfl) ?_
        refine z_imul (v := nI (8 * k)) C d_Mod_put_19 (pk_mul _ _) ?_
        refine z_ishr (v := v >>> ((nI (8 * k)) &&& 31)) C d_Mod_put_20 rfl ?_
        refine lv_i2b (v := sb (zu (v >>> ((nI (8 * k)) &&& 31)))) hx hb d_Mod_put_21 (sb_zu _).symm ?_
        refine z_bast C hP hD hS 1 rfl s2 (by omega) (by omega) d_Mod_put_22 (ws' := (o, zo 11 [.int (nI ts), .ref ta, .int (nI ne), .ref ans, .ref anm, .ref anu, .ref asa, .ref apl, .ref akd, .int (nI nk), .ref akn, .ref aks, .ref akp, .ref akk, .int (nI bg), .int (nI s2), .int (nI hd), .ref alg, .int (nI ni), .ref aip, .ref aix, .ref aiz, .ref aim, .ref aod, .int (nI av), .int (nI hv), .int (nI lf), .int (nI sn), .int (nI pv)]) :: (alg, zBy g 65536 (uB (wr f sz (btL v k)) s2 (zu (v >>> ((nI (8 * k)) &&& 31))))) :: T) rfl (fun H locs hP hD hS => ?_)
        have e_b : (uB (wr f sz (btL v k)) s2 (zu (v >>> ((nI (8 * k)) &&& 31))) : Nat → UInt8) = wr f sz (btL v (k + 1)) := put_s _ _ _ _ _ g2
        rw [e_b] at hP hD
        refine lv_aload_n hx hb d_Mod_put_23 rfl (lv_at hl 0 rfl) ?_
        refine lv_dup hx hb d_Mod_put_24 rfl ?_
        refine z_get C hP List.mem_cons_self q_Mod 15 (by decide) k_743 (fun _ h9 => h9) rfl d_Mod_put_25 ?_
        refine lv_iconst (v := nI 1) hx hb d_Mod_put_28 (by decide) ?_
        refine z_iadd (v := nI (s2 + 1)) C d_Mod_put_29 (nI_add _ _) ?_
        refine z_put C hP hD hS 0 rfl q_Mod 15 (by decide) k_743 (fun _ h9 => h9) rfl rfl rfl (Nat.le_of_ble_eq_true rfl) d_Mod_put_30 (ws' := (o, zo 11 [.int (nI ts), .ref ta, .int (nI ne), .ref ans, .ref anm, .ref anu, .ref asa, .ref apl, .ref akd, .int (nI nk), .ref akn, .ref aks, .ref akp, .ref akk, .int (nI bg), .int (nI (s2 + 1)), .int (nI hd), .ref alg, .int (nI ni), .ref aip, .ref aix, .ref aiz, .ref aim, .ref aod, .int (nI av), .int (nI hv), .int (nI lf), .int (nI sn), .int (nI pv)]) :: (alg, zBy g 65536 (wr f sz (btL v (k + 1)))) :: T) rfl (fun H locs hP hD hS => ?_)
        refine lv_iinc (v := nI (k + 1)) (lv' := [(3, .int (nI (k + 1))), (0, .ref o), (1, .int v), (2, .int (nI n))]) hx hb d_Mod_put_33 hl (k := 3) rfl (by rw [show Int32.ofInt 1 = nI 1 by decide]; exact nI_add _ _) (by decide) rfl (fun ls hl => ?_)
        refine lv_goto (tgt := 2) hx hb d_Mod_put_36 (by decide) ?_
        exact ih (k + 1) (s2 + 1) (by omega) (by omega) (by omega) _ _ hP hD hS ls (lv_sub hl [1, 2, 3, 0] rfl)
  refine lv_iconst (v := nI 0) hx hb d_Mod_put_0 (by decide) ?_
  refine lv_istore_n (lv' := [(3, .int (nI 0)), (0, .ref o), (1, .int v), (2, .int (nI n))]) hx hb d_Mod_put_1 rfl hl (by decide) rfl (fun ls hl => ?_)
  have e_w : zBy g 65536 f = zBy g 65536 (wr f sz (btL v 0)) := by rw [show btL v 0 = [] from rfl, wr_0]
  rw [e_w] at hP hD
  exact L_2 _ 0 sz (Nat.zero_le _) rfl (Nat.lt_succ_self _) _ _ hP hD hS ls (lv_sub hl [1, 2, 3, 0] rfl)
set_option maxHeartbeats 4000000 in
set_option maxRecDepth 100000 in
theorem c_Mod_closeHeader (l : Launch) (g : zT) (T : va_W) (o ts ta ne ans anm anu asa apl akd nk akn aks akp akk bg sz hd alg ni aip aix aiz aim aod av hv lf sn pv : Nat) (ho : (o, zo 11 [.int (nI ts), .ref ta, .int (nI ne), .ref ans, .ref anm, .ref anu, .ref asa, .ref apl, .ref akd, .int (nI nk), .ref akn, .ref aks, .ref akp, .ref akk, .int (nI bg), .int (nI sz), .int (nI hd), .ref alg, .int (nI ni), .ref aip, .ref aix, .ref aiz, .ref aim, .ref aod, .int (nI av), .int (nI hv), .int (nI lf), .int (nI sn), .int (nI pv)]) ∈ T) (f : Nat → UInt8) (fr mny : Nat) (v1 : fr < 65536) (v2 : 0 < hd → 1 ≤ mny) (v3 : hd < 2 ^ 20) : Met l y_Mod_closeHeader (zw y_Mod_closeHeader b_Mod_closeHeader 3 (none)) (zR 0 0 0 0) (zP g [.ref o, .int (nI fr), .int (nI mny)] ((alg, zBy g 65536 f) :: T)) (zQv g (fun w => w = (alg, zBy g 65536 (if 0 < hd then uB f fr (zu (nI (mny - 1))) else f)) :: T)) 0 0 (zA g) := by
  refine zMet (by decide) (Nat.le_of_ble_eq_true rfl) ?_
  intro p e s m below meth c ls C hr hlk hnm hP hD hl
  have hx := C.1.1
  have hb := C.1.2.1
  have hS : va_S (zA g) s.heap s.heap [] := va_S.rf
  have hl : lv_has ls 3 [(0, .ref o), (1, .int (nI fr)), (2, .int (nI mny))] := hl
  refine lv_aload_n hx hb d_Mod_closeHeader_0 rfl (lv_at hl 0 rfl) ?_
  refine z_get C hP (List.mem_cons_of_mem _ ho) q_Mod 16 (by decide) k_744 (fun _ h9 => h9) rfl d_Mod_closeHeader_1 ?_
  refine lv_if_le (tgt := 17) hx hb d_Mod_closeHeader_4 (by decide) (fun c_4 => ?_) (fun c_4 => ?_)
  · skip
    have c_4 : hd ≤ 0 := (nI_leI (a := hd) (b := 0) (by omega) (by decide)).mp c_4
    exact z_vret C hr hlk hP hD hS (by omega) (by omega) (by rw [if_neg (show ¬ 0 < hd by omega)]) d_Mod_closeHeader_17
  · skip
    have c_4 : ¬ hd ≤ 0 := fun q9 => c_4 ((nI_leI (a := hd) (b := 0) (by omega) (by decide)).mpr q9)
    refine lv_aload_n hx hb d_Mod_closeHeader_7 rfl (lv_at hl 0 rfl) ?_
    refine z_get C hP (List.mem_cons_of_mem _ ho) q_Mod 17 (by decide) k_745 (fun _ h9 => h9) rfl d_Mod_closeHeader_8 ?_
    refine lv_iload_n hx hb d_Mod_closeHeader_11 rfl (lv_at hl 1 rfl) ?_
    refine lv_iload_n hx hb d_Mod_closeHeader_12 rfl (lv_at hl 2 rfl) ?_
    refine lv_iconst (v := nI 1) hx hb d_Mod_closeHeader_13 (by decide) ?_
    refine z_isub (v := nI (mny - 1)) C d_Mod_closeHeader_14 (pk_sub (by have := v2 (by omega); omega)) ?_
    refine lv_i2b (v := sb (zu (nI (mny - 1)))) hx hb d_Mod_closeHeader_15 (sb_zu _).symm ?_
    refine z_bast C hP hD hS 0 rfl fr (by omega) (by omega) d_Mod_closeHeader_16 (ws' := (alg, zBy g 65536 (uB f fr (zu (nI (mny - 1))))) :: T) rfl (fun H locs hP hD hS => ?_)
    exact z_vret C hr hlk hP hD hS (by omega) (by omega) (by rw [if_pos (show 0 < hd by omega)]) d_Mod_closeHeader_17
set_option maxHeartbeats 4000000 in
set_option maxRecDepth 100000 in
theorem c_Mod_noteIndex (l : Launch) (g : zT) (T : va_W) (o ts ta ne ans anm anu asa apl akd nk akn aks akp akk bg sz hd alg ni aip aix aiz aim aod av hv lf sn pv : Nat) (nsz : Nat → Nat) (hns : (ans, zIn g 600 (nN nsz)) ∈ T) (nmb : Nat → UInt8) (hnb : (anm, zBy g 153600 nmb) ∈ T) (ipl : Nat → Int32) (ist : Nat → Int32) (isz : Nat → Nat) (inm : Nat → UInt8) (fr e0 : Nat) (v1 : e0 < 600) (v2 : nsz e0 ≤ 256) (v3 : ni < 12) (v4 : bg ≤ 40000) (v5 : fr ≤ 65536) : Met l y_Mod_noteIndex (zw y_Mod_noteIndex b_Mod_noteIndex 4 (none)) (zR 1 22 0 0) (zP g [.ref o, .int (nI fr), .int (nI e0)] ((o, zo 11 [.int (nI ts), .ref ta, .int (nI ne), .ref ans, .ref anm, .ref anu, .ref asa, .ref apl, .ref akd, .int (nI nk), .ref akn, .ref aks, .ref akp, .ref akk, .int (nI bg), .int (nI sz), .int (nI hd), .ref alg, .int (nI ni), .ref aip, .ref aix, .ref aiz, .ref aim, .ref aod, .int (nI av), .int (nI hv), .int (nI lf), .int (nI sn), .int (nI pv)]) :: (aip, zIn g 16 ipl) :: (aix, zIn g 16 ist) :: (aiz, zIn g 16 (nN isz)) :: (aim, zIn g 4096 (nB inm)) :: T)) (zQv g (fun w => w = (o, zo 11 [.int (nI ts), .ref ta, .int (nI ne), .ref ans, .ref anm, .ref anu, .ref asa, .ref apl, .ref akd, .int (nI nk), .ref akn, .ref aks, .ref akp, .ref akk, .int (nI bg), .int (nI sz), .int (nI hd), .ref alg, .int (nI (ni + 1)), .ref aip, .ref aix, .ref aiz, .ref aim, .ref aod, .int (nI av), .int (nI hv), .int (nI lf), .int (nI sn), .int (nI pv)]) :: (aip, zIn g 16 (upd ipl ni (nI fr))) :: (aix, zIn g 16 (upd ist ni (nI (8194 * ((bg + fr) / 8192))))) :: (aiz, zIn g 16 (nN (upN isz ni (nsz e0)))) :: (aim, zIn g 4096 (nB (wr inm (256 * ni) (zl nmb (256 * e0) (nsz e0))))) :: T)) 0 0 (zA g) := by
  refine zMet (by decide) (Nat.le_of_ble_eq_true rfl) ?_
  intro p e s m below meth c ls C hr hlk hnm hP hD hl
  have hx := C.1.1
  have hb := C.1.2.1
  have hS : va_S (zA g) s.heap s.heap [] := va_S.rf
  have hl : lv_has ls 4 [(0, .ref o), (1, .int (nI fr)), (2, .int (nI e0))] := hl
  have L_50 : ∀ (nu : Nat) (k : Nat) (_ : k ≤ nsz e0) (_ : nsz e0 - k < nu) (H : Heap) (locs : List Loc), va_P g.1 classes ((o, zo 11 [.int (nI ts), .ref ta, .int (nI ne), .ref ans, .ref anm, .ref anu, .ref asa, .ref apl, .ref akd, .int (nI nk), .ref akn, .ref aks, .ref akp, .ref akk, .int (nI bg), .int (nI sz), .int (nI hd), .ref alg, .int (nI ni), .ref aip, .ref aix, .ref aiz, .ref aim, .ref aod, .int (nI av), .int (nI hv), .int (nI lf), .int (nI sn), .int (nI pv)]) :: (aip, zIn g 16 (upd ipl ni (nI fr))) :: (aix, zIn g 16 (upd ist ni (nI (8194 * ((bg + fr) / 8192))))) :: (aiz, zIn g 16 (nN (upN isz ni (nsz e0)))) :: (aim, zIn g 4096 (nB (wr inm (256 * ni) (zl nmb (256 * e0) k)))) :: T) H → va_D (zA g) ((o, zo 11 [.int (nI ts), .ref ta, .int (nI ne), .ref ans, .ref anm, .ref anu, .ref asa, .ref apl, .ref akd, .int (nI nk), .ref akn, .ref aks, .ref akp, .ref akk, .int (nI bg), .int (nI sz), .int (nI hd), .ref alg, .int (nI ni), .ref aip, .ref aix, .ref aiz, .ref aim, .ref aod, .int (nI av), .int (nI hv), .int (nI lf), .int (nI sn), .int (nI pv)]) :: (aip, zIn g 16 (upd ipl ni (nI fr))) :: (aix, zIn g 16 (upd ist ni (nI (8194 * ((bg + fr) / 8192))))) :: (aiz, zIn g 16 (nN (upN isz ni (nsz e0)))) :: (aim, zIn g 4096 (nB (wr inm (256 * ni) (zl nmb (256 * e0) k)))) :: T) → va_S (zA g) s.heap H locs → ∀ ls : Array Slot, lv_has ls 4 [(0, .ref o), (1, .int (nI fr)), (2, .int (nI e0)), (3, .int (nI k))] → W p l e (zR 1 22 0 0) s m [.ref o, .int (nI fr), .int (nI e0)].toArray below meth c H locs 0 0 (MQ below (zQv g (fun w => w = (o, zo 11 [.int (nI ts), .ref ta, .int (nI ne), .ref ans, .ref anm, .ref anu, .ref asa, .ref apl, .ref akd, .int (nI nk), .ref akn, .ref aks, .ref akp, .ref akk, .int (nI bg), .int (nI sz), .int (nI hd), .ref alg, .int (nI (ni + 1)), .ref aip, .ref aix, .ref aiz, .ref aim, .ref aod, .int (nI av), .int (nI hv), .int (nI lf), .int (nI sn), .int (nI pv)]) :: (aip, zIn g 16 (upd ipl ni (nI fr))) :: (aix, zIn g 16 (upd ist ni (nI (8194 * ((bg + fr) / 8192))))) :: (aiz, zIn g 16 (nN (upN isz ni (nsz e0)))) :: (aim, zIn g 4096 (nB (wr inm (256 * ni) (zl nmb (256 * e0) (nsz e0))))) :: T)) [.ref o, .int (nI fr), .int (nI e0)].toArray s 0 0 (zA g)) (F0 m 50 ls []) := by
    intro nu
    induction nu with
    | zero => intros; omega
    | succ nu ih =>
      intro k g1 hmu H locs hP hD hS ls hl
      refine lv_iload_n hx hb d_Mod_noteIndex_50 rfl (lv_at hl 3 rfl) ?_
      refine lv_aload_n hx hb d_Mod_noteIndex_51 rfl (lv_at hl 0 rfl) ?_
      refine z_get C hP List.mem_cons_self q_Mod 3 (by decide) k_731 (fun _ h9 => h9) rfl d_Mod_noteIndex_52 ?_
      refine lv_iload_n hx hb d_Mod_noteIndex_55 rfl (lv_at hl 2 rfl) ?_
      refine z_iald C hP (List.mem_cons_of_mem _ (List.mem_cons_of_mem _ (List.mem_cons_of_mem _ (List.mem_cons_of_mem _ (List.mem_cons_of_mem _ hns))))) e0 (by omega) (by omega) d_Mod_noteIndex_56 ?_
      refine z_topi (y := nI (nsz e0)) rfl ?_
      refine lv_icmp_ge (tgt := 87) hx hb d_Mod_noteIndex_57 (by decide) (fun c_57 => ?_) (fun c_57 => ?_)
      · skip
        have c_57 : (nsz e0) ≤ k := (nI_leI (a := nsz e0) (b := k) (by omega) (by omega)).mp c_57
        refine lv_aload_n hx hb d_Mod_noteIndex_87 rfl (lv_at hl 0 rfl) ?_
        refine lv_dup hx hb d_Mod_noteIndex_88 rfl ?_
        refine z_get C hP List.mem_cons_self q_Mod 18 (by decide) k_746 (fun _ h9 => h9) rfl d_Mod_noteIndex_89 ?_
        refine lv_iconst (v := nI 1) hx hb d_Mod_noteIndex_92 (by decide) ?_
        refine z_iadd (v := nI (ni + 1)) C d_Mod_noteIndex_93 (nI_add _ _) ?_
        refine z_put C hP hD hS 0 rfl q_Mod 18 (by decide) k_746 (fun _ h9 => h9) rfl rfl rfl (Nat.le_of_ble_eq_true rfl) d_Mod_noteIndex_94 (ws' := (o, zo 11 [.int (nI ts), .ref ta, .int (nI ne), .ref ans, .ref anm, .ref anu, .ref asa, .ref apl, .ref akd, .int (nI nk), .ref akn, .ref aks, .ref akp, .ref akk, .int (nI bg), .int (nI sz), .int (nI hd), .ref alg, .int (nI (ni + 1)), .ref aip, .ref aix, .ref aiz, .ref aim, .ref aod, .int (nI av), .int (nI hv), .int (nI lf), .int (nI sn), .int (nI pv)]) :: (aip, zIn g 16 (upd ipl ni (nI fr))) :: (aix, zIn g 16 (upd ist ni (nI (8194 * ((bg + fr) / 8192))))) :: (aiz, zIn g 16 (nN (upN isz ni (nsz e0)))) :: (aim, zIn g 4096 (nB (wr inm (256 * ni) (zl nmb (256 * e0) k)))) :: T) rfl (fun H locs hP hD hS => ?_)
        exact z_vret C hr hlk hP hD hS (by omega) (by omega) (by rw [show k = nsz e0 by omega]) d_Mod_noteIndex_97
      · skip
        have c_57 : ¬ (nsz e0) ≤ k := fun q9 => c_57 ((nI_leI (a := nsz e0) (b := k) (by omega) (by omega)).mpr q9)
        refine lv_aload_n hx hb d_Mod_noteIndex_60 rfl (lv_at hl 0 rfl) ?_
        refine z_get C hP List.mem_cons_self q_Mod 22 (by decide) k_750 (fun _ h9 => h9) rfl d_Mod_noteIndex_61 ?_
        refine lv_sipush (v := nI 256) hx hb d_Mod_noteIndex_64 (by decide) ?_
        refine lv_aload_n hx hb d_Mod_noteIndex_67 rfl (lv_at hl 0 rfl) ?_
        refine z_get C hP List.mem_cons_self q_Mod 18 (by decide) k_746 (fun _ h9 => h9) rfl d_Mod_noteIndex_68 ?_
        refine z_imul (v := nI (256 * ni)) C d_Mod_noteIndex_71 (pk_mul _ _) ?_
        refine lv_iload_n hx hb d_Mod_noteIndex_72 rfl (lv_at hl 3 rfl) ?_
        refine z_iadd (v := nI ((256 * ni) + k)) C d_Mod_noteIndex_73 (nI_add _ _) ?_
        refine lv_aload_n hx hb d_Mod_noteIndex_74 rfl (lv_at hl 0 rfl) ?_
        refine lv_iload_n hx hb d_Mod_noteIndex_75 rfl (lv_at hl 2 rfl) ?_
        refine lv_iload_n hx hb d_Mod_noteIndex_76 rfl (lv_at hl 3 rfl) ?_
        refine z_ki (z_runV (np := 2) C (c_Mod_nameByte l g ((o, zo 11 [.int (nI ts), .ref ta, .int (nI ne), .ref ans, .ref anm, .ref anu, .ref asa, .ref apl, .ref akd, .int (nI nk), .ref akn, .ref aks, .ref akp, .ref akk, .int (nI bg), .int (nI sz), .int (nI hd), .ref alg, .int (nI ni), .ref aip, .ref aix, .ref aiz, .ref aim, .ref aod, .int (nI av), .int (nI hv), .int (nI lf), .int (nI sn), .int (nI pv)]) :: (aip, zIn g 16 (upd ipl ni (nI fr))) :: (aix, zIn g 16 (upd ist ni (nI (8194 * ((bg + fr) / 8192))))) :: (aiz, zIn g 16 (nN (upN isz ni (nsz e0)))) :: (aim, zIn g 4096 (nB (wr inm (256 * ni) (zl nmb (256 * e0) k)))) :: T) o ts ta ne ans anm anu asa apl akd nk akn aks akp akk bg sz hd alg ni aip aix aiz aim aod av hv lf sn pv List.mem_cons_self nmb (List.mem_cons_of_mem _ (List.mem_cons_of_mem _ (List.mem_cons_of_mem _ (List.mem_cons_of_mem _ (List.mem_cons_of_mem _ hnb))))) (e0) (k) (by omega) (by omega)) hP hD hS List.mem_cons_self (show classes[11]? = some (R_Mod, F_Mod, 29) from rfl) k_846 k_12 k_843 k_845 ks_Mod_nameByte ⟨by decide, by decide, by decide⟩ ⟨Nat.le_of_ble_eq_true rfl, Nat.le_of_ble_eq_true rfl⟩ rfl hl.1 rfl (Nat.le_of_ble_eq_true rfl) d_Mod_noteIndex_77 ⟨by show _ ≤ 0; omega, by show _ ≤ 0; omega⟩) hS (fun r_77 w H locs hw hP hD hS => ?_)
        obtain ⟨rfl, hw⟩ := hw
        rw [hw] at hP hD
        refine z_iast C hP hD hS 4 rfl ((256 * ni) + k) (by omega) (by omega) d_Mod_noteIndex_80 (ws' := (o, zo 11 [.int (nI ts), .ref ta, .int (nI ne), .ref ans, .ref anm, .ref anu, .ref asa, .ref apl, .ref akd, .int (nI nk), .ref akn, .ref aks, .ref akp, .ref akk, .int (nI bg), .int (nI sz), .int (nI hd), .ref alg, .int (nI ni), .ref aip, .ref aix, .ref aiz, .ref aim, .ref aod, .int (nI av), .int (nI hv), .int (nI lf), .int (nI sn), .int (nI pv)]) :: (aip, zIn g 16 (upd ipl ni (nI fr))) :: (aix, zIn g 16 (upd ist ni (nI (8194 * ((bg + fr) / 8192))))) :: (aiz, zIn g 16 (nN (upN isz ni (nsz e0)))) :: (aim, zIn g 4096 (upd (nB (wr inm (256 * ni) (zl nmb (256 * e0) k))) ((256 * ni) + k) (nI ((nmb (256 * e0 + k)).toNat)))) :: T) rfl (fun H locs hP hD hS => ?_)
        rw [upd_nB] at hP hD
        rw [zlw_s _ _ _ _ _ _ _ rfl rfl] at hP hD
        refine lv_iinc (v := nI (k + 1)) (lv' := [(3, .int (nI (k + 1))), (0, .ref o), (1, .int (nI fr)), (2, .int (nI e0))]) hx hb d_Mod_noteIndex_81 hl (k := 3) rfl (by rw [show Int32.ofInt 1 = nI 1 by decide]; exact nI_add _ _) (by decide) rfl (fun ls hl => ?_)
        refine lv_goto (tgt := 50) hx hb d_Mod_noteIndex_84 (by decide) ?_
        exact ih (k + 1) (by omega) (by omega) _ _ hP hD hS ls (lv_sub hl [1, 2, 3, 0] rfl)
  refine lv_aload_n hx hb d_Mod_noteIndex_0 rfl (lv_at hl 0 rfl) ?_
  refine z_get C hP List.mem_cons_self q_Mod 19 (by decide) k_747 (fun _ h9 => h9) rfl d_Mod_noteIndex_1 ?_
  refine lv_aload_n hx hb d_Mod_noteIndex_4 rfl (lv_at hl 0 rfl) ?_
  refine z_get C hP List.mem_cons_self q_Mod 18 (by decide) k_746 (fun _ h9 => h9) rfl d_Mod_noteIndex_5 ?_
  refine lv_iload_n hx hb d_Mod_noteIndex_8 rfl (lv_at hl 1 rfl) ?_
  refine z_iast C hP hD hS 1 rfl ni (by omega) (by omega) d_Mod_noteIndex_9 (ws' := (o, zo 11 [.int (nI ts), .ref ta, .int (nI ne), .ref ans, .ref anm, .ref anu, .ref asa, .ref apl, .ref akd, .int (nI nk), .ref akn, .ref aks, .ref akp, .ref akk, .int (nI bg), .int (nI sz), .int (nI hd), .ref alg, .int (nI ni), .ref aip, .ref aix, .ref aiz, .ref aim, .ref aod, .int (nI av), .int (nI hv), .int (nI lf), .int (nI sn), .int (nI pv)]) :: (aip, zIn g 16 (upd ipl ni (nI fr))) :: (aix, zIn g 16 ist) :: (aiz, zIn g 16 (nN isz)) :: (aim, zIn g 4096 (nB inm)) :: T) rfl (fun H locs hP hD hS => ?_)
  refine lv_aload_n hx hb d_Mod_noteIndex_10 rfl (lv_at hl 0 rfl) ?_
  refine z_get C hP List.mem_cons_self q_Mod 20 (by decide) k_748 (fun _ h9 => h9) rfl d_Mod_noteIndex_11 ?_
  refine lv_aload_n hx hb d_Mod_noteIndex_14 rfl (lv_at hl 0 rfl) ?_
  refine z_get C hP List.mem_cons_self q_Mod 18 (by decide) k_746 (fun _ h9 => h9) rfl d_Mod_noteIndex_15 ?_
  refine lv_sipush (v := nI 8194) hx hb d_Mod_noteIndex_18 (by decide) ?_
  refine lv_aload_n hx hb d_Mod_noteIndex_21 rfl (lv_at hl 0 rfl) ?_
  refine z_get C hP List.mem_cons_self q_Mod 14 (by decide) k_742 (fun _ h9 => h9) rfl d_Mod_noteIndex_22 ?_
  refine lv_iload_n hx hb d_Mod_noteIndex_25 rfl (lv_at hl 1 rfl) ?_
  refine z_iadd (v := nI (bg + fr)) C d_Mod_noteIndex_26 (nI_add _ _) ?_
  refine lv_sipush (v := nI 8192) hx hb d_Mod_noteIndex_27 (by decide) ?_
  refine z_idiv (v := nI ((bg + fr) / 8192)) C d_Mod_noteIndex_30 (by decide) (pk_div (by omega) (by decide) (by decide)) ?_
  refine z_imul (v := nI (8194 * ((bg + fr) / 8192))) C d_Mod_noteIndex_31 (pk_mul _ _) ?_
  refine z_iast C hP hD hS 2 rfl ni (by omega) (by omega) d_Mod_noteIndex_32 (ws' := (o, zo 11 [.int (nI ts), .ref ta, .int (nI ne), .ref ans, .ref anm, .ref anu, .ref asa, .ref apl, .ref akd, .int (nI nk), .ref akn, .ref aks, .ref akp, .ref akk, .int (nI bg), .int (nI sz), .int (nI hd), .ref alg, .int (nI ni), .ref aip, .ref aix, .ref aiz, .ref aim, .ref aod, .int (nI av), .int (nI hv), .int (nI lf), .int (nI sn), .int (nI pv)]) :: (aip, zIn g 16 (upd ipl ni (nI fr))) :: (aix, zIn g 16 (upd ist ni (nI (8194 * ((bg + fr) / 8192))))) :: (aiz, zIn g 16 (nN isz)) :: (aim, zIn g 4096 (nB inm)) :: T) rfl (fun H locs hP hD hS => ?_)
  refine lv_aload_n hx hb d_Mod_noteIndex_33 rfl (lv_at hl 0 rfl) ?_
  refine z_get C hP List.mem_cons_self q_Mod 21 (by decide) k_749 (fun _ h9 => h9) rfl d_Mod_noteIndex_34 ?_
  refine lv_aload_n hx hb d_Mod_noteIndex_37 rfl (lv_at hl 0 rfl) ?_
  refine z_get C hP List.mem_cons_self q_Mod 18 (by decide) k_746 (fun _ h9 => h9) rfl d_Mod_noteIndex_38 ?_
  refine lv_aload_n hx hb d_Mod_noteIndex_41 rfl (lv_at hl 0 rfl) ?_
  refine z_get C hP List.mem_cons_self q_Mod 3 (by decide) k_731 (fun _ h9 => h9) rfl d_Mod_noteIndex_42 ?_
  refine lv_iload_n hx hb d_Mod_noteIndex_45 rfl (lv_at hl 2 rfl) ?_
  refine z_iald C hP (List.mem_cons_of_mem _ (List.mem_cons_of_mem _ (List.mem_cons_of_mem _ (List.mem_cons_of_mem _ (List.mem_cons_of_mem _ hns))))) e0 (by omega) (by omega) d_Mod_noteIndex_46 ?_
  refine z_topi (y := nI (nsz e0)) rfl ?_
  refine z_iast C hP hD hS 3 rfl ni (by omega) (by omega) d_Mod_noteIndex_47 (ws' := (o, zo 11 [.int (nI ts), .ref ta, .int (nI ne), .ref ans, .ref anm, .ref anu, .ref asa, .ref apl, .ref akd, .int (nI nk), .ref akn, .ref aks, .ref akp, .ref akk, .int (nI bg), .int (nI sz), .int (nI hd), .ref alg, .int (nI ni), .ref aip, .ref aix, .ref aiz, .ref aim, .ref aod, .int (nI av), .int (nI hv), .int (nI lf), .int (nI sn), .int (nI pv)]) :: (aip, zIn g 16 (upd ipl ni (nI fr))) :: (aix, zIn g 16 (upd ist ni (nI (8194 * ((bg + fr) / 8192))))) :: (aiz, zIn g 16 (upd (nN isz) ni (nI (nsz e0)))) :: (aim, zIn g 4096 (nB inm)) :: T) rfl (fun H locs hP hD hS => ?_)
  rw [upd_nN] at hP hD
  refine lv_iconst (v := nI 0) hx hb d_Mod_noteIndex_48 (by decide) ?_
  refine lv_istore_n (lv' := [(3, .int (nI 0)), (0, .ref o), (1, .int (nI fr)), (2, .int (nI e0))]) hx hb d_Mod_noteIndex_49 rfl hl (by decide) rfl (fun ls hl => ?_)
  have e_w : nB inm = nB (wr inm (256 * ni) (zl nmb (256 * e0) 0)) := by rw [zl_0, wr_0]
  rw [e_w] at hP hD
  exact L_50 _ 0 (Nat.zero_le _) (Nat.lt_succ_self _) _ _ hP hD hS ls (lv_sub hl [1, 2, 3, 0] rfl)
