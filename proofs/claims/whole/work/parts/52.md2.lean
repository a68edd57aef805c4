set_option maxHeartbeats 4000000 in
set_option maxRecDepth 100000 in
theorem c_Mod_step_t (l : Launch) (g : zT) (T : va_W) (o ts ta ne ans anm anu asa apl akd nk akn aks akp akk bg sz hd alg ni aip aix aiz aim aod av hv lf sn pv : Nat) (f : Nat → UInt8) (hlg : (alg, zBy g 65536 f) ∈ T) (hn st : Nat) (v2 : sz ≤ 65536) : Met l y_Mod_step (zw y_Mod_step b_Mod_step 3 (some .int)) (zR 2 42 0 0) (zP g [.ref o, .int (nI 1)] ((o, zo 11 [.int (nI ts), .ref ta, .int (nI ne), .ref ans, .ref anm, .ref anu, .ref asa, .ref apl, .ref akd, .int (nI nk), .ref akn, .ref aks, .ref akp, .ref akk, .int (nI bg), .int (nI sz), .int (nI hd), .ref alg, .int (nI ni), .ref aip, .ref aix, .ref aiz, .ref aim, .ref aod, .int (nI av), .int (nI hv), .int (nI lf), .int (nI sn), .int (nI pv)]) :: T)) (zQi g (fun r w => (0 = 0 ∧ 0 = sz → r = nI 0 ∧ w = (o, zo 11 [.int (nI ts), .ref ta, .int (nI ne), .ref ans, .ref anm, .ref anu, .ref asa, .ref apl, .ref akd, .int (nI nk), .ref akn, .ref aks, .ref akp, .ref akk, .int (nI bg), .int (nI sz), .int (nI hd), .ref alg, .int (nI ni), .ref aip, .ref aix, .ref aiz, .ref aim, .ref aod, .int (nI 0), .int (nI 0), .int (nI 0), .int (nI 0), .int (nI pv)]) :: T) ∧ (¬ (0 = 0 ∧ 0 = sz) → (stepP f sz 0 0 0 hn st = none → r = iI (-1) ∧ ∃ hv2 lf2 : Nat, w = (o, zo 11 [.int (nI ts), .ref ta, .int (nI ne), .ref ans, .ref anm, .ref anu, .ref asa, .ref apl, .ref akd, .int (nI nk), .ref akn, .ref aks, .ref akp, .ref akk, .int (nI bg), .int (nI sz), .int (nI hd), .ref alg, .int (nI ni), .ref aip, .ref aix, .ref aiz, .ref aim, .ref aod, .int (nI 0), .int (nI hv2), .int (nI lf2), .int (nI 0), .int (nI pv)]) :: T) ∧ (∀ en2 lf2 ha2 hn2 st2 at2, stepP f sz 0 0 0 hn st = some (en2, lf2, ha2, hn2, st2, at2) → r = nI 1 ∧ w = (o, zo 11 [.int (nI ts), .ref ta, .int (nI ne), .ref ans, .ref anm, .ref anu, .ref asa, .ref apl, .ref akd, .int (nI nk), .ref akn, .ref aks, .ref akp, .ref akk, .int (nI bg), .int (nI sz), .int (nI hd), .ref alg, .int (nI ni), .ref aip, .ref aix, .ref aiz, .ref aim, .ref aod, .int (nI at2), .int (nI ha2), .int (nI lf2), .int (nI (0 + 1)), .int (nI pv)]) :: T)))) 0 0 (zA g) := by
  refine zMet (by decide) (Nat.le_of_ble_eq_true rfl) ?_
  intro p e s m below meth c ls C hr hlk hnm hP hD hl
  have hx := C.1.1
  have hb := C.1.2.1
  have hS : va_S (zA g) s.heap s.heap [] := va_S.rf
  have hl : lv_has ls 3 [(0, .ref o), (1, .int (nI 1))] := hl
  refine lv_iload_n hx hb d_Mod_step_0 rfl (lv_at hl 1 rfl) ?_
  refine lv_if_eq (tgt := 24) hx hb d_Mod_step_1 (by decide) (fun c_1 => ?_) (fun c_1 => ?_)
  · skip
    have c_1 : 1 = 0 := (nI_eq (a := 1) (b := 0) (by decide) (by decide)).mp c_1
    exact absurd c_1 (by omega)
  · skip
    have c_1 : ¬ 1 = 0 := fun q9 => c_1 ((nI_eq (a := 1) (b := 0) (by decide) (by decide)).mpr q9)
    refine lv_aload_n hx hb d_Mod_step_4 rfl (lv_at hl 0 rfl) ?_
    refine lv_iconst (v := nI 0) hx hb d_Mod_step_5 (by decide) ?_
    refine z_put C hP hD hS 0 rfl q_Mod 24 (by decide) k_752 (fun _ h9 => h9) rfl rfl rfl (Nat.le_of_ble_eq_true rfl) d_Mod_step_6 (ws' := (o, zo 11 [.int (nI ts), .ref ta, .int (nI ne), .ref ans, .ref anm, .ref anu, .ref asa, .ref apl, .ref akd, .int (nI nk), .ref akn, .ref aks, .ref akp, .ref akk, .int (nI bg), .int (nI sz), .int (nI hd), .ref alg, .int (nI ni), .ref aip, .ref aix, .ref aiz, .ref aim, .ref aod, .int (nI 0), .int (nI hv), .int (nI lf), .int (nI sn), .int (nI pv)]) :: T) rfl (fun H locs hP hD hS => ?_)
    refine lv_aload_n hx hb d_Mod_step_9 rfl (lv_at hl 0 rfl) ?_
    refine lv_iconst (v := nI 0) hx hb d_Mod_step_10 (by decide) ?_
    refine z_put C hP hD hS 0 rfl q_Mod 25 (by decide) k_753 (fun _ h9 => h9) rfl rfl rfl (Nat.le_of_ble_eq_true rfl) d_Mod_step_11 (ws' := (o, zo 11 [.int (nI ts), .ref ta, .int (nI ne), .ref ans, .ref anm, .ref anu, .ref asa, .ref apl, .ref akd, .int (nI nk), .ref akn, .ref aks, .ref akp, .ref akk, .int (nI bg), .int (nI sz), .int (nI hd), .ref alg, .int (nI ni), .ref aip, .ref aix, .ref aiz, .ref aim, .ref aod, .int (nI 0), .int (nI 0), .int (nI lf), .int (nI sn), .int (nI pv)]) :: T) rfl (fun H locs hP hD hS => ?_)
    refine lv_aload_n hx hb d_Mod_step_14 rfl (lv_at hl 0 rfl) ?_
    refine lv_iconst (v := nI 0) hx hb d_Mod_step_15 (by decide) ?_
    refine z_put C hP hD hS 0 rfl q_Mod 26 (by decide) k_754 (fun _ h9 => h9) rfl rfl rfl (Nat.le_of_ble_eq_true rfl) d_Mod_step_16 (ws' := (o, zo 11 [.int (nI ts), .ref ta, .int (nI ne), .ref ans, .ref anm, .ref anu, .ref asa, .ref apl, .ref akd, .int (nI nk), .ref akn, .ref aks, .ref akp, .ref akk, .int (nI bg), .int (nI sz), .int (nI hd), .ref alg, .int (nI ni), .ref aip, .ref aix, .ref aiz, .ref aim, .ref aod, .int (nI 0), .int (nI 0), .int (nI 0), .int (nI sn), .int (nI pv)]) :: T) rfl (fun H locs hP hD hS => ?_)
    refine lv_aload_n hx hb d_Mod_step_19 rfl (lv_at hl 0 rfl) ?_
    refine lv_iconst (v := nI 0) hx hb d_Mod_step_20 (by decide) ?_
    refine z_put C hP hD hS 0 rfl q_Mod 27 (by decide) k_755 (fun _ h9 => h9) rfl rfl rfl (Nat.le_of_ble_eq_true rfl) d_Mod_step_21 (ws' := (o, zo 11 [.int (nI ts), .ref ta, .int (nI ne), .ref ans, .ref anm, .ref anu, .ref asa, .ref apl, .ref akd, .int (nI nk), .ref akn, .ref aks, .ref akp, .ref akk, .int (nI bg), .int (nI sz), .int (nI hd), .ref alg, .int (nI ni), .ref aip, .ref aix, .ref aiz, .ref aim, .ref aod, .int (nI 0), .int (nI 0), .int (nI 0), .int (nI 0), .int (nI pv)]) :: T) rfl (fun H locs hP hD hS => ?_)
    refine lv_iload_n hx hb d_Mod_step_24 rfl (lv_at hl 1 rfl) ?_
    refine lv_if_eq (tgt := 32) hx hb d_Mod_step_25 (by decide) (fun c_25 => ?_) (fun c_25 => ?_)
    · skip
      have c_25 : 1 = 0 := (nI_eq (a := 1) (b := 0) (by decide) (by decide)).mp c_25
      exact absurd c_25 (by omega)
    · skip
      have c_25 : ¬ 1 = 0 := fun q9 => c_25 ((nI_eq (a := 1) (b := 0) (by decide) (by decide)).mpr q9)
      refine lv_iconst (v := nI 0) hx hb d_Mod_step_28 (by decide) ?_
      refine lv_goto (tgt := 51) hx hb d_Mod_step_29 (by decide) ?_
      refine lv_istore_n (lv' := [(2, .int (nI 0)), (0, .ref o), (1, .int (nI 1))]) hx hb d_Mod_step_51 rfl hl (by decide) rfl (fun ls hl => ?_)
      refine lv_aload_n hx hb d_Mod_step_52 rfl (lv_at hl 1 rfl) ?_
      refine z_get C hP List.mem_cons_self q_Mod 26 (by decide) k_754 (fun _ h9 => h9) rfl d_Mod_step_53 ?_
      refine lv_if_ne (tgt := 69) hx hb d_Mod_step_56 (by decide) (fun c_56 => ?_) (fun c_56 => ?_)
      · skip
        have c_56 : ¬ 0 = 0 := fun q9 => c_56 ((nI_eq (a := 0) (b := 0) (by decide) (by decide)).mpr q9)
        exact absurd c_56 (by omega)
      · skip
        have c_56 : 0 = 0 := (nI_eq (a := 0) (b := 0) (by decide) (by decide)).mp c_56
        refine lv_iload_n hx hb d_Mod_step_59 rfl (lv_at hl 0 rfl) ?_
        refine lv_aload_n hx hb d_Mod_step_60 rfl (lv_at hl 1 rfl) ?_
        refine z_get C hP List.mem_cons_self q_Mod 15 (by decide) k_743 (fun _ h9 => h9) rfl d_Mod_step_61 ?_
        refine lv_icmp_ne (tgt := 69) hx hb d_Mod_step_64 (by decide) (fun c_64 => ?_) (fun c_64 => ?_)
        · skip
          have c_64 : ¬ 0 = sz := fun q9 => c_64 ((nI_eq (a := 0) (b := sz) (by decide) (by omega)).mpr q9)
          refine lv_aload_n hx hb d_Mod_step_69 rfl (lv_at hl 1 rfl) ?_
          refine z_get C hP List.mem_cons_self q_Mod 26 (by decide) k_754 (fun _ h9 => h9) rfl d_Mod_step_70 ?_
          refine lv_if_ne (tgt := 123) hx hb d_Mod_step_73 (by decide) (fun c_73 => ?_) (fun c_73 => ?_)
          · skip
            have c_73 : ¬ 0 = 0 := fun q9 => c_73 ((nI_eq (a := 0) (b := 0) (by decide) (by decide)).mpr q9)
            exact absurd c_73 (by omega)
          · skip
            have c_73 : 0 = 0 := (nI_eq (a := 0) (b := 0) (by decide) (by decide)).mp c_73
            refine lv_iload_n hx hb d_Mod_step_76 rfl (lv_at hl 0 rfl) ?_
            refine lv_bipush (v := nI 12) hx hb d_Mod_step_77 (by decide) ?_
            refine z_iadd (v := nI 12) C d_Mod_step_79 (by decide) ?_
            refine lv_aload_n hx hb d_Mod_step_80 rfl (lv_at hl 1 rfl) ?_
            refine z_get C hP List.mem_cons_self q_Mod 15 (by decide) k_743 (fun _ h9 => h9) rfl d_Mod_step_81 ?_
            refine lv_icmp_gt (tgt := 99) hx hb d_Mod_step_84 (by decide) (fun c_84 => ?_) (fun c_84 => ?_)
            · skip
              have c_84 : sz < 12 := (nI_ltI (a := sz) (b := 12) (by omega) (by decide)).mp c_84
              refine lv_iconst (v := iI (-1)) hx hb d_Mod_step_99 (by decide) ?_
              exact z_iret C hr hlk hP hD hS (by omega) (by omega) ⟨fun q9 => absurd q9 (by omega), fun _ => ⟨fun _ => ⟨rfl, _, _, rfl⟩, fun en2 lf2 ha2 hn2 st2 at2 q9 => absurd q9 (by unfold stepP; rw [if_pos rfl, if_neg (by omega)]; exact fun q8 => nomatch q8)⟩⟩ d_Mod_step_100
            · skip
              have c_84 : ¬ sz < 12 := fun q9 => c_84 ((nI_ltI (a := sz) (b := 12) (by omega) (by decide)).mpr q9)
              refine lv_aload_n hx hb d_Mod_step_87 rfl (lv_at hl 1 rfl) ?_
              refine lv_iload_n hx hb d_Mod_step_88 rfl (lv_at hl 0 rfl) ?_
              refine z_kl (z_runV (np := 1) C (c_Mod_u4 l g ((o, zo 11 [.int (nI ts), .ref ta, .int (nI ne), .ref ans, .ref anm, .ref anu, .ref asa, .ref apl, .ref akd, .int (nI nk), .ref akn, .ref aks, .ref akp, .ref akk, .int (nI bg), .int (nI sz), .int (nI hd), .ref alg, .int (nI ni), .ref aip, .ref aix, .ref aiz, .ref aim, .ref aod, .int (nI 0), .int (nI 0), .int (nI 0), .int (nI 0), .int (nI pv)]) :: T) o ts ta ne ans anm anu asa apl akd nk akn aks akp akk bg sz hd alg ni aip aix aiz aim aod 0 0 0 0 pv List.mem_cons_self f (List.mem_cons_of_mem _ hlg) (0) sz (by omega) (by omega)) hP hD hS List.mem_cons_self (show classes[11]? = some (R_Mod, F_Mod, 29) from rfl) k_936 k_12 k_933 k_935 ks_Mod_u4 ⟨by decide, by decide, by decide⟩ ⟨Nat.le_of_ble_eq_true rfl, Nat.le_of_ble_eq_true rfl⟩ rfl hl.1 rfl (Nat.le_of_ble_eq_true rfl) d_Mod_step_89 ⟨by show _ ≤ 0; omega, by show _ ≤ 0; omega⟩) hS (fun r_89 w H locs hw hP hD hS => ?_)
              obtain ⟨rfl, hw⟩ := hw
              rw [hw] at hP hD
              have u4_48 := U4_lt f sz (0)
              refine lv_ldc2 hx hb C.1.2.2.2.1 (C.ts k_821 rfl) d_Mod_step_92 ?_
              refine W.lcmp hx hb d_Mod_step_95 ?_
              refine lv_if_le (tgt := 101) hx hb d_Mod_step_96 (by decide) (fun c_96 => ?_) (fun c_96 => ?_)
              · skip
                have c_96 : ((U4 f sz (0)) : Int) ≤ 255 := ((zc_le).trans (zj_le (a := ((U4 f sz (0)) : Int)) (b := 255) (lN_lI _) (by decide) (by omega) (by omega) (by omega) (by omega))).mp c_96
                refine lv_aload_n hx hb d_Mod_step_101 rfl (lv_at hl 1 rfl) ?_
                refine lv_iload_n hx hb d_Mod_step_102 rfl (lv_at hl 0 rfl) ?_
                refine z_put C hP hD hS 0 rfl q_Mod 25 (by decide) k_753 (fun _ h9 => h9) rfl rfl rfl (Nat.le_of_ble_eq_true rfl) d_Mod_step_103 (ws' := (o, zo 11 [.int (nI ts), .ref ta, .int (nI ne), .ref ans, .ref anm, .ref anu, .ref asa, .ref apl, .ref akd, .int (nI nk), .ref akn, .ref aks, .ref akp, .ref akk, .int (nI bg), .int (nI sz), .int (nI hd), .ref alg, .int (nI ni), .ref aip, .ref aix, .ref aiz, .ref aim, .ref aod, .int (nI 0), .int (nI 0), .int (nI 0), .int (nI 0), .int (nI pv)]) :: T) rfl (fun H locs hP hD hS => ?_)
                refine lv_aload_n hx hb d_Mod_step_106 rfl (lv_at hl 1 rfl) ?_
                refine lv_aload_n hx hb d_Mod_step_107 rfl (lv_at hl 1 rfl) ?_
                refine lv_iload_n hx hb d_Mod_step_108 rfl (lv_at hl 0 rfl) ?_
                refine z_kl (z_runV (np := 1) C (c_Mod_u4 l g ((o, zo 11 [.int (nI ts), .ref ta, .int (nI ne), .ref ans, .ref anm, .ref anu, .ref asa, .ref apl, .ref akd, .int (nI nk), .ref akn, .ref aks, .ref akp, .ref akk, .int (nI bg), .int (nI sz), .int (nI hd), .ref alg, .int (nI ni), .ref aip, .ref aix, .ref aiz, .ref aim, .ref aod, .int (nI 0), .int (nI 0), .int (nI 0), .int (nI 0), .int (nI pv)]) :: T) o ts ta ne ans anm anu asa apl akd nk akn aks akp akk bg sz hd alg ni aip aix aiz aim aod 0 0 0 0 pv List.mem_cons_self f (List.mem_cons_of_mem _ hlg) (0) sz (by omega) (by omega)) hP hD hS List.mem_cons_self (show classes[11]? = some (R_Mod, F_Mod, 29) from rfl) k_936 k_12 k_933 k_935 ks_Mod_u4 ⟨by decide, by decide, by decide⟩ ⟨Nat.le_of_ble_eq_true rfl, Nat.le_of_ble_eq_true rfl⟩ rfl hl.1 rfl (Nat.le_of_ble_eq_true rfl) d_Mod_step_109 ⟨by show _ ≤ 0; omega, by show _ ≤ 0; omega⟩) hS (fun r_109 w H locs hw hP hD hS => ?_)
                obtain ⟨rfl, hw⟩ := hw
                rw [hw] at hP hD
                have u4_48 := U4_lt f sz (0)
                refine lv_l2i (v := nI (U4 f sz (0))) hx hb d_Mod_step_112 (lN_i _) ?_
                refine lv_iconst (v := nI 1) hx hb d_Mod_step_113 (by decide) ?_
                refine z_iadd (v := nI ((U4 f sz (0)) + 1)) C d_Mod_step_114 (nI_add _ _) ?_
                refine z_put C hP hD hS 0 rfl q_Mod 26 (by decide) k_754 (fun _ h9 => h9) rfl rfl rfl (Nat.le_of_ble_eq_true rfl) d_Mod_step_115 (ws' := (o, zo 11 [.int (nI ts), .ref ta, .int (nI ne), .ref ans, .ref anm, .ref anu, .ref asa, .ref apl, .ref akd, .int (nI nk), .ref akn, .ref aks, .ref akp, .ref akk, .int (nI bg), .int (nI sz), .int (nI hd), .ref alg, .int (nI ni), .ref aip, .ref aix, .ref aiz, .ref aim, .ref aod, .int (nI 0), .int (nI 0), .int (nI ((U4 f sz (0)) + 1)), .int (nI 0), .int (nI pv)]) :: T) rfl (fun H locs hP hD hS => ?_)
                refine lv_iload_n hx hb d_Mod_step_118 rfl (lv_at hl 0 rfl) ?_
                refine lv_bipush (v := nI 12) hx hb d_Mod_step_119 (by decide) ?_
                refine z_iadd (v := nI 12) C d_Mod_step_121 (by decide) ?_
                refine lv_istore_n (lv' := [(2, .int (nI 12)), (0, .ref o), (1, .int (nI 1))]) hx hb d_Mod_step_122 rfl hl (by decide) rfl (fun ls hl => ?_)
                refine lv_iload_n hx hb d_Mod_step_123 rfl (lv_at hl 0 rfl) ?_
                refine lv_bipush (v := nI 8) hx hb d_Mod_step_124 (by decide) ?_
                refine z_iadd (v := nI 20) C d_Mod_step_126 (by decide) ?_
                refine lv_aload_n hx hb d_Mod_step_127 rfl (lv_at hl 1 rfl) ?_
                refine z_get C hP List.mem_cons_self q_Mod 15 (by decide) k_743 (fun _ h9 => h9) rfl d_Mod_step_128 ?_
                refine lv_icmp_gt (tgt := 154) hx hb d_Mod_step_131 (by decide) (fun c_131 => ?_) (fun c_131 => ?_)
                · skip
                  have c_131 : sz < 20 := (nI_ltI (a := sz) (b := 20) (by omega) (by decide)).mp c_131
                  refine lv_iconst (v := iI (-1)) hx hb d_Mod_step_154 (by decide) ?_
                  exact z_iret C hr hlk hP hD hS (by omega) (by omega) ⟨fun q9 => absurd q9 (by omega), fun _ => ⟨fun _ => ⟨rfl, _, _, rfl⟩, fun en2 lf2 ha2 hn2 st2 at2 q9 => absurd q9 (by unfold stepP; rw [if_pos rfl, if_neg (by omega)]; exact fun q8 => nomatch q8)⟩⟩ d_Mod_step_155
                · skip
                  have c_131 : ¬ sz < 20 := fun q9 => c_131 ((nI_ltI (a := sz) (b := 20) (by omega) (by decide)).mpr q9)
                  refine lv_iload_n hx hb d_Mod_step_134 rfl (lv_at hl 0 rfl) ?_
                  refine lv_bipush (v := nI 9) hx hb d_Mod_step_135 (by decide) ?_
                  refine z_iadd (v := nI 21) C d_Mod_step_137 (by decide) ?_
                  refine lv_aload_n hx hb d_Mod_step_138 rfl (lv_at hl 1 rfl) ?_
                  refine lv_iload_n hx hb d_Mod_step_139 rfl (lv_at hl 0 rfl) ?_
                  refine lv_bipush (v := nI 6) hx hb d_Mod_step_140 (by decide) ?_
                  refine z_iadd (v := nI 18) C d_Mod_step_142 (by decide) ?_
                  refine z_ki (z_runV (np := 1) C (c_Mod_u2 l g ((o, zo 11 [.int (nI ts), .ref ta, .int (nI ne), .ref ans, .ref anm, .ref anu, .ref asa, .ref apl, .ref akd, .int (nI nk), .ref akn, .ref aks, .ref akp, .ref akk, .int (nI bg), .int (nI sz), .int (nI hd), .ref alg, .int (nI ni), .ref aip, .ref aix, .ref aiz, .ref aim, .ref aod, .int (nI 0), .int (nI 0), .int (nI ((U4 f sz (0)) + 1)), .int (nI 0), .int (nI pv)]) :: T) o ts ta ne ans anm anu asa apl akd nk akn aks akp akk bg sz hd alg ni aip aix aiz aim aod 0 0 ((U4 f sz (0)) + 1) 0 pv List.mem_cons_self f (List.mem_cons_of_mem _ hlg) (0 + 12 + 6) sz (by omega) (by omega)) hP hD hS List.mem_cons_self (show classes[11]? = some (R_Mod, F_Mod, 29) from rfl) k_932 k_12 k_929 k_931 ks_Mod_u2 ⟨by decide, by decide, by decide⟩ ⟨Nat.le_of_ble_eq_true rfl, Nat.le_of_ble_eq_true rfl⟩ rfl hl.1 rfl (Nat.le_of_ble_eq_true rfl) d_Mod_step_143 ⟨by show _ ≤ 0; omega, by show _ ≤ 0; omega⟩) hS (fun r_143 w H locs hw hP hD hS => ?_)
                  obtain ⟨rfl, hw⟩ := hw
                  rw [hw] at hP hD
                  have u2_415 := U2_lt f sz (0 + 12 + 6)
                  refine z_iadd (v := nI (21 + (U2 f sz (0 + 12 + 6)))) C d_Mod_step_146 (nI_add _ _) ?_
                  refine lv_aload_n hx hb d_Mod_step_147 rfl (lv_at hl 1 rfl) ?_
                  refine z_get C hP List.mem_cons_self q_Mod 15 (by decide) k_743 (fun _ h9 => h9) rfl d_Mod_step_148 ?_
                  refine lv_icmp_le (tgt := 156) hx hb d_Mod_step_151 (by decide) (fun c_151 => ?_) (fun c_151 => ?_)
                  · skip
                    have c_151 : (21 + (U2 f sz (0 + 12 + 6))) ≤ sz := (nI_leI (a := 21 + (U2 f sz (0 + 12 + 6))) (b := sz) (by omega) (by omega)).mp c_151
                    refine lv_aload_n hx hb d_Mod_step_156 rfl (lv_at hl 1 rfl) ?_
                    refine lv_iload_n hx hb d_Mod_step_157 rfl (lv_at hl 0 rfl) ?_
                    refine z_put C hP hD hS 0 rfl q_Mod 24 (by decide) k_752 (fun _ h9 => h9) rfl rfl rfl (Nat.le_of_ble_eq_true rfl) d_Mod_step_158 (ws' := (o, zo 11 [.int (nI ts), .ref ta, .int (nI ne), .ref ans, .ref anm, .ref anu, .ref asa, .ref apl, .ref akd, .int (nI nk), .ref akn, .ref aks, .ref akp, .ref akk, .int (nI bg), .int (nI sz), .int (nI hd), .ref alg, .int (nI ni), .ref aip, .ref aix, .ref aiz, .ref aim, .ref aod, .int (nI 12), .int (nI 0), .int (nI ((U4 f sz (0)) + 1)), .int (nI 0), .int (nI pv)]) :: T) rfl (fun H locs hP hD hS => ?_)
                    refine lv_aload_n hx hb d_Mod_step_161 rfl (lv_at hl 1 rfl) ?_
                    refine lv_dup hx hb d_Mod_step_162 rfl ?_
                    refine z_get C hP List.mem_cons_self q_Mod 26 (by decide) k_754 (fun _ h9 => h9) rfl d_Mod_step_163 ?_
                    refine lv_iconst (v := nI 1) hx hb d_Mod_step_166 (by decide) ?_
                    refine z_isub (v := nI (((U4 f sz (0)) + 1) - 1)) C d_Mod_step_167 (pk_sub (by omega)) ?_
                    refine z_put C hP hD hS 0 rfl q_Mod 26 (by decide) k_754 (fun _ h9 => h9) rfl rfl rfl (Nat.le_of_ble_eq_true rfl) d_Mod_step_168 (ws' := (o, zo 11 [.int (nI ts), .ref ta, .int (nI ne), .ref ans, .ref anm, .ref anu, .ref asa, .ref apl, .ref akd, .int (nI nk), .ref akn, .ref aks, .ref akp, .ref akk, .int (nI bg), .int (nI sz), .int (nI hd), .ref alg, .int (nI ni), .ref aip, .ref aix, .ref aiz, .ref aim, .ref aod, .int (nI 12), .int (nI 0), .int (nI (((U4 f sz (0)) + 1) - 1)), .int (nI 0), .int (nI pv)]) :: T) rfl (fun H locs hP hD hS => ?_)
                    refine lv_aload_n hx hb d_Mod_step_171 rfl (lv_at hl 1 rfl) ?_
                    refine lv_dup hx hb d_Mod_step_172 rfl ?_
                    refine z_get C hP List.mem_cons_self q_Mod 27 (by decide) k_755 (fun _ h9 => h9) rfl d_Mod_step_173 ?_
                    refine lv_iconst (v := nI 1) hx hb d_Mod_step_176 (by decide) ?_
                    refine z_iadd (v := nI 1) C d_Mod_step_177 (by decide) ?_
                    refine z_put C hP hD hS 0 rfl q_Mod 27 (by decide) k_755 (fun _ h9 => h9) rfl rfl rfl (Nat.le_of_ble_eq_true rfl) d_Mod_step_178 (ws' := (o, zo 11 [.int (nI ts), .ref ta, .int (nI ne), .ref ans, .ref anm, .ref anu, .ref asa, .ref apl, .ref akd, .int (nI nk), .ref akn, .ref aks, .ref akp, .ref akk, .int (nI bg), .int (nI sz), .int (nI hd), .ref alg, .int (nI ni), .ref aip, .ref aix, .ref aiz, .ref aim, .ref aod, .int (nI 12), .int (nI 0), .int (nI (((U4 f sz (0)) + 1) - 1)), .int (nI 1), .int (nI pv)]) :: T) rfl (fun H locs hP hD hS => ?_)
                    refine lv_iconst (v := nI 1) hx hb d_Mod_step_181 (by decide) ?_
                    exact z_iret C hr hlk hP hD hS (by omega) (by omega) ⟨fun q9 => absurd q9 (by omega), fun _ => ⟨fun q9 => absurd q9 (by unfold stepP; rw [if_pos rfl, if_pos (by omega)]; exact fun q8 => nomatch q8), fun en2 lf2 ha2 hn2 st2 at2 q9 => ⟨rfl, by
                              unfold stepP at q9
                              rw [if_pos rfl, if_pos (by omega)] at q9
                              cases q9
                              rw [show U4 f sz 0 + 1 - 1 = U4 f sz 0 by omega]⟩⟩⟩ d_Mod_step_182
                  · skip
                    have c_151 : ¬ (21 + (U2 f sz (0 + 12 + 6))) ≤ sz := fun q9 => c_151 ((nI_leI (a := 21 + (U2 f sz (0 + 12 + 6))) (b := sz) (by omega) (by omega)).mpr q9)
                    refine lv_iconst (v := iI (-1)) hx hb d_Mod_step_154 (by decide) ?_
                    exact z_iret C hr hlk hP hD hS (by omega) (by omega) ⟨fun q9 => absurd q9 (by omega), fun _ => ⟨fun _ => ⟨rfl, _, _, rfl⟩, fun en2 lf2 ha2 hn2 st2 at2 q9 => absurd q9 (by unfold stepP; rw [if_pos rfl, if_neg (by omega)]; exact fun q8 => nomatch q8)⟩⟩ d_Mod_step_155
              · skip
                have c_96 : ¬ ((U4 f sz (0)) : Int) ≤ 255 := fun q9 => c_96 (((zc_le).trans (zj_le (a := ((U4 f sz (0)) : Int)) (b := 255) (lN_lI _) (by decide) (by omega) (by omega) (by omega) (by omega))).mpr q9)
                refine lv_iconst (v := iI (-1)) hx hb d_Mod_step_99 (by decide) ?_
                exact z_iret C hr hlk hP hD hS (by omega) (by omega) ⟨fun q9 => absurd q9 (by omega), fun _ => ⟨fun _ => ⟨rfl, _, _, rfl⟩, fun en2 lf2 ha2 hn2 st2 at2 q9 => absurd q9 (by unfold stepP; rw [if_pos rfl, if_neg (by omega)]; exact fun q8 => nomatch q8)⟩⟩ d_Mod_step_100
        · skip
          have c_64 : 0 = sz := (nI_eq (a := 0) (b := sz) (by decide) (by omega)).mp c_64
          refine lv_iconst (v := nI 0) hx hb d_Mod_step_67 (by decide) ?_
          exact z_iret C hr hlk hP hD hS (by omega) (by omega) ⟨fun _ => ⟨rfl, rfl⟩, fun q9 => absurd ⟨rfl, c_64⟩ q9⟩ d_Mod_step_68
set_option maxHeartbeats 4000000 in
set_option maxRecDepth 100000 in
theorem c_Mod_step_f (l : Launch) (g : zT) (T : va_W) (o ts ta ne ans anm anu asa apl akd nk akn aks akp akk bg sz hd alg ni aip aix aiz aim aod av hv lf sn pv : Nat) (f : Nat → UInt8) (hlg : (alg, zBy g 65536 f) ∈ T) (hn st : Nat) (v1 : av + 9 + U2 f sz (av + 6) ≤ sz) (v3 : lf ≤ 256) (v4 : sn < 2 ^ 20) (v2 : sz ≤ 65536) : Met l y_Mod_step (zw y_Mod_step b_Mod_step 3 (some .int)) (zR 2 42 0 0) (zP g [.ref o, .int (nI 0)] ((o, zo 11 [.int (nI ts), .ref ta, .int (nI ne), .ref ans, .ref anm, .ref anu, .ref asa, .ref apl, .ref akd, .int (nI nk), .ref akn, .ref aks, .ref akp, .ref akk, .int (nI bg), .int (nI sz), .int (nI hd), .ref alg, .int (nI ni), .ref aip, .ref aix, .ref aiz, .ref aim, .ref aod, .int (nI av), .int (nI hv), .int (nI lf), .int (nI sn), .int (nI pv)]) :: T)) (zQi g (fun r w => (lf = 0 ∧ av + 9 + U2 f sz (av + 6) = sz → r = nI 0 ∧ w = (o, zo 11 [.int (nI ts), .ref ta, .int (nI ne), .ref ans, .ref anm, .ref anu, .ref asa, .ref apl, .ref akd, .int (nI nk), .ref akn, .ref aks, .ref akp, .ref akk, .int (nI bg), .int (nI sz), .int (nI hd), .ref alg, .int (nI ni), .ref aip, .ref aix, .ref aiz, .ref aim, .ref aod, .int (nI av), .int (nI hv), .int (nI lf), .int (nI sn), .int (nI pv)]) :: T) ∧ (¬ (lf = 0 ∧ av + 9 + U2 f sz (av + 6) = sz) → (stepP f sz (av + 9 + U2 f sz (av + 6)) lf hv hn st = none → r = iI (-1) ∧ ∃ hv2 lf2 : Nat, w = (o, zo 11 [.int (nI ts), .ref ta, .int (nI ne), .ref ans, .ref anm, .ref anu, .ref asa, .ref apl, .ref akd, .int (nI nk), .ref akn, .ref aks, .ref akp, .ref akk, .int (nI bg), .int (nI sz), .int (nI hd), .ref alg, .int (nI ni), .ref aip, .ref aix, .ref aiz, .ref aim, .ref aod, .int (nI av), .int (nI hv2), .int (nI lf2), .int (nI sn), .int (nI pv)]) :: T) ∧ (∀ en2 lf2 ha2 hn2 st2 at2, stepP f sz (av + 9 + U2 f sz (av + 6)) lf hv hn st = some (en2, lf2, ha2, hn2, st2, at2) → r = nI 1 ∧ w = (o, zo 11 [.int (nI ts), .ref ta, .int (nI ne), .ref ans, .ref anm, .ref anu, .ref asa, .ref apl, .ref akd, .int (nI nk), .ref akn, .ref aks, .ref akp, .ref akk, .int (nI bg), .int (nI sz), .int (nI hd), .ref alg, .int (nI ni), .ref aip, .ref aix, .ref aiz, .ref aim, .ref aod, .int (nI at2), .int (nI ha2), .int (nI lf2), .int (nI (sn + 1)), .int (nI pv)]) :: T)))) 0 0 (zA g) := by
  refine zMet (by decide) (Nat.le_of_ble_eq_true rfl) ?_
  intro p e s m below meth c ls C hr hlk hnm hP hD hl
  have hx := C.1.1
  have hb := C.1.2.1
  have hS : va_S (zA g) s.heap s.heap [] := va_S.rf
  have hl : lv_has ls 3 [(0, .ref o), (1, .int (nI 0))] := hl
  refine lv_iload_n hx hb d_Mod_step_0 rfl (lv_at hl 1 rfl) ?_
  refine lv_if_eq (tgt := 24) hx hb d_Mod_step_1 (by decide) (fun c_1 => ?_) (fun c_1 => ?_)
  · skip
    have c_1 : 0 = 0 := (nI_eq (a := 0) (b := 0) (by decide) (by decide)).mp c_1
    refine lv_iload_n hx hb d_Mod_step_24 rfl (lv_at hl 1 rfl) ?_
    refine lv_if_eq (tgt := 32) hx hb d_Mod_step_25 (by decide) (fun c_25 => ?_) (fun c_25 => ?_)
    · skip
      have c_25 : 0 = 0 := (nI_eq (a := 0) (b := 0) (by decide) (by decide)).mp c_25
      refine lv_aload_n hx hb d_Mod_step_32 rfl (lv_at hl 0 rfl) ?_
      refine z_get C hP List.mem_cons_self q_Mod 24 (by decide) k_752 (fun _ h9 => h9) rfl d_Mod_step_33 ?_
      refine lv_bipush (v := nI 9) hx hb d_Mod_step_36 (by decide) ?_
      refine z_iadd (v := nI (av + 9)) C d_Mod_step_38 (nI_add _ _) ?_
      refine lv_aload_n hx hb d_Mod_step_39 rfl (lv_at hl 0 rfl) ?_
      refine lv_aload_n hx hb d_Mod_step_40 rfl (lv_at hl 0 rfl) ?_
      refine z_get C hP List.mem_cons_self q_Mod 24 (by decide) k_752 (fun _ h9 => h9) rfl d_Mod_step_41 ?_
      refine lv_bipush (v := nI 6) hx hb d_Mod_step_44 (by decide) ?_
      refine z_iadd (v := nI (av + 6)) C d_Mod_step_46 (nI_add _ _) ?_
      refine z_ki (z_runV (np := 1) C (c_Mod_u2 l g ((o, zo 11 [.int (nI ts), .ref ta, .int (nI ne), .ref ans, .ref anm, .ref anu, .ref asa, .ref apl, .ref akd, .int (nI nk), .ref akn, .ref aks, .ref akp, .ref akk, .int (nI bg), .int (nI sz), .int (nI hd), .ref alg, .int (nI ni), .ref aip, .ref aix, .ref aiz, .ref aim, .ref aod, .int (nI av), .int (nI hv), .int (nI lf), .int (nI sn), .int (nI pv)]) :: T) o ts ta ne ans anm anu asa apl akd nk akn aks akp akk bg sz hd alg ni aip aix aiz aim aod av hv lf sn pv List.mem_cons_self f (List.mem_cons_of_mem _ hlg) (av + 6) sz (by omega) (by omega)) hP hD hS List.mem_cons_self (show classes[11]? = some (R_Mod, F_Mod, 29) from rfl) k_932 k_12 k_929 k_931 ks_Mod_u2 ⟨by decide, by decide, by decide⟩ ⟨Nat.le_of_ble_eq_true rfl, Nat.le_of_ble_eq_true rfl⟩ rfl hl.1 rfl (Nat.le_of_ble_eq_true rfl) d_Mod_step_47 ⟨by show _ ≤ 0; omega, by show _ ≤ 0; omega⟩) hS (fun r_47 w H locs hw hP hD hS => ?_)
      obtain ⟨rfl, hw⟩ := hw
      rw [hw] at hP hD
      have u2_376 := U2_lt f sz (av + 6)
      refine z_iadd (v := nI (av + 9 + (U2 f sz (av + 6)))) C d_Mod_step_50 (nI_add _ _) ?_
      refine lv_istore_n (lv' := [(2, .int (nI (av + 9 + (U2 f sz (av + 6))))), (0, .ref o), (1, .int (nI 0))]) hx hb d_Mod_step_51 rfl hl (by decide) rfl (fun ls hl => ?_)
      refine lv_aload_n hx hb d_Mod_step_52 rfl (lv_at hl 1 rfl) ?_
      refine z_get C hP List.mem_cons_self q_Mod 26 (by decide) k_754 (fun _ h9 => h9) rfl d_Mod_step_53 ?_
      refine lv_if_ne (tgt := 69) hx hb d_Mod_step_56 (by decide) (fun c_56 => ?_) (fun c_56 => ?_)
      · skip
        have c_56 : ¬ lf = 0 := fun q9 => c_56 ((nI_eq (a := lf) (b := 0) (by omega) (by decide)).mpr q9)
        refine lv_aload_n hx hb d_Mod_step_69 rfl (lv_at hl 1 rfl) ?_
        refine z_get C hP List.mem_cons_self q_Mod 26 (by decide) k_754 (fun _ h9 => h9) rfl d_Mod_step_70 ?_
        refine lv_if_ne (tgt := 123) hx hb d_Mod_step_73 (by decide) (fun c_73 => ?_) (fun c_73 => ?_)
        · skip
          have c_73 : ¬ lf = 0 := fun q9 => c_73 ((nI_eq (a := lf) (b := 0) (by omega) (by decide)).mpr q9)
          refine lv_iload_n hx hb d_Mod_step_123 rfl (lv_at hl 0 rfl) ?_
          refine lv_bipush (v := nI 8) hx hb d_Mod_step_124 (by decide) ?_
          refine z_iadd (v := nI ((av + 9 + (U2 f sz (av + 6))) + 8)) C d_Mod_step_126 (nI_add _ _) ?_
          refine lv_aload_n hx hb d_Mod_step_127 rfl (lv_at hl 1 rfl) ?_
          refine z_get C hP List.mem_cons_self q_Mod 15 (by decide) k_743 (fun _ h9 => h9) rfl d_Mod_step_128 ?_
          refine lv_icmp_gt (tgt := 154) hx hb d_Mod_step_131 (by decide) (fun c_131 => ?_) (fun c_131 => ?_)
          · skip
            have c_131 : sz < ((av + 9 + (U2 f sz (av + 6))) + 8) := (nI_ltI (a := sz) (b := (av + 9 + (U2 f sz (av + 6))) + 8) (by omega) (by omega)).mp c_131
            refine lv_iconst (v := iI (-1)) hx hb d_Mod_step_154 (by decide) ?_
            exact z_iret C hr hlk hP hD hS (by omega) (by omega) ⟨fun q9 => absurd q9 (by omega), fun _ => ⟨fun _ => ⟨rfl, _, _, rfl⟩, fun en2 lf2 ha2 hn2 st2 at2 q9 => absurd q9 (by unfold stepP; rw [if_neg c_56, if_neg (by omega)]; exact fun q8 => nomatch q8)⟩⟩ d_Mod_step_155
          · skip
            have c_131 : ¬ sz < ((av + 9 + (U2 f sz (av + 6))) + 8) := fun q9 => c_131 ((nI_ltI (a := sz) (b := (av + 9 + (U2 f sz (av + 6))) + 8) (by omega) (by omega)).mpr q9)
            refine lv_iload_n hx hb d_Mod_step_134 rfl (lv_at hl 0 rfl) ?_
            refine lv_bipush (v := nI 9) hx hb d_Mod_step_135 (by decide) ?_
            refine z_iadd (v := nI ((av + 9 + (U2 f sz (av + 6))) + 9)) C d_Mod_step_137 (nI_add _ _) ?_
            refine lv_aload_n hx hb d_Mod_step_138 rfl (lv_at hl 1 rfl) ?_
            refine lv_iload_n hx hb d_Mod_step_139 rfl (lv_at hl 0 rfl) ?_
            refine lv_bipush (v := nI 6) hx hb d_Mod_step_140 (by decide) ?_
            refine z_iadd (v := nI ((av + 9 + (U2 f sz (av + 6))) + 6)) C d_Mod_step_142 (nI_add _ _) ?_
            refine z_ki (z_runV (np := 1) C (c_Mod_u2 l g ((o, zo 11 [.int (nI ts), .ref ta, .int (nI ne), .ref ans, .ref anm, .ref anu, .ref asa, .ref apl, .ref akd, .int (nI nk), .ref akn, .ref aks, .ref akp, .ref akk, .int (nI bg), .int (nI sz), .int (nI hd), .ref alg, .int (nI ni), .ref aip, .ref aix, .ref aiz, .ref aim, .ref aod, .int (nI av), .int (nI hv), .int (nI lf), .int (nI sn), .int (nI pv)]) :: T) o ts ta ne ans anm anu asa apl akd nk akn aks akp akk bg sz hd alg ni aip aix aiz aim aod av hv lf sn pv List.mem_cons_self f (List.mem_cons_of_mem _ hlg) (av + 9 + (U2 f sz (av + 6)) + 6) sz (by omega) (by omega)) hP hD hS List.mem_cons_self (show classes[11]? = some (R_Mod, F_Mod, 29) from rfl) k_932 k_12 k_929 k_931 ks_Mod_u2 ⟨by decide, by decide, by decide⟩ ⟨Nat.le_of_ble_eq_true rfl, Nat.le_of_ble_eq_true rfl⟩ rfl hl.1 rfl (Nat.le_of_ble_eq_true rfl) d_Mod_step_143 ⟨by show _ ≤ 0; omega, by show _ ≤ 0; omega⟩) hS (fun r_143 w H locs hw hP hD hS => ?_)
            obtain ⟨rfl, hw⟩ := hw
            rw [hw] at hP hD
            have u2_755 := U2_lt f sz (av + 9 + (U2 f sz (av + 6)) + 6)
            refine z_iadd (v := nI (((av + 9 + (U2 f sz (av + 6))) + 9) + (U2 f sz (av + 9 + (U2 f sz (av + 6)) + 6)))) C d_Mod_step_146 (nI_add _ _) ?_
            refine lv_aload_n hx hb d_Mod_step_147 rfl (lv_at hl 1 rfl) ?_
            refine z_get C hP List.mem_cons_self q_Mod 15 (by decide) k_743 (fun _ h9 => h9) rfl d_Mod_step_148 ?_
            refine lv_icmp_le (tgt := 156) hx hb d_Mod_step_151 (by decide) (fun c_151 => ?_) (fun c_151 => ?_)
            · skip
              have c_151 : (((av + 9 + (U2 f sz (av + 6))) + 9) + (U2 f sz (av + 9 + (U2 f sz (av + 6)) + 6))) ≤ sz := (nI_leI (a := ((av + 9 + (U2 f sz (av + 6))) + 9) + (U2 f sz (av + 9 + (U2 f sz (av + 6)) + 6))) (b := sz) (by omega) (by omega)).mp c_151
              refine lv_aload_n hx hb d_Mod_step_156 rfl (lv_at hl 1 rfl) ?_
              refine lv_iload_n hx hb d_Mod_step_157 rfl (lv_at hl 0 rfl) ?_
              refine z_put C hP hD hS 0 rfl q_Mod 24 (by decide) k_752 (fun _ h9 => h9) rfl rfl rfl (Nat.le_of_ble_eq_true rfl) d_Mod_step_158 (ws' := (o, zo 11 [.int (nI ts), .ref ta, .int (nI ne), .ref ans, .ref anm, .ref anu, .ref asa, .ref apl, .ref akd, .int (nI nk), .ref akn, .ref aks, .ref akp, .ref akk, .int (nI bg), .int (nI sz), .int (nI hd), .ref alg, .int (nI ni), .ref aip, .ref aix, .ref aiz, .ref aim, .ref aod, .int (nI (av + 9 + (U2 f sz (av + 6)))), .int (nI hv), .int (nI lf), .int (nI sn), .int (nI pv)]) :: T) rfl (fun H locs hP hD hS => ?_)
              refine lv_aload_n hx hb d_Mod_step_161 rfl (lv_at hl 1 rfl) ?_
              refine lv_dup hx hb d_Mod_step_162 rfl ?_
              refine z_get C hP List.mem_cons_self q_Mod 26 (by decide) k_754 (fun _ h9 => h9) rfl d_Mod_step_163 ?_
              refine lv_iconst (v := nI 1) hx hb d_Mod_step_166 (by decide) ?_
              refine z_isub (v := nI (lf - 1)) C d_Mod_step_167 (pk_sub (by omega)) ?_
              refine z_put C hP hD hS 0 rfl q_Mod 26 (by decide) k_754 (fun _ h9 => h9) rfl rfl rfl (Nat.le_of_ble_eq_true rfl) d_Mod_step_168 (ws' := (o, zo 11 [.int (nI ts), .ref ta, .int (nI ne), .ref ans, .ref anm, .ref anu, .ref asa, .ref apl, .ref akd, .int (nI nk), .ref akn, .ref aks, .ref akp, .ref akk, .int (nI bg), .int (nI sz), .int (nI hd), .ref alg, .int (nI ni), .ref aip, .ref aix, .ref aiz, .ref aim, .ref aod, .int (nI (av + 9 + (U2 f sz (av + 6)))), .int (nI hv), .int (nI (lf - 1)), .int (nI sn), .int (nI pv)]) :: T) rfl (fun H locs hP hD hS => ?_)
              refine lv_aload_n hx hb d_Mod_step_171 rfl (lv_at hl 1 rfl) ?_
              refine lv_dup hx hb d_Mod_step_172 rfl ?_
              refine z_get C hP List.mem_cons_self q_Mod 27 (by decide) k_755 (fun _ h9 => h9) rfl d_Mod_step_173 ?_
              refine lv_iconst (v := nI 1) hx hb d_Mod_step_176 (by decide) ?_
              refine z_iadd (v := nI (sn + 1)) C d_Mod_step_177 (nI_add _ _) ?_
              refine z_put C hP hD hS 0 rfl q_Mod 27 (by decide) k_755 (fun _ h9 => h9) rfl rfl rfl (Nat.le_of_ble_eq_true rfl) d_Mod_step_178 (ws' := (o, zo 11 [.int (nI ts), .ref ta, .int (nI ne), .ref ans, .ref anm, .ref anu, .ref asa, .ref apl, .ref akd, .int (nI nk), .ref akn, .ref aks, .ref akp, .ref akk, .int (nI bg), .int (nI sz), .int (nI hd), .ref alg, .int (nI ni), .ref aip, .ref aix, .ref aiz, .ref aim, .ref aod, .int (nI (av + 9 + (U2 f sz (av + 6)))), .int (nI hv), .int (nI (lf - 1)), .int (nI (sn + 1)), .int (nI pv)]) :: T) rfl (fun H locs hP hD hS => ?_)
              refine lv_iconst (v := nI 1) hx hb d_Mod_step_181 (by decide) ?_
              exact z_iret C hr hlk hP hD hS (by omega) (by omega) ⟨fun q9 => absurd q9 (by omega), fun _ => ⟨fun q9 => absurd q9 (by unfold stepP; rw [if_neg c_56, if_pos (by omega)]; exact fun q8 => nomatch q8), fun en2 lf2 ha2 hn2 st2 at2 q9 => ⟨rfl, by
                        unfold stepP at q9
                        rw [if_neg c_56, if_pos (by omega)] at q9
                        cases q9
                        rfl⟩⟩⟩ d_Mod_step_182
            · skip
              have c_151 : ¬ (((av + 9 + (U2 f sz (av + 6))) + 9) + (U2 f sz (av + 9 + (U2 f sz (av + 6)) + 6))) ≤ sz := fun q9 => c_151 ((nI_leI (a := ((av + 9 + (U2 f sz (av + 6))) + 9) + (U2 f sz (av + 9 + (U2 f sz (av + 6)) + 6))) (b := sz) (by omega) (by omega)).mpr q9)
              refine lv_iconst (v := iI (-1)) hx hb d_Mod_step_154 (by decide) ?_
              exact z_iret C hr hlk hP hD hS (by omega) (by omega) ⟨fun q9 => absurd q9 (by omega), fun _ => ⟨fun _ => ⟨rfl, _, _, rfl⟩, fun en2 lf2 ha2 hn2 st2 at2 q9 => absurd q9 (by unfold stepP; rw [if_neg c_56, if_neg (by omega)]; exact fun q8 => nomatch q8)⟩⟩ d_Mod_step_155
        · skip
          have c_73 : lf = 0 := (nI_eq (a := lf) (b := 0) (by omega) (by decide)).mp c_73
          exact absurd c_73 (by omega)
      · skip
        have c_56 : lf = 0 := (nI_eq (a := lf) (b := 0) (by omega) (by decide)).mp c_56
        refine lv_iload_n hx hb d_Mod_step_59 rfl (lv_at hl 0 rfl) ?_
        refine lv_aload_n hx hb d_Mod_step_60 rfl (lv_at hl 1 rfl) ?_
        refine z_get C hP List.mem_cons_self q_Mod 15 (by decide) k_743 (fun _ h9 => h9) rfl d_Mod_step_61 ?_
        refine lv_icmp_ne (tgt := 69) hx hb d_Mod_step_64 (by decide) (fun c_64 => ?_) (fun c_64 => ?_)
        · skip
          have c_64 : ¬ (av + 9 + (U2 f sz (av + 6))) = sz := fun q9 => c_64 ((nI_eq (a := av + 9 + (U2 f sz (av + 6))) (b := sz) (by omega) (by omega)).mpr q9)
          refine lv_aload_n hx hb d_Mod_step_69 rfl (lv_at hl 1 rfl) ?_
          refine z_get C hP List.mem_cons_self q_Mod 26 (by decide) k_754 (fun _ h9 => h9) rfl d_Mod_step_70 ?_
          refine lv_if_ne (tgt := 123) hx hb d_Mod_step_73 (by decide) (fun c_73 => ?_) (fun c_73 => ?_)
          · skip
            have c_73 : ¬ lf = 0 := fun q9 => c_73 ((nI_eq (a := lf) (b := 0) (by omega) (by decide)).mpr q9)
            exact absurd c_73 (by omega)
          · skip
            have c_73 : lf = 0 := (nI_eq (a := lf) (b := 0) (by omega) (by decide)).mp c_73
            refine lv_iload_n hx hb d_Mod_step_76 rfl (lv_at hl 0 rfl) ?_
            refine lv_bipush (v := nI 12) hx hb d_Mod_step_77 (by decide) ?_
            refine z_iadd (v := nI ((av + 9 + (U2 f sz (av + 6))) + 12)) C d_Mod_step_79 (nI_add _ _) ?_
            refine lv_aload_n hx hb d_Mod_step_80 rfl (lv_at hl 1 rfl) ?_
            refine z_get C hP List.mem_cons_self q_Mod 15 (by decide) k_743 (fun _ h9 => h9) rfl d_Mod_step_81 ?_
            refine lv_icmp_gt (tgt := 99) hx hb d_Mod_step_84 (by decide) (fun c_84 => ?_) (fun c_84 => ?_)
            · skip
              have c_84 : sz < ((av + 9 + (U2 f sz (av + 6))) + 12) := (nI_ltI (a := sz) (b := (av + 9 + (U2 f sz (av + 6))) + 12) (by omega) (by omega)).mp c_84
              refine lv_iconst (v := iI (-1)) hx hb d_Mod_step_99 (by decide) ?_
              exact z_iret C hr hlk hP hD hS (by omega) (by omega) ⟨fun q9 => absurd q9 (by omega), fun _ => ⟨fun _ => ⟨rfl, _, _, rfl⟩, fun en2 lf2 ha2 hn2 st2 at2 q9 => absurd q9 (by unfold stepP; rw [if_pos c_56, if_neg (by omega)]; exact fun q8 => nomatch q8)⟩⟩ d_Mod_step_100
            · skip
              have c_84 : ¬ sz < ((av + 9 + (U2 f sz (av + 6))) + 12) := fun q9 => c_84 ((nI_ltI (a := sz) (b := (av + 9 + (U2 f sz (av + 6))) + 12) (by omega) (by omega)).mpr q9)
              refine lv_aload_n hx hb d_Mod_step_87 rfl (lv_at hl 1 rfl) ?_
              refine lv_iload_n hx hb d_Mod_step_88 rfl (lv_at hl 0 rfl) ?_
              refine z_kl (z_runV (np := 1) C (c_Mod_u4 l g ((o, zo 11 [.int (nI ts), .ref ta, .int (nI ne), .ref ans, .ref anm, .ref anu, .ref asa, .ref apl, .ref akd, .int (nI nk), .ref akn, .ref aks, .ref akp, .ref akk, .int (nI bg), .int (nI sz), .int (nI hd), .ref alg, .int (nI ni), .ref aip, .ref aix, .ref aiz, .ref aim, .ref aod, .int (nI av), .int (nI hv), .int (nI lf), .int (nI sn), .int (nI pv)]) :: T) o ts ta ne ans anm anu asa apl akd nk akn aks akp akk bg sz hd alg ni aip aix aiz aim aod av hv lf sn pv List.mem_cons_self f (List.mem_cons_of_mem _ hlg) (av + 9 + (U2 f sz (av + 6))) sz (by omega) (by omega)) hP hD hS List.mem_cons_self (show classes[11]? = some (R_Mod, F_Mod, 29) from rfl) k_936 k_12 k_933 k_935 ks_Mod_u4 ⟨by decide, by decide, by decide⟩ ⟨Nat.le_of_ble_eq_true rfl, Nat.le_of_ble_eq_true rfl⟩ rfl hl.1 rfl (Nat.le_of_ble_eq_true rfl) d_Mod_step_89 ⟨by show _ ≤ 0; omega, by show _ ≤ 0; omega⟩) hS (fun r_89 w H locs hw hP hD hS => ?_)
              obtain ⟨rfl, hw⟩ := hw
              rw [hw] at hP hD
              have u4_594 := U4_lt f sz (av + 9 + (U2 f sz (av + 6)))
              refine lv_ldc2 hx hb C.1.2.2.2.1 (C.ts k_821 rfl) d_Mod_step_92 ?_
              refine W.lcmp hx hb d_Mod_step_95 ?_
              refine lv_if_le (tgt := 101) hx hb d_Mod_step_96 (by decide) (fun c_96 => ?_) (fun c_96 => ?_)
              · skip
                have c_96 : ((U4 f sz (av + 9 + (U2 f sz (av + 6)))) : Int) ≤ 255 := ((zc_le).trans (zj_le (a := ((U4 f sz (av + 9 + (U2 f sz (av + 6)))) : Int)) (b := 255) (lN_lI _) (by decide) (by omega) (by omega) (by omega) (by omega))).mp c_96
                refine lv_aload_n hx hb d_Mod_step_101 rfl (lv_at hl 1 rfl) ?_
                refine lv_iload_n hx hb d_Mod_step_102 rfl (lv_at hl 0 rfl) ?_
                refine z_put C hP hD hS 0 rfl q_Mod 25 (by decide) k_753 (fun _ h9 => h9) rfl rfl rfl (Nat.le_of_ble_eq_true rfl) d_Mod_step_103 (ws' := (o, zo 11 [.int (nI ts), .ref ta, .int (nI ne), .ref ans, .ref anm, .ref anu, .ref asa, .ref apl, .ref akd, .int (nI nk), .ref akn, .ref aks, .ref akp, .ref akk, .int (nI bg), .int (nI sz), .int (nI hd), .ref alg, .int (nI ni), .ref aip, .ref aix, .ref aiz, .ref aim, .ref aod, .int (nI av), .int (nI (av + 9 + (U2 f sz (av + 6)))), .int (nI lf), .int (nI sn), .int (nI pv)]) :: T) rfl (fun H locs hP hD hS => ?_)
                refine lv_aload_n hx hb d_Mod_step_106 rfl (lv_at hl 1 rfl) ?_
                refine lv_aload_n hx hb d_Mod_step_107 rfl (lv_at hl 1 rfl) ?_
                refine lv_iload_n hx hb d_Mod_step_108 rfl (lv_at hl 0 rfl) ?_
                refine z_kl (z_runV (np := 1) C (c_Mod_u4 l g ((o, zo 11 [.int (nI ts), .ref ta, .int (nI ne), .ref ans, .ref anm, .ref anu, .ref asa, .ref apl, .ref akd, .int (nI nk), .ref akn, .ref aks, .ref akp, .ref akk, .int (nI bg), .int (nI sz), .int (nI hd), .ref alg, .int (nI ni), .ref aip, .ref aix, .ref aiz, .ref aim, .ref aod, .int (nI av), .int (nI (av + 9 + (U2 f sz (av + 6)))), .int (nI lf), .int (nI sn), .int (nI pv)]) :: T) o ts ta ne ans anm anu asa apl akd nk akn aks akp akk bg sz hd alg ni aip aix aiz aim aod av (av + 9 + (U2 f sz (av + 6))) lf sn pv List.mem_cons_self f (List.mem_cons_of_mem _ hlg) (av + 9 + (U2 f sz (av + 6))) sz (by omega) (by omega)) hP hD hS List.mem_cons_self (show classes[11]? = some (R_Mod, F_Mod, 29) from rfl) k_936 k_12 k_933 k_935 ks_Mod_u4 ⟨by decide, by decide, by decide⟩ ⟨Nat.le_of_ble_eq_true rfl, Nat.le_of_ble_eq_true rfl⟩ rfl hl.1 rfl (Nat.le_of_ble_eq_true rfl) d_Mod_step_109 ⟨by show _ ≤ 0; omega, by show _ ≤ 0; omega⟩) hS (fun r_109 w H locs hw hP hD hS => ?_)
                obtain ⟨rfl, hw⟩ := hw
                rw [hw] at hP hD
                have u4_594 := U4_lt f sz (av + 9 + (U2 f sz (av + 6)))
                refine lv_l2i (v := nI (U4 f sz (av + 9 + (U2 f sz (av + 6))))) hx hb d_Mod_step_112 (lN_i _) ?_
                refine lv_iconst (v := nI 1) hx hb d_Mod_step_113 (by decide) ?_
                refine z_iadd (v := nI ((U4 f sz (av + 9 + (U2 f sz (av + 6)))) + 1)) C d_Mod_step_114 (nI_add _ _) ?_
                refine z_put C hP hD hS 0 rfl q_Mod 26 (by decide) k_754 (fun _ h9 => h9) rfl rfl rfl (Nat.le_of_ble_eq_true rfl) d_Mod_step_115 (ws' := (o, zo 11 [.int (nI ts), .ref ta, .int (nI ne), .ref ans, .ref anm, .ref anu, .ref asa, .ref apl, .ref akd, .int (nI nk), .ref akn, .ref aks, .ref akp, .ref akk, .int (nI bg), .int (nI sz), .int (nI hd), .ref alg, .int (nI ni), .ref aip, .ref aix, .ref aiz, .ref aim, .ref aod, .int (nI av), .int (nI (av + 9 + (U2 f sz (av + 6)))), .int (nI ((U4 f sz (av + 9 + (U2 f sz (av + 6)))) + 1)), .int (nI sn), .int (nI pv)]) :: T) rfl (fun H locs hP hD hS => ?_)
                refine lv_iload_n hx hb d_Mod_step_118 rfl (lv_at hl 0 rfl) ?_
                refine lv_bipush (v := nI 12) hx hb d_Mod_step_119 (by decide) ?_
                refine z_iadd (v := nI ((av + 9 + (U2 f sz (av + 6))) + 12)) C d_Mod_step_121 (nI_add _ _) ?_
                refine lv_istore_n (lv' := [(2, .int (nI ((av + 9 + (U2 f sz (av + 6))) + 12))), (0, .ref o), (1, .int (nI 0))]) hx hb d_Mod_step_122 rfl hl (by decide) rfl (fun ls hl => ?_)
                refine lv_iload_n hx hb d_Mod_step_123 rfl (lv_at hl 0 rfl) ?_
                refine lv_bipush (v := nI 8) hx hb d_Mod_step_124 (by decide) ?_
                refine z_iadd (v := nI (((av + 9 + (U2 f sz (av + 6))) + 12) + 8)) C d_Mod_step_126 (nI_add _ _) ?_
                refine lv_aload_n hx hb d_Mod_step_127 rfl (lv_at hl 1 rfl) ?_
                refine z_get C hP List.mem_cons_self q_Mod 15 (by decide) k_743 (fun _ h9 => h9) rfl d_Mod_step_128 ?_
                refine lv_icmp_gt (tgt := 154) hx hb d_Mod_step_131 (by decide) (fun c_131 => ?_) (fun c_131 => ?_)
                · skip
                  have c_131 : sz < (((av + 9 + (U2 f sz (av + 6))) + 12) + 8) := (nI_ltI (a := sz) (b := ((av + 9 + (U2 f sz (av + 6))) + 12) + 8) (by omega) (by omega)).mp c_131
                  refine lv_iconst (v := iI (-1)) hx hb d_Mod_step_154 (by decide) ?_
                  exact z_iret C hr hlk hP hD hS (by omega) (by omega) ⟨fun q9 => absurd q9 (by omega), fun _ => ⟨fun _ => ⟨rfl, _, _, rfl⟩, fun en2 lf2 ha2 hn2 st2 at2 q9 => absurd q9 (by unfold stepP; rw [if_pos c_56, if_neg (by omega)]; exact fun q8 => nomatch q8)⟩⟩ d_Mod_step_155
                · skip
                  have c_131 : ¬ sz < (((av + 9 + (U2 f sz (av + 6))) + 12) + 8) := fun q9 => c_131 ((nI_ltI (a := sz) (b := ((av + 9 + (U2 f sz (av + 6))) + 12) + 8) (by omega) (by omega)).mpr q9)
                  refine lv_iload_n hx hb d_Mod_step_134 rfl (lv_at hl 0 rfl) ?_
                  refine lv_bipush (v := nI 9) hx hb d_Mod_step_135 (by decide) ?_
                  refine z_iadd (v := nI (((av + 9 + (U2 f sz (av + 6))) + 12) + 9)) C d_Mod_step_137 (nI_add _ _) ?_
                  refine lv_aload_n hx hb d_Mod_step_138 rfl (lv_at hl 1 rfl) ?_
                  refine lv_iload_n hx hb d_Mod_step_139 rfl (lv_at hl 0 rfl) ?_
                  refine lv_bipush (v := nI 6) hx hb d_Mod_step_140 (by decide) ?_
                  refine z_iadd (v := nI (((av + 9 + (U2 f sz (av + 6))) + 12) + 6)) C d_Mod_step_142 (nI_add _ _) ?_
                  refine z_ki (z_runV (np := 1) C (c_Mod_u2 l g ((o, zo 11 [.int (nI ts), .ref ta, .int (nI ne), .ref ans, .ref anm, .ref anu, .ref asa, .ref apl, .ref akd, .int (nI nk), .ref akn, .ref aks, .ref akp, .ref akk, .int (nI bg), .int (nI sz), .int (nI hd), .ref alg, .int (nI ni), .ref aip, .ref aix, .ref aiz, .ref aim, .ref aod, .int (nI av), .int (nI (av + 9 + (U2 f sz (av + 6)))), .int (nI ((U4 f sz (av + 9 + (U2 f sz (av + 6)))) + 1)), .int (nI sn), .int (nI pv)]) :: T) o ts ta ne ans anm anu asa apl akd nk akn aks akp akk bg sz hd alg ni aip aix aiz aim aod av (av + 9 + (U2 f sz (av + 6))) ((U4 f sz (av + 9 + (U2 f sz (av + 6)))) + 1) sn pv List.mem_cons_self f (List.mem_cons_of_mem _ hlg) ((av + 9 + (U2 f sz (av + 6))) + 12 + 6) sz (by omega) (by omega)) hP hD hS List.mem_cons_self (show classes[11]? = some (R_Mod, F_Mod, 29) from rfl) k_932 k_12 k_929 k_931 ks_Mod_u2 ⟨by decide, by decide, by decide⟩ ⟨Nat.le_of_ble_eq_true rfl, Nat.le_of_ble_eq_true rfl⟩ rfl hl.1 rfl (Nat.le_of_ble_eq_true rfl) d_Mod_step_143 ⟨by show _ ≤ 0; omega, by show _ ≤ 0; omega⟩) hS (fun r_143 w H locs hw hP hD hS => ?_)
                  obtain ⟨rfl, hw⟩ := hw
                  rw [hw] at hP hD
                  have u2_42 := U2_lt f sz ((av + 9 + (U2 f sz (av + 6))) + 12 + 6)
                  refine z_iadd (v := nI ((((av + 9 + (U2 f sz (av + 6))) + 12) + 9) + (U2 f sz ((av + 9 + (U2 f sz (av + 6))) + 12 + 6)))) C d_Mod_step_146 (nI_add _ _) ?_
                  refine lv_aload_n hx hb d_Mod_step_147 rfl (lv_at hl 1 rfl) ?_
                  refine z_get C hP List.mem_cons_self q_Mod 15 (by decide) k_743 (fun _ h9 => h9) rfl d_Mod_step_148 ?_
                  refine lv_icmp_le (tgt := 156) hx hb d_Mod_step_151 (by decide) (fun c_151 => ?_) (fun c_151 => ?_)
                  · skip
                    have c_151 : ((((av + 9 + (U2 f sz (av + 6))) + 12) + 9) + (U2 f sz ((av + 9 + (U2 f sz (av + 6))) + 12 + 6))) ≤ sz := (nI_leI (a := (((av + 9 + (U2 f sz (av + 6))) + 12) + 9) + (U2 f sz ((av + 9 + (U2 f sz (av + 6))) + 12 + 6))) (b := sz) (by omega) (by omega)).mp c_151
                    refine lv_aload_n hx hb d_Mod_step_156 rfl (lv_at hl 1 rfl) ?_
                    refine lv_iload_n hx hb d_Mod_step_157 rfl (lv_at hl 0 rfl) ?_
                    refine z_put C hP hD hS 0 rfl q_Mod 24 (by decide) k_752 (fun _ h9 => h9) rfl rfl rfl (Nat.le_of_ble_eq_true rfl) d_Mod_step_158 (ws' := (o, zo 11 [.int (nI ts), .ref ta, .int (nI ne), .ref ans, .ref anm, .ref anu, .ref asa, .ref apl, .ref akd, .int (nI nk), .ref akn, .ref aks, .ref akp, .ref akk, .int (nI bg), .int (nI sz), .int (nI hd), .ref alg, .int (nI ni), .ref aip, .ref aix, .ref aiz, .ref aim, .ref aod, .int (nI ((av + 9 + (U2 f sz (av + 6))) + 12)), .int (nI (av + 9 + (U2 f sz (av + 6)))), .int (nI ((U4 f sz (av + 9 + (U2 f sz (av + 6)))) + 1)), .int (nI sn), .int (nI pv)]) :: T) rfl (fun H locs hP hD hS => ?_)
                    refine lv_aload_n hx hb d_Mod_step_161 rfl (lv_at hl 1 rfl) ?_
                    refine lv_dup hx hb d_Mod_step_162 rfl ?_
                    refine z_get C hP List.mem_cons_self q_Mod 26 (by decide) k_754 (fun _ h9 => h9) rfl d_Mod_step_163 ?_
                    refine lv_iconst (v := nI 1) hx hb d_Mod_step_166 (by decide) ?_
                    refine z_isub (v := nI (((U4 f sz (av + 9 + (U2 f sz (av + 6)))) + 1) - 1)) C d_Mod_step_167 (pk_sub (by omega)) ?_
                    refine z_put C hP hD hS 0 rfl q_Mod 26 (by decide) k_754 (fun _ h9 => h9) rfl rfl rfl (Nat.le_of_ble_eq_true rfl) d_Mod_step_168 (ws' := (o, zo 11 [.int (nI ts), .ref ta, .int (nI ne), .ref ans, .ref anm, .ref anu, .ref asa, .ref apl, .ref akd, .int (nI nk), .ref akn, .ref aks, .ref akp, .ref akk, .int (nI bg), .int (nI sz), .int (nI hd), .ref alg, .int (nI ni), .ref aip, .ref aix, .ref aiz, .ref aim, .ref aod, .int (nI ((av + 9 + (U2 f sz (av + 6))) + 12)), .int (nI (av + 9 + (U2 f sz (av + 6)))), .int (nI (((U4 f sz (av + 9 + (U2 f sz (av + 6)))) + 1) - 1)), .int (nI sn), .int (nI pv)]) :: T) rfl (fun H locs hP hD hS => ?_)
                    refine lv_aload_n hx hb d_Mod_step_171 rfl (lv_at hl 1 rfl) ?_
                    refine lv_dup hx hb d_Mod_step_172 rfl ?_
                    refine z_get C hP List.mem_cons_self q_Mod 27 (by decide) k_755 (fun _ h9 => h9) rfl d_Mod_step_173 ?_
                    refine lv_iconst (v := nI 1) hx hb d_Mod_step_176 (by decide) ?_
                    refine z_iadd (v := nI (sn + 1)) C d_Mod_step_177 (nI_add _ _) ?_
                    refine z_put C hP hD hS 0 rfl q_Mod 27 (by decide) k_755 (fun _ h9 => h9) rfl rfl rfl (Nat.le_of_ble_eq_true rfl) d_Mod_step_178 (ws' := (o, zo 11 [.int (nI ts), .ref ta, .int (nI ne), .ref ans, .ref anm, .ref anu, .ref asa, .ref apl, .ref akd, .int (nI nk), .ref akn, .ref aks, .ref akp, .ref akk, .int (nI bg), .int (nI sz), .int (nI hd), .ref alg, .int (nI ni), .ref aip, .ref aix, .ref aiz, .ref aim, .ref aod, .int (nI ((av + 9 + (U2 f sz (av + 6))) + 12)), .int (nI (av + 9 + (U2 f sz (av + 6)))), .int (nI (((U4 f sz (av + 9 + (U2 f sz (av + 6)))) + 1) - 1)), .int (nI (sn + 1)), .int (nI pv)]) :: T) rfl (fun H locs hP hD hS => ?_)
                    refine lv_iconst (v := nI 1) hx hb d_Mod_step_181 (by decide) ?_
                    exact z_iret C hr hlk hP hD hS (by omega) (by omega) ⟨fun q9 => absurd q9 (by omega), fun _ => ⟨fun q9 => absurd q9 (by unfold stepP; rw [if_pos c_56, if_pos (by omega)]; exact fun q8 => nomatch q8), fun en2 lf2 ha2 hn2 st2 at2 q9 => ⟨rfl, by
                              unfold stepP at q9
                              rw [if_pos c_56, if_pos (by omega)] at q9
                              cases q9
                              rw [show U4 f sz (av + 9 + U2 f sz (av + 6)) + 1 - 1 = U4 f sz (av + 9 + U2 f sz (av + 6)) by omega]⟩⟩⟩ d_Mod_step_182
                  · skip
                    have c_151 : ¬ ((((av + 9 + (U2 f sz (av + 6))) + 12) + 9) + (U2 f sz ((av + 9 + (U2 f sz (av + 6))) + 12 + 6))) ≤ sz := fun q9 => c_151 ((nI_leI (a := (((av + 9 + (U2 f sz (av + 6))) + 12) + 9) + (U2 f sz ((av + 9 + (U2 f sz (av + 6))) + 12 + 6))) (b := sz) (by omega) (by omega)).mpr q9)
                    refine lv_iconst (v := iI (-1)) hx hb d_Mod_step_154 (by decide) ?_
                    exact z_iret C hr hlk hP hD hS (by omega) (by omega) ⟨fun q9 => absurd q9 (by omega), fun _ => ⟨fun _ => ⟨rfl, _, _, rfl⟩, fun en2 lf2 ha2 hn2 st2 at2 q9 => absurd q9 (by unfold stepP; rw [if_pos c_56, if_neg (by omega)]; exact fun q8 => nomatch q8)⟩⟩ d_Mod_step_155
              · skip
                have c_96 : ¬ ((U4 f sz (av + 9 + (U2 f sz (av + 6)))) : Int) ≤ 255 := fun q9 => c_96 (((zc_le).trans (zj_le (a := ((U4 f sz (av + 9 + (U2 f sz (av + 6)))) : Int)) (b := 255) (lN_lI _) (by decide) (by omega) (by omega) (by omega) (by omega))).mpr q9)
                refine lv_iconst (v := iI (-1)) hx hb d_Mod_step_99 (by decide) ?_
                exact z_iret C hr hlk hP hD hS (by omega) (by omega) ⟨fun q9 => absurd q9 (by omega), fun _ => ⟨fun _ => ⟨rfl, _, _, rfl⟩, fun en2 lf2 ha2 hn2 st2 at2 q9 => absurd q9 (by unfold stepP; rw [if_pos c_56, if_neg (by omega)]; exact fun q8 => nomatch q8)⟩⟩ d_Mod_step_100
        · skip
          have c_64 : (av + 9 + (U2 f sz (av + 6))) = sz := (nI_eq (a := av + 9 + (U2 f sz (av + 6))) (b := sz) (by omega) (by omega)).mp c_64
          refine lv_iconst (v := nI 0) hx hb d_Mod_step_67 (by decide) ?_
          exact z_iret C hr hlk hP hD hS (by omega) (by omega) ⟨fun _ => ⟨rfl, rfl⟩, fun q9 => absurd ⟨c_56, c_64⟩ q9⟩ d_Mod_step_68
    · skip
      have c_25 : ¬ 0 = 0 := fun q9 => c_25 ((nI_eq (a := 0) (b := 0) (by decide) (by decide)).mpr q9)
      exact absurd c_25 (by omega)
  · skip
    have c_1 : ¬ 0 = 0 := fun q9 => c_1 ((nI_eq (a := 0) (b := 0) (by decide) (by decide)).mpr q9)
    exact absurd c_1 (by omega)
set_option maxHeartbeats 4000000 in
set_option maxRecDepth 100000 in
theorem c_Mod_isEntryRight (l : Launch) (g : zT) (T : va_W) (o ts ta ne ans anm anu asa apl akd nk akn aks akp akk bg sz hd alg ni aip aix aiz aim aod av hv lf sn pv : Nat) (ho : (o, zo 11 [.int (nI ts), .ref ta, .int (nI ne), .ref ans, .ref anm, .ref anu, .ref asa, .ref apl, .ref akd, .int (nI nk), .ref akn, .ref aks, .ref akp, .ref akk, .int (nI bg), .int (nI sz), .int (nI hd), .ref alg, .int (nI ni), .ref aip, .ref aix, .ref aiz, .ref aim, .ref aod, .int (nI av), .int (nI hv), .int (nI lf), .int (nI sn), .int (nI pv)]) ∈ T) (f : Nat → UInt8) (hlg : (alg, zBy g 65536 f) ∈ T) (kn ks kp kk : Nat → Nat) (hkn : (akn, zIn g 1500 (nN kn)) ∈ T) (hks : (aks, zIn g 1500 (nN ks)) ∈ T) (hkp : (akp, zIn g 1500 (nN kp)) ∈ T) (hkk : (akk, zIn g 1500 (nN kk)) ∈ T) (v1 : av + 9 + U2 f sz (av + 6) ≤ sz) (v2 : sz ≤ 65536) (v3 : hv + 12 ≤ sz) (k1 : nk ≤ 1500) (k2 : ∀ j, j < nk → kn j ≤ 100000 ∧ ks j < 65536 ∧ kp j < 65536 ∧ kk j < 65536)  : Met l y_Mod_isEntryRight (zw y_Mod_isEntryRight b_Mod_isEntryRight 4 (some .boolean)) (zR 3 62 0 0) (zP g [.ref o] (T)) (zQi g (fun r w => r = bI (isNm (nmA f sz av) && knM kn ks kp kk nk ((U4 f sz (hv + 8) : Int) + s16 (U2 f sz (av + 2))) (U4 f sz (hv + 4)) (U2 f sz av) (U2 f sz (av + 4))) ∧ w = T)) 0 0 (zA g) := by
  refine zMet (by decide) (Nat.le_of_ble_eq_true rfl) ?_
  intro p e s m below meth c ls C hr hlk hnm hP hD hl
  have hx := C.1.1
  have hb := C.1.2.1
  have hS : va_S (zA g) s.heap s.heap [] := va_S.rf
  have hl : lv_has ls 4 [(0, .ref o)] := hl
  have rg2 := s16_rg (U2_lt f sz (av + 2))
  have rg4 := U4_lt f sz (hv + 8)
  have L_86 : ∀ (b : Bool) (k : Nat) (_ : b = isNm (nmA f sz av)) (H : Heap) (locs : List Loc), va_P g.1 classes (T) H → va_D (zA g) (T) → va_S (zA g) s.heap H locs → ∀ ls : Array Slot, lv_has ls 4 [(0, .ref o), (2, .int (bI b)), (3, .int (nI k))] → W p l e (zR 3 62 0 0) s m [.ref o].toArray below meth c H locs 0 0 (MQ below (zQi g (fun r w => r = bI (isNm (nmA f sz av) && knM kn ks kp kk nk ((U4 f sz (hv + 8) : Int) + s16 (U2 f sz (av + 2))) (U4 f sz (hv + 4)) (U2 f sz av) (U2 f sz (av + 4))) ∧ w = T)) [.ref o].toArray s 0 0 (zA g)) (F0 m 86 ls []) := by
    intro b k g8 H locs hP hD hS ls hl
    refine lv_aload_n hx hb d_Mod_isEntryRight_86 rfl (lv_at hl 0 rfl) ?_
    refine lv_aload_n hx hb d_Mod_isEntryRight_87 rfl (lv_at hl 0 rfl) ?_
    refine z_kl (z_runV (np := 0) C (c_Mod_numberHere l g T o ts ta ne ans anm anu asa apl akd nk akn aks akp akk bg sz hd alg ni aip aix aiz aim aod av hv lf sn pv ho f hlg (by omega) (by omega) (by omega)) hP hD hS ho (show classes[11]? = some (R_Mod, F_Mod, 29) from rfl) k_952 k_12 k_949 k_951 ks_Mod_numberHere ⟨by decide, by decide, by decide⟩ ⟨Nat.le_of_ble_eq_true rfl, Nat.le_of_ble_eq_true rfl⟩ rfl hl.1 rfl (Nat.le_of_ble_eq_true rfl) d_Mod_isEntryRight_88 ⟨by show _ ≤ 0; omega, by show _ ≤ 0; omega⟩) hS (fun r_88 w H locs hw hP hD hS => ?_)
    obtain ⟨rfl, hw⟩ := hw
    rw [hw] at hP hD
    refine z_ki (z_runV (np := 1) C (c_Mod_knownAt l g T o ts ta ne ans anm anu asa apl akd nk akn aks akp akk bg sz hd alg ni aip aix aiz aim aod av hv lf sn pv ho kn hkn ((U4 f sz (hv + 8) : Int) + s16 (U2 f sz (av + 2))) k1 (fun j hj => (k2 j hj).1) (by omega) (by omega)) hP hD hS ho (show classes[11]? = some (R_Mod, F_Mod, 29) from rfl) k_850 k_12 k_847 k_849 ks_Mod_knownAt ⟨by decide, by decide, by decide⟩ ⟨Nat.le_of_ble_eq_true rfl, Nat.le_of_ble_eq_true rfl⟩ rfl hl.1 rfl (Nat.le_of_ble_eq_true rfl) d_Mod_isEntryRight_91 ⟨by show _ ≤ 0; omega, by show _ ≤ 0; omega⟩) hS (fun r_91 w H locs hw hP hD hS => ?_)
    obtain ⟨rfl, hw⟩ := hw
    rw [hw] at hP hD
    have lr := lastE_rg (ofK kn ((U4 f sz (hv + 8) : Int) + s16 (U2 f sz (av + 2)))) nk
    refine lv_istore_n (lv' := [(3, .int (iI (lastE (ofK kn ((U4 f sz (hv + 8) : Int) + s16 (U2 f sz (av + 2)))) nk))), (0, .ref o), (2, .int (bI b))]) hx hb d_Mod_isEntryRight_94 rfl hl (by decide) rfl (fun ls hl => ?_)
    refine lv_iload_n hx hb d_Mod_isEntryRight_95 rfl (lv_at hl 2 rfl) ?_
    refine lv_if_eq (tgt := 164) hx hb d_Mod_isEntryRight_96 (by decide) (fun c_96 => ?_) (fun c_96 => ?_)
    · skip
      have c_96 := bI_eq.mp c_96
      refine lv_iconst (v := nI 0) hx hb d_Mod_isEntryRight_164 (by decide) ?_
      exact z_zret C hr hlk hP hD hS (by omega) (by omega) (by first | exact Or.inl rfl | exact Or.inr rfl) ⟨bI_f (by rw [← g8, c_96, Bool.false_and]), rfl⟩ d_Mod_isEntryRight_165
    · skip
      have c_96 := bI_ne.mp c_96
      refine lv_iload_n hx hb d_Mod_isEntryRight_99 rfl (lv_at hl 0 rfl) ?_
      refine lv_if_lt (tgt := 164) hx hb d_Mod_isEntryRight_100 (by decide) (fun c_100 => ?_) (fun c_100 => ?_)
      · skip
        have c_100 : (lastE (ofK kn ((U4 f sz (hv + 8) : Int) + s16 (U2 f sz (av + 2)))) nk) < 0 := (zi_lt (a := lastE (ofK kn ((U4 f sz (hv + 8) : Int) + s16 (U2 f sz (av + 2)))) nk) (b := 0) rfl (nI_iI _) (by omega) (by omega) (by omega) (by omega)).mp c_100
        refine lv_iconst (v := nI 0) hx hb d_Mod_isEntryRight_164 (by decide) ?_
        exact z_zret C hr hlk hP hD hS (by omega) (by omega) (by first | exact Or.inl rfl | exact Or.inr rfl) ⟨bI_f (by rw [show knM kn ks kp kk nk ((U4 f sz (hv + 8) : Int) + s16 (U2 f sz (av + 2))) (U4 f sz (hv + 4)) (U2 f sz av) (U2 f sz (av + 4)) = false from decide_eq_false (fun q9 => by have q1 := q9.1; omega), Bool.and_false]), rfl⟩ d_Mod_isEntryRight_165
      · skip
        have c_100 : ¬ (lastE (ofK kn ((U4 f sz (hv + 8) : Int) + s16 (U2 f sz (av + 2)))) nk) < 0 := fun q9 => c_100 ((zi_lt (a := lastE (ofK kn ((U4 f sz (hv + 8) : Int) + s16 (U2 f sz (av + 2)))) nk) (b := 0) rfl (nI_iI _) (by omega) (by omega) (by omega) (by omega)).mpr q9)
        obtain ⟨J, hJ⟩ : ∃ J : Nat, lastE (ofK kn ((U4 f sz (hv + 8) : Int) + s16 (U2 f sz (av + 2)))) nk = (J : Int) := ⟨(lastE (ofK kn ((U4 f sz (hv + 8) : Int) + s16 (U2 f sz (av + 2)))) nk).toNat, by omega⟩
        have hJ2 : J < nk := by omega
        have kb := k2 J hJ2
        have e_loc : iI (lastE (ofK kn ((U4 f sz (hv + 8) : Int) + s16 (U2 f sz (av + 2)))) nk) = nI J := (by rw [hJ, nI_iI])
        have hl : lv_has ls 4 [(3, .int (nI J)), (0, .ref o), (2, .int (bI b))] := by rw [← e_loc]; exact hl
        refine lv_aload_n hx hb d_Mod_isEntryRight_103 rfl (lv_at hl 1 rfl) ?_
        refine lv_aload_n hx hb d_Mod_isEntryRight_104 rfl (lv_at hl 1 rfl) ?_
        refine z_get C hP ho q_Mod 25 (by decide) k_753 (fun _ h9 => h9) rfl d_Mod_isEntryRight_105 ?_
        refine lv_iconst (v := nI 4) hx hb d_Mod_isEntryRight_108 (by decide) ?_
        refine z_iadd (v := nI (hv + 4)) C d_Mod_isEntryRight_109 (nI_add _ _) ?_
        refine z_kl (z_runV (np := 1) C (c_Mod_u4 l g T o ts ta ne ans anm anu asa apl akd nk akn aks akp akk bg sz hd alg ni aip aix aiz aim aod av hv lf sn pv ho f hlg (hv + 4) sz (by omega) (by omega)) hP hD hS ho (show classes[11]? = some (R_Mod, F_Mod, 29) from rfl) k_936 k_12 k_933 k_935 ks_Mod_u4 ⟨by decide, by decide, by decide⟩ ⟨Nat.le_of_ble_eq_true rfl, Nat.le_of_ble_eq_true rfl⟩ rfl hl.1 rfl (Nat.le_of_ble_eq_true rfl) d_Mod_isEntryRight_110 ⟨by show _ ≤ 0; omega, by show _ ≤ 0; omega⟩) hS (fun r_110 w H locs hw hP hD hS => ?_)
        obtain ⟨rfl, hw⟩ := hw
        rw [hw] at hP hD
        have u4_381 := U4_lt f sz (hv + 4)
        refine lv_aload_n hx hb d_Mod_isEntryRight_113 rfl (lv_at hl 1 rfl) ?_
        refine z_get C hP ho q_Mod 11 (by decide) k_739 (fun _ h9 => h9) rfl d_Mod_isEntryRight_114 ?_
        refine lv_iload_n hx hb d_Mod_isEntryRight_117 rfl (lv_at hl 0 rfl) ?_
        refine z_iald C hP hks J (by omega) (by omega) d_Mod_isEntryRight_118 ?_
        refine z_topi (y := nI (ks J)) rfl ?_
        refine lv_i2l (v := lN (ks J)) hx hb d_Mod_isEntryRight_119 (nI_l (by omega)) ?_
        refine W.lcmp hx hb d_Mod_isEntryRight_120 ?_
        refine lv_if_ne (tgt := 164) hx hb d_Mod_isEntryRight_121 (by decide) (fun c_121 => ?_) (fun c_121 => ?_)
        · skip
          have c_121 : ¬ ((U4 f sz (hv + 4)) : Int) = ((ks J) : Int) := fun q9 => c_121 (((zc_eq).trans (zj_eq (a := ((U4 f sz (hv + 4)) : Int)) (b := ((ks J) : Int)) (lN_lI _) (lN_lI _) (by omega) (by omega) (by omega) (by omega))).mpr q9)
          refine lv_iconst (v := nI 0) hx hb d_Mod_isEntryRight_164 (by decide) ?_
          exact z_zret C hr hlk hP hD hS (by omega) (by omega) (by first | exact Or.inl rfl | exact Or.inr rfl) ⟨bI_f (by rw [show knM kn ks kp kk nk ((U4 f sz (hv + 8) : Int) + s16 (U2 f sz (av + 2))) (U4 f sz (hv + 4)) (U2 f sz av) (U2 f sz (av + 4)) = false from decide_eq_false (fun q9 => by rw [hJ] at q9; have q1 : ks J = _ := q9.2.1; have q2 : kp J = _ := q9.2.2.1; have q3 : kk J = _ := q9.2.2.2; omega), Bool.and_false]), rfl⟩ d_Mod_isEntryRight_165
        · skip
          have c_121 : ((U4 f sz (hv + 4)) : Int) = ((ks J) : Int) := ((zc_eq).trans (zj_eq (a := ((U4 f sz (hv + 4)) : Int)) (b := ((ks J) : Int)) (lN_lI _) (lN_lI _) (by omega) (by omega) (by omega) (by omega))).mp c_121
          refine lv_aload_n hx hb d_Mod_isEntryRight_124 rfl (lv_at hl 1 rfl) ?_
          refine lv_aload_n hx hb d_Mod_isEntryRight_125 rfl (lv_at hl 1 rfl) ?_
          refine z_get C hP ho q_Mod 24 (by decide) k_752 (fun _ h9 => h9) rfl d_Mod_isEntryRight_126 ?_
          refine z_ki (z_runV (np := 1) C (c_Mod_u2 l g T o ts ta ne ans anm anu asa apl akd nk akn aks akp akk bg sz hd alg ni aip aix aiz aim aod av hv lf sn pv ho f hlg (av) sz (by omega) (by omega)) hP hD hS ho (show classes[11]? = some (R_Mod, F_Mod, 29) from rfl) k_932 k_12 k_929 k_931 ks_Mod_u2 ⟨by decide, by decide, by decide⟩ ⟨Nat.le_of_ble_eq_true rfl, Nat.le_of_ble_eq_true rfl⟩ rfl hl.1 rfl (Nat.le_of_ble_eq_true rfl) d_Mod_isEntryRight_129 ⟨by show _ ≤ 0; omega, by show _ ≤ 0; omega⟩) hS (fun r_129 w H locs hw hP hD hS => ?_)
          obtain ⟨rfl, hw⟩ := hw
          rw [hw] at hP hD
          have u2_215 := U2_lt f sz (av)
          refine lv_aload_n hx hb d_Mod_isEntryRight_132 rfl (lv_at hl 1 rfl) ?_
          refine z_get C hP ho q_Mod 12 (by decide) k_740 (fun _ h9 => h9) rfl d_Mod_isEntryRight_133 ?_
          refine lv_iload_n hx hb d_Mod_isEntryRight_136 rfl (lv_at hl 0 rfl) ?_
          refine z_iald C hP hkp J (by omega) (by omega) d_Mod_isEntryRight_137 ?_
          refine z_topi (y := nI (kp J)) rfl ?_
          refine lv_icmp_ne (tgt := 164) hx hb d_Mod_isEntryRight_138 (by decide) (fun c_138 => ?_) (fun c_138 => ?_)
          · skip
            have c_138 : ¬ (U2 f sz (av)) = (kp J) := fun q9 => c_138 ((nI_eq (a := U2 f sz (av)) (b := kp J) (by omega) (by omega)).mpr q9)
            refine lv_iconst (v := nI 0) hx hb d_Mod_isEntryRight_164 (by decide) ?_
            exact z_zret C hr hlk hP hD hS (by omega) (by omega) (by first | exact Or.inl rfl | exact Or.inr rfl) ⟨bI_f (by rw [show knM kn ks kp kk nk ((U4 f sz (hv + 8) : Int) + s16 (U2 f sz (av + 2))) (U4 f sz (hv + 4)) (U2 f sz av) (U2 f sz (av + 4)) = false from decide_eq_false (fun q9 => by rw [hJ] at q9; have q1 : ks J = _ := q9.2.1; have q2 : kp J = _ := q9.2.2.1; have q3 : kk J = _ := q9.2.2.2; omega), Bool.and_false]), rfl⟩ d_Mod_isEntryRight_165
          · skip
            have c_138 : (U2 f sz (av)) = (kp J) := (nI_eq (a := U2 f sz (av)) (b := kp J) (by omega) (by omega)).mp c_138
            refine lv_aload_n hx hb d_Mod_isEntryRight_141 rfl (lv_at hl 1 rfl) ?_
            refine lv_aload_n hx hb d_Mod_isEntryRight_142 rfl (lv_at hl 1 rfl) ?_
            refine z_get C hP ho q_Mod 24 (by decide) k_752 (fun _ h9 => h9) rfl d_Mod_isEntryRight_143 ?_
            refine lv_iconst (v := nI 4) hx hb d_Mod_isEntryRight_146 (by decide) ?_
            refine z_iadd (v := nI (av + 4)) C d_Mod_isEntryRight_147 (nI_add _ _) ?_
            refine z_ki (z_runV (np := 1) C (c_Mod_u2 l g T o ts ta ne ans anm anu asa apl akd nk akn aks akp akk bg sz hd alg ni aip aix aiz aim aod av hv lf sn pv ho f hlg (av + 4) sz (by omega) (by omega)) hP hD hS ho (show classes[11]? = some (R_Mod, F_Mod, 29) from rfl) k_932 k_12 k_929 k_931 ks_Mod_u2 ⟨by decide, by decide, by decide⟩ ⟨Nat.le_of_ble_eq_true rfl, Nat.le_of_ble_eq_true rfl⟩ rfl hl.1 rfl (Nat.le_of_ble_eq_true rfl) d_Mod_isEntryRight_148 ⟨by show _ ≤ 0; omega, by show _ ≤ 0; omega⟩) hS (fun r_148 w H locs hw hP hD hS => ?_)
            obtain ⟨rfl, hw⟩ := hw
            rw [hw] at hP hD
            have u2_374 := U2_lt f sz (av + 4)
            refine lv_aload_n hx hb d_Mod_isEntryRight_151 rfl (lv_at hl 1 rfl) ?_
            refine z_get C hP ho q_Mod 13 (by decide) k_741 (fun _ h9 => h9) rfl d_Mod_isEntryRight_152 ?_
            refine lv_iload_n hx hb d_Mod_isEntryRight_155 rfl (lv_at hl 0 rfl) ?_
            refine z_iald C hP hkk J (by omega) (by omega) d_Mod_isEntryRight_156 ?_
            refine z_topi (y := nI (kk J)) rfl ?_
            refine lv_icmp_ne (tgt := 164) hx hb d_Mod_isEntryRight_157 (by decide) (fun c_157 => ?_) (fun c_157 => ?_)
            · skip
              have c_157 : ¬ (U2 f sz (av + 4)) = (kk J) := fun q9 => c_157 ((nI_eq (a := U2 f sz (av + 4)) (b := kk J) (by omega) (by omega)).mpr q9)
              refine lv_iconst (v := nI 0) hx hb d_Mod_isEntryRight_164 (by decide) ?_
              exact z_zret C hr hlk hP hD hS (by omega) (by omega) (by first | exact Or.inl rfl | exact Or.inr rfl) ⟨bI_f (by rw [show knM kn ks kp kk nk ((U4 f sz (hv + 8) : Int) + s16 (U2 f sz (av + 2))) (U4 f sz (hv + 4)) (U2 f sz av) (U2 f sz (av + 4)) = false from decide_eq_false (fun q9 => by rw [hJ] at q9; have q1 : ks J = _ := q9.2.1; have q2 : kp J = _ := q9.2.2.1; have q3 : kk J = _ := q9.2.2.2; omega), Bool.and_false]), rfl⟩ d_Mod_isEntryRight_165
            · skip
              have c_157 : (U2 f sz (av + 4)) = (kk J) := (nI_eq (a := U2 f sz (av + 4)) (b := kk J) (by omega) (by omega)).mp c_157
              refine lv_iconst (v := nI 1) hx hb d_Mod_isEntryRight_160 (by decide) ?_
              refine lv_goto (tgt := 165) hx hb d_Mod_isEntryRight_161 (by decide) ?_
              exact z_zret C hr hlk hP hD hS (by omega) (by omega) (by first | exact Or.inl rfl | exact Or.inr rfl) ⟨bI_t (by rw [← g8, c_96, show knM kn ks kp kk nk ((U4 f sz (hv + 8) : Int) + s16 (U2 f sz (av + 2))) (U4 f sz (hv + 4)) (U2 f sz av) (U2 f sz (av + 4)) = true from decide_eq_true (by rw [hJ]; exact ⟨by omega, by show ks J = _; omega, by show kp J = _; omega, by show kk J = _; omega⟩)]; rfl), rfl⟩ d_Mod_isEntryRight_165
  have L_47 : ∀ (nu : Nat) (k : Nat) (b : Bool) (_ : k ≤ (U2 f sz (av + 6) + 1)) (_ : b = true ↔ nmQ f (av + 8) (U2 f sz (av + 6) + 1) ∧ okc f (av + 8) k) (_ : (U2 f sz (av + 6) + 1) - k < nu) (H : Heap) (locs : List Loc), va_P g.1 classes (T) H → va_D (zA g) (T) → va_S (zA g) s.heap H locs → ∀ ls : Array Slot, lv_has ls 4 [(0, .ref o), (1, .int (nI (U2 f sz (av + 6) + 1))), (2, .int (bI b)), (3, .int (nI k))] → W p l e (zR 3 62 0 0) s m [.ref o].toArray below meth c H locs 0 0 (MQ below (zQi g (fun r w => r = bI (isNm (nmA f sz av) && knM kn ks kp kk nk ((U4 f sz (hv + 8) : Int) + s16 (U2 f sz (av + 2))) (U4 f sz (hv + 4)) (U2 f sz av) (U2 f sz (av + 4))) ∧ w = T)) [.ref o].toArray s 0 0 (zA g)) (F0 m 47 ls []) := by
    intro nu
    induction nu with
    | zero => intros; omega
    | succ nu ih =>
      intro k b g3 g4 hmu H locs hP hD hS ls hl
      have L_79 : ∀ (b2 : Bool) (_ : k < (U2 f sz (av + 6) + 1)) (_ : b = true) (_ : b2 = true ↔ (f (av + 8 + k)).toNat ≠ 0 ∧ (f (av + 8 + k)).toNat ≠ 47) (H : Heap) (locs : List Loc), va_P g.1 classes (T) H → va_D (zA g) (T) → va_S (zA g) s.heap H locs → ∀ ls : Array Slot, lv_has ls 4 [(0, .ref o), (1, .int (nI (U2 f sz (av + 6) + 1))), (3, .int (nI k))] → W p l e (zR 3 62 0 0) s m [.ref o].toArray below meth c H locs 0 0 (MQ below (zQi g (fun r w => r = bI (isNm (nmA f sz av) && knM kn ks kp kk nk ((U4 f sz (hv + 8) : Int) + s16 (U2 f sz (av + 2))) (U4 f sz (hv + 4)) (U2 f sz av) (U2 f sz (av + 4))) ∧ w = T)) [.ref o].toArray s 0 0 (zA g)) (F0 m 79 ls [.int (bI b2)]) := by
        intro b2 g7 c_53 g5 H locs hP hD hS ls hl
        refine lv_istore_n (lv' := [(2, .int (bI b2)), (0, .ref o), (1, .int (nI (U2 f sz (av + 6) + 1))), (3, .int (nI k))]) hx hb d_Mod_isEntryRight_79 rfl hl (by decide) rfl (fun ls hl => ?_)
        refine lv_iinc (v := nI (k + 1)) (lv' := [(3, .int (nI (k + 1))), (2, .int (bI b2)), (0, .ref o), (1, .int (nI (U2 f sz (av + 6) + 1)))]) hx hb d_Mod_isEntryRight_80 hl (k := 3) rfl (by rw [show Int32.ofInt 1 = nI 1 by decide]; exact nI_add _ _) (by decide) rfl (fun ls hl => ?_)
        refine lv_goto (tgt := 47) hx hb d_Mod_isEntryRight_83 (by decide) ?_
        exact ih (k + 1) b2 (by omega) (by rw [g5, okc_s]; have g6 := g4.mp c_53; exact ⟨fun q9 => ⟨g6.1, g6.2, q9⟩, fun q9 => q9.2.2⟩) (by omega) _ _ hP hD hS ls (lv_sub hl [2, 3, 1, 0] rfl)
      refine lv_iload_n hx hb d_Mod_isEntryRight_47 rfl (lv_at hl 3 rfl) ?_
      refine lv_iload_n hx hb d_Mod_isEntryRight_48 rfl (lv_at hl 1 rfl) ?_
      refine lv_icmp_ge (tgt := 86) hx hb d_Mod_isEntryRight_49 (by decide) (fun c_49 => ?_) (fun c_49 => ?_)
      · skip
        have c_49 : (U2 f sz (av + 6) + 1) ≤ k := (nI_leI (a := U2 f sz (av + 6) + 1) (b := k) (by omega) (by omega)).mp c_49
        exact L_86 b k (b_eq g4 (show isNm (nmA f sz av) = true ↔ _ by unfold nmA; rw [isNm_iff, show k = U2 f sz (av + 6) + 1 by omega])) _ _ hP hD hS ls (lv_sub hl [0, 2, 3] rfl)
      · skip
        have c_49 : ¬ (U2 f sz (av + 6) + 1) ≤ k := fun q9 => c_49 ((nI_leI (a := U2 f sz (av + 6) + 1) (b := k) (by omega) (by omega)).mpr q9)
        refine lv_iload_n hx hb d_Mod_isEntryRight_52 rfl (lv_at hl 2 rfl) ?_
        refine lv_if_eq (tgt := 86) hx hb d_Mod_isEntryRight_53 (by decide) (fun c_53 => ?_) (fun c_53 => ?_)
        · skip
          have c_53 := bI_eq.mp c_53
          exact L_86 b k (by rw [c_53]; symm; rw [Bool.eq_false_iff]; intro q9; obtain ⟨q1, q2⟩ := isNm_iff.mp q9; have q3 := g4.mpr ⟨q1, okc_le q2 g3⟩; rw [c_53] at q3; cases q3) _ _ hP hD hS ls (lv_sub hl [0, 2, 3] rfl)
        · skip
          have c_53 := bI_ne.mp c_53
          refine lv_aload_n hx hb d_Mod_isEntryRight_56 rfl (lv_at hl 0 rfl) ?_
          refine lv_iload_n hx hb d_Mod_isEntryRight_57 rfl (lv_at hl 3 rfl) ?_
          refine z_ki (z_runV (np := 1) C (c_Mod_byteHere l g T o ts ta ne ans anm anu asa apl akd nk akn aks akp akk bg sz hd alg ni aip aix aiz aim aod av hv lf sn pv ho f hlg (k) (by omega)) hP hD hS ho (show classes[11]? = some (R_Mod, F_Mod, 29) from rfl) k_948 k_12 k_945 k_947 ks_Mod_byteHere ⟨by decide, by decide, by decide⟩ ⟨Nat.le_of_ble_eq_true rfl, Nat.le_of_ble_eq_true rfl⟩ rfl hl.1 rfl (Nat.le_of_ble_eq_true rfl) d_Mod_isEntryRight_58 ⟨by show _ ≤ 0; omega, by show _ ≤ 0; omega⟩) hS (fun r_58 w H locs hw hP hD hS => ?_)
          obtain ⟨rfl, hw⟩ := hw
          rw [hw] at hP hD
          have bh_107 := u8_lt (f (av + 8 + k))
          refine lv_if_eq (tgt := 78) hx hb d_Mod_isEntryRight_61 (by decide) (fun c_61 => ?_) (fun c_61 => ?_)
          · skip
            have c_61 : ((f (av + 8 + k)).toNat) = 0 := (nI_eq (a := (f (av + 8 + k)).toNat) (b := 0) (by omega) (by decide)).mp c_61
            refine lv_iconst (v := nI 0) hx hb d_Mod_isEntryRight_78 (by decide) ?_
            refine z_topi (y := bI false) rfl ?_
            exact L_79 false (by omega) c_53 ⟨(fun q9 => nomatch q9), fun q9 => absurd q9 (by omega)⟩ _ _ hP hD hS ls (lv_sub hl [0, 1, 3] rfl)
          · skip
            have c_61 : ¬ ((f (av + 8 + k)).toNat) = 0 := fun q9 => c_61 ((nI_eq (a := (f (av + 8 + k)).toNat) (b := 0) (by omega) (by decide)).mpr q9)
            refine lv_aload_n hx hb d_Mod_isEntryRight_64 rfl (lv_at hl 0 rfl) ?_
            refine lv_iload_n hx hb d_Mod_isEntryRight_65 rfl (lv_at hl 3 rfl) ?_
            refine z_ki (z_runV (np := 1) C (c_Mod_byteHere l g T o ts ta ne ans anm anu asa apl akd nk akn aks akp akk bg sz hd alg ni aip aix aiz aim aod av hv lf sn pv ho f hlg (k) (by omega)) hP hD hS ho (show classes[11]? = some (R_Mod, F_Mod, 29) from rfl) k_948 k_12 k_945 k_947 ks_Mod_byteHere ⟨by decide, by decide, by decide⟩ ⟨Nat.le_of_ble_eq_true rfl, Nat.le_of_ble_eq_true rfl⟩ rfl hl.1 rfl (Nat.le_of_ble_eq_true rfl) d_Mod_isEntryRight_66 ⟨by show _ ≤ 0; omega, by show _ ≤ 0; omega⟩) hS (fun r_66 w H locs hw hP hD hS => ?_)
            obtain ⟨rfl, hw⟩ := hw
            rw [hw] at hP hD
            have bh_107 := u8_lt (f (av + 8 + k))
            refine lv_bipush (v := nI 47) hx hb d_Mod_isEntryRight_69 (by decide) ?_
            refine lv_icmp_eq (tgt := 78) hx hb d_Mod_isEntryRight_71 (by decide) (fun c_71 => ?_) (fun c_71 => ?_)
            · skip
              have c_71 : ((f (av + 8 + k)).toNat) = 47 := (nI_eq (a := (f (av + 8 + k)).toNat) (b := 47) (by omega) (by decide)).mp c_71
              refine lv_iconst (v := nI 0) hx hb d_Mod_isEntryRight_78 (by decide) ?_
              refine z_topi (y := bI false) rfl ?_
              exact L_79 false (by omega) c_53 ⟨(fun q9 => nomatch q9), fun q9 => absurd q9 (by omega)⟩ _ _ hP hD hS ls (lv_sub hl [0, 1, 3] rfl)
            · skip
              have c_71 : ¬ ((f (av + 8 + k)).toNat) = 47 := fun q9 => c_71 ((nI_eq (a := (f (av + 8 + k)).toNat) (b := 47) (by omega) (by decide)).mpr q9)
              refine lv_iconst (v := nI 1) hx hb d_Mod_isEntryRight_74 (by decide) ?_
              refine lv_goto (tgt := 79) hx hb d_Mod_isEntryRight_75 (by decide) ?_
              refine z_topi (y := bI true) rfl ?_
              exact L_79 true (by omega) c_53 ⟨fun _ => by omega, fun _ => rfl⟩ _ _ hP hD hS ls (lv_sub hl [0, 1, 3] rfl)
  have L_44 : ∀ (b : Bool) (_ : b = true ↔ nmQ f (av + 8) (U2 f sz (av + 6) + 1)) (H : Heap) (locs : List Loc), va_P g.1 classes (T) H → va_D (zA g) (T) → va_S (zA g) s.heap H locs → ∀ ls : Array Slot, lv_has ls 4 [(0, .ref o), (1, .int (nI (U2 f sz (av + 6) + 1)))] → W p l e (zR 3 62 0 0) s m [.ref o].toArray below meth c H locs 0 0 (MQ below (zQi g (fun r w => r = bI (isNm (nmA f sz av) && knM kn ks kp kk nk ((U4 f sz (hv + 8) : Int) + s16 (U2 f sz (av + 2))) (U4 f sz (hv + 4)) (U2 f sz av) (U2 f sz (av + 4))) ∧ w = T)) [.ref o].toArray s 0 0 (zA g)) (F0 m 44 ls [.int (bI b)]) := by
    intro b g2 H locs hP hD hS ls hl
    refine lv_istore_n (lv' := [(2, .int (bI b)), (0, .ref o), (1, .int (nI (U2 f sz (av + 6) + 1)))]) hx hb d_Mod_isEntryRight_44 rfl hl (by decide) rfl (fun ls hl => ?_)
    refine lv_iconst (v := nI 0) hx hb d_Mod_isEntryRight_45 (by decide) ?_
    refine lv_istore_n (lv' := [(3, .int (nI 0)), (2, .int (bI b)), (0, .ref o), (1, .int (nI (U2 f sz (av + 6) + 1)))]) hx hb d_Mod_isEntryRight_46 rfl hl (by decide) rfl (fun ls hl => ?_)
    exact L_47 _ 0 b (Nat.zero_le _) ⟨fun q9 => ⟨g2.mp q9, okc_0⟩, fun q9 => g2.mpr q9.1⟩ (Nat.lt_succ_self _) _ _ hP hD hS ls (lv_sub hl [2, 3, 1, 0] rfl)
  refine lv_aload_n hx hb d_Mod_isEntryRight_0 rfl (lv_at hl 0 rfl) ?_
  refine z_ki (z_runV (np := 0) C (c_Mod_sizeHere l g T o ts ta ne ans anm anu asa apl akd nk akn aks akp akk bg sz hd alg ni aip aix aiz aim aod av hv lf sn pv ho f hlg (by omega) (by omega)) hP hD hS ho (show classes[11]? = some (R_Mod, F_Mod, 29) from rfl) k_944 k_12 k_941 k_943 ks_Mod_sizeHere ⟨by decide, by decide, by decide⟩ ⟨Nat.le_of_ble_eq_true rfl, Nat.le_of_ble_eq_true rfl⟩ rfl hl.1 rfl (Nat.le_of_ble_eq_true rfl) d_Mod_isEntryRight_1 ⟨by show _ ≤ 0; omega, by show _ ≤ 0; omega⟩) hS (fun r_1 w H locs hw hP hD hS => ?_)
  obtain ⟨rfl, hw⟩ := hw
  rw [hw] at hP hD
  have u9 := U2_lt f sz (av + 6)
  refine lv_istore_n (lv' := [(1, .int (nI (U2 f sz (av + 6) + 1))), (0, .ref o)]) hx hb d_Mod_isEntryRight_4 rfl hl (by decide) rfl (fun ls hl => ?_)
  refine lv_iload_n hx hb d_Mod_isEntryRight_5 rfl (lv_at hl 0 rfl) ?_
  refine lv_sipush (v := nI 256) hx hb d_Mod_isEntryRight_6 (by decide) ?_
  refine lv_icmp_gt (tgt := 43) hx hb d_Mod_isEntryRight_9 (by decide) (fun c_9 => ?_) (fun c_9 => ?_)
  · skip
    have c_9 : 256 < (U2 f sz (av + 6) + 1) := (nI_ltI (a := 256) (b := U2 f sz (av + 6) + 1) (by decide) (by omega)).mp c_9
    refine lv_iconst (v := nI 0) hx hb d_Mod_isEntryRight_43 (by decide) ?_
    refine z_topi (y := bI false) rfl ?_
    exact L_44 false ⟨(fun q9 => nomatch q9), fun q9 => absurd q9 (fun q8 => by have q1 := q8.2.1; have q2 := q8.2.2; omega)⟩ _ _ hP hD hS ls (lv_sub hl [1, 0] rfl)
  · skip
    have c_9 : ¬ 256 < (U2 f sz (av + 6) + 1) := fun q9 => c_9 ((nI_ltI (a := 256) (b := U2 f sz (av + 6) + 1) (by decide) (by omega)).mpr q9)
    refine lv_iload_n hx hb d_Mod_isEntryRight_12 rfl (lv_at hl 0 rfl) ?_
    refine lv_iconst (v := nI 3) hx hb d_Mod_isEntryRight_13 (by decide) ?_
    refine lv_icmp_ge (tgt := 39) hx hb d_Mod_isEntryRight_14 (by decide) (fun c_14 => ?_) (fun c_14 => ?_)
    · skip
      have c_14 : 3 ≤ (U2 f sz (av + 6) + 1) := (nI_leI (a := 3) (b := U2 f sz (av + 6) + 1) (by decide) (by omega)).mp c_14
      refine lv_iconst (v := nI 1) hx hb d_Mod_isEntryRight_39 (by decide) ?_
      refine lv_goto (tgt := 44) hx hb d_Mod_isEntryRight_40 (by decide) ?_
      refine z_topi (y := bI true) rfl ?_
      exact L_44 true ⟨fun _ => ⟨by omega, by omega, by omega⟩, fun _ => rfl⟩ _ _ hP hD hS ls (lv_sub hl [1, 0] rfl)
    · skip
      have c_14 : ¬ 3 ≤ (U2 f sz (av + 6) + 1) := fun q9 => c_14 ((nI_leI (a := 3) (b := U2 f sz (av + 6) + 1) (by decide) (by omega)).mpr q9)
      refine lv_aload_n hx hb d_Mod_isEntryRight_17 rfl (lv_at hl 1 rfl) ?_
      refine lv_iconst (v := nI 0) hx hb d_Mod_isEntryRight_18 (by decide) ?_
      refine z_ki (z_runV (np := 1) C (c_Mod_byteHere l g T o ts ta ne ans anm anu asa apl akd nk akn aks akp akk bg sz hd alg ni aip aix aiz aim aod av hv lf sn pv ho f hlg 0 (by omega)) hP hD hS ho (show classes[11]? = some (R_Mod, F_Mod, 29) from rfl) k_948 k_12 k_945 k_947 ks_Mod_byteHere ⟨by decide, by decide, by decide⟩ ⟨Nat.le_of_ble_eq_true rfl, Nat.le_of_ble_eq_true rfl⟩ rfl hl.1 rfl (Nat.le_of_ble_eq_true rfl) d_Mod_isEntryRight_19 ⟨by show _ ≤ 0; omega, by show _ ≤ 0; omega⟩) hS (fun r_19 w H locs hw hP hD hS => ?_)
      obtain ⟨rfl, hw⟩ := hw
      rw [hw] at hP hD
      have bh_0 := u8_lt (f (av + 8))
      refine lv_bipush (v := nI 46) hx hb d_Mod_isEntryRight_22 (by decide) ?_
      refine lv_icmp_ne (tgt := 39) hx hb d_Mod_isEntryRight_24 (by decide) (fun c_24 => ?_) (fun c_24 => ?_)
      · skip
        have c_24 : ¬ ((f (av + 8)).toNat) = 46 := fun q9 => c_24 ((nI_eq (a := (f (av + 8)).toNat) (b := 46) (by omega) (by decide)).mpr q9)
        refine lv_iconst (v := nI 1) hx hb d_Mod_isEntryRight_39 (by decide) ?_
        refine lv_goto (tgt := 44) hx hb d_Mod_isEntryRight_40 (by decide) ?_
        refine z_topi (y := bI true) rfl ?_
        exact L_44 true ⟨fun _ => ⟨by omega, by omega, by omega⟩, fun _ => rfl⟩ _ _ hP hD hS ls (lv_sub hl [1, 0] rfl)
      · skip
        have c_24 : ((f (av + 8)).toNat) = 46 := (nI_eq (a := (f (av + 8)).toNat) (b := 46) (by omega) (by decide)).mp c_24
        refine lv_aload_n hx hb d_Mod_isEntryRight_27 rfl (lv_at hl 1 rfl) ?_
        refine lv_iload_n hx hb d_Mod_isEntryRight_28 rfl (lv_at hl 0 rfl) ?_
        refine lv_iconst (v := nI 1) hx hb d_Mod_isEntryRight_29 (by decide) ?_
        refine z_isub (v := nI (U2 f sz (av + 6) + 1 - 1)) C d_Mod_isEntryRight_30 (pk_sub (by omega)) ?_
        refine z_ki (z_runV (np := 1) C (c_Mod_byteHere l g T o ts ta ne ans anm anu asa apl akd nk akn aks akp akk bg sz hd alg ni aip aix aiz aim aod av hv lf sn pv ho f hlg (U2 f sz (av + 6) + 1 - 1) (by omega)) hP hD hS ho (show classes[11]? = some (R_Mod, F_Mod, 29) from rfl) k_948 k_12 k_945 k_947 ks_Mod_byteHere ⟨by decide, by decide, by decide⟩ ⟨Nat.le_of_ble_eq_true rfl, Nat.le_of_ble_eq_true rfl⟩ rfl hl.1 rfl (Nat.le_of_ble_eq_true rfl) d_Mod_isEntryRight_31 ⟨by show _ ≤ 0; omega, by show _ ≤ 0; omega⟩) hS (fun r_31 w H locs hw hP hD hS => ?_)
        obtain ⟨rfl, hw⟩ := hw
        rw [hw] at hP hD
        have bh_341 := u8_lt (f (av + 8 + (U2 f sz (av + 6) + 1 - 1)))
        refine lv_bipush (v := nI 46) hx hb d_Mod_isEntryRight_34 (by decide) ?_
        refine lv_icmp_eq (tgt := 43) hx hb d_Mod_isEntryRight_36 (by decide) (fun c_36 => ?_) (fun c_36 => ?_)
        · skip
          have c_36 : ((f (av + 8 + (U2 f sz (av + 6) + 1 - 1))).toNat) = 46 := (nI_eq (a := (f (av + 8 + (U2 f sz (av + 6) + 1 - 1))).toNat) (b := 46) (by omega) (by decide)).mp c_36
          refine lv_iconst (v := nI 0) hx hb d_Mod_isEntryRight_43 (by decide) ?_
          refine z_topi (y := bI false) rfl ?_
          exact L_44 false ⟨(fun q9 => nomatch q9), fun q9 => absurd q9 (fun q8 => by have q1 := q8.2.1; have q2 := q8.2.2; omega)⟩ _ _ hP hD hS ls (lv_sub hl [1, 0] rfl)
        · skip
          have c_36 : ¬ ((f (av + 8 + (U2 f sz (av + 6) + 1 - 1))).toNat) = 46 := fun q9 => c_36 ((nI_eq (a := (f (av + 8 + (U2 f sz (av + 6) + 1 - 1))).toNat) (b := 46) (by omega) (by decide)).mpr q9)
          refine lv_iconst (v := nI 1) hx hb d_Mod_isEntryRight_39 (by decide) ?_
          refine lv_goto (tgt := 44) hx hb d_Mod_isEntryRight_40 (by decide) ?_
          refine z_topi (y := bI true) rfl ?_
          exact L_44 true ⟨fun _ => ⟨by omega, by omega, by omega⟩, fun _ => rfl⟩ _ _ hP hD hS ls (lv_sub hl [1, 0] rfl)
set_option maxHeartbeats 4000000 in
set_option maxRecDepth 100000 in
theorem c_Mod_isIndexHere (l : Launch) (g : zT) (T : va_W) (o ts ta ne ans anm anu asa apl akd nk akn aks akp akk bg sz hd alg ni aip aix aiz aim aod av hv lf sn pv : Nat) (ho : (o, zo 11 [.int (nI ts), .ref ta, .int (nI ne), .ref ans, .ref anm, .ref anu, .ref asa, .ref apl, .ref akd, .int (nI nk), .ref akn, .ref aks, .ref akp, .ref akk, .int (nI bg), .int (nI sz), .int (nI hd), .ref alg, .int (nI ni), .ref aip, .ref aix, .ref aiz, .ref aim, .ref aod, .int (nI av), .int (nI hv), .int (nI lf), .int (nI sn), .int (nI pv)]) ∈ T) (f : Nat → UInt8) (hlg : (alg, zBy g 65536 f) ∈ T) (ipl ist : Nat → Int32) (isz : Nat → Nat) (inm : Nat → UInt8) (hip : (aip, zIn g 16 ipl) ∈ T) (hix : (aix, zIn g 16 ist) ∈ T) (hiz : (aiz, zIn g 16 (nN isz)) ∈ T) (him : (aim, zIn g 4096 (nB inm)) ∈ T) (i0 : Nat) (v4 : i0 < 16) (v5 : isz i0 ≤ 256) (v6 : bg ≤ 40000) (v7 : hv ≤ 65536) (v1 : av + 9 + U2 f sz (av + 6) ≤ sz) (v2 : sz ≤ 65536)  : Met l y_Mod_isIndexHere (zw y_Mod_isIndexHere b_Mod_isIndexHere 4 (some .boolean)) (zR 2 41 0 0) (zP g [.ref o, .int (nI i0)] (T)) (zQi g (fun r w => r = bI (ixP f sz bg (mdM ipl ist isz inm) i0 hv av) ∧ w = T)) 0 0 (zA g) := by
  refine zMet (by decide) (Nat.le_of_ble_eq_true rfl) ?_
  intro p e s m below meth c ls C hr hlk hnm hP hD hl
  have hx := C.1.1
  have hb := C.1.2.1
  have hS : va_S (zA g) s.heap s.heap [] := va_S.rf
  have hl : lv_has ls 4 [(0, .ref o), (1, .int (nI i0))] := hl
  have L_60 : ∀ (nu : Nat) (k : Nat) (b : Bool) (_ : k ≤ (U2 f sz (av + 6) + 1)) (_ : b = true ↔ (ipl i0 = nI hv ∧ ist i0 = nI (8194 * ((bg + hv) / 8192)) ∧ isz i0 = U2 f sz (av + 6) + 1) ∧ ∀ j, j < k → inm (256 * i0 + j) = f (av + 8 + j)) (_ : (U2 f sz (av + 6) + 1) - k < nu) (H : Heap) (locs : List Loc), va_P g.1 classes (T) H → va_D (zA g) (T) → va_S (zA g) s.heap H locs → ∀ ls : Array Slot, lv_has ls 4 [(0, .ref o), (1, .int (nI i0)), (2, .int (bI b)), (3, .int (nI k))] → W p l e (zR 2 41 0 0) s m [.ref o, .int (nI i0)].toArray below meth c H locs 0 0 (MQ below (zQi g (fun r w => r = bI (ixP f sz bg (mdM ipl ist isz inm) i0 hv av) ∧ w = T)) [.ref o, .int (nI i0)].toArray s 0 0 (zA g)) (F0 m 60 ls []) := by
    intro nu
    induction nu with
    | zero => intros; omega
    | succ nu ih =>
      intro k b g3 g4 hmu H locs hP hD hS ls hl
      have L_97 : ∀ (b2 : Bool) (_ : k < (U2 f sz (av + 6) + 1)) (_ : b = true) (_ : b2 = true ↔ (inm (256 * i0 + k)).toNat = (f (av + 8 + k)).toNat) (H : Heap) (locs : List Loc), va_P g.1 classes (T) H → va_D (zA g) (T) → va_S (zA g) s.heap H locs → ∀ ls : Array Slot, lv_has ls 4 [(0, .ref o), (1, .int (nI i0)), (3, .int (nI k))] → W p l e (zR 2 41 0 0) s m [.ref o, .int (nI i0)].toArray below meth c H locs 0 0 (MQ below (zQi g (fun r w => r = bI (ixP f sz bg (mdM ipl ist isz inm) i0 hv av) ∧ w = T)) [.ref o, .int (nI i0)].toArray s 0 0 (zA g)) (F0 m 97 ls [.int (bI b2)]) := by
        intro b2 g7 c_69 g5 H locs hP hD hS ls hl
        refine lv_istore_n (lv' := [(2, .int (bI b2)), (0, .ref o), (1, .int (nI i0)), (3, .int (nI k))]) hx hb d_Mod_isIndexHere_97 rfl hl (by decide) rfl (fun ls hl => ?_)
        refine lv_iinc (v := nI (k + 1)) (lv' := [(3, .int (nI (k + 1))), (2, .int (bI b2)), (0, .ref o), (1, .int (nI i0))]) hx hb d_Mod_isIndexHere_98 hl (k := 3) rfl (by rw [show Int32.ofInt 1 = nI 1 by decide]; exact nI_add _ _) (by decide) rfl (fun ls hl => ?_)
        refine lv_goto (tgt := 60) hx hb d_Mod_isIndexHere_101 (by decide) ?_
        exact ih (k + 1) b2 (by omega) (by rw [g5]; have g6 := g4.mp c_69; exact ⟨fun q9 => ⟨g6.1, fun j hj => by rcases Nat.lt_succ_iff_lt_or_eq.mp hj with z | z; exact g6.2 j z; rw [z]; exact u8_eq.mpr q9⟩, fun q9 => u8_eq.mp (q9.2 k (by omega))⟩) (by omega) _ _ hP hD hS ls (lv_sub hl [2, 3, 1, 0] rfl)
      refine lv_iload_n hx hb d_Mod_isIndexHere_60 rfl (lv_at hl 3 rfl) ?_
      refine lv_aload_n hx hb d_Mod_isIndexHere_61 rfl (lv_at hl 0 rfl) ?_
      refine z_ki (z_runV (np := 0) C (c_Mod_sizeHere l g T o ts ta ne ans anm anu asa apl akd nk akn aks akp akk bg sz hd alg ni aip aix aiz aim aod av hv lf sn pv ho f hlg (by omega) (by omega)) hP hD hS ho (show classes[11]? = some (R_Mod, F_Mod, 29) from rfl) k_944 k_12 k_941 k_943 ks_Mod_sizeHere ⟨by decide, by decide, by decide⟩ ⟨Nat.le_of_ble_eq_true rfl, Nat.le_of_ble_eq_true rfl⟩ rfl hl.1 rfl (Nat.le_of_ble_eq_true rfl) d_Mod_isIndexHere_62 ⟨by show _ ≤ 0; omega, by show _ ≤ 0; omega⟩) hS (fun r_62 w H locs hw hP hD hS => ?_)
      obtain ⟨rfl, hw⟩ := hw
      rw [hw] at hP hD
      have u9 := U2_lt f sz (av + 6)
      refine lv_icmp_ge (tgt := 104) hx hb d_Mod_isIndexHere_65 (by decide) (fun c_65 => ?_) (fun c_65 => ?_)
      · skip
        have c_65 : (U2 f sz (av + 6) + 1) ≤ k := (nI_leI (a := U2 f sz (av + 6) + 1) (b := k) (by omega) (by omega)).mp c_65
        refine lv_iload_n hx hb d_Mod_isIndexHere_104 rfl (lv_at hl 2 rfl) ?_
        exact z_zret C hr hlk hP hD hS (by omega) (by omega) (bI_or b) ⟨by rw [b_eq g4 (show ixP f sz bg (mdM ipl ist isz inm) i0 hv av = true ↔ _ by
                      unfold ixP nmA mdM
                      rw [decide_eq_true_iff]
                      show _ ∧ _ ∧ zl f (av + 8) (U2 f sz (av + 6) + 1) = zl inm (256 * i0) (isz i0) ↔ _
                      rw [zl_ext]
                      exact ⟨fun q9 => ⟨⟨q9.1, q9.2.1, q9.2.2.1.symm⟩, fun j hj => (q9.2.2.2 j (by omega)).symm⟩, fun q9 => ⟨q9.1.1, q9.1.2.1, q9.1.2.2.symm, fun j hj => (q9.2 j (by omega)).symm⟩⟩)], rfl⟩ d_Mod_isIndexHere_105
      · skip
        have c_65 : ¬ (U2 f sz (av + 6) + 1) ≤ k := fun q9 => c_65 ((nI_leI (a := U2 f sz (av + 6) + 1) (b := k) (by omega) (by omega)).mpr q9)
        refine lv_iload_n hx hb d_Mod_isIndexHere_68 rfl (lv_at hl 2 rfl) ?_
        refine lv_if_eq (tgt := 104) hx hb d_Mod_isIndexHere_69 (by decide) (fun c_69 => ?_) (fun c_69 => ?_)
        · skip
          have c_69 := bI_eq.mp c_69
          refine lv_iload_n hx hb d_Mod_isIndexHere_104 rfl (lv_at hl 2 rfl) ?_
          exact z_zret C hr hlk hP hD hS (by omega) (by omega) (bI_or b) ⟨by rw [c_69, show ixP f sz bg (mdM ipl ist isz inm) i0 hv av = false by
                        rw [Bool.eq_false_iff]
                        intro q9
                        unfold ixP nmA mdM at q9
                        have q9 := of_decide_eq_true q9
                        have q8 : zl f (av + 8) (U2 f sz (av + 6) + 1) = zl inm (256 * i0) (isz i0) := q9.2.2
                        rw [zl_ext] at q8
                        have q7 := g4.mpr ⟨⟨q9.1, q9.2.1, q8.1.symm⟩, fun j hj => (q8.2 j (by omega)).symm⟩
                        rw [c_69] at q7
                        cases q7], rfl⟩ d_Mod_isIndexHere_105
        · skip
          have c_69 := bI_ne.mp c_69
          refine lv_aload_n hx hb d_Mod_isIndexHere_72 rfl (lv_at hl 0 rfl) ?_
          refine z_get C hP ho q_Mod 22 (by decide) k_750 (fun _ h9 => h9) rfl d_Mod_isIndexHere_73 ?_
          refine lv_sipush (v := nI 256) hx hb d_Mod_isIndexHere_76 (by decide) ?_
          refine lv_iload_n hx hb d_Mod_isIndexHere_79 rfl (lv_at hl 1 rfl) ?_
          refine z_imul (v := nI (256 * i0)) C d_Mod_isIndexHere_80 (pk_mul _ _) ?_
          refine lv_iload_n hx hb d_Mod_isIndexHere_81 rfl (lv_at hl 3 rfl) ?_
          refine z_iadd (v := nI ((256 * i0) + k)) C d_Mod_isIndexHere_82 (nI_add _ _) ?_
          have q6 := (g4.mp c_69).1.2.2
          refine z_iald C hP him ((256 * i0) + k) (by omega) (by omega) d_Mod_isIndexHere_83 ?_
          refine z_topi (y := nI ((inm ((256 * i0) + k)).toNat)) rfl ?_
          refine lv_aload_n hx hb d_Mod_isIndexHere_84 rfl (lv_at hl 0 rfl) ?_
          refine lv_iload_n hx hb d_Mod_isIndexHere_85 rfl (lv_at hl 3 rfl) ?_
          refine z_ki (z_runV (np := 1) C (c_Mod_byteHere l g T o ts ta ne ans anm anu asa apl akd nk akn aks akp akk bg sz hd alg ni aip aix aiz aim aod av hv lf sn pv ho f hlg (k) (by omega)) hP hD hS ho (show classes[11]? = some (R_Mod, F_Mod, 29) from rfl) k_948 k_12 k_945 k_947 ks_Mod_byteHere ⟨by decide, by decide, by decide⟩ ⟨Nat.le_of_ble_eq_true rfl, Nat.le_of_ble_eq_true rfl⟩ rfl hl.1 rfl (Nat.le_of_ble_eq_true rfl) d_Mod_isIndexHere_86 ⟨by show _ ≤ 0; omega, by show _ ≤ 0; omega⟩) hS (fun r_86 w H locs hw hP hD hS => ?_)
          obtain ⟨rfl, hw⟩ := hw
          rw [hw] at hP hD
          have bh_107 := u8_lt (f (av + 8 + k))
          have b0 := u8_lt (inm (256 * i0 + k))
          refine lv_icmp_ne (tgt := 96) hx hb d_Mod_isIndexHere_89 (by decide) (fun c_89 => ?_) (fun c_89 => ?_)
          · skip
            have c_89 : ¬ ((inm ((256 * i0) + k)).toNat) = ((f (av + 8 + k)).toNat) := fun q9 => c_89 ((nI_eq (a := (inm ((256 * i0) + k)).toNat) (b := (f (av + 8 + k)).toNat) (by omega) (by omega)).mpr q9)
            refine lv_iconst (v := nI 0) hx hb d_Mod_isIndexHere_96 (by decide) ?_
            refine z_topi (y := bI false) rfl ?_
            exact L_97 false (by omega) c_69 ⟨(fun q9 => nomatch q9), fun q9 => absurd q9 (by omega)⟩ _ _ hP hD hS ls (lv_sub hl [0, 1, 3] rfl)
          · skip
            have c_89 : ((inm ((256 * i0) + k)).toNat) = ((f (av + 8 + k)).toNat) := (nI_eq (a := (inm ((256 * i0) + k)).toNat) (b := (f (av + 8 + k)).toNat) (by omega) (by omega)).mp c_89
            refine lv_iconst (v := nI 1) hx hb d_Mod_isIndexHere_92 (by decide) ?_
            refine lv_goto (tgt := 97) hx hb d_Mod_isIndexHere_93 (by decide) ?_
            refine z_topi (y := bI true) rfl ?_
            exact L_97 true (by omega) c_69 ⟨fun _ => by omega, fun _ => rfl⟩ _ _ hP hD hS ls (lv_sub hl [0, 1, 3] rfl)
  have L_57 : ∀ (b : Bool) (_ : b = true ↔ (ipl i0 = nI hv ∧ ist i0 = nI (8194 * ((bg + hv) / 8192)) ∧ isz i0 = U2 f sz (av + 6) + 1)) (H : Heap) (locs : List Loc), va_P g.1 classes (T) H → va_D (zA g) (T) → va_S (zA g) s.heap H locs → ∀ ls : Array Slot, lv_has ls 4 [(0, .ref o), (1, .int (nI i0))] → W p l e (zR 2 41 0 0) s m [.ref o, .int (nI i0)].toArray below meth c H locs 0 0 (MQ below (zQi g (fun r w => r = bI (ixP f sz bg (mdM ipl ist isz inm) i0 hv av) ∧ w = T)) [.ref o, .int (nI i0)].toArray s 0 0 (zA g)) (F0 m 57 ls [.int (bI b)]) := by
    intro b g2 H locs hP hD hS ls hl
    refine lv_istore_n (lv' := [(2, .int (bI b)), (0, .ref o), (1, .int (nI i0))]) hx hb d_Mod_isIndexHere_57 rfl hl (by decide) rfl (fun ls hl => ?_)
    refine lv_iconst (v := nI 0) hx hb d_Mod_isIndexHere_58 (by decide) ?_
    refine lv_istore_n (lv' := [(3, .int (nI 0)), (2, .int (bI b)), (0, .ref o), (1, .int (nI i0))]) hx hb d_Mod_isIndexHere_59 rfl hl (by decide) rfl (fun ls hl => ?_)
    exact L_60 _ 0 b (Nat.zero_le _) ⟨fun q9 => ⟨g2.mp q9, fun j hj => absurd hj (Nat.not_lt_zero _)⟩, fun q9 => g2.mpr q9.1⟩ (Nat.lt_succ_self _) _ _ hP hD hS ls (lv_sub hl [2, 3, 1, 0] rfl)
  refine lv_aload_n hx hb d_Mod_isIndexHere_0 rfl (lv_at hl 0 rfl) ?_
  refine z_get C hP ho q_Mod 19 (by decide) k_747 (fun _ h9 => h9) rfl d_Mod_isIndexHere_1 ?_
  refine lv_iload_n hx hb d_Mod_isIndexHere_4 rfl (lv_at hl 1 rfl) ?_
  refine z_iald C hP hip i0 (by omega) (by omega) d_Mod_isIndexHere_5 ?_
  refine lv_aload_n hx hb d_Mod_isIndexHere_6 rfl (lv_at hl 0 rfl) ?_
  refine z_get C hP ho q_Mod 25 (by decide) k_753 (fun _ h9 => h9) rfl d_Mod_isIndexHere_7 ?_
  refine lv_icmp_ne (tgt := 56) hx hb d_Mod_isIndexHere_10 (by decide) (fun c_10 => ?_) (fun c_10 => ?_)
  · skip
    refine lv_iconst (v := nI 0) hx hb d_Mod_isIndexHere_56 (by decide) ?_
    refine z_topi (y := bI false) rfl ?_
    exact L_57 false ⟨(fun q9 => nomatch q9), fun q9 => absurd q9.1 c_10⟩ _ _ hP hD hS ls (lv_sub hl [0, 1] rfl)
  · skip
    refine lv_aload_n hx hb d_Mod_isIndexHere_13 rfl (lv_at hl 0 rfl) ?_
    refine z_get C hP ho q_Mod 20 (by decide) k_748 (fun _ h9 => h9) rfl d_Mod_isIndexHere_14 ?_
    refine lv_iload_n hx hb d_Mod_isIndexHere_17 rfl (lv_at hl 1 rfl) ?_
    refine z_iald C hP hix i0 (by omega) (by omega) d_Mod_isIndexHere_18 ?_
    refine lv_sipush (v := nI 8194) hx hb d_Mod_isIndexHere_19 (by decide) ?_
    refine lv_aload_n hx hb d_Mod_isIndexHere_22 rfl (lv_at hl 0 rfl) ?_
    refine z_get C hP ho q_Mod 14 (by decide) k_742 (fun _ h9 => h9) rfl d_Mod_isIndexHere_23 ?_
    refine lv_aload_n hx hb d_Mod_isIndexHere_26 rfl (lv_at hl 0 rfl) ?_
    refine z_get C hP ho q_Mod 25 (by decide) k_753 (fun _ h9 => h9) rfl d_Mod_isIndexHere_27 ?_
    refine z_iadd (v := nI (bg + hv)) C d_Mod_isIndexHere_30 (nI_add _ _) ?_
    refine lv_sipush (v := nI 8192) hx hb d_Mod_isIndexHere_31 (by decide) ?_
    refine z_idiv (v := nI ((bg + hv) / 8192)) C d_Mod_isIndexHere_34 (by decide) (pk_div (by omega) (by decide) (by decide)) ?_
    refine z_imul (v := nI (8194 * ((bg + hv) / 8192))) C d_Mod_isIndexHere_35 (pk_mul _ _) ?_
    refine lv_icmp_ne (tgt := 56) hx hb d_Mod_isIndexHere_36 (by decide) (fun c_36 => ?_) (fun c_36 => ?_)
    · skip
      refine lv_iconst (v := nI 0) hx hb d_Mod_isIndexHere_56 (by decide) ?_
      refine z_topi (y := bI false) rfl ?_
      exact L_57 false ⟨(fun q9 => nomatch q9), fun q9 => absurd q9.2.1 c_36⟩ _ _ hP hD hS ls (lv_sub hl [0, 1] rfl)
    · skip
      refine lv_aload_n hx hb d_Mod_isIndexHere_39 rfl (lv_at hl 0 rfl) ?_
      refine z_get C hP ho q_Mod 21 (by decide) k_749 (fun _ h9 => h9) rfl d_Mod_isIndexHere_40 ?_
      refine lv_iload_n hx hb d_Mod_isIndexHere_43 rfl (lv_at hl 1 rfl) ?_
      refine z_iald C hP hiz i0 (by omega) (by omega) d_Mod_isIndexHere_44 ?_
      refine z_topi (y := nI (isz i0)) rfl ?_
      refine lv_aload_n hx hb d_Mod_isIndexHere_45 rfl (lv_at hl 0 rfl) ?_
      refine z_ki (z_runV (np := 0) C (c_Mod_sizeHere l g T o ts ta ne ans anm anu asa apl akd nk akn aks akp akk bg sz hd alg ni aip aix aiz aim aod av hv lf sn pv ho f hlg (by omega) (by omega)) hP hD hS ho (show classes[11]? = some (R_Mod, F_Mod, 29) from rfl) k_944 k_12 k_941 k_943 ks_Mod_sizeHere ⟨by decide, by decide, by decide⟩ ⟨Nat.le_of_ble_eq_true rfl, Nat.le_of_ble_eq_true rfl⟩ rfl hl.1 rfl (Nat.le_of_ble_eq_true rfl) d_Mod_isIndexHere_46 ⟨by show _ ≤ 0; omega, by show _ ≤ 0; omega⟩) hS (fun r_46 w H locs hw hP hD hS => ?_)
      obtain ⟨rfl, hw⟩ := hw
      rw [hw] at hP hD
      have u9 := U2_lt f sz (av + 6)
      refine lv_icmp_ne (tgt := 56) hx hb d_Mod_isIndexHere_49 (by decide) (fun c_49 => ?_) (fun c_49 => ?_)
      · skip
        have c_49 : ¬ (isz i0) = (U2 f sz (av + 6) + 1) := fun q9 => c_49 ((nI_eq (a := isz i0) (b := U2 f sz (av + 6) + 1) (by omega) (by omega)).mpr q9)
        refine lv_iconst (v := nI 0) hx hb d_Mod_isIndexHere_56 (by decide) ?_
        refine z_topi (y := bI false) rfl ?_
        exact L_57 false ⟨(fun q9 => nomatch q9), fun q9 => absurd q9.2.2 c_49⟩ _ _ hP hD hS ls (lv_sub hl [0, 1] rfl)
      · skip
        have c_49 : (isz i0) = (U2 f sz (av + 6) + 1) := (nI_eq (a := isz i0) (b := U2 f sz (av + 6) + 1) (by omega) (by omega)).mp c_49
        refine lv_iconst (v := nI 1) hx hb d_Mod_isIndexHere_52 (by decide) ?_
        refine lv_goto (tgt := 57) hx hb d_Mod_isIndexHere_53 (by decide) ?_
        refine z_topi (y := bI true) rfl ?_
        exact L_57 true ⟨fun _ => ⟨c_10, c_36, c_49⟩, fun _ => rfl⟩ _ _ hP hD hS ls (lv_sub hl [0, 1] rfl)
