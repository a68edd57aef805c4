set_option maxHeartbeats 4000000 in
set_option maxRecDepth 100000 in
theorem c_Mod_use (l : Launch) (g : zT) (T : va_W) (o ts ta ne ans anm anu asa apl akd nk akn aks akp akk bg sz hd alg ni aip aix aiz aim aod av hv lf sn pv : Nat)  : Met l y_Mod_use (zw y_Mod_use b_Mod_use 2 (some .int)) (zR 0 0 0 0) (zP g [.ref o] ((o, zo 11 [.int (nI ts), .ref ta, .int (nI ne), .ref ans, .ref anm, .ref anu, .ref asa, .ref apl, .ref akd, .int (nI nk), .ref akn, .ref aks, .ref akp, .ref akk, .int (nI bg), .int (nI sz), .int (nI hd), .ref alg, .int (nI ni), .ref aip, .ref aix, .ref aiz, .ref aim, .ref aod, .int (nI av), .int (nI hv), .int (nI lf), .int (nI sn), .int (nI pv)]) :: T)) (zQi g (fun r w => r = nI ts ∧ w = (o, zo 11 [.int (nI 0), .ref ta, .int (nI ne), .ref ans, .ref anm, .ref anu, .ref asa, .ref apl, .ref akd, .int (nI nk), .ref akn, .ref aks, .ref akp, .ref akk, .int (nI bg), .int (nI sz), .int (nI hd), .ref alg, .int (nI ni), .ref aip, .ref aix, .ref aiz, .ref aim, .ref aod, .int (nI av), .int (nI hv), .int (nI lf), .int (nI sn), .int (nI pv)]) :: T)) 0 0 (zA g) := by
  refine zMet (by decide) (Nat.le_of_ble_eq_true rfl) ?_
  intro p e s m below meth c ls C hr hlk hnm hP hD hl
  have hx := C.1.1
  have hb := C.1.2.1
  have hS : va_S (zA g) s.heap s.heap [] := va_S.rf
  have hl : lv_has ls 2 [(0, .ref o)] := hl
  refine lv_aload_n hx hb d_Mod_use_0 rfl (lv_at hl 0 rfl) ?_
  refine z_get C hP List.mem_cons_self q_Mod 0 (by decide) k_728 (fun _ h9 => h9) rfl d_Mod_use_1 ?_
  refine lv_istore_n (lv' := [(1, .int (nI ts)), (0, .ref o)]) hx hb d_Mod_use_4 rfl hl (by decide) rfl (fun ls hl => ?_)
  refine lv_aload_n hx hb d_Mod_use_5 rfl (lv_at hl 1 rfl) ?_
  refine lv_iconst (v := nI 0) hx hb d_Mod_use_6 (by decide) ?_
  refine z_put C hP hD hS 0 rfl q_Mod 0 (by decide) k_728 (fun _ h9 => h9) rfl rfl rfl (Nat.le_of_ble_eq_true rfl) d_Mod_use_7 (ws' := (o, zo 11 [.int (nI 0), .ref ta, .int (nI ne), .ref ans, .ref anm, .ref anu, .ref asa, .ref apl, .ref akd, .int (nI nk), .ref akn, .ref aks, .ref akp, .ref akk, .int (nI bg), .int (nI sz), .int (nI hd), .ref alg, .int (nI ni), .ref aip, .ref aix, .ref aiz, .ref aim, .ref aod, .int (nI av), .int (nI hv), .int (nI lf), .int (nI sn), .int (nI pv)]) :: T) rfl (fun H locs hP hD hS => ?_)
  refine lv_iload_n hx hb d_Mod_use_10 rfl (lv_at hl 0 rfl) ?_
  exact z_iret C hr hlk hP hD hS (by omega) (by omega) ⟨rfl, rfl⟩ d_Mod_use_11
set_option maxHeartbeats 4000000 in
set_option maxRecDepth 100000 in
theorem c_Mod_clear (l : Launch) (g : zT) (T : va_W) (o ts ta ne ans anm anu asa apl akd nk akn aks akp akk bg sz hd alg ni aip aix aiz aim aod av hv lf sn pv : Nat)  : Met l y_Mod_clear (zw y_Mod_clear b_Mod_clear 2 (some .int)) (zR 0 0 0 0) (zP g [.ref o] ((o, zo 11 [.int (nI ts), .ref ta, .int (nI ne), .ref ans, .ref anm, .ref anu, .ref asa, .ref apl, .ref akd, .int (nI nk), .ref akn, .ref aks, .ref akp, .ref akk, .int (nI bg), .int (nI sz), .int (nI hd), .ref alg, .int (nI ni), .ref aip, .ref aix, .ref aiz, .ref aim, .ref aod, .int (nI av), .int (nI hv), .int (nI lf), .int (nI sn), .int (nI pv)]) :: T)) (zQi g (fun r w => r = nI ne ∧ w = (o, zo 11 [.int (nI ts), .ref ta, .int (nI 0), .ref ans, .ref anm, .ref anu, .ref asa, .ref apl, .ref akd, .int (nI nk), .ref akn, .ref aks, .ref akp, .ref akk, .int (nI bg), .int (nI sz), .int (nI hd), .ref alg, .int (nI ni), .ref aip, .ref aix, .ref aiz, .ref aim, .ref aod, .int (nI av), .int (nI hv), .int (nI lf), .int (nI sn), .int (nI pv)]) :: T)) 0 0 (zA g) := by
  refine zMet (by decide) (Nat.le_of_ble_eq_true rfl) ?_
  intro p e s m below meth c ls C hr hlk hnm hP hD hl
  have hx := C.1.1
  have hb := C.1.2.1
  have hS : va_S (zA g) s.heap s.heap [] := va_S.rf
  have hl : lv_has ls 2 [(0, .ref o)] := hl
  refine lv_aload_n hx hb d_Mod_clear_0 rfl (lv_at hl 0 rfl) ?_
  refine z_get C hP List.mem_cons_self q_Mod 2 (by decide) k_730 (fun _ h9 => h9) rfl d_Mod_clear_1 ?_
  refine lv_istore_n (lv' := [(1, .int (nI ne)), (0, .ref o)]) hx hb d_Mod_clear_4 rfl hl (by decide) rfl (fun ls hl => ?_)
  refine lv_aload_n hx hb d_Mod_clear_5 rfl (lv_at hl 1 rfl) ?_
  refine lv_iconst (v := nI 0) hx hb d_Mod_clear_6 (by decide) ?_
  refine z_put C hP hD hS 0 rfl q_Mod 2 (by decide) k_730 (fun _ h9 => h9) rfl rfl rfl (Nat.le_of_ble_eq_true rfl) d_Mod_clear_7 (ws' := (o, zo 11 [.int (nI ts), .ref ta, .int (nI 0), .ref ans, .ref anm, .ref anu, .ref asa, .ref apl, .ref akd, .int (nI nk), .ref akn, .ref aks, .ref akp, .ref akk, .int (nI bg), .int (nI sz), .int (nI hd), .ref alg, .int (nI ni), .ref aip, .ref aix, .ref aiz, .ref aim, .ref aod, .int (nI av), .int (nI hv), .int (nI lf), .int (nI sn), .int (nI pv)]) :: T) rfl (fun H locs hP hD hS => ?_)
  refine lv_iload_n hx hb d_Mod_clear_10 rfl (lv_at hl 0 rfl) ?_
  exact z_iret C hr hlk hP hD hS (by omega) (by omega) ⟨rfl, rfl⟩ d_Mod_clear_11
set_option maxHeartbeats 4000000 in
set_option maxRecDepth 100000 in
theorem c_Mod_passed (l : Launch) (g : zT) (T : va_W) (o ts ta ne ans anm anu asa apl akd nk akn aks akp akk bg sz hd alg ni aip aix aiz aim aod av hv lf sn pv : Nat) (ho : (o, zo 11 [.int (nI ts), .ref ta, .int (nI ne), .ref ans, .ref anm, .ref anu, .ref asa, .ref apl, .ref akd, .int (nI nk), .ref akn, .ref aks, .ref akp, .ref akk, .int (nI bg), .int (nI sz), .int (nI hd), .ref alg, .int (nI ni), .ref aip, .ref aix, .ref aiz, .ref aim, .ref aod, .int (nI av), .int (nI hv), .int (nI lf), .int (nI sn), .int (nI pv)]) ∈ T)  : Met l y_Mod_passed (zw y_Mod_passed b_Mod_passed 1 (some .int)) (zR 0 0 0 0) (zP g [.ref o] (T)) (zQi g (fun r w => r = nI pv ∧ w = T)) 0 0 (zA g) := by
  refine zMet (by decide) (Nat.le_of_ble_eq_true rfl) ?_
  intro p e s m below meth c ls C hr hlk hnm hP hD hl
  have hx := C.1.1
  have hb := C.1.2.1
  have hS : va_S (zA g) s.heap s.heap [] := va_S.rf
  have hl : lv_has ls 1 [(0, .ref o)] := hl
  refine lv_aload_n hx hb d_Mod_passed_0 rfl (lv_at hl 0 rfl) ?_
  refine z_get C hP ho q_Mod 28 (by decide) k_756 (fun _ h9 => h9) rfl d_Mod_passed_1 ?_
  exact z_iret C hr hlk hP hD hS (by omega) (by omega) ⟨rfl, rfl⟩ d_Mod_passed_4
set_option maxHeartbeats 4000000 in
set_option maxRecDepth 100000 in
theorem c_Mod_size (l : Launch) (g : zT) (T : va_W) (o ts ta ne ans anm anu asa apl akd nk akn aks akp akk bg sz hd alg ni aip aix aiz aim aod av hv lf sn pv : Nat) (ho : (o, zo 11 [.int (nI ts), .ref ta, .int (nI ne), .ref ans, .ref anm, .ref anu, .ref asa, .ref apl, .ref akd, .int (nI nk), .ref akn, .ref aks, .ref akp, .ref akk, .int (nI bg), .int (nI sz), .int (nI hd), .ref alg, .int (nI ni), .ref aip, .ref aix, .ref aiz, .ref aim, .ref aod, .int (nI av), .int (nI hv), .int (nI lf), .int (nI sn), .int (nI pv)]) ∈ T) (a : Int32) : Met l y_Mod_size (zw y_Mod_size b_Mod_size 2 (some .int)) (zR 0 0 0 0) (zP g [.ref o, .int a] (T)) (zQi g (fun r w => r = (if a = nI 0 then nI sz else if a = nI 1 then nI hd else if a = nI 2 then nI ni else if a = nI 3 then nI bg else iI (-1)) ∧ w = T)) 0 0 (zA g) := by
  refine zMet (by decide) (Nat.le_of_ble_eq_true rfl) ?_
  intro p e s m below meth c ls C hr hlk hnm hP hD hl
  have hx := C.1.1
  have hb := C.1.2.1
  have hS : va_S (zA g) s.heap s.heap [] := va_S.rf
  have hl : lv_has ls 2 [(0, .ref o), (1, .int a)] := hl
  refine lv_iload_n hx hb d_Mod_size_0 rfl (lv_at hl 1 rfl) ?_
  refine lv_if_ne (tgt := 11) hx hb d_Mod_size_1 (by decide) (fun c_1 => ?_) (fun c_1 => ?_)
  · skip
    refine lv_iload_n hx hb d_Mod_size_11 rfl (lv_at hl 1 rfl) ?_
    refine lv_iconst (v := nI 1) hx hb d_Mod_size_12 (by decide) ?_
    refine lv_icmp_ne (tgt := 23) hx hb d_Mod_size_13 (by decide) (fun c_13 => ?_) (fun c_13 => ?_)
    · skip
      refine lv_iload_n hx hb d_Mod_size_23 rfl (lv_at hl 1 rfl) ?_
      refine lv_iconst (v := nI 2) hx hb d_Mod_size_24 (by decide) ?_
      refine lv_icmp_ne (tgt := 35) hx hb d_Mod_size_25 (by decide) (fun c_25 => ?_) (fun c_25 => ?_)
      · skip
        refine lv_iload_n hx hb d_Mod_size_35 rfl (lv_at hl 1 rfl) ?_
        refine lv_iconst (v := nI 3) hx hb d_Mod_size_36 (by decide) ?_
        refine lv_icmp_ne (tgt := 47) hx hb d_Mod_size_37 (by decide) (fun c_37 => ?_) (fun c_37 => ?_)
        · skip
          refine lv_iconst (v := iI (-1)) hx hb d_Mod_size_47 (by decide) ?_
          exact z_iret C hr hlk hP hD hS (by omega) (by omega) ⟨by rw [if_neg (show ¬ a = nI 0 from c_1)]; rw [if_neg (show ¬ a = nI 1 from c_13)]; rw [if_neg (show ¬ a = nI 2 from c_25)]; rw [if_neg (show ¬ a = nI 3 from c_37)]; (try rfl), rfl⟩ d_Mod_size_48
        · skip
          refine lv_aload_n hx hb d_Mod_size_40 rfl (lv_at hl 0 rfl) ?_
          refine z_get C hP ho q_Mod 14 (by decide) k_742 (fun _ h9 => h9) rfl d_Mod_size_41 ?_
          refine lv_goto (tgt := 48) hx hb d_Mod_size_44 (by decide) ?_
          exact z_iret C hr hlk hP hD hS (by omega) (by omega) ⟨by rw [if_neg (show ¬ a = nI 0 from c_1)]; rw [if_neg (show ¬ a = nI 1 from c_13)]; rw [if_neg (show ¬ a = nI 2 from c_25)]; rw [if_pos (show a = nI 3 from c_37)]; (try rfl), rfl⟩ d_Mod_size_48
      · skip
        refine lv_aload_n hx hb d_Mod_size_28 rfl (lv_at hl 0 rfl) ?_
        refine z_get C hP ho q_Mod 18 (by decide) k_746 (fun _ h9 => h9) rfl d_Mod_size_29 ?_
        refine lv_goto (tgt := 48) hx hb d_Mod_size_32 (by decide) ?_
        exact z_iret C hr hlk hP hD hS (by omega) (by omega) ⟨by rw [if_neg (show ¬ a = nI 0 from c_1)]; rw [if_neg (show ¬ a = nI 1 from c_13)]; rw [if_pos (show a = nI 2 from c_25)]; (try rfl), rfl⟩ d_Mod_size_48
    · skip
      refine lv_aload_n hx hb d_Mod_size_16 rfl (lv_at hl 0 rfl) ?_
      refine z_get C hP ho q_Mod 16 (by decide) k_744 (fun _ h9 => h9) rfl d_Mod_size_17 ?_
      refine lv_goto (tgt := 48) hx hb d_Mod_size_20 (by decide) ?_
      exact z_iret C hr hlk hP hD hS (by omega) (by omega) ⟨by rw [if_neg (show ¬ a = nI 0 from c_1)]; rw [if_pos (show a = nI 1 from c_13)]; (try rfl), rfl⟩ d_Mod_size_48
  · skip
    refine lv_aload_n hx hb d_Mod_size_4 rfl (lv_at hl 0 rfl) ?_
    refine z_get C hP ho q_Mod 15 (by decide) k_743 (fun _ h9 => h9) rfl d_Mod_size_5 ?_
    refine lv_goto (tgt := 48) hx hb d_Mod_size_8 (by decide) ?_
    exact z_iret C hr hlk hP hD hS (by omega) (by omega) ⟨by rw [if_pos (show a = nI 0 from c_1)]; (try rfl), rfl⟩ d_Mod_size_48
set_option maxHeartbeats 4000000 in
set_option maxRecDepth 100000 in
theorem c_Mod_nameByte (l : Launch) (g : zT) (T : va_W) (o ts ta ne ans anm anu asa apl akd nk akn aks akp akk bg sz hd alg ni aip aix aiz aim aod av hv lf sn pv : Nat) (ho : (o, zo 11 [.int (nI ts), .ref ta, .int (nI ne), .ref ans, .ref anm, .ref anu, .ref asa, .ref apl, .ref akd, .int (nI nk), .ref akn, .ref aks, .ref akp, .ref akk, .int (nI bg), .int (nI sz), .int (nI hd), .ref alg, .int (nI ni), .ref aip, .ref aix, .ref aiz, .ref aim, .ref aod, .int (nI av), .int (nI hv), .int (nI lf), .int (nI sn), .int (nI pv)]) ∈ T) (nmb : Nat → UInt8) (hnb : (anm, zBy g 153600 nmb) ∈ T) (e0 i : Nat) (v1 : e0 < 600) (v2 : i < 256) : Met l y_Mod_nameByte (zw y_Mod_nameByte b_Mod_nameByte 3 (some .int)) (zR 0 0 0 0) (zP g [.ref o, .int (nI e0), .int (nI i)] (T)) (zQi g (fun r w => r = nI (nmb (256 * e0 + i)).toNat ∧ w = T)) 0 0 (zA g) := by
  refine zMet (by decide) (Nat.le_of_ble_eq_true rfl) ?_
  intro p e s m below meth c ls C hr hlk hnm hP hD hl
  have hx := C.1.1
  have hb := C.1.2.1
  have hS : va_S (zA g) s.heap s.heap [] := va_S.rf
  have hl : lv_has ls 3 [(0, .ref o), (1, .int (nI e0)), (2, .int (nI i))] := hl
  refine lv_aload_n hx hb d_Mod_nameByte_0 rfl (lv_at hl 0 rfl) ?_
  refine z_get C hP ho q_Mod 4 (by decide) k_732 (fun _ h9 => h9) rfl d_Mod_nameByte_1 ?_
  refine lv_sipush (v := nI 256) hx hb d_Mod_nameByte_4 (by decide) ?_
  refine lv_iload_n hx hb d_Mod_nameByte_7 rfl (lv_at hl 1 rfl) ?_
  refine z_imul (v := nI (256 * e0)) C d_Mod_nameByte_8 (pk_mul _ _) ?_
  refine lv_iload_n hx hb d_Mod_nameByte_9 rfl (lv_at hl 2 rfl) ?_
  refine z_iadd (v := nI ((256 * e0) + i)) C d_Mod_nameByte_10 (nI_add _ _) ?_
  refine z_bald C hP hnb ((256 * e0) + i) (by omega) (by omega) d_Mod_nameByte_11 ?_
  refine lv_sipush (v := nI 255) hx hb d_Mod_nameByte_12 (by decide) ?_
  refine z_iand (v := nI ((nmb ((256 * e0) + i)).toNat)) C d_Mod_nameByte_15 (sb_and _) ?_
  exact z_iret C hr hlk hP hD hS (by omega) (by omega) ⟨rfl, rfl⟩ d_Mod_nameByte_16
set_option maxHeartbeats 4000000 in
set_option maxRecDepth 100000 in
theorem c_Mod_u2 (l : Launch) (g : zT) (T : va_W) (o ts ta ne ans anm anu asa apl akd nk akn aks akp akk bg sz hd alg ni aip aix aiz aim aod av hv lf sn pv : Nat) (ho : (o, zo 11 [.int (nI ts), .ref ta, .int (nI ne), .ref ans, .ref anm, .ref anu, .ref asa, .ref apl, .ref akd, .int (nI nk), .ref akn, .ref aks, .ref akp, .ref akk, .int (nI bg), .int (nI sz), .int (nI hd), .ref alg, .int (nI ni), .ref aip, .ref aix, .ref aiz, .ref aim, .ref aod, .int (nI av), .int (nI hv), .int (nI lf), .int (nI sn), .int (nI pv)]) ∈ T) (f : Nat → UInt8) (hlg : (alg, zBy g 65536 f) ∈ T) (i len : Nat) (v1 : i + 2 ≤ len) (v2 : len ≤ 65536) : Met l y_Mod_u2 (zw y_Mod_u2 b_Mod_u2 2 (some .int)) (zR 0 0 0 0) (zP g [.ref o, .int (nI i)] (T)) (zQi g (fun r w => r = nI (U2 f len i) ∧ w = T)) 0 0 (zA g) := by
  refine zMet (by decide) (Nat.le_of_ble_eq_true rfl) ?_
  intro p e s m below meth c ls C hr hlk hnm hP hD hl
  have hx := C.1.1
  have hb := C.1.2.1
  have hS : va_S (zA g) s.heap s.heap [] := va_S.rf
  have hl : lv_has ls 2 [(0, .ref o), (1, .int (nI i))] := hl
  have b0 := u8_lt (f i)
  have b1 := u8_lt (f (i + 1))
  refine lv_aload_n hx hb d_Mod_u2_0 rfl (lv_at hl 0 rfl) ?_
  refine z_get C hP ho q_Mod 17 (by decide) k_745 (fun _ h9 => h9) rfl d_Mod_u2_1 ?_
  refine lv_iload_n hx hb d_Mod_u2_4 rfl (lv_at hl 1 rfl) ?_
  refine z_bald C hP hlg i (by omega) (by omega) d_Mod_u2_5 ?_
  refine lv_sipush (v := nI 255) hx hb d_Mod_u2_6 (by decide) ?_
  refine z_iand (v := nI ((f i).toNat)) C d_Mod_u2_9 (sb_and _) ?_
  refine lv_aload_n hx hb d_Mod_u2_10 rfl (lv_at hl 0 rfl) ?_
  refine z_get C hP ho q_Mod 17 (by decide) k_745 (fun _ h9 => h9) rfl d_Mod_u2_11 ?_
  refine lv_iload_n hx hb d_Mod_u2_14 rfl (lv_at hl 1 rfl) ?_
  refine lv_iconst (v := nI 1) hx hb d_Mod_u2_15 (by decide) ?_
  refine z_iadd (v := nI (i + 1)) C d_Mod_u2_16 (nI_add _ _) ?_
  refine z_bald C hP hlg (i + 1) (by omega) (by omega) d_Mod_u2_17 ?_
  refine lv_sipush (v := nI 255) hx hb d_Mod_u2_18 (by decide) ?_
  refine z_iand (v := nI ((f (i + 1)).toNat)) C d_Mod_u2_21 (sb_and _) ?_
  refine lv_bipush (v := nI 8) hx hb d_Mod_u2_22 (by decide) ?_
  refine z_ishl (v := nI ((f (i + 1)).toNat * 256)) C d_Mod_u2_24 (nI_sh8 (by omega)) ?_
  refine z_ior (v := nI ((f i).toNat + (f (i + 1)).toNat * 256)) C d_Mod_u2_25 (nI_or8 (by omega)) ?_
  exact z_iret C hr hlk hP hD hS (by omega) (by omega) ⟨by unfold U2 bz; rw [if_pos (by omega), if_pos (by omega)], rfl⟩ d_Mod_u2_26
set_option maxHeartbeats 4000000 in
set_option maxRecDepth 100000 in
theorem c_Mod_u4 (l : Launch) (g : zT) (T : va_W) (o ts ta ne ans anm anu asa apl akd nk akn aks akp akk bg sz hd alg ni aip aix aiz aim aod av hv lf sn pv : Nat) (ho : (o, zo 11 [.int (nI ts), .ref ta, .int (nI ne), .ref ans, .ref anm, .ref anu, .ref asa, .ref apl, .ref akd, .int (nI nk), .ref akn, .ref aks, .ref akp, .ref akk, .int (nI bg), .int (nI sz), .int (nI hd), .ref alg, .int (nI ni), .ref aip, .ref aix, .ref aiz, .ref aim, .ref aod, .int (nI av), .int (nI hv), .int (nI lf), .int (nI sn), .int (nI pv)]) ∈ T) (f : Nat → UInt8) (hlg : (alg, zBy g 65536 f) ∈ T) (i len : Nat) (v1 : i + 4 ≤ len) (v2 : len ≤ 65536) : Met l y_Mod_u4 (zw y_Mod_u4 b_Mod_u4 2 (some .long)) (zR 1 21 0 0) (zP g [.ref o, .int (nI i)] (T)) (zQl g (fun r w => r = lN (U4 f len i) ∧ w = T)) 0 0 (zA g) := by
  refine zMet (by decide) (Nat.le_of_ble_eq_true rfl) ?_
  intro p e s m below meth c ls C hr hlk hnm hP hD hl
  have hx := C.1.1
  have hb := C.1.2.1
  have hS : va_S (zA g) s.heap s.heap [] := va_S.rf
  have hl : lv_has ls 2 [(0, .ref o), (1, .int (nI i))] := hl
  refine lv_aload_n hx hb d_Mod_u4_0 rfl (lv_at hl 0 rfl) ?_
  refine lv_iload_n hx hb d_Mod_u4_1 rfl (lv_at hl 1 rfl) ?_
  refine z_ki (z_runV (np := 1) C (c_Mod_u2 l g T o ts ta ne ans anm anu asa apl akd nk akn aks akp akk bg sz hd alg ni aip aix aiz aim aod av hv lf sn pv ho f hlg (i) len (by omega) (by omega)) hP hD hS ho (show classes[11]? = some (R_Mod, F_Mod, 29) from rfl) k_932 k_12 k_929 k_931 ks_Mod_u2 ⟨by decide, by decide, by decide⟩ ⟨Nat.le_of_ble_eq_true rfl, Nat.le_of_ble_eq_true rfl⟩ rfl hl.1 rfl (Nat.le_of_ble_eq_true rfl) d_Mod_u4_2 ⟨by show _ ≤ 0; omega, by show _ ≤ 0; omega⟩) hS (fun r_2 w H locs hw hP hD hS => ?_)
  obtain ⟨rfl, hw⟩ := hw
  rw [hw] at hP hD
  have u2_105 := U2_lt f len (i)
  refine lv_i2l (v := lN (U2 f len (i))) hx hb d_Mod_u4_5 (nI_l (by omega)) ?_
  refine lv_aload_n hx hb d_Mod_u4_6 rfl (lv_at hl 0 rfl) ?_
  refine lv_iload_n hx hb d_Mod_u4_7 rfl (lv_at hl 1 rfl) ?_
  refine lv_iconst (v := nI 2) hx hb d_Mod_u4_8 (by decide) ?_
  refine z_iadd (v := nI (i + 2)) C d_Mod_u4_9 (nI_add _ _) ?_
  refine z_ki (z_runV (np := 1) C (c_Mod_u2 l g T o ts ta ne ans anm anu asa apl akd nk akn aks akp akk bg sz hd alg ni aip aix aiz aim aod av hv lf sn pv ho f hlg (i + 2) len (by omega) (by omega)) hP hD hS ho (show classes[11]? = some (R_Mod, F_Mod, 29) from rfl) k_932 k_12 k_929 k_931 ks_Mod_u2 ⟨by decide, by decide, by decide⟩ ⟨Nat.le_of_ble_eq_true rfl, Nat.le_of_ble_eq_true rfl⟩ rfl hl.1 rfl (Nat.le_of_ble_eq_true rfl) d_Mod_u4_10 ⟨by show _ ≤ 0; omega, by show _ ≤ 0; omega⟩) hS (fun r_10 w H locs hw hP hD hS => ?_)
  obtain ⟨rfl, hw⟩ := hw
  rw [hw] at hP hD
  have u2_262 := U2_lt f len (i + 2)
  refine lv_i2l (v := lN (U2 f len (i + 2))) hx hb d_Mod_u4_13 (nI_l (by omega)) ?_
  refine lv_bipush (v := nI 16) hx hb d_Mod_u4_14 (by decide) ?_
  refine lv_lshl (v := lN (U2 f len (i + 2) * 65536)) hx hb d_Mod_u4_16 (lN_shl _ 16 (by decide)) ?_
  refine z_lor (v := lN (U2 f len i + U2 f len (i + 2) * 65536)) C d_Mod_u4_17 (lN_or16 (by omega)) ?_
  exact z_lret C hr hlk hP hD hS (by omega) (by omega) ⟨by unfold U2 U4; congr 1; rw [show i + 2 + 1 = i + 3 by omega]; omega, rfl⟩ d_Mod_u4_18
set_option maxHeartbeats 4000000 in
set_option maxRecDepth 100000 in
theorem c_Mod_sizeHere (l : Launch) (g : zT) (T : va_W) (o ts ta ne ans anm anu asa apl akd nk akn aks akp akk bg sz hd alg ni aip aix aiz aim aod av hv lf sn pv : Nat) (ho : (o, zo 11 [.int (nI ts), .ref ta, .int (nI ne), .ref ans, .ref anm, .ref anu, .ref asa, .ref apl, .ref akd, .int (nI nk), .ref akn, .ref aks, .ref akp, .ref akk, .int (nI bg), .int (nI sz), .int (nI hd), .ref alg, .int (nI ni), .ref aip, .ref aix, .ref aiz, .ref aim, .ref aod, .int (nI av), .int (nI hv), .int (nI lf), .int (nI sn), .int (nI pv)]) ∈ T) (f : Nat → UInt8) (hlg : (alg, zBy g 65536 f) ∈ T) (v1 : av + 8 ≤ sz) (v2 : sz ≤ 65536)  : Met l y_Mod_sizeHere (zw y_Mod_sizeHere b_Mod_sizeHere 1 (some .int)) (zR 1 21 0 0) (zP g [.ref o] (T)) (zQi g (fun r w => r = nI (U2 f sz (av + 6) + 1) ∧ w = T)) 0 0 (zA g) := by
  refine zMet (by decide) (Nat.le_of_ble_eq_true rfl) ?_
  intro p e s m below meth c ls C hr hlk hnm hP hD hl
  have hx := C.1.1
  have hb := C.1.2.1
  have hS : va_S (zA g) s.heap s.heap [] := va_S.rf
  have hl : lv_has ls 1 [(0, .ref o)] := hl
  refine lv_aload_n hx hb d_Mod_sizeHere_0 rfl (lv_at hl 0 rfl) ?_
  refine lv_aload_n hx hb d_Mod_sizeHere_1 rfl (lv_at hl 0 rfl) ?_
  refine z_get C hP ho q_Mod 24 (by decide) k_752 (fun _ h9 => h9) rfl d_Mod_sizeHere_2 ?_
  refine lv_bipush (v := nI 6) hx hb d_Mod_sizeHere_5 (by decide) ?_
  refine z_iadd (v := nI (av + 6)) C d_Mod_sizeHere_7 (nI_add _ _) ?_
  refine z_ki (z_runV (np := 1) C (c_Mod_u2 l g T o ts ta ne ans anm anu asa apl akd nk akn aks akp akk bg sz hd alg ni aip aix aiz aim aod av hv lf sn pv ho f hlg (av + 6) sz (by omega) (by omega)) hP hD hS ho (show classes[11]? = some (R_Mod, F_Mod, 29) from rfl) k_932 k_12 k_929 k_931 ks_Mod_u2 ⟨by decide, by decide, by decide⟩ ⟨Nat.le_of_ble_eq_true rfl, Nat.le_of_ble_eq_true rfl⟩ rfl hl.1 rfl (Nat.le_of_ble_eq_true rfl) d_Mod_sizeHere_8 ⟨by show _ ≤ 0; omega, by show _ ≤ 0; omega⟩) hS (fun r_8 w H locs hw hP hD hS => ?_)
  obtain ⟨rfl, hw⟩ := hw
  rw [hw] at hP hD
  have u2_376 := U2_lt f sz (av + 6)
  refine lv_iconst (v := nI 1) hx hb d_Mod_sizeHere_11 (by decide) ?_
  refine z_iadd (v := nI ((U2 f sz (av + 6)) + 1)) C d_Mod_sizeHere_12 (nI_add _ _) ?_
  exact z_iret C hr hlk hP hD hS (by omega) (by omega) ⟨rfl, rfl⟩ d_Mod_sizeHere_13
set_option maxHeartbeats 4000000 in
set_option maxRecDepth 100000 in
theorem c_Mod_byteHere (l : Launch) (g : zT) (T : va_W) (o ts ta ne ans anm anu asa apl akd nk akn aks akp akk bg sz hd alg ni aip aix aiz aim aod av hv lf sn pv : Nat) (ho : (o, zo 11 [.int (nI ts), .ref ta, .int (nI ne), .ref ans, .ref anm, .ref anu, .ref asa, .ref apl, .ref akd, .int (nI nk), .ref akn, .ref aks, .ref akp, .ref akk, .int (nI bg), .int (nI sz), .int (nI hd), .ref alg, .int (nI ni), .ref aip, .ref aix, .ref aiz, .ref aim, .ref aod, .int (nI av), .int (nI hv), .int (nI lf), .int (nI sn), .int (nI pv)]) ∈ T) (f : Nat → UInt8) (hlg : (alg, zBy g 65536 f) ∈ T) (i : Nat) (v1 : av + 8 + i < 65536) : Met l y_Mod_byteHere (zw y_Mod_byteHere b_Mod_byteHere 2 (some .int)) (zR 0 0 0 0) (zP g [.ref o, .int (nI i)] (T)) (zQi g (fun r w => r = nI (f (av + 8 + i)).toNat ∧ w = T)) 0 0 (zA g) := by
  refine zMet (by decide) (Nat.le_of_ble_eq_true rfl) ?_
  intro p e s m below meth c ls C hr hlk hnm hP hD hl
  have hx := C.1.1
  have hb := C.1.2.1
  have hS : va_S (zA g) s.heap s.heap [] := va_S.rf
  have hl : lv_has ls 2 [(0, .ref o), (1, .int (nI i))] := hl
  refine lv_aload_n hx hb d_Mod_byteHere_0 rfl (lv_at hl 0 rfl) ?_
  refine z_get C hP ho q_Mod 17 (by decide) k_745 (fun _ h9 => h9) rfl d_Mod_byteHere_1 ?_
  refine lv_aload_n hx hb d_Mod_byteHere_4 rfl (lv_at hl 0 rfl) ?_
  refine z_get C hP ho q_Mod 24 (by decide) k_752 (fun _ h9 => h9) rfl d_Mod_byteHere_5 ?_
  refine lv_bipush (v := nI 8) hx hb d_Mod_byteHere_8 (by decide) ?_
  refine z_iadd (v := nI (av + 8)) C d_Mod_byteHere_10 (nI_add _ _) ?_
  refine lv_iload_n hx hb d_Mod_byteHere_11 rfl (lv_at hl 1 rfl) ?_
  refine z_iadd (v := nI (av + 8 + i)) C d_Mod_byteHere_12 (nI_add _ _) ?_
  refine z_bald C hP hlg (av + 8 + i) (by omega) (by omega) d_Mod_byteHere_13 ?_
  refine lv_sipush (v := nI 255) hx hb d_Mod_byteHere_14 (by decide) ?_
  refine z_iand (v := nI ((f (av + 8 + i)).toNat)) C d_Mod_byteHere_17 (sb_and _) ?_
  exact z_iret C hr hlk hP hD hS (by omega) (by omega) ⟨rfl, rfl⟩ d_Mod_byteHere_18
set_option maxHeartbeats 4000000 in
set_option maxRecDepth 100000 in
theorem c_Mod_numberHere (l : Launch) (g : zT) (T : va_W) (o ts ta ne ans anm anu asa apl akd nk akn aks akp akk bg sz hd alg ni aip aix aiz aim aod av hv lf sn pv : Nat) (ho : (o, zo 11 [.int (nI ts), .ref ta, .int (nI ne), .ref ans, .ref anm, .ref anu, .ref asa, .ref apl, .ref akd, .int (nI nk), .ref akn, .ref aks, .ref akp, .ref akk, .int (nI bg), .int (nI sz), .int (nI hd), .ref alg, .int (nI ni), .ref aip, .ref aix, .ref aiz, .ref aim, .ref aod, .int (nI av), .int (nI hv), .int (nI lf), .int (nI sn), .int (nI pv)]) ∈ T) (f : Nat → UInt8) (hlg : (alg, zBy g 65536 f) ∈ T) (v1 : av + 8 ≤ sz) (v2 : sz ≤ 65536) (v3 : hv + 12 ≤ sz) : Met l y_Mod_numberHere (zw y_Mod_numberHere b_Mod_numberHere 1 (some .long)) (zR 2 42 0 0) (zP g [.ref o] (T)) (zQl g (fun r w => r = lI ((U4 f sz (hv + 8) : Int) + s16 (U2 f sz (av + 2))) ∧ w = T)) 0 0 (zA g) := by
  refine zMet (by decide) (Nat.le_of_ble_eq_true rfl) ?_
  intro p e s m below meth c ls C hr hlk hnm hP hD hl
  have hx := C.1.1
  have hb := C.1.2.1
  have hS : va_S (zA g) s.heap s.heap [] := va_S.rf
  have hl : lv_has ls 1 [(0, .ref o)] := hl
  refine lv_aload_n hx hb d_Mod_numberHere_0 rfl (lv_at hl 0 rfl) ?_
  refine lv_aload_n hx hb d_Mod_numberHere_1 rfl (lv_at hl 0 rfl) ?_
  refine z_get C hP ho q_Mod 25 (by decide) k_753 (fun _ h9 => h9) rfl d_Mod_numberHere_2 ?_
  refine lv_bipush (v := nI 8) hx hb d_Mod_numberHere_5 (by decide) ?_
  refine z_iadd (v := nI (hv + 8)) C d_Mod_numberHere_7 (nI_add _ _) ?_
  refine z_kl (z_runV (np := 1) C (c_Mod_u4 l g T o ts ta ne ans anm anu asa apl akd nk akn aks akp akk bg sz hd alg ni aip aix aiz aim aod av hv lf sn pv ho f hlg (hv + 8) sz (by omega) (by omega)) hP hD hS ho (show classes[11]? = some (R_Mod, F_Mod, 29) from rfl) k_936 k_12 k_933 k_935 ks_Mod_u4 ⟨by decide, by decide, by decide⟩ ⟨Nat.le_of_ble_eq_true rfl, Nat.le_of_ble_eq_true rfl⟩ rfl hl.1 rfl (Nat.le_of_ble_eq_true rfl) d_Mod_numberHere_8 ⟨by show _ ≤ 0; omega, by show _ ≤ 0; omega⟩) hS (fun r_8 w H locs hw hP hD hS => ?_)
  obtain ⟨rfl, hw⟩ := hw
  rw [hw] at hP hD
  have u4_385 := U4_lt f sz (hv + 8)
  refine lv_aload_n hx hb d_Mod_numberHere_11 rfl (lv_at hl 0 rfl) ?_
  refine lv_aload_n hx hb d_Mod_numberHere_12 rfl (lv_at hl 0 rfl) ?_
  refine z_get C hP ho q_Mod 24 (by decide) k_752 (fun _ h9 => h9) rfl d_Mod_numberHere_13 ?_
  refine lv_iconst (v := nI 2) hx hb d_Mod_numberHere_16 (by decide) ?_
  refine z_iadd (v := nI (av + 2)) C d_Mod_numberHere_17 (nI_add _ _) ?_
  refine z_ki (z_runV (np := 1) C (c_Mod_u2 l g T o ts ta ne ans anm anu asa apl akd nk akn aks akp akk bg sz hd alg ni aip aix aiz aim aod av hv lf sn pv ho f hlg (av + 2) sz (by omega) (by omega)) hP hD hS ho (show classes[11]? = some (R_Mod, F_Mod, 29) from rfl) k_932 k_12 k_929 k_931 ks_Mod_u2 ⟨by decide, by decide, by decide⟩ ⟨Nat.le_of_ble_eq_true rfl, Nat.le_of_ble_eq_true rfl⟩ rfl hl.1 rfl (Nat.le_of_ble_eq_true rfl) d_Mod_numberHere_18 ⟨by show _ ≤ 0; omega, by show _ ≤ 0; omega⟩) hS (fun r_18 w H locs hw hP hD hS => ?_)
  obtain ⟨rfl, hw⟩ := hw
  rw [hw] at hP hD
  have u2_372 := U2_lt f sz (av + 2)
  refine lv_i2s (v := iI (s16 (U2 f sz (av + 2)))) hx hb d_Mod_numberHere_21 (nI_s (by omega)) ?_
  refine lv_i2l (v := lI (s16 (U2 f sz (av + 2)))) hx hb d_Mod_numberHere_22 (iI_l (by have := s16_rg (U2_lt f sz (av + 2)); omega) (by have := s16_rg (U2_lt f sz (av + 2)); omega)) ?_
  refine z_ladd (v := lI ((U4 f sz (hv + 8) : Int) + s16 (U2 f sz (av + 2)))) C d_Mod_numberHere_23 (by rw [lN_lI, lI_add]) ?_
  exact z_lret C hr hlk hP hD hS (by omega) (by omega) ⟨rfl, rfl⟩ d_Mod_numberHere_24
set_option maxHeartbeats 4000000 in
set_option maxRecDepth 100000 in
theorem c_Mod_orderOfTape (l : Launch) (g : zT) (T : va_W) (o ts ta ne ans anm anu asa apl akd nk akn aks akp akk bg sz hd alg ni aip aix aiz aim aod av hv lf sn pv : Nat) (ho : (o, zo 11 [.int (nI ts), .ref ta, .int (nI ne), .ref ans, .ref anm, .ref anu, .ref asa, .ref apl, .ref akd, .int (nI nk), .ref akn, .ref aks, .ref akp, .ref akk, .int (nI bg), .int (nI sz), .int (nI hd), .ref alg, .int (nI ni), .ref aip, .ref aix, .ref aiz, .ref aim, .ref aod, .int (nI av), .int (nI hv), .int (nI lf), .int (nI sn), .int (nI pv)]) ∈ T) (tb : Nat → UInt8) (hta : (ta, zIn g 300 (nB tb)) ∈ T) (nsz : Nat → Nat) (hns : (ans, zIn g 600 (nN nsz)) ∈ T) (nmb : Nat → UInt8) (hnb : (anm, zBy g 153600 nmb) ∈ T) (n0 e0 : Nat) (v1 : n0 ≤ 300) (v2 : e0 < 600) (v3 : nsz e0 ≤ 256) : Met l y_Mod_orderOfTape (zw y_Mod_orderOfTape b_Mod_orderOfTape 4 (some .int)) (zR 1 22 0 0) (zP g [.ref o, .int (nI n0), .int (nI e0)] (T)) (zQi g (fun r w => r = iI (cmpB (zl tb 0 n0) (nmE nmb nsz e0)) ∧ w = T)) 0 0 (zA g) := by
  refine zMet (by decide) (Nat.le_of_ble_eq_true rfl) ?_
  intro p e s m below meth c ls C hr hlk hnm hP hD hl
  have hx := C.1.1
  have hb := C.1.2.1
  have hS : va_S (zA g) s.heap s.heap [] := va_S.rf
  have hl : lv_has ls 4 [(0, .ref o), (1, .int (nI n0)), (2, .int (nI e0))] := hl
  have L_2 : ∀ (nu : Nat) (i : Nat) (_ : i ≤ n0) (_ : i ≤ nsz e0) (_ : cmpB (zl tb (0 + i) (n0 - i)) (zl nmb (256 * e0 + i) (nsz e0 - i)) = cmpB (zl tb 0 n0) (nmE nmb nsz e0)) (_ : n0 - i < nu) (H : Heap) (locs : List Loc), va_P g.1 classes (T) H → va_D (zA g) (T) → va_S (zA g) s.heap H locs → ∀ ls : Array Slot, lv_has ls 4 [(0, .ref o), (1, .int (nI n0)), (2, .int (nI e0)), (3, .int (nI i))] → W p l e (zR 1 22 0 0) s m [.ref o, .int (nI n0), .int (nI e0)].toArray below meth c H locs 0 0 (MQ below (zQi g (fun r w => r = iI (cmpB (zl tb 0 n0) (nmE nmb nsz e0)) ∧ w = T)) [.ref o, .int (nI n0), .int (nI e0)].toArray s 0 0 (zA g)) (F0 m 2 ls []) := by
    intro nu
    induction nu with
    | zero => intros; omega
    | succ nu ih =>
      intro i g1 g2 hI hmu H locs hP hD hS ls hl
      refine lv_iload_n hx hb d_Mod_orderOfTape_2 rfl (lv_at hl 3 rfl) ?_
      refine lv_iload_n hx hb d_Mod_orderOfTape_3 rfl (lv_at hl 1 rfl) ?_
      refine lv_icmp_ge (tgt := 52) hx hb d_Mod_orderOfTape_4 (by decide) (fun c_4 => ?_) (fun c_4 => ?_)
      · skip
        have c_4 : n0 ≤ i := (nI_leI (a := n0) (b := i) (by omega) (by omega)).mp c_4
        refine lv_iload_n hx hb d_Mod_orderOfTape_52 rfl (lv_at hl 1 rfl) ?_
        refine lv_aload_n hx hb d_Mod_orderOfTape_53 rfl (lv_at hl 0 rfl) ?_
        refine z_get C hP ho q_Mod 3 (by decide) k_731 (fun _ h9 => h9) rfl d_Mod_orderOfTape_54 ?_
        refine lv_iload_n hx hb d_Mod_orderOfTape_57 rfl (lv_at hl 2 rfl) ?_
        refine z_iald C hP hns e0 (by omega) (by omega) d_Mod_orderOfTape_58 ?_
        refine z_topi (y := nI (nsz e0)) rfl ?_
        refine z_isub (v := iI ((n0 : Int) - (nsz e0 : Int))) C d_Mod_orderOfTape_59 (nI_sub _ _) ?_
        exact z_iret C hr hlk hP hD hS (by omega) (by omega) ⟨by rw [← hI, cmpB_end (by omega)]; congr 1; omega, rfl⟩ d_Mod_orderOfTape_60
      · skip
        have c_4 : ¬ n0 ≤ i := fun q9 => c_4 ((nI_leI (a := n0) (b := i) (by omega) (by omega)).mpr q9)
        refine lv_iload_n hx hb d_Mod_orderOfTape_7 rfl (lv_at hl 3 rfl) ?_
        refine lv_aload_n hx hb d_Mod_orderOfTape_8 rfl (lv_at hl 0 rfl) ?_
        refine z_get C hP ho q_Mod 3 (by decide) k_731 (fun _ h9 => h9) rfl d_Mod_orderOfTape_9 ?_
        refine lv_iload_n hx hb d_Mod_orderOfTape_12 rfl (lv_at hl 2 rfl) ?_
        refine z_iald C hP hns e0 (by omega) (by omega) d_Mod_orderOfTape_13 ?_
        refine z_topi (y := nI (nsz e0)) rfl ?_
        refine lv_icmp_ge (tgt := 52) hx hb d_Mod_orderOfTape_14 (by decide) (fun c_14 => ?_) (fun c_14 => ?_)
        · skip
          have c_14 : (nsz e0) ≤ i := (nI_leI (a := nsz e0) (b := i) (by omega) (by omega)).mp c_14
          refine lv_iload_n hx hb d_Mod_orderOfTape_52 rfl (lv_at hl 1 rfl) ?_
          refine lv_aload_n hx hb d_Mod_orderOfTape_53 rfl (lv_at hl 0 rfl) ?_
          refine z_get C hP ho q_Mod 3 (by decide) k_731 (fun _ h9 => h9) rfl d_Mod_orderOfTape_54 ?_
          refine lv_iload_n hx hb d_Mod_orderOfTape_57 rfl (lv_at hl 2 rfl) ?_
          refine z_iald C hP hns e0 (by omega) (by omega) d_Mod_orderOfTape_58 ?_
          refine z_topi (y := nI (nsz e0)) rfl ?_
          refine z_isub (v := iI ((n0 : Int) - (nsz e0 : Int))) C d_Mod_orderOfTape_59 (nI_sub _ _) ?_
          exact z_iret C hr hlk hP hD hS (by omega) (by omega) ⟨by rw [← hI, cmpB_end (by omega)]; congr 1; omega, rfl⟩ d_Mod_orderOfTape_60
        · skip
          have c_14 : ¬ (nsz e0) ≤ i := fun q9 => c_14 ((nI_leI (a := nsz e0) (b := i) (by omega) (by omega)).mpr q9)
          refine lv_aload_n hx hb d_Mod_orderOfTape_17 rfl (lv_at hl 0 rfl) ?_
          refine z_get C hP ho q_Mod 1 (by decide) k_729 (fun _ h9 => h9) rfl d_Mod_orderOfTape_18 ?_
          refine lv_iload_n hx hb d_Mod_orderOfTape_21 rfl (lv_at hl 3 rfl) ?_
          refine z_iald C hP hta i (by omega) (by omega) d_Mod_orderOfTape_22 ?_
          refine z_topi (y := nI ((tb i).toNat)) rfl ?_
          refine lv_aload_n hx hb d_Mod_orderOfTape_23 rfl (lv_at hl 0 rfl) ?_
          refine lv_iload_n hx hb d_Mod_orderOfTape_24 rfl (lv_at hl 2 rfl) ?_
          refine lv_iload_n hx hb d_Mod_orderOfTape_25 rfl (lv_at hl 3 rfl) ?_
          refine z_ki (z_runV (np := 2) C (c_Mod_nameByte l g T o ts ta ne ans anm anu asa apl akd nk akn aks akp akk bg sz hd alg ni aip aix aiz aim aod av hv lf sn pv ho nmb hnb (e0) (i) (by omega) (by omega)) hP hD hS ho (show classes[11]? = some (R_Mod, F_Mod, 29) from rfl) k_846 k_12 k_843 k_845 ks_Mod_nameByte ⟨by decide, by decide, by decide⟩ ⟨Nat.le_of_ble_eq_true rfl, Nat.le_of_ble_eq_true rfl⟩ rfl hl.1 rfl (Nat.le_of_ble_eq_true rfl) d_Mod_orderOfTape_26 ⟨by show _ ≤ 0; omega, by show _ ≤ 0; omega⟩) hS (fun r_26 w H locs hw hP hD hS => ?_)
          obtain ⟨rfl, hw⟩ := hw
          rw [hw] at hP hD
          have b0 := u8_lt (tb i)
          have b1 := u8_lt (nmb (256 * e0 + i))
          refine lv_icmp_eq (tgt := 46) hx hb d_Mod_orderOfTape_29 (by decide) (fun c_29 => ?_) (fun c_29 => ?_)
          · skip
            have c_29 : ((tb i).toNat) = ((nmb (256 * e0 + i)).toNat) := (nI_eq (a := (tb i).toNat) (b := (nmb (256 * e0 + i)).toNat) (by omega) (by omega)).mp c_29
            refine lv_iinc (v := nI (i + 1)) (lv' := [(3, .int (nI (i + 1))), (0, .ref o), (1, .int (nI n0)), (2, .int (nI e0))]) hx hb d_Mod_orderOfTape_46 hl (k := 3) rfl (by rw [show Int32.ofInt 1 = nI 1 by decide]; exact nI_add _ _) (by decide) rfl (fun ls hl => ?_)
            refine lv_goto (tgt := 2) hx hb d_Mod_orderOfTape_49 (by decide) ?_
            exact ih (i + 1) (by omega) (by omega) (by rw [cmpB_at (by omega) (by omega), Nat.zero_add, if_pos (u8_eq.mpr c_29)] at hI; exact hI) (by omega) _ _ hP hD hS ls (lv_sub hl [1, 2, 3, 0] rfl)
          · skip
            have c_29 : ¬ ((tb i).toNat) = ((nmb (256 * e0 + i)).toNat) := fun q9 => c_29 ((nI_eq (a := (tb i).toNat) (b := (nmb (256 * e0 + i)).toNat) (by omega) (by omega)).mpr q9)
            refine lv_aload_n hx hb d_Mod_orderOfTape_32 rfl (lv_at hl 0 rfl) ?_
            refine z_get C hP ho q_Mod 1 (by decide) k_729 (fun _ h9 => h9) rfl d_Mod_orderOfTape_33 ?_
            refine lv_iload_n hx hb d_Mod_orderOfTape_36 rfl (lv_at hl 3 rfl) ?_
            refine z_iald C hP hta i (by omega) (by omega) d_Mod_orderOfTape_37 ?_
            refine z_topi (y := nI ((tb i).toNat)) rfl ?_
            refine lv_aload_n hx hb d_Mod_orderOfTape_38 rfl (lv_at hl 0 rfl) ?_
            refine lv_iload_n hx hb d_Mod_orderOfTape_39 rfl (lv_at hl 2 rfl) ?_
            refine lv_iload_n hx hb d_Mod_orderOfTape_40 rfl (lv_at hl 3 rfl) ?_
            refine z_ki (z_runV (np := 2) C (c_Mod_nameByte l g T o ts ta ne ans anm anu asa apl akd nk akn aks akp akk bg sz hd alg ni aip aix aiz aim aod av hv lf sn pv ho nmb hnb (e0) (i) (by omega) (by omega)) hP hD hS ho (show classes[11]? = some (R_Mod, F_Mod, 29) from rfl) k_846 k_12 k_843 k_845 ks_Mod_nameByte ⟨by decide, by decide, by decide⟩ ⟨Nat.le_of_ble_eq_true rfl, Nat.le_of_ble_eq_true rfl⟩ rfl hl.1 rfl (Nat.le_of_ble_eq_true rfl) d_Mod_orderOfTape_41 ⟨by show _ ≤ 0; omega, by show _ ≤ 0; omega⟩) hS (fun r_41 w H locs hw hP hD hS => ?_)
            obtain ⟨rfl, hw⟩ := hw
            rw [hw] at hP hD
            refine z_isub (v := iI (((tb i).toNat : Int) - ((nmb (256 * e0 + i)).toNat : Int))) C d_Mod_orderOfTape_44 (nI_sub _ _) ?_
            exact z_iret C hr hlk hP hD hS (by omega) (by omega) ⟨by rw [← hI, cmpB_at (by omega) (by omega), Nat.zero_add, if_neg (fun q9 => c_29 (by rw [q9]))], rfl⟩ d_Mod_orderOfTape_45
  refine lv_iconst (v := nI 0) hx hb d_Mod_orderOfTape_0 (by decide) ?_
  refine lv_istore_n (lv' := [(3, .int (nI 0)), (0, .ref o), (1, .int (nI n0)), (2, .int (nI e0))]) hx hb d_Mod_orderOfTape_1 rfl hl (by decide) rfl (fun ls hl => ?_)
  exact L_2 _ 0 (Nat.zero_le _) (Nat.zero_le _) rfl (Nat.lt_succ_self _) _ _ hP hD hS ls (lv_sub hl [1, 2, 3, 0] rfl)
set_option maxHeartbeats 4000000 in
set_option maxRecDepth 100000 in
theorem c_Mod_entryOfTape (l : Launch) (g : zT) (T : va_W) (o ts ta ne ans anm anu asa apl akd nk akn aks akp akk bg sz hd alg ni aip aix aiz aim aod av hv lf sn pv : Nat) (ho : (o, zo 11 [.int (nI ts), .ref ta, .int (nI ne), .ref ans, .ref anm, .ref anu, .ref asa, .ref apl, .ref akd, .int (nI nk), .ref akn, .ref aks, .ref akp, .ref akk, .int (nI bg), .int (nI sz), .int (nI hd), .ref alg, .int (nI ni), .ref aip, .ref aix, .ref aiz, .ref aim, .ref aod, .int (nI av), .int (nI hv), .int (nI lf), .int (nI sn), .int (nI pv)]) ∈ T) (tb : Nat → UInt8) (hta : (ta, zIn g 300 (nB tb)) ∈ T) (nsz : Nat → Nat) (hns : (ans, zIn g 600 (nN nsz)) ∈ T) (nmb : Nat → UInt8) (hnb : (anm, zBy g 153600 nmb) ∈ T) (n0 : Nat) (v1 : n0 ≤ 300) (v2 : ne ≤ 600) (v3 : ∀ j, j < ne → nsz j ≤ 256) : Met l y_Mod_entryOfTape (zw y_Mod_entryOfTape b_Mod_entryOfTape 4 (some .int)) (zR 2 45 0 0) (zP g [.ref o, .int (nI n0)] (T)) (zQi g (fun r w => r = iI (lastE (ofT tb n0 nmb nsz) ne) ∧ w = T)) 0 0 (zA g) := by
  refine zMet (by decide) (Nat.le_of_ble_eq_true rfl) ?_
  intro p e s m below meth c ls C hr hlk hnm hP hD hl
  have hx := C.1.1
  have hb := C.1.2.1
  have hS : va_S (zA g) s.heap s.heap [] := va_S.rf
  have hl : lv_has ls 4 [(0, .ref o), (1, .int (nI n0))] := hl
  have L_5 : ∀ (nu : Nat) (k : Nat) (_ : k ≤ ne) (_ : ne - k < nu) (H : Heap) (locs : List Loc), va_P g.1 classes (T) H → va_D (zA g) (T) → va_S (zA g) s.heap H locs → ∀ ls : Array Slot, lv_has ls 4 [(0, .ref o), (1, .int (nI n0)), (2, .int (iI (lastE (ofT tb n0 nmb nsz) k))), (3, .int (nI k))] → W p l e (zR 2 45 0 0) s m [.ref o, .int (nI n0)].toArray below meth c H locs 0 0 (MQ below (zQi g (fun r w => r = iI (lastE (ofT tb n0 nmb nsz) ne) ∧ w = T)) [.ref o, .int (nI n0)].toArray s 0 0 (zA g)) (F0 m 5 ls []) := by
    intro nu
    induction nu with
    | zero => intros; omega
    | succ nu ih =>
      intro k g1 hmu H locs hP hD hS ls hl
      have L_27 : ∀ (_ : k < ne) (H : Heap) (locs : List Loc), va_P g.1 classes (T) H → va_D (zA g) (T) → va_S (zA g) s.heap H locs → ∀ ls : Array Slot, lv_has ls 4 [(0, .ref o), (1, .int (nI n0)), (3, .int (nI k))] → W p l e (zR 2 45 0 0) s m [.ref o, .int (nI n0)].toArray below meth c H locs 0 0 (MQ below (zQi g (fun r w => r = iI (lastE (ofT tb n0 nmb nsz) ne) ∧ w = T)) [.ref o, .int (nI n0)].toArray s 0 0 (zA g)) (F0 m 27 ls [.int (iI (lastE (ofT tb n0 nmb nsz) (k + 1)))]) := by
        intro g2 H locs hP hD hS ls hl
        refine lv_istore_n (lv' := [(2, .int (iI (lastE (ofT tb n0 nmb nsz) (k + 1)))), (0, .ref o), (1, .int (nI n0)), (3, .int (nI k))]) hx hb d_Mod_entryOfTape_27 rfl hl (by decide) rfl (fun ls hl => ?_)
        refine lv_iinc (v := nI (k + 1)) (lv' := [(3, .int (nI (k + 1))), (2, .int (iI (lastE (ofT tb n0 nmb nsz) (k + 1)))), (0, .ref o), (1, .int (nI n0))]) hx hb d_Mod_entryOfTape_28 hl (k := 3) rfl (by rw [show Int32.ofInt 1 = nI 1 by decide]; exact nI_add _ _) (by decide) rfl (fun ls hl => ?_)
        refine lv_goto (tgt := 5) hx hb d_Mod_entryOfTape_31 (by decide) ?_
        exact ih (k + 1) (by omega) (by omega) _ _ hP hD hS ls (lv_sub hl [2, 3, 1, 0] rfl)
      refine lv_iload_n hx hb d_Mod_entryOfTape_5 rfl (lv_at hl 3 rfl) ?_
      refine lv_aload_n hx hb d_Mod_entryOfTape_6 rfl (lv_at hl 0 rfl) ?_
      refine z_get C hP ho q_Mod 2 (by decide) k_730 (fun _ h9 => h9) rfl d_Mod_entryOfTape_7 ?_
      refine lv_icmp_ge (tgt := 34) hx hb d_Mod_entryOfTape_10 (by decide) (fun c_10 => ?_) (fun c_10 => ?_)
      · skip
        have c_10 : ne ≤ k := (nI_leI (a := ne) (b := k) (by omega) (by omega)).mp c_10
        refine lv_iload_n hx hb d_Mod_entryOfTape_34 rfl (lv_at hl 2 rfl) ?_
        exact z_iret C hr hlk hP hD hS (by omega) (by omega) ⟨by rw [show ne = k by omega], rfl⟩ d_Mod_entryOfTape_35
      · skip
        have c_10 : ¬ ne ≤ k := fun q9 => c_10 ((nI_leI (a := ne) (b := k) (by omega) (by omega)).mpr q9)
        refine lv_aload_n hx hb d_Mod_entryOfTape_13 rfl (lv_at hl 0 rfl) ?_
        refine lv_iload_n hx hb d_Mod_entryOfTape_14 rfl (lv_at hl 1 rfl) ?_
        refine lv_iload_n hx hb d_Mod_entryOfTape_15 rfl (lv_at hl 3 rfl) ?_
        refine z_ki (z_runV (np := 2) C (c_Mod_orderOfTape l g T o ts ta ne ans anm anu asa apl akd nk akn aks akp akk bg sz hd alg ni aip aix aiz aim aod av hv lf sn pv ho tb hta nsz hns nmb hnb n0 k v1 (by omega) (v3 k (by omega))) hP hD hS ho (show classes[11]? = some (R_Mod, F_Mod, 29) from rfl) k_842 k_12 k_839 k_841 ks_Mod_orderOfTape ⟨by decide, by decide, by decide⟩ ⟨Nat.le_of_ble_eq_true rfl, Nat.le_of_ble_eq_true rfl⟩ rfl hl.1 rfl (Nat.le_of_ble_eq_true rfl) d_Mod_entryOfTape_16 ⟨by show _ ≤ 0; omega, by show _ ≤ 0; omega⟩) hS (fun r_16 w H locs hw hP hD hS => ?_)
        obtain ⟨rfl, hw⟩ := hw
        rw [hw] at hP hD
        have rg := cmpB_rg (xs := zl tb 0 n0) (ys := nmE nmb nsz k) (by rw [zl_len]; omega) (by unfold nmE; rw [zl_len]; have := v3 k (by omega); omega)
        refine lv_if_ne (tgt := 26) hx hb d_Mod_entryOfTape_19 (by decide) (fun c_19 => ?_) (fun c_19 => ?_)
        · skip
          have c_19 : ¬ (cmpB (zl tb 0 n0) (nmE nmb nsz k)) = 0 := fun q9 => c_19 ((zi_eq (a := cmpB (zl tb 0 n0) (nmE nmb nsz k)) (b := 0) rfl (nI_iI _) (by omega) (by omega) (by omega) (by omega)).mpr q9)
          refine lv_iload_n hx hb d_Mod_entryOfTape_26 rfl (lv_at hl 2 rfl) ?_
          refine z_topi (y := iI (lastE (ofT tb n0 nmb nsz) (k + 1))) (by rw [lastE_f (fun q9 => c_19 (cmpB_0.mpr (of_decide_eq_true q9)))]) ?_
          exact L_27 (by omega) _ _ hP hD hS ls (lv_sub hl [0, 1, 3] rfl)
        · skip
          have c_19 : (cmpB (zl tb 0 n0) (nmE nmb nsz k)) = 0 := (zi_eq (a := cmpB (zl tb 0 n0) (nmE nmb nsz k)) (b := 0) rfl (nI_iI _) (by omega) (by omega) (by omega) (by omega)).mp c_19
          refine lv_iload_n hx hb d_Mod_entryOfTape_22 rfl (lv_at hl 3 rfl) ?_
          refine lv_goto (tgt := 27) hx hb d_Mod_entryOfTape_23 (by decide) ?_
          refine z_topi (y := iI (lastE (ofT tb n0 nmb nsz) (k + 1))) (by rw [lastE_t (decide_eq_true (cmpB_0.mp c_19)), nI_iI]) ?_
          exact L_27 (by omega) _ _ hP hD hS ls (lv_sub hl [0, 1, 3] rfl)
  refine lv_bipush (v := iI (-2)) hx hb d_Mod_entryOfTape_0 (by decide) ?_
  refine lv_istore_n (lv' := [(2, .int (iI (-2))), (0, .ref o), (1, .int (nI n0))]) hx hb d_Mod_entryOfTape_2 rfl hl (by decide) rfl (fun ls hl => ?_)
  refine lv_iconst (v := nI 0) hx hb d_Mod_entryOfTape_3 (by decide) ?_
  refine lv_istore_n (lv' := [(3, .int (nI 0)), (2, .int (iI (-2))), (0, .ref o), (1, .int (nI n0))]) hx hb d_Mod_entryOfTape_4 rfl hl (by decide) rfl (fun ls hl => ?_)
  exact L_5 _ 0 (Nat.zero_le _) (Nat.lt_succ_self _) _ _ hP hD hS ls (lv_sub hl [2, 3, 1, 0] rfl)
set_option maxHeartbeats 4000000 in
set_option maxRecDepth 100000 in
theorem c_Mod_knownAt (l : Launch) (g : zT) (T : va_W) (o ts ta ne ans anm anu asa apl akd nk akn aks akp akk bg sz hd alg ni aip aix aiz aim aod av hv lf sn pv : Nat) (ho : (o, zo 11 [.int (nI ts), .ref ta, .int (nI ne), .ref ans, .ref anm, .ref anu, .ref asa, .ref apl, .ref akd, .int (nI nk), .ref akn, .ref aks, .ref akp, .ref akk, .int (nI bg), .int (nI sz), .int (nI hd), .ref alg, .int (nI ni), .ref aip, .ref aix, .ref aiz, .ref aim, .ref aod, .int (nI av), .int (nI hv), .int (nI lf), .int (nI sn), .int (nI pv)]) ∈ T) (kn : Nat → Nat) (hkn : (akn, zIn g 1500 (nN kn)) ∈ T) (z : Int) (v1 : nk ≤ 1500) (v2 : ∀ j, j < nk → kn j ≤ 100000) (v3 : -40000 < z) (v4 : z < 5000000000) : Met l y_Mod_knownAt (zw y_Mod_knownAt b_Mod_knownAt 5 (some .int)) (zR 0 0 0 0) (zP g [.ref o, .long (lI z)] (T)) (zQi g (fun r w => r = iI (lastE (ofK kn z) nk) ∧ w = T)) 0 0 (zA g) := by
  refine zMet (by decide) (Nat.le_of_ble_eq_true rfl) ?_
  intro p e s m below meth c ls C hr hlk hnm hP hD hl
  have hx := C.1.1
  have hb := C.1.2.1
  have hS : va_S (zA g) s.heap s.heap [] := va_S.rf
  have hl : lv_has ls 5 [(0, .ref o), (1, .long (lI z))] := hl
  have L_6 : ∀ (nu : Nat) (k : Nat) (_ : k ≤ nk) (_ : nk - k < nu) (H : Heap) (locs : List Loc), va_P g.1 classes (T) H → va_D (zA g) (T) → va_S (zA g) s.heap H locs → ∀ ls : Array Slot, lv_has ls 5 [(0, .ref o), (1, .long (lI z)), (3, .int (iI (lastE (ofK kn z) k))), (4, .int (nI k))] → W p l e (zR 0 0 0 0) s m [.ref o, .long (lI z)].toArray below meth c H locs 0 0 (MQ below (zQi g (fun r w => r = iI (lastE (ofK kn z) nk) ∧ w = T)) [.ref o, .long (lI z)].toArray s 0 0 (zA g)) (F0 m 6 ls []) := by
    intro nu
    induction nu with
    | zero => intros; omega
    | succ nu ih =>
      intro k g1 hmu H locs hP hD hS ls hl
      have L_34 : ∀ (_ : k < nk) (H : Heap) (locs : List Loc), va_P g.1 classes (T) H → va_D (zA g) (T) → va_S (zA g) s.heap H locs → ∀ ls : Array Slot, lv_has ls 5 [(0, .ref o), (1, .long (lI z)), (4, .int (nI k))] → W p l e (zR 0 0 0 0) s m [.ref o, .long (lI z)].toArray below meth c H locs 0 0 (MQ below (zQi g (fun r w => r = iI (lastE (ofK kn z) nk) ∧ w = T)) [.ref o, .long (lI z)].toArray s 0 0 (zA g)) (F0 m 34 ls [.int (iI (lastE (ofK kn z) (k + 1)))]) := by
        intro g2 H locs hP hD hS ls hl
        refine lv_istore_n (lv' := [(3, .int (iI (lastE (ofK kn z) (k + 1)))), (0, .ref o), (1, .long (lI z)), (4, .int (nI k))]) hx hb d_Mod_knownAt_34 rfl hl (by decide) rfl (fun ls hl => ?_)
        refine lv_iinc (v := nI (k + 1)) (lv' := [(4, .int (nI (k + 1))), (3, .int (iI (lastE (ofK kn z) (k + 1)))), (0, .ref o), (1, .long (lI z))]) hx hb d_Mod_knownAt_35 hl (k := 3) rfl (by rw [show Int32.ofInt 1 = nI 1 by decide]; exact nI_add _ _) (by decide) rfl (fun ls hl => ?_)
        refine lv_goto (tgt := 6) hx hb d_Mod_knownAt_38 (by decide) ?_
        exact ih (k + 1) (by omega) (by omega) _ _ hP hD hS ls (lv_sub hl [2, 3, 1, 0] rfl)
      refine lv_iload hx hb d_Mod_knownAt_6 (lv_at hl 3 rfl) ?_
      refine lv_aload_n hx hb d_Mod_knownAt_8 rfl (lv_at hl 0 rfl) ?_
      refine z_get C hP ho q_Mod 9 (by decide) k_737 (fun _ h9 => h9) rfl d_Mod_knownAt_9 ?_
      refine lv_icmp_ge (tgt := 41) hx hb d_Mod_knownAt_12 (by decide) (fun c_12 => ?_) (fun c_12 => ?_)
      · skip
        have c_12 : nk ≤ k := (nI_leI (a := nk) (b := k) (by omega) (by omega)).mp c_12
        refine lv_iload_n hx hb d_Mod_knownAt_41 rfl (lv_at hl 2 rfl) ?_
        exact z_iret C hr hlk hP hD hS (by omega) (by omega) ⟨by rw [show nk = k by omega], rfl⟩ d_Mod_knownAt_42
      · skip
        have c_12 : ¬ nk ≤ k := fun q9 => c_12 ((nI_leI (a := nk) (b := k) (by omega) (by omega)).mpr q9)
        refine lv_aload_n hx hb d_Mod_knownAt_15 rfl (lv_at hl 0 rfl) ?_
        refine z_get C hP ho q_Mod 10 (by decide) k_738 (fun _ h9 => h9) rfl d_Mod_knownAt_16 ?_
        refine lv_iload hx hb d_Mod_knownAt_19 (lv_at hl 3 rfl) ?_
        refine z_iald C hP hkn k (by omega) (by omega) d_Mod_knownAt_21 ?_
        refine z_topi (y := nI (kn k)) rfl ?_
        have b0 := v2 k (by omega)
        refine lv_i2l (v := lN (kn k)) hx hb d_Mod_knownAt_22 (nI_l (by omega)) ?_
        refine lv_lload_n hx hb d_Mod_knownAt_23 rfl (lv_at hl 1 rfl) ?_
        refine W.lcmp hx hb d_Mod_knownAt_24 ?_
        refine lv_if_ne (tgt := 33) hx hb d_Mod_knownAt_25 (by decide) (fun c_25 => ?_) (fun c_25 => ?_)
        · skip
          have c_25 : ¬ ((kn k) : Int) = z := fun q9 => c_25 (((zc_eq).trans (zj_eq (a := ((kn k) : Int)) (b := z) (lN_lI _) rfl (by omega) (by omega) (by omega) (by omega))).mpr q9)
          refine lv_iload_n hx hb d_Mod_knownAt_33 rfl (lv_at hl 2 rfl) ?_
          refine z_topi (y := iI (lastE (ofK kn z) (k + 1))) (by rw [lastE_f (fun q9 => c_25 (of_decide_eq_true q9))]) ?_
          exact L_34 (by omega) _ _ hP hD hS ls (lv_sub hl [0, 1, 3] rfl)
        · skip
          have c_25 : ((kn k) : Int) = z := ((zc_eq).trans (zj_eq (a := ((kn k) : Int)) (b := z) (lN_lI _) rfl (by omega) (by omega) (by omega) (by omega))).mp c_25
          refine lv_iload hx hb d_Mod_knownAt_28 (lv_at hl 3 rfl) ?_
          refine lv_goto (tgt := 34) hx hb d_Mod_knownAt_30 (by decide) ?_
          refine z_topi (y := iI (lastE (ofK kn z) (k + 1))) (by rw [lastE_t (decide_eq_true c_25), nI_iI]) ?_
          exact L_34 (by omega) _ _ hP hD hS ls (lv_sub hl [0, 1, 3] rfl)
  refine lv_bipush (v := iI (-2)) hx hb d_Mod_knownAt_0 (by decide) ?_
  refine lv_istore_n (lv' := [(3, .int (iI (-2))), (0, .ref o), (1, .long (lI z))]) hx hb d_Mod_knownAt_2 rfl hl (by decide) rfl (fun ls hl => ?_)
  refine lv_iconst (v := nI 0) hx hb d_Mod_knownAt_3 (by decide) ?_
  refine lv_istore (lv' := [(4, .int (nI 0)), (3, .int (iI (-2))), (0, .ref o), (1, .long (lI z))]) hx hb d_Mod_knownAt_4 hl (by decide) rfl (fun ls hl => ?_)
  exact L_6 _ 0 (Nat.zero_le _) (Nat.lt_succ_self _) _ _ hP hD hS ls (lv_sub hl [2, 3, 1, 0] rfl)
set_option maxHeartbeats 4000000 in
set_option maxRecDepth 100000 in
theorem c_Mod_isName (l : Launch) (g : zT) (T : va_W) (o ts ta ne ans anm anu asa apl akd nk akn aks akp akk bg sz hd alg ni aip aix aiz aim aod av hv lf sn pv : Nat) (ho : (o, zo 11 [.int (nI ts), .ref ta, .int (nI ne), .ref ans, .ref anm, .ref anu, .ref asa, .ref apl, .ref akd, .int (nI nk), .ref akn, .ref aks, .ref akp, .ref akk, .int (nI bg), .int (nI sz), .int (nI hd), .ref alg, .int (nI ni), .ref aip, .ref aix, .ref aiz, .ref aim, .ref aod, .int (nI av), .int (nI hv), .int (nI lf), .int (nI sn), .int (nI pv)]) ∈ T) (tb : Nat → UInt8) (hta : (ta, zIn g 300 (nB tb)) ∈ T) (n0 : Nat) (v1 : n0 ≤ 300) : Met l y_Mod_isName (zw y_Mod_isName b_Mod_isName 5 (some .boolean)) (zR 0 0 0 0) (zP g [.ref o, .int (nI n0)] (T)) (zQi g (fun r w => r = bI (isNm (zl tb 0 n0)) ∧ w = T)) 0 0 (zA g) := by
  refine zMet (by decide) (Nat.le_of_ble_eq_true rfl) ?_
  intro p e s m below meth c ls C hr hlk hnm hP hD hl
  have hx := C.1.1
  have hb := C.1.2.1
  have hS : va_S (zA g) s.heap s.heap [] := va_S.rf
  have hl : lv_has ls 5 [(0, .ref o), (1, .int (nI n0))] := hl
  have L_63 : ∀ (nu : Nat) (k : Nat) (b : Bool) (_ : k ≤ n0) (_ : b = true ↔ nmQ tb 0 n0 ∧ okc tb 0 k) (_ : n0 - k < nu) (H : Heap) (locs : List Loc), va_P g.1 classes (T) H → va_D (zA g) (T) → va_S (zA g) s.heap H locs → ∀ ls : Array Slot, lv_has ls 5 [(0, .ref o), (1, .int (nI n0)), (3, .int (bI b)), (4, .int (nI k))] → W p l e (zR 0 0 0 0) s m [.ref o, .int (nI n0)].toArray below meth c H locs 0 0 (MQ below (zQi g (fun r w => r = bI (isNm (zl tb 0 n0)) ∧ w = T)) [.ref o, .int (nI n0)].toArray s 0 0 (zA g)) (F0 m 63 ls []) := by
    intro nu
    induction nu with
    | zero => intros; omega
    | succ nu ih =>
      intro k b g3 g4 hmu H locs hP hD hS ls hl
      have L_100 : ∀ (b2 : Bool) (_ : k < n0) (_ : b = true) (_ : b2 = true ↔ (tb k).toNat ≠ 0 ∧ (tb k).toNat ≠ 47) (H : Heap) (locs : List Loc), va_P g.1 classes (T) H → va_D (zA g) (T) → va_S (zA g) s.heap H locs → ∀ ls : Array Slot, lv_has ls 5 [(0, .ref o), (1, .int (nI n0)), (4, .int (nI k))] → W p l e (zR 0 0 0 0) s m [.ref o, .int (nI n0)].toArray below meth c H locs 0 0 (MQ below (zQi g (fun r w => r = bI (isNm (zl tb 0 n0)) ∧ w = T)) [.ref o, .int (nI n0)].toArray s 0 0 (zA g)) (F0 m 100 ls [.int (bI b2)]) := by
        intro b2 g7 c_70 g5 H locs hP hD hS ls hl
        refine lv_istore_n (lv' := [(3, .int (bI b2)), (0, .ref o), (1, .int (nI n0)), (4, .int (nI k))]) hx hb d_Mod_isName_100 rfl hl (by decide) rfl (fun ls hl => ?_)
        refine lv_iinc (v := nI (k + 1)) (lv' := [(4, .int (nI (k + 1))), (3, .int (bI b2)), (0, .ref o), (1, .int (nI n0))]) hx hb d_Mod_isName_101 hl (k := 3) rfl (by rw [show Int32.ofInt 1 = nI 1 by decide]; exact nI_add _ _) (by decide) rfl (fun ls hl => ?_)
        refine lv_goto (tgt := 63) hx hb d_Mod_isName_104 (by decide) ?_
        exact ih (k + 1) b2 (by omega) (by rw [g5, okc_s, Nat.zero_add]; have g6 := g4.mp c_70; exact ⟨fun q9 => ⟨g6.1, g6.2, q9⟩, fun q9 => q9.2.2⟩) (by omega) _ _ hP hD hS ls (lv_sub hl [2, 3, 1, 0] rfl)
      refine lv_iload hx hb d_Mod_isName_63 (lv_at hl 3 rfl) ?_
      refine lv_iload_n hx hb d_Mod_isName_65 rfl (lv_at hl 1 rfl) ?_
      refine lv_icmp_ge (tgt := 107) hx hb d_Mod_isName_66 (by decide) (fun c_66 => ?_) (fun c_66 => ?_)
      · skip
        have c_66 : n0 ≤ k := (nI_leI (a := n0) (b := k) (by omega) (by omega)).mp c_66
        refine lv_iload_n hx hb d_Mod_isName_107 rfl (lv_at hl 2 rfl) ?_
        exact z_zret C hr hlk hP hD hS (by omega) (by omega) (bI_or b) ⟨by rw [b_eq g4 (show isNm (zl tb 0 n0) = true ↔ _ by rw [isNm_iff, show n0 = k by omega])], rfl⟩ d_Mod_isName_108
      · skip
        have c_66 : ¬ n0 ≤ k := fun q9 => c_66 ((nI_leI (a := n0) (b := k) (by omega) (by omega)).mpr q9)
        refine lv_iload_n hx hb d_Mod_isName_69 rfl (lv_at hl 2 rfl) ?_
        refine lv_if_eq (tgt := 107) hx hb d_Mod_isName_70 (by decide) (fun c_70 => ?_) (fun c_70 => ?_)
        · skip
          have c_70 := bI_eq.mp c_70
          refine lv_iload_n hx hb d_Mod_isName_107 rfl (lv_at hl 2 rfl) ?_
          exact z_zret C hr hlk hP hD hS (by omega) (by omega) (bI_or b) ⟨by rw [c_70, show isNm (zl tb 0 n0) = false by
                        rw [Bool.eq_false_iff]
                        intro q9
                        obtain ⟨q1, q2⟩ := isNm_iff.mp q9
                        have := g4.mpr ⟨q1, okc_le q2 g3⟩
                        rw [c_70] at this
                        cases this], rfl⟩ d_Mod_isName_108
        · skip
          have c_70 := bI_ne.mp c_70
          refine lv_aload_n hx hb d_Mod_isName_73 rfl (lv_at hl 0 rfl) ?_
          refine z_get C hP ho q_Mod 1 (by decide) k_729 (fun _ h9 => h9) rfl d_Mod_isName_74 ?_
          refine lv_iload hx hb d_Mod_isName_77 (lv_at hl 3 rfl) ?_
          refine z_iald C hP hta k (by omega) (by omega) d_Mod_isName_79 ?_
          refine z_topi (y := nI ((tb k).toNat)) rfl ?_
          have b2 := u8_lt (tb k)
          refine lv_if_eq (tgt := 99) hx hb d_Mod_isName_80 (by decide) (fun c_80 => ?_) (fun c_80 => ?_)
          · skip
            have c_80 : ((tb k).toNat) = 0 := (nI_eq (a := (tb k).toNat) (b := 0) (by omega) (by decide)).mp c_80
            refine lv_iconst (v := nI 0) hx hb d_Mod_isName_99 (by decide) ?_
            refine z_topi (y := bI false) rfl ?_
            exact L_100 false (by omega) c_70 ⟨(fun q9 => nomatch q9), fun q9 => absurd q9 (by omega)⟩ _ _ hP hD hS ls (lv_sub hl [0, 1, 3] rfl)
          · skip
            have c_80 : ¬ ((tb k).toNat) = 0 := fun q9 => c_80 ((nI_eq (a := (tb k).toNat) (b := 0) (by omega) (by decide)).mpr q9)
            refine lv_aload_n hx hb d_Mod_isName_83 rfl (lv_at hl 0 rfl) ?_
            refine z_get C hP ho q_Mod 1 (by decide) k_729 (fun _ h9 => h9) rfl d_Mod_isName_84 ?_
            refine lv_iload hx hb d_Mod_isName_87 (lv_at hl 3 rfl) ?_
            refine z_iald C hP hta k (by omega) (by omega) d_Mod_isName_89 ?_
            refine z_topi (y := nI ((tb k).toNat)) rfl ?_
            refine lv_bipush (v := nI 47) hx hb d_Mod_isName_90 (by decide) ?_
            have b2 := u8_lt (tb k)
            refine lv_icmp_eq (tgt := 99) hx hb d_Mod_isName_92 (by decide) (fun c_92 => ?_) (fun c_92 => ?_)
            · skip
              have c_92 : ((tb k).toNat) = 47 := (nI_eq (a := (tb k).toNat) (b := 47) (by omega) (by decide)).mp c_92
              refine lv_iconst (v := nI 0) hx hb d_Mod_isName_99 (by decide) ?_
              refine z_topi (y := bI false) rfl ?_
              exact L_100 false (by omega) c_70 ⟨(fun q9 => nomatch q9), fun q9 => absurd q9 (by omega)⟩ _ _ hP hD hS ls (lv_sub hl [0, 1, 3] rfl)
            · skip
              have c_92 : ¬ ((tb k).toNat) = 47 := fun q9 => c_92 ((nI_eq (a := (tb k).toNat) (b := 47) (by omega) (by decide)).mpr q9)
              refine lv_iconst (v := nI 1) hx hb d_Mod_isName_95 (by decide) ?_
              refine lv_goto (tgt := 100) hx hb d_Mod_isName_96 (by decide) ?_
              refine z_topi (y := bI true) rfl ?_
              exact L_100 true (by omega) c_70 ⟨fun _ => by omega, fun _ => rfl⟩ _ _ hP hD hS ls (lv_sub hl [0, 1, 3] rfl)
  have L_59 : ∀ (b : Bool) (_ : b = true ↔ nmQ tb 0 n0) (H : Heap) (locs : List Loc), va_P g.1 classes (T) H → va_D (zA g) (T) → va_S (zA g) s.heap H locs → ∀ ls : Array Slot, lv_has ls 5 [(0, .ref o), (1, .int (nI n0))] → W p l e (zR 0 0 0 0) s m [.ref o, .int (nI n0)].toArray below meth c H locs 0 0 (MQ below (zQi g (fun r w => r = bI (isNm (zl tb 0 n0)) ∧ w = T)) [.ref o, .int (nI n0)].toArray s 0 0 (zA g)) (F0 m 59 ls [.int (bI b)]) := by
    intro b g2 H locs hP hD hS ls hl
    refine lv_istore_n (lv' := [(3, .int (bI b)), (0, .ref o), (1, .int (nI n0))]) hx hb d_Mod_isName_59 rfl hl (by decide) rfl (fun ls hl => ?_)
    refine lv_iconst (v := nI 0) hx hb d_Mod_isName_60 (by decide) ?_
    refine lv_istore (lv' := [(4, .int (nI 0)), (3, .int (bI b)), (0, .ref o), (1, .int (nI n0))]) hx hb d_Mod_isName_61 hl (by decide) rfl (fun ls hl => ?_)
    exact L_63 _ 0 b (Nat.zero_le _) ⟨fun q9 => ⟨g2.mp q9, okc_0⟩, fun q9 => g2.mpr q9.1⟩ (Nat.lt_succ_self _) _ _ hP hD hS ls (lv_sub hl [2, 3, 1, 0] rfl)
  have L_38 : ∀ (dt : Bool) (_ : dt = true ↔ (n0 < 3 ∧ 1 ≤ n0 ∧ (tb 0).toNat = 46 ∧ (tb (n0 - 1)).toNat = 46)) (H : Heap) (locs : List Loc), va_P g.1 classes (T) H → va_D (zA g) (T) → va_S (zA g) s.heap H locs → ∀ ls : Array Slot, lv_has ls 5 [(0, .ref o), (1, .int (nI n0))] → W p l e (zR 0 0 0 0) s m [.ref o, .int (nI n0)].toArray below meth c H locs 0 0 (MQ below (zQi g (fun r w => r = bI (isNm (zl tb 0 n0)) ∧ w = T)) [.ref o, .int (nI n0)].toArray s 0 0 (zA g)) (F0 m 38 ls [.int (bI dt)]) := by
    intro dt g1 H locs hP hD hS ls hl
    refine lv_istore_n (lv' := [(2, .int (bI dt)), (0, .ref o), (1, .int (nI n0))]) hx hb d_Mod_isName_38 rfl hl (by decide) rfl (fun ls hl => ?_)
    refine lv_iload_n hx hb d_Mod_isName_39 rfl (lv_at hl 2 rfl) ?_
    refine lv_if_le (tgt := 58) hx hb d_Mod_isName_40 (by decide) (fun c_40 => ?_) (fun c_40 => ?_)
    · skip
      have c_40 : n0 ≤ 0 := (nI_leI (a := n0) (b := 0) (by omega) (by decide)).mp c_40
      refine lv_iconst (v := nI 0) hx hb d_Mod_isName_58 (by decide) ?_
      refine z_topi (y := bI false) rfl ?_
      exact L_59 false ⟨(fun q9 => nomatch q9), fun q9 => absurd q9 (fun q9 => absurd q9.1 (by omega))⟩ _ _ hP hD hS ls (lv_sub hl [1, 2] rfl)
    · skip
      have c_40 : ¬ n0 ≤ 0 := fun q9 => c_40 ((nI_leI (a := n0) (b := 0) (by omega) (by decide)).mpr q9)
      refine lv_iload_n hx hb d_Mod_isName_43 rfl (lv_at hl 2 rfl) ?_
      refine lv_sipush (v := nI 256) hx hb d_Mod_isName_44 (by decide) ?_
      refine lv_icmp_gt (tgt := 58) hx hb d_Mod_isName_47 (by decide) (fun c_47 => ?_) (fun c_47 => ?_)
      · skip
        have c_47 : 256 < n0 := (nI_ltI (a := 256) (b := n0) (by decide) (by omega)).mp c_47
        refine lv_iconst (v := nI 0) hx hb d_Mod_isName_58 (by decide) ?_
        refine z_topi (y := bI false) rfl ?_
        exact L_59 false ⟨(fun q9 => nomatch q9), fun q9 => absurd q9 (fun q9 => absurd q9.2.1 (by omega))⟩ _ _ hP hD hS ls (lv_sub hl [1, 2] rfl)
      · skip
        have c_47 : ¬ 256 < n0 := fun q9 => c_47 ((nI_ltI (a := 256) (b := n0) (by decide) (by omega)).mpr q9)
        refine lv_iload_n hx hb d_Mod_isName_50 rfl (lv_at hl 0 rfl) ?_
        refine lv_if_ne (tgt := 58) hx hb d_Mod_isName_51 (by decide) (fun c_51 => ?_) (fun c_51 => ?_)
        · skip
          have c_51 := bI_ne.mp c_51
          refine lv_iconst (v := nI 0) hx hb d_Mod_isName_58 (by decide) ?_
          refine z_topi (y := bI false) rfl ?_
          exact L_59 false ⟨(fun q9 => nomatch q9), fun q9 => absurd q9 (fun q9 => q9.2.2 ⟨(g1.mp c_51).1, (g1.mp c_51).2.2.1, by rw [Nat.zero_add]; exact (g1.mp c_51).2.2.2⟩)⟩ _ _ hP hD hS ls (lv_sub hl [1, 2] rfl)
        · skip
          have c_51 := bI_eq.mp c_51
          refine lv_iconst (v := nI 1) hx hb d_Mod_isName_54 (by decide) ?_
          refine lv_goto (tgt := 59) hx hb d_Mod_isName_55 (by decide) ?_
          refine z_topi (y := bI true) rfl ?_
          exact L_59 true ⟨fun _ => ⟨by omega, by omega, fun q9 => absurd (g1.mpr ⟨q9.1, by omega, q9.2.1, by rw [← Nat.zero_add (n0 - 1)]; exact q9.2.2⟩) (by rw [c_51]; decide)⟩, fun _ => rfl⟩ _ _ hP hD hS ls (lv_sub hl [1, 2] rfl)
  refine lv_iload_n hx hb d_Mod_isName_0 rfl (lv_at hl 1 rfl) ?_
  refine lv_if_le (tgt := 37) hx hb d_Mod_isName_1 (by decide) (fun c_1 => ?_) (fun c_1 => ?_)
  · skip
    have c_1 : n0 ≤ 0 := (nI_leI (a := n0) (b := 0) (by omega) (by decide)).mp c_1
    refine lv_iconst (v := nI 0) hx hb d_Mod_isName_37 (by decide) ?_
    refine z_topi (y := bI false) rfl ?_
    exact L_38 false ⟨(fun q9 => nomatch q9), fun q9 => absurd q9 (by omega)⟩ _ _ hP hD hS ls (lv_sub hl [0, 1] rfl)
  · skip
    have c_1 : ¬ n0 ≤ 0 := fun q9 => c_1 ((nI_leI (a := n0) (b := 0) (by omega) (by decide)).mpr q9)
    refine lv_iload_n hx hb d_Mod_isName_4 rfl (lv_at hl 1 rfl) ?_
    refine lv_iconst (v := nI 3) hx hb d_Mod_isName_5 (by decide) ?_
    refine lv_icmp_ge (tgt := 37) hx hb d_Mod_isName_6 (by decide) (fun c_6 => ?_) (fun c_6 => ?_)
    · skip
      have c_6 : 3 ≤ n0 := (nI_leI (a := 3) (b := n0) (by decide) (by omega)).mp c_6
      refine lv_iconst (v := nI 0) hx hb d_Mod_isName_37 (by decide) ?_
      refine z_topi (y := bI false) rfl ?_
      exact L_38 false ⟨(fun q9 => nomatch q9), fun q9 => absurd q9 (by omega)⟩ _ _ hP hD hS ls (lv_sub hl [0, 1] rfl)
    · skip
      have c_6 : ¬ 3 ≤ n0 := fun q9 => c_6 ((nI_leI (a := 3) (b := n0) (by decide) (by omega)).mpr q9)
      refine lv_aload_n hx hb d_Mod_isName_9 rfl (lv_at hl 0 rfl) ?_
      refine z_get C hP ho q_Mod 1 (by decide) k_729 (fun _ h9 => h9) rfl d_Mod_isName_10 ?_
      refine lv_iconst (v := nI 0) hx hb d_Mod_isName_13 (by decide) ?_
      refine z_iald C hP hta 0 (by omega) (by omega) d_Mod_isName_14 ?_
      refine z_topi (y := nI ((tb 0).toNat)) rfl ?_
      refine lv_bipush (v := nI 46) hx hb d_Mod_isName_15 (by decide) ?_
      have b0 := u8_lt (tb 0)
      refine lv_icmp_ne (tgt := 37) hx hb d_Mod_isName_17 (by decide) (fun c_17 => ?_) (fun c_17 => ?_)
      · skip
        have c_17 : ¬ ((tb 0).toNat) = 46 := fun q9 => c_17 ((nI_eq (a := (tb 0).toNat) (b := 46) (by omega) (by decide)).mpr q9)
        refine lv_iconst (v := nI 0) hx hb d_Mod_isName_37 (by decide) ?_
        refine z_topi (y := bI false) rfl ?_
        exact L_38 false ⟨(fun q9 => nomatch q9), fun q9 => absurd q9 (by omega)⟩ _ _ hP hD hS ls (lv_sub hl [0, 1] rfl)
      · skip
        have c_17 : ((tb 0).toNat) = 46 := (nI_eq (a := (tb 0).toNat) (b := 46) (by omega) (by decide)).mp c_17
        refine lv_aload_n hx hb d_Mod_isName_20 rfl (lv_at hl 0 rfl) ?_
        refine z_get C hP ho q_Mod 1 (by decide) k_729 (fun _ h9 => h9) rfl d_Mod_isName_21 ?_
        refine lv_iload_n hx hb d_Mod_isName_24 rfl (lv_at hl 1 rfl) ?_
        refine lv_iconst (v := nI 1) hx hb d_Mod_isName_25 (by decide) ?_
        refine z_isub (v := nI (n0 - 1)) C d_Mod_isName_26 (pk_sub (by omega)) ?_
        refine z_iald C hP hta (n0 - 1) (by omega) (by omega) d_Mod_isName_27 ?_
        refine z_topi (y := nI ((tb (n0 - 1)).toNat)) rfl ?_
        refine lv_bipush (v := nI 46) hx hb d_Mod_isName_28 (by decide) ?_
        have b1 := u8_lt (tb (n0 - 1))
        refine lv_icmp_ne (tgt := 37) hx hb d_Mod_isName_30 (by decide) (fun c_30 => ?_) (fun c_30 => ?_)
        · skip
          have c_30 : ¬ ((tb (n0 - 1)).toNat) = 46 := fun q9 => c_30 ((nI_eq (a := (tb (n0 - 1)).toNat) (b := 46) (by omega) (by decide)).mpr q9)
          refine lv_iconst (v := nI 0) hx hb d_Mod_isName_37 (by decide) ?_
          refine z_topi (y := bI false) rfl ?_
          exact L_38 false ⟨(fun q9 => nomatch q9), fun q9 => absurd q9 (by omega)⟩ _ _ hP hD hS ls (lv_sub hl [0, 1] rfl)
        · skip
          have c_30 : ((tb (n0 - 1)).toNat) = 46 := (nI_eq (a := (tb (n0 - 1)).toNat) (b := 46) (by omega) (by decide)).mp c_30
          refine lv_iconst (v := nI 1) hx hb d_Mod_isName_33 (by decide) ?_
          refine lv_goto (tgt := 38) hx hb d_Mod_isName_34 (by decide) ?_
          refine z_topi (y := bI true) rfl ?_
          exact L_38 true ⟨fun _ => by omega, fun _ => rfl⟩ _ _ hP hD hS ls (lv_sub hl [0, 1] rfl)
set_option maxHeartbeats 4000000 in
set_option maxRecDepth 100000 in
theorem c_Mod_isBefore (l : Launch) (g : zT) (T : va_W) (o ts ta ne ans anm anu asa apl akd nk akn aks akp akk bg sz hd alg ni aip aix aiz aim aod av hv lf sn pv : Nat) (ho : (o, zo 11 [.int (nI ts), .ref ta, .int (nI ne), .ref ans, .ref anm, .ref anu, .ref asa, .ref apl, .ref akd, .int (nI nk), .ref akn, .ref aks, .ref akp, .ref akk, .int (nI bg), .int (nI sz), .int (nI hd), .ref alg, .int (nI ni), .ref aip, .ref aix, .ref aiz, .ref aim, .ref aod, .int (nI av), .int (nI hv), .int (nI lf), .int (nI sn), .int (nI pv)]) ∈ T) (nsz : Nat → Nat) (hns : (ans, zIn g 600 (nN nsz)) ∈ T) (nmb : Nat → UInt8) (hnb : (anm, zBy g 153600 nmb) ∈ T) (e0 e1 : Nat) (v1 : e0 < 600) (v2 : e1 < 600) (v3 : nsz e0 ≤ 256) (v4 : nsz e1 ≤ 256) : Met l y_Mod_isBefore (zw y_Mod_isBefore b_Mod_isBefore 4 (some .boolean)) (zR 1 22 0 0) (zP g [.ref o, .int (nI e0), .int (nI e1)] (T)) (zQi g (fun r w => r = bI (decide (cmpB (nmE nmb nsz e0) (nmE nmb nsz e1) < 0)) ∧ w = T)) 0 0 (zA g) := by
  refine zMet (by decide) (Nat.le_of_ble_eq_true rfl) ?_
  intro p e s m below meth c ls C hr hlk hnm hP hD hl
  have hx := C.1.1
  have hb := C.1.2.1
  have hS : va_S (zA g) s.heap s.heap [] := va_S.rf
  have hl : lv_has ls 4 [(0, .ref o), (1, .int (nI e0)), (2, .int (nI e1))] := hl
  have L_2 : ∀ (nu : Nat) (i : Nat) (_ : i ≤ nsz e0) (_ : i ≤ nsz e1) (_ : cmpB (zl nmb (256 * e0 + i) (nsz e0 - i)) (zl nmb (256 * e1 + i) (nsz e1 - i)) = cmpB (nmE nmb nsz e0) (nmE nmb nsz e1)) (_ : nsz e0 - i < nu) (H : Heap) (locs : List Loc), va_P g.1 classes (T) H → va_D (zA g) (T) → va_S (zA g) s.heap H locs → ∀ ls : Array Slot, lv_has ls 4 [(0, .ref o), (1, .int (nI e0)), (2, .int (nI e1)), (3, .int (nI i))] → W p l e (zR 1 22 0 0) s m [.ref o, .int (nI e0), .int (nI e1)].toArray below meth c H locs 0 0 (MQ below (zQi g (fun r w => r = bI (decide (cmpB (nmE nmb nsz e0) (nmE nmb nsz e1) < 0)) ∧ w = T)) [.ref o, .int (nI e0), .int (nI e1)].toArray s 0 0 (zA g)) (F0 m 2 ls []) := by
    intro nu
    induction nu with
    | zero => intros; omega
    | succ nu ih =>
      intro i g1 g2 hI hmu H locs hP hD hS ls hl
      refine lv_iload_n hx hb d_Mod_isBefore_2 rfl (lv_at hl 3 rfl) ?_
      refine lv_aload_n hx hb d_Mod_isBefore_3 rfl (lv_at hl 0 rfl) ?_
      refine z_get C hP ho q_Mod 3 (by decide) k_731 (fun _ h9 => h9) rfl d_Mod_isBefore_4 ?_
      refine lv_iload_n hx hb d_Mod_isBefore_7 rfl (lv_at hl 1 rfl) ?_
      refine z_iald C hP hns e0 (by omega) (by omega) d_Mod_isBefore_8 ?_
      refine z_topi (y := nI (nsz e0)) rfl ?_
      refine lv_icmp_ge (tgt := 64) hx hb d_Mod_isBefore_9 (by decide) (fun c_9 => ?_) (fun c_9 => ?_)
      · skip
        have c_9 : (nsz e0) ≤ i := (nI_leI (a := nsz e0) (b := i) (by omega) (by omega)).mp c_9
        refine lv_aload_n hx hb d_Mod_isBefore_64 rfl (lv_at hl 0 rfl) ?_
        refine z_get C hP ho q_Mod 3 (by decide) k_731 (fun _ h9 => h9) rfl d_Mod_isBefore_65 ?_
        refine lv_iload_n hx hb d_Mod_isBefore_68 rfl (lv_at hl 1 rfl) ?_
        refine z_iald C hP hns e0 (by omega) (by omega) d_Mod_isBefore_69 ?_
        refine z_topi (y := nI (nsz e0)) rfl ?_
        refine lv_aload_n hx hb d_Mod_isBefore_70 rfl (lv_at hl 0 rfl) ?_
        refine z_get C hP ho q_Mod 3 (by decide) k_731 (fun _ h9 => h9) rfl d_Mod_isBefore_71 ?_
        refine lv_iload_n hx hb d_Mod_isBefore_74 rfl (lv_at hl 2 rfl) ?_
        refine z_iald C hP hns e1 (by omega) (by omega) d_Mod_isBefore_75 ?_
        refine z_topi (y := nI (nsz e1)) rfl ?_
        refine lv_icmp_ge (tgt := 83) hx hb d_Mod_isBefore_76 (by decide) (fun c_76 => ?_) (fun c_76 => ?_)
        · skip
          have c_76 : (nsz e1) ≤ (nsz e0) := (nI_leI (a := nsz e1) (b := nsz e0) (by omega) (by omega)).mp c_76
          refine lv_iconst (v := nI 0) hx hb d_Mod_isBefore_83 (by decide) ?_
          exact z_zret C hr hlk hP hD hS (by omega) (by omega) (by first | exact Or.inl rfl | exact Or.inr rfl) ⟨by rw [← hI, cmpB_end (by omega)]; first | exact bI_t (decide_eq_true (by omega)) | exact bI_f (decide_eq_false (by omega)), rfl⟩ d_Mod_isBefore_84
        · skip
          have c_76 : ¬ (nsz e1) ≤ (nsz e0) := fun q9 => c_76 ((nI_leI (a := nsz e1) (b := nsz e0) (by omega) (by omega)).mpr q9)
          refine lv_iconst (v := nI 1) hx hb d_Mod_isBefore_79 (by decide) ?_
          refine lv_goto (tgt := 84) hx hb d_Mod_isBefore_80 (by decide) ?_
          exact z_zret C hr hlk hP hD hS (by omega) (by omega) (by first | exact Or.inl rfl | exact Or.inr rfl) ⟨by rw [← hI, cmpB_end (by omega)]; first | exact bI_t (decide_eq_true (by omega)) | exact bI_f (decide_eq_false (by omega)), rfl⟩ d_Mod_isBefore_84
      · skip
        have c_9 : ¬ (nsz e0) ≤ i := fun q9 => c_9 ((nI_leI (a := nsz e0) (b := i) (by omega) (by omega)).mpr q9)
        refine lv_iload_n hx hb d_Mod_isBefore_12 rfl (lv_at hl 3 rfl) ?_
        refine lv_aload_n hx hb d_Mod_isBefore_13 rfl (lv_at hl 0 rfl) ?_
        refine z_get C hP ho q_Mod 3 (by decide) k_731 (fun _ h9 => h9) rfl d_Mod_isBefore_14 ?_
        refine lv_iload_n hx hb d_Mod_isBefore_17 rfl (lv_at hl 2 rfl) ?_
        refine z_iald C hP hns e1 (by omega) (by omega) d_Mod_isBefore_18 ?_
        refine z_topi (y := nI (nsz e1)) rfl ?_
        refine lv_icmp_ge (tgt := 64) hx hb d_Mod_isBefore_19 (by decide) (fun c_19 => ?_) (fun c_19 => ?_)
        · skip
          have c_19 : (nsz e1) ≤ i := (nI_leI (a := nsz e1) (b := i) (by omega) (by omega)).mp c_19
          refine lv_aload_n hx hb d_Mod_isBefore_64 rfl (lv_at hl 0 rfl) ?_
          refine z_get C hP ho q_Mod 3 (by decide) k_731 (fun _ h9 => h9) rfl d_Mod_isBefore_65 ?_
          refine lv_iload_n hx hb d_Mod_isBefore_68 rfl (lv_at hl 1 rfl) ?_
          refine z_iald C hP hns e0 (by omega) (by omega) d_Mod_isBefore_69 ?_
          refine z_topi (y := nI (nsz e0)) rfl ?_
          refine lv_aload_n hx hb d_Mod_isBefore_70 rfl (lv_at hl 0 rfl) ?_
          refine z_get C hP ho q_Mod 3 (by decide) k_731 (fun _ h9 => h9) rfl d_Mod_isBefore_71 ?_
          refine lv_iload_n hx hb d_Mod_isBefore_74 rfl (lv_at hl 2 rfl) ?_
          refine z_iald C hP hns e1 (by omega) (by omega) d_Mod_isBefore_75 ?_
          refine z_topi (y := nI (nsz e1)) rfl ?_
          refine lv_icmp_ge (tgt := 83) hx hb d_Mod_isBefore_76 (by decide) (fun c_76 => ?_) (fun c_76 => ?_)
          · skip
            have c_76 : (nsz e1) ≤ (nsz e0) := (nI_leI (a := nsz e1) (b := nsz e0) (by omega) (by omega)).mp c_76
            refine lv_iconst (v := nI 0) hx hb d_Mod_isBefore_83 (by decide) ?_
            exact z_zret C hr hlk hP hD hS (by omega) (by omega) (by first | exact Or.inl rfl | exact Or.inr rfl) ⟨by rw [← hI, cmpB_end (by omega)]; first | exact bI_t (decide_eq_true (by omega)) | exact bI_f (decide_eq_false (by omega)), rfl⟩ d_Mod_isBefore_84
          · skip
            have c_76 : ¬ (nsz e1) ≤ (nsz e0) := fun q9 => c_76 ((nI_leI (a := nsz e1) (b := nsz e0) (by omega) (by omega)).mpr q9)
            refine lv_iconst (v := nI 1) hx hb d_Mod_isBefore_79 (by decide) ?_
            refine lv_goto (tgt := 84) hx hb d_Mod_isBefore_80 (by decide) ?_
            exact z_zret C hr hlk hP hD hS (by omega) (by omega) (by first | exact Or.inl rfl | exact Or.inr rfl) ⟨by rw [← hI, cmpB_end (by omega)]; first | exact bI_t (decide_eq_true (by omega)) | exact bI_f (decide_eq_false (by omega)), rfl⟩ d_Mod_isBefore_84
        · skip
          have c_19 : ¬ (nsz e1) ≤ i := fun q9 => c_19 ((nI_leI (a := nsz e1) (b := i) (by omega) (by omega)).mpr q9)
          refine lv_aload_n hx hb d_Mod_isBefore_22 rfl (lv_at hl 0 rfl) ?_
          refine lv_iload_n hx hb d_Mod_isBefore_23 rfl (lv_at hl 1 rfl) ?_
          refine lv_iload_n hx hb d_Mod_isBefore_24 rfl (lv_at hl 3 rfl) ?_
          refine z_ki (z_runV (np := 2) C (c_Mod_nameByte l g T o ts ta ne ans anm anu asa apl akd nk akn aks akp akk bg sz hd alg ni aip aix aiz aim aod av hv lf sn pv ho nmb hnb (e0) (i) (by omega) (by omega)) hP hD hS ho (show classes[11]? = some (R_Mod, F_Mod, 29) from rfl) k_846 k_12 k_843 k_845 ks_Mod_nameByte ⟨by decide, by decide, by decide⟩ ⟨Nat.le_of_ble_eq_true rfl, Nat.le_of_ble_eq_true rfl⟩ rfl hl.1 rfl (Nat.le_of_ble_eq_true rfl) d_Mod_isBefore_25 ⟨by show _ ≤ 0; omega, by show _ ≤ 0; omega⟩) hS (fun r_25 w H locs hw hP hD hS => ?_)
          obtain ⟨rfl, hw⟩ := hw
          rw [hw] at hP hD
          refine lv_aload_n hx hb d_Mod_isBefore_28 rfl (lv_at hl 0 rfl) ?_
          refine lv_iload_n hx hb d_Mod_isBefore_29 rfl (lv_at hl 2 rfl) ?_
          refine lv_iload_n hx hb d_Mod_isBefore_30 rfl (lv_at hl 3 rfl) ?_
          refine z_ki (z_runV (np := 2) C (c_Mod_nameByte l g T o ts ta ne ans anm anu asa apl akd nk akn aks akp akk bg sz hd alg ni aip aix aiz aim aod av hv lf sn pv ho nmb hnb (e1) (i) (by omega) (by omega)) hP hD hS ho (show classes[11]? = some (R_Mod, F_Mod, 29) from rfl) k_846 k_12 k_843 k_845 ks_Mod_nameByte ⟨by decide, by decide, by decide⟩ ⟨Nat.le_of_ble_eq_true rfl, Nat.le_of_ble_eq_true rfl⟩ rfl hl.1 rfl (Nat.le_of_ble_eq_true rfl) d_Mod_isBefore_31 ⟨by show _ ≤ 0; omega, by show _ ≤ 0; omega⟩) hS (fun r_31 w H locs hw hP hD hS => ?_)
          obtain ⟨rfl, hw⟩ := hw
          rw [hw] at hP hD
          have b0 := u8_lt (nmb (256 * e0 + i))
          have b1 := u8_lt (nmb (256 * e1 + i))
          refine lv_icmp_eq (tgt := 58) hx hb d_Mod_isBefore_34 (by decide) (fun c_34 => ?_) (fun c_34 => ?_)
          · skip
            have c_34 : ((nmb (256 * e0 + i)).toNat) = ((nmb (256 * e1 + i)).toNat) := (nI_eq (a := (nmb (256 * e0 + i)).toNat) (b := (nmb (256 * e1 + i)).toNat) (by omega) (by omega)).mp c_34
            refine lv_iinc (v := nI (i + 1)) (lv' := [(3, .int (nI (i + 1))), (0, .ref o), (1, .int (nI e0)), (2, .int (nI e1))]) hx hb d_Mod_isBefore_58 hl (k := 3) rfl (by rw [show Int32.ofInt 1 = nI 1 by decide]; exact nI_add _ _) (by decide) rfl (fun ls hl => ?_)
            refine lv_goto (tgt := 2) hx hb d_Mod_isBefore_61 (by decide) ?_
            exact ih (i + 1) (by omega) (by omega) (by rw [cmpB_at (by omega) (by omega), if_pos (u8_eq.mpr c_34)] at hI; exact hI) (by omega) _ _ hP hD hS ls (lv_sub hl [1, 2, 3, 0] rfl)
          · skip
            have c_34 : ¬ ((nmb (256 * e0 + i)).toNat) = ((nmb (256 * e1 + i)).toNat) := fun q9 => c_34 ((nI_eq (a := (nmb (256 * e0 + i)).toNat) (b := (nmb (256 * e1 + i)).toNat) (by omega) (by omega)).mpr q9)
            refine lv_aload_n hx hb d_Mod_isBefore_37 rfl (lv_at hl 0 rfl) ?_
            refine lv_iload_n hx hb d_Mod_isBefore_38 rfl (lv_at hl 1 rfl) ?_
            refine lv_iload_n hx hb d_Mod_isBefore_39 rfl (lv_at hl 3 rfl) ?_
            refine z_ki (z_runV (np := 2) C (c_Mod_nameByte l g T o ts ta ne ans anm anu asa apl akd nk akn aks akp akk bg sz hd alg ni aip aix aiz aim aod av hv lf sn pv ho nmb hnb (e0) (i) (by omega) (by omega)) hP hD hS ho (show classes[11]? = some (R_Mod, F_Mod, 29) from rfl) k_846 k_12 k_843 k_845 ks_Mod_nameByte ⟨by decide, by decide, by decide⟩ ⟨Nat.le_of_ble_eq_true rfl, Nat.le_of_ble_eq_true rfl⟩ rfl hl.1 rfl (Nat.le_of_ble_eq_true rfl) d_Mod_isBefore_40 ⟨by show _ ≤ 0; omega, by show _ ≤ 0; omega⟩) hS (fun r_40 w H locs hw hP hD hS => ?_)
            obtain ⟨rfl, hw⟩ := hw
            rw [hw] at hP hD
            refine lv_aload_n hx hb d_Mod_isBefore_43 rfl (lv_at hl 0 rfl) ?_
            refine lv_iload_n hx hb d_Mod_isBefore_44 rfl (lv_at hl 2 rfl) ?_
            refine lv_iload_n hx hb d_Mod_isBefore_45 rfl (lv_at hl 3 rfl) ?_
            refine z_ki (z_runV (np := 2) C (c_Mod_nameByte l g T o ts ta ne ans anm anu asa apl akd nk akn aks akp akk bg sz hd alg ni aip aix aiz aim aod av hv lf sn pv ho nmb hnb (e1) (i) (by omega) (by omega)) hP hD hS ho (show classes[11]? = some (R_Mod, F_Mod, 29) from rfl) k_846 k_12 k_843 k_845 ks_Mod_nameByte ⟨by decide, by decide, by decide⟩ ⟨Nat.le_of_ble_eq_true rfl, Nat.le_of_ble_eq_true rfl⟩ rfl hl.1 rfl (Nat.le_of_ble_eq_true rfl) d_Mod_isBefore_46 ⟨by show _ ≤ 0; omega, by show _ ≤ 0; omega⟩) hS (fun r_46 w H locs hw hP hD hS => ?_)
            obtain ⟨rfl, hw⟩ := hw
            rw [hw] at hP hD
            refine lv_icmp_ge (tgt := 56) hx hb d_Mod_isBefore_49 (by decide) (fun c_49 => ?_) (fun c_49 => ?_)
            · skip
              have c_49 : ((nmb (256 * e1 + i)).toNat) ≤ ((nmb (256 * e0 + i)).toNat) := (nI_leI (a := (nmb (256 * e1 + i)).toNat) (b := (nmb (256 * e0 + i)).toNat) (by omega) (by omega)).mp c_49
              refine lv_iconst (v := nI 0) hx hb d_Mod_isBefore_56 (by decide) ?_
              exact z_zret C hr hlk hP hD hS (by omega) (by omega) (by first | exact Or.inl rfl | exact Or.inr rfl) ⟨by rw [← hI, cmpB_at (by omega) (by omega), if_neg (fun q9 => c_34 (by rw [q9]))]; first | exact bI_t (decide_eq_true (by omega)) | exact bI_f (decide_eq_false (by omega)), rfl⟩ d_Mod_isBefore_57
            · skip
              have c_49 : ¬ ((nmb (256 * e1 + i)).toNat) ≤ ((nmb (256 * e0 + i)).toNat) := fun q9 => c_49 ((nI_leI (a := (nmb (256 * e1 + i)).toNat) (b := (nmb (256 * e0 + i)).toNat) (by omega) (by omega)).mpr q9)
              refine lv_iconst (v := nI 1) hx hb d_Mod_isBefore_52 (by decide) ?_
              refine lv_goto (tgt := 57) hx hb d_Mod_isBefore_53 (by decide) ?_
              exact z_zret C hr hlk hP hD hS (by omega) (by omega) (by first | exact Or.inl rfl | exact Or.inr rfl) ⟨by rw [← hI, cmpB_at (by omega) (by omega), if_neg (fun q9 => c_34 (by rw [q9]))]; first | exact bI_t (decide_eq_true (by omega)) | exact bI_f (decide_eq_false (by omega)), rfl⟩ d_Mod_isBefore_57
  refine lv_iconst (v := nI 0) hx hb d_Mod_isBefore_0 (by decide) ?_
  refine lv_istore_n (lv' := [(3, .int (nI 0)), (0, .ref o), (1, .int (nI e0)), (2, .int (nI e1))]) hx hb d_Mod_isBefore_1 rfl hl (by decide) rfl (fun ls hl => ?_)
  exact L_2 _ 0 (Nat.zero_le _) (Nat.zero_le _) rfl (Nat.lt_succ_self _) _ _ hP hD hS ls (lv_sub hl [1, 2, 3, 0] rfl)
set_option maxHeartbeats 4000000 in
set_option maxRecDepth 100000 in
theorem c_Mod_isBehind (l : Launch) (g : zT) (T : va_W) (o ts ta ne ans anm anu asa apl akd nk akn aks akp akk bg sz hd alg ni aip aix aiz aim aod av hv lf sn pv : Nat) (ho : (o, zo 11 [.int (nI ts), .ref ta, .int (nI ne), .ref ans, .ref anm, .ref anu, .ref asa, .ref apl, .ref akd, .int (nI nk), .ref akn, .ref aks, .ref akp, .ref akk, .int (nI bg), .int (nI sz), .int (nI hd), .ref alg, .int (nI ni), .ref aip, .ref aix, .ref aiz, .ref aim, .ref aod, .int (nI av), .int (nI hv), .int (nI lf), .int (nI sn), .int (nI pv)]) ∈ T) (f : Nat → UInt8) (hlg : (alg, zBy g 65536 f) ∈ T) (pp n0 : Nat) (v1 : av + 9 + U2 f sz (av + 6) ≤ sz) (v2 : sz ≤ 65536) (v3 : pp + n0 ≤ sz) : Met l y_Mod_isBehind (zw y_Mod_isBehind b_Mod_isBehind 5 (some .boolean)) (zR 2 41 0 0) (zP g [.ref o, .int (nI pp), .int (nI n0)] (T)) (zQi g (fun r w => r = bI (decide (cmpB (zl f pp n0) (nmA f sz av) < 0)) ∧ w = T)) 0 0 (zA g) := by
  refine zMet (by decide) (Nat.le_of_ble_eq_true rfl) ?_
  intro p e s m below meth c ls C hr hlk hnm hP hD hl
  have hx := C.1.1
  have hb := C.1.2.1
  have hS : va_S (zA g) s.heap s.heap [] := va_S.rf
  have hl : lv_has ls 5 [(0, .ref o), (1, .int (nI pp)), (2, .int (nI n0))] := hl
  have L_2 : ∀ (nu : Nat) (i : Nat) (_ : i ≤ n0) (_ : i ≤ U2 f sz (av + 6) + 1) (_ : cmpB (zl f (pp + i) (n0 - i)) (zl f (av + 8 + i) (U2 f sz (av + 6) + 1 - i)) = cmpB (zl f pp n0) (nmA f sz av)) (_ : n0 - i < nu) (H : Heap) (locs : List Loc), va_P g.1 classes (T) H → va_D (zA g) (T) → va_S (zA g) s.heap H locs → ∀ ls : Array Slot, lv_has ls 5 [(0, .ref o), (1, .int (nI pp)), (2, .int (nI n0)), (3, .int (nI i))] → W p l e (zR 2 41 0 0) s m [.ref o, .int (nI pp), .int (nI n0)].toArray below meth c H locs 0 0 (MQ below (zQi g (fun r w => r = bI (decide (cmpB (zl f pp n0) (nmA f sz av) < 0)) ∧ w = T)) [.ref o, .int (nI pp), .int (nI n0)].toArray s 0 0 (zA g)) (F0 m 2 ls []) := by
    intro nu
    induction nu with
    | zero => intros; omega
    | succ nu ih =>
      intro i g1 g2 hI hmu H locs hP hD hS ls hl
      refine lv_iload_n hx hb d_Mod_isBehind_2 rfl (lv_at hl 3 rfl) ?_
      refine lv_iload_n hx hb d_Mod_isBehind_3 rfl (lv_at hl 2 rfl) ?_
      refine lv_icmp_ge (tgt := 61) hx hb d_Mod_isBehind_4 (by decide) (fun c_4 => ?_) (fun c_4 => ?_)
      · skip
        have c_4 : n0 ≤ i := (nI_leI (a := n0) (b := i) (by omega) (by omega)).mp c_4
        refine lv_iload_n hx hb d_Mod_isBehind_61 rfl (lv_at hl 2 rfl) ?_
        refine lv_aload_n hx hb d_Mod_isBehind_62 rfl (lv_at hl 0 rfl) ?_
        refine z_ki (z_runV (np := 0) C (c_Mod_sizeHere l g T o ts ta ne ans anm anu asa apl akd nk akn aks akp akk bg sz hd alg ni aip aix aiz aim aod av hv lf sn pv ho f hlg (by omega) (by omega)) hP hD hS ho (show classes[11]? = some (R_Mod, F_Mod, 29) from rfl) k_944 k_12 k_941 k_943 ks_Mod_sizeHere ⟨by decide, by decide, by decide⟩ ⟨Nat.le_of_ble_eq_true rfl, Nat.le_of_ble_eq_true rfl⟩ rfl hl.1 rfl (Nat.le_of_ble_eq_true rfl) d_Mod_isBehind_63 ⟨by show _ ≤ 0; omega, by show _ ≤ 0; omega⟩) hS (fun r_63 w H locs hw hP hD hS => ?_)
        obtain ⟨rfl, hw⟩ := hw
        rw [hw] at hP hD
        have u9 := U2_lt f sz (av + 6)
        refine lv_icmp_ge (tgt := 73) hx hb d_Mod_isBehind_66 (by decide) (fun c_66 => ?_) (fun c_66 => ?_)
        · skip
          have c_66 : (U2 f sz (av + 6) + 1) ≤ n0 := (nI_leI (a := U2 f sz (av + 6) + 1) (b := n0) (by omega) (by omega)).mp c_66
          refine lv_iconst (v := nI 0) hx hb d_Mod_isBehind_73 (by decide) ?_
          exact z_zret C hr hlk hP hD hS (by omega) (by omega) (by first | exact Or.inl rfl | exact Or.inr rfl) ⟨by rw [← hI, cmpB_end (by omega)]; first | exact bI_t (decide_eq_true (by omega)) | exact bI_f (decide_eq_false (by omega)), rfl⟩ d_Mod_isBehind_74
        · skip
          have c_66 : ¬ (U2 f sz (av + 6) + 1) ≤ n0 := fun q9 => c_66 ((nI_leI (a := U2 f sz (av + 6) + 1) (b := n0) (by omega) (by omega)).mpr q9)
          refine lv_iconst (v := nI 1) hx hb d_Mod_isBehind_69 (by decide) ?_
          refine lv_goto (tgt := 74) hx hb d_Mod_isBehind_70 (by decide) ?_
          exact z_zret C hr hlk hP hD hS (by omega) (by omega) (by first | exact Or.inl rfl | exact Or.inr rfl) ⟨by rw [← hI, cmpB_end (by omega)]; first | exact bI_t (decide_eq_true (by omega)) | exact bI_f (decide_eq_false (by omega)), rfl⟩ d_Mod_isBehind_74
      · skip
        have c_4 : ¬ n0 ≤ i := fun q9 => c_4 ((nI_leI (a := n0) (b := i) (by omega) (by omega)).mpr q9)
        refine lv_iload_n hx hb d_Mod_isBehind_7 rfl (lv_at hl 3 rfl) ?_
        refine lv_aload_n hx hb d_Mod_isBehind_8 rfl (lv_at hl 0 rfl) ?_
        refine z_ki (z_runV (np := 0) C (c_Mod_sizeHere l g T o ts ta ne ans anm anu asa apl akd nk akn aks akp akk bg sz hd alg ni aip aix aiz aim aod av hv lf sn pv ho f hlg (by omega) (by omega)) hP hD hS ho (show classes[11]? = some (R_Mod, F_Mod, 29) from rfl) k_944 k_12 k_941 k_943 ks_Mod_sizeHere ⟨by decide, by decide, by decide⟩ ⟨Nat.le_of_ble_eq_true rfl, Nat.le_of_ble_eq_true rfl⟩ rfl hl.1 rfl (Nat.le_of_ble_eq_true rfl) d_Mod_isBehind_9 ⟨by show _ ≤ 0; omega, by show _ ≤ 0; omega⟩) hS (fun r_9 w H locs hw hP hD hS => ?_)
        obtain ⟨rfl, hw⟩ := hw
        rw [hw] at hP hD
        have u9 := U2_lt f sz (av + 6)
        refine lv_icmp_ge (tgt := 61) hx hb d_Mod_isBehind_12 (by decide) (fun c_12 => ?_) (fun c_12 => ?_)
        · skip
          have c_12 : (U2 f sz (av + 6) + 1) ≤ i := (nI_leI (a := U2 f sz (av + 6) + 1) (b := i) (by omega) (by omega)).mp c_12
          refine lv_iload_n hx hb d_Mod_isBehind_61 rfl (lv_at hl 2 rfl) ?_
          refine lv_aload_n hx hb d_Mod_isBehind_62 rfl (lv_at hl 0 rfl) ?_
          refine z_ki (z_runV (np := 0) C (c_Mod_sizeHere l g T o ts ta ne ans anm anu asa apl akd nk akn aks akp akk bg sz hd alg ni aip aix aiz aim aod av hv lf sn pv ho f hlg (by omega) (by omega)) hP hD hS ho (show classes[11]? = some (R_Mod, F_Mod, 29) from rfl) k_944 k_12 k_941 k_943 ks_Mod_sizeHere ⟨by decide, by decide, by decide⟩ ⟨Nat.le_of_ble_eq_true rfl, Nat.le_of_ble_eq_true rfl⟩ rfl hl.1 rfl (Nat.le_of_ble_eq_true rfl) d_Mod_isBehind_63 ⟨by show _ ≤ 0; omega, by show _ ≤ 0; omega⟩) hS (fun r_63 w H locs hw hP hD hS => ?_)
          obtain ⟨rfl, hw⟩ := hw
          rw [hw] at hP hD
          have u9 := U2_lt f sz (av + 6)
          refine lv_icmp_ge (tgt := 73) hx hb d_Mod_isBehind_66 (by decide) (fun c_66 => ?_) (fun c_66 => ?_)
          · skip
            have c_66 : (U2 f sz (av + 6) + 1) ≤ n0 := (nI_leI (a := U2 f sz (av + 6) + 1) (b := n0) (by omega) (by omega)).mp c_66
            refine lv_iconst (v := nI 0) hx hb d_Mod_isBehind_73 (by decide) ?_
            exact z_zret C hr hlk hP hD hS (by omega) (by omega) (by first | exact Or.inl rfl | exact Or.inr rfl) ⟨by rw [← hI, cmpB_end (by omega)]; first | exact bI_t (decide_eq_true (by omega)) | exact bI_f (decide_eq_false (by omega)), rfl⟩ d_Mod_isBehind_74
          · skip
            have c_66 : ¬ (U2 f sz (av + 6) + 1) ≤ n0 := fun q9 => c_66 ((nI_leI (a := U2 f sz (av + 6) + 1) (b := n0) (by omega) (by omega)).mpr q9)
            refine lv_iconst (v := nI 1) hx hb d_Mod_isBehind_69 (by decide) ?_
            refine lv_goto (tgt := 74) hx hb d_Mod_isBehind_70 (by decide) ?_
            exact z_zret C hr hlk hP hD hS (by omega) (by omega) (by first | exact Or.inl rfl | exact Or.inr rfl) ⟨by rw [← hI, cmpB_end (by omega)]; first | exact bI_t (decide_eq_true (by omega)) | exact bI_f (decide_eq_false (by omega)), rfl⟩ d_Mod_isBehind_74
        · skip
          have c_12 : ¬ (U2 f sz (av + 6) + 1) ≤ i := fun q9 => c_12 ((nI_leI (a := U2 f sz (av + 6) + 1) (b := i) (by omega) (by omega)).mpr q9)
          refine lv_aload_n hx hb d_Mod_isBehind_15 rfl (lv_at hl 0 rfl) ?_
          refine z_get C hP ho q_Mod 17 (by decide) k_745 (fun _ h9 => h9) rfl d_Mod_isBehind_16 ?_
          refine lv_iload_n hx hb d_Mod_isBehind_19 rfl (lv_at hl 1 rfl) ?_
          refine lv_iload_n hx hb d_Mod_isBehind_20 rfl (lv_at hl 3 rfl) ?_
          refine z_iadd (v := nI (pp + i)) C d_Mod_isBehind_21 (nI_add _ _) ?_
          refine z_bald C hP hlg (pp + i) (by omega) (by omega) d_Mod_isBehind_22 ?_
          refine lv_sipush (v := nI 255) hx hb d_Mod_isBehind_23 (by decide) ?_
          refine z_iand (v := nI ((f (pp + i)).toNat)) C d_Mod_isBehind_26 (sb_and _) ?_
          refine lv_istore (lv' := [(4, .int (nI ((f (pp + i)).toNat))), (0, .ref o), (1, .int (nI pp)), (2, .int (nI n0)), (3, .int (nI i))]) hx hb d_Mod_isBehind_27 hl (by decide) rfl (fun ls hl => ?_)
          refine lv_iload hx hb d_Mod_isBehind_29 (lv_at hl 0 rfl) ?_
          refine lv_aload_n hx hb d_Mod_isBehind_31 rfl (lv_at hl 1 rfl) ?_
          refine lv_iload_n hx hb d_Mod_isBehind_32 rfl (lv_at hl 4 rfl) ?_
          refine z_ki (z_runV (np := 1) C (c_Mod_byteHere l g T o ts ta ne ans anm anu asa apl akd nk akn aks akp akk bg sz hd alg ni aip aix aiz aim aod av hv lf sn pv ho f hlg (i) (by omega)) hP hD hS ho (show classes[11]? = some (R_Mod, F_Mod, 29) from rfl) k_948 k_12 k_945 k_947 ks_Mod_byteHere ⟨by decide, by decide, by decide⟩ ⟨Nat.le_of_ble_eq_true rfl, Nat.le_of_ble_eq_true rfl⟩ rfl hl.1 rfl (Nat.le_of_ble_eq_true rfl) d_Mod_isBehind_33 ⟨by show _ ≤ 0; omega, by show _ ≤ 0; omega⟩) hS (fun r_33 w H locs hw hP hD hS => ?_)
          obtain ⟨rfl, hw⟩ := hw
          rw [hw] at hP hD
          have b0 := u8_lt (f (pp + i))
          have b1 := u8_lt (f (av + 8 + i))
          refine lv_icmp_eq (tgt := 55) hx hb d_Mod_isBehind_36 (by decide) (fun c_36 => ?_) (fun c_36 => ?_)
          · skip
            have c_36 : ((f (pp + i)).toNat) = ((f (av + 8 + i)).toNat) := (nI_eq (a := (f (pp + i)).toNat) (b := (f (av + 8 + i)).toNat) (by omega) (by omega)).mp c_36
            refine lv_iinc (v := nI (i + 1)) (lv' := [(3, .int (nI (i + 1))), (4, .int (nI ((f (pp + i)).toNat))), (0, .ref o), (1, .int (nI pp)), (2, .int (nI n0))]) hx hb d_Mod_isBehind_55 hl (k := 4) rfl (by rw [show Int32.ofInt 1 = nI 1 by decide]; exact nI_add _ _) (by decide) rfl (fun ls hl => ?_)
            refine lv_goto (tgt := 2) hx hb d_Mod_isBehind_58 (by decide) ?_
            exact ih (i + 1) (by omega) (by omega) (by rw [cmpB_at (by omega) (by omega), if_pos (u8_eq.mpr c_36)] at hI; exact hI) (by omega) _ _ hP hD hS ls (lv_sub hl [2, 3, 4, 0] rfl)
          · skip
            have c_36 : ¬ ((f (pp + i)).toNat) = ((f (av + 8 + i)).toNat) := fun q9 => c_36 ((nI_eq (a := (f (pp + i)).toNat) (b := (f (av + 8 + i)).toNat) (by omega) (by omega)).mpr q9)
            refine lv_iload hx hb d_Mod_isBehind_39 (lv_at hl 0 rfl) ?_
            refine lv_aload_n hx hb d_Mod_isBehind_41 rfl (lv_at hl 1 rfl) ?_
            refine lv_iload_n hx hb d_Mod_isBehind_42 rfl (lv_at hl 4 rfl) ?_
            refine z_ki (z_runV (np := 1) C (c_Mod_byteHere l g T o ts ta ne ans anm anu asa apl akd nk akn aks akp akk bg sz hd alg ni aip aix aiz aim aod av hv lf sn pv ho f hlg (i) (by omega)) hP hD hS ho (show classes[11]? = some (R_Mod, F_Mod, 29) from rfl) k_948 k_12 k_945 k_947 ks_Mod_byteHere ⟨by decide, by decide, by decide⟩ ⟨Nat.le_of_ble_eq_true rfl, Nat.le_of_ble_eq_true rfl⟩ rfl hl.1 rfl (Nat.le_of_ble_eq_true rfl) d_Mod_isBehind_43 ⟨by show _ ≤ 0; omega, by show _ ≤ 0; omega⟩) hS (fun r_43 w H locs hw hP hD hS => ?_)
            obtain ⟨rfl, hw⟩ := hw
            rw [hw] at hP hD
            refine lv_icmp_ge (tgt := 53) hx hb d_Mod_isBehind_46 (by decide) (fun c_46 => ?_) (fun c_46 => ?_)
            · skip
              have c_46 : ((f (av + 8 + i)).toNat) ≤ ((f (pp + i)).toNat) := (nI_leI (a := (f (av + 8 + i)).toNat) (b := (f (pp + i)).toNat) (by omega) (by omega)).mp c_46
              refine lv_iconst (v := nI 0) hx hb d_Mod_isBehind_53 (by decide) ?_
              exact z_zret C hr hlk hP hD hS (by omega) (by omega) (by first | exact Or.inl rfl | exact Or.inr rfl) ⟨by rw [← hI, cmpB_at (by omega) (by omega), if_neg (fun q9 => c_36 (by rw [q9]))]; first | exact bI_t (decide_eq_true (by omega)) | exact bI_f (decide_eq_false (by omega)), rfl⟩ d_Mod_isBehind_54
            · skip
              have c_46 : ¬ ((f (av + 8 + i)).toNat) ≤ ((f (pp + i)).toNat) := fun q9 => c_46 ((nI_leI (a := (f (av + 8 + i)).toNat) (b := (f (pp + i)).toNat) (by omega) (by omega)).mpr q9)
              refine lv_iconst (v := nI 1) hx hb d_Mod_isBehind_49 (by decide) ?_
              refine lv_goto (tgt := 54) hx hb d_Mod_isBehind_50 (by decide) ?_
              exact z_zret C hr hlk hP hD hS (by omega) (by omega) (by first | exact Or.inl rfl | exact Or.inr rfl) ⟨by rw [← hI, cmpB_at (by omega) (by omega), if_neg (fun q9 => c_36 (by rw [q9]))]; first | exact bI_t (decide_eq_true (by omega)) | exact bI_f (decide_eq_false (by omega)), rfl⟩ d_Mod_isBehind_54
  refine lv_iconst (v := nI 0) hx hb d_Mod_isBehind_0 (by decide) ?_
  refine lv_istore_n (lv' := [(3, .int (nI 0)), (0, .ref o), (1, .int (nI pp)), (2, .int (nI n0))]) hx hb d_Mod_isBehind_1 rfl hl (by decide) rfl (fun ls hl => ?_)
  exact L_2 _ 0 (Nat.zero_le _) (Nat.zero_le _) rfl (Nat.lt_succ_self _) _ _ hP hD hS ls (lv_sub hl [1, 2, 3, 0] rfl)
set_option maxHeartbeats 4000000 in
set_option maxRecDepth 100000 in
theorem c_Mod_orderHere (l : Launch) (g : zT) (T : va_W) (o ts ta ne ans anm anu asa apl akd nk akn aks akp akk bg sz hd alg ni aip aix aiz aim aod av hv lf sn pv : Nat) (ho : (o, zo 11 [.int (nI ts), .ref ta, .int (nI ne), .ref ans, .ref anm, .ref anu, .ref asa, .ref apl, .ref akd, .int (nI nk), .ref akn, .ref aks, .ref akp, .ref akk, .int (nI bg), .int (nI sz), .int (nI hd), .ref alg, .int (nI ni), .ref aip, .ref aix, .ref aiz, .ref aim, .ref aod, .int (nI av), .int (nI hv), .int (nI lf), .int (nI sn), .int (nI pv)]) ∈ T) (tb : Nat → UInt8) (hta : (ta, zIn g 300 (nB tb)) ∈ T) (f : Nat → UInt8) (hlg : (alg, zBy g 65536 f) ∈ T) (n0 : Nat) (v1 : av + 9 + U2 f sz (av + 6) ≤ sz) (v2 : sz ≤ 65536) (v3 : n0 ≤ 300) : Met l y_Mod_orderHere (zw y_Mod_orderHere b_Mod_orderHere 3 (some .int)) (zR 2 41 0 0) (zP g [.ref o, .int (nI n0)] (T)) (zQi g (fun r w => r = iI (cmpB (zl tb 0 n0) (nmA f sz av)) ∧ w = T)) 0 0 (zA g) := by
  refine zMet (by decide) (Nat.le_of_ble_eq_true rfl) ?_
  intro p e s m below meth c ls C hr hlk hnm hP hD hl
  have hx := C.1.1
  have hb := C.1.2.1
  have hS : va_S (zA g) s.heap s.heap [] := va_S.rf
  have hl : lv_has ls 3 [(0, .ref o), (1, .int (nI n0))] := hl
  have L_2 : ∀ (nu : Nat) (i : Nat) (_ : i ≤ n0) (_ : i ≤ U2 f sz (av + 6) + 1) (_ : cmpB (zl tb (0 + i) (n0 - i)) (zl f (av + 8 + i) (U2 f sz (av + 6) + 1 - i)) = cmpB (zl tb 0 n0) (nmA f sz av)) (_ : n0 - i < nu) (H : Heap) (locs : List Loc), va_P g.1 classes (T) H → va_D (zA g) (T) → va_S (zA g) s.heap H locs → ∀ ls : Array Slot, lv_has ls 3 [(0, .ref o), (1, .int (nI n0)), (2, .int (nI i))] → W p l e (zR 2 41 0 0) s m [.ref o, .int (nI n0)].toArray below meth c H locs 0 0 (MQ below (zQi g (fun r w => r = iI (cmpB (zl tb 0 n0) (nmA f sz av)) ∧ w = T)) [.ref o, .int (nI n0)].toArray s 0 0 (zA g)) (F0 m 2 ls []) := by
    intro nu
    induction nu with
    | zero => intros; omega
    | succ nu ih =>
      intro i g1 g2 hI hmu H locs hP hD hS ls hl
      refine lv_iload_n hx hb d_Mod_orderHere_2 rfl (lv_at hl 2 rfl) ?_
      refine lv_iload_n hx hb d_Mod_orderHere_3 rfl (lv_at hl 1 rfl) ?_
      refine lv_icmp_ge (tgt := 48) hx hb d_Mod_orderHere_4 (by decide) (fun c_4 => ?_) (fun c_4 => ?_)
      · skip
        have c_4 : n0 ≤ i := (nI_leI (a := n0) (b := i) (by omega) (by omega)).mp c_4
        refine lv_iload_n hx hb d_Mod_orderHere_48 rfl (lv_at hl 1 rfl) ?_
        refine lv_aload_n hx hb d_Mod_orderHere_49 rfl (lv_at hl 0 rfl) ?_
        refine z_ki (z_runV (np := 0) C (c_Mod_sizeHere l g T o ts ta ne ans anm anu asa apl akd nk akn aks akp akk bg sz hd alg ni aip aix aiz aim aod av hv lf sn pv ho f hlg (by omega) (by omega)) hP hD hS ho (show classes[11]? = some (R_Mod, F_Mod, 29) from rfl) k_944 k_12 k_941 k_943 ks_Mod_sizeHere ⟨by decide, by decide, by decide⟩ ⟨Nat.le_of_ble_eq_true rfl, Nat.le_of_ble_eq_true rfl⟩ rfl hl.1 rfl (Nat.le_of_ble_eq_true rfl) d_Mod_orderHere_50 ⟨by show _ ≤ 0; omega, by show _ ≤ 0; omega⟩) hS (fun r_50 w H locs hw hP hD hS => ?_)
        obtain ⟨rfl, hw⟩ := hw
        rw [hw] at hP hD
        have u9 := U2_lt f sz (av + 6)
        refine z_isub (v := iI ((n0 : Int) - ((U2 f sz (av + 6) + 1 : Nat) : Int))) C d_Mod_orderHere_53 (nI_sub _ _) ?_
        exact z_iret C hr hlk hP hD hS (by omega) (by omega) ⟨by rw [← hI, cmpB_end (by omega)]; congr 1; omega, rfl⟩ d_Mod_orderHere_54
      · skip
        have c_4 : ¬ n0 ≤ i := fun q9 => c_4 ((nI_leI (a := n0) (b := i) (by omega) (by omega)).mpr q9)
        refine lv_iload_n hx hb d_Mod_orderHere_7 rfl (lv_at hl 2 rfl) ?_
        refine lv_aload_n hx hb d_Mod_orderHere_8 rfl (lv_at hl 0 rfl) ?_
        refine z_ki (z_runV (np := 0) C (c_Mod_sizeHere l g T o ts ta ne ans anm anu asa apl akd nk akn aks akp akk bg sz hd alg ni aip aix aiz aim aod av hv lf sn pv ho f hlg (by omega) (by omega)) hP hD hS ho (show classes[11]? = some (R_Mod, F_Mod, 29) from rfl) k_944 k_12 k_941 k_943 ks_Mod_sizeHere ⟨by decide, by decide, by decide⟩ ⟨Nat.le_of_ble_eq_true rfl, Nat.le_of_ble_eq_true rfl⟩ rfl hl.1 rfl (Nat.le_of_ble_eq_true rfl) d_Mod_orderHere_9 ⟨by show _ ≤ 0; omega, by show _ ≤ 0; omega⟩) hS (fun r_9 w H locs hw hP hD hS => ?_)
        obtain ⟨rfl, hw⟩ := hw
        rw [hw] at hP hD
        have u9 := U2_lt f sz (av + 6)
        refine lv_icmp_ge (tgt := 48) hx hb d_Mod_orderHere_12 (by decide) (fun c_12 => ?_) (fun c_12 => ?_)
        · skip
          have c_12 : (U2 f sz (av + 6) + 1) ≤ i := (nI_leI (a := U2 f sz (av + 6) + 1) (b := i) (by omega) (by omega)).mp c_12
          refine lv_iload_n hx hb d_Mod_orderHere_48 rfl (lv_at hl 1 rfl) ?_
          refine lv_aload_n hx hb d_Mod_orderHere_49 rfl (lv_at hl 0 rfl) ?_
          refine z_ki (z_runV (np := 0) C (c_Mod_sizeHere l g T o ts ta ne ans anm anu asa apl akd nk akn aks akp akk bg sz hd alg ni aip aix aiz aim aod av hv lf sn pv ho f hlg (by omega) (by omega)) hP hD hS ho (show classes[11]? = some (R_Mod, F_Mod, 29) from rfl) k_944 k_12 k_941 k_943 ks_Mod_sizeHere ⟨by decide, by decide, by decide⟩ ⟨Nat.le_of_ble_eq_true rfl, Nat.le_of_ble_eq_true rfl⟩ rfl hl.1 rfl (Nat.le_of_ble_eq_true rfl) d_Mod_orderHere_50 ⟨by show _ ≤ 0; omega, by show _ ≤ 0; omega⟩) hS (fun r_50 w H locs hw hP hD hS => ?_)
          obtain ⟨rfl, hw⟩ := hw
          rw [hw] at hP hD
          have u9 := U2_lt f sz (av + 6)
          refine z_isub (v := iI ((n0 : Int) - ((U2 f sz (av + 6) + 1 : Nat) : Int))) C d_Mod_orderHere_53 (nI_sub _ _) ?_
          exact z_iret C hr hlk hP hD hS (by omega) (by omega) ⟨by rw [← hI, cmpB_end (by omega)]; congr 1; omega, rfl⟩ d_Mod_orderHere_54
        · skip
          have c_12 : ¬ (U2 f sz (av + 6) + 1) ≤ i := fun q9 => c_12 ((nI_leI (a := U2 f sz (av + 6) + 1) (b := i) (by omega) (by omega)).mpr q9)
          refine lv_aload_n hx hb d_Mod_orderHere_15 rfl (lv_at hl 0 rfl) ?_
          refine z_get C hP ho q_Mod 1 (by decide) k_729 (fun _ h9 => h9) rfl d_Mod_orderHere_16 ?_
          refine lv_iload_n hx hb d_Mod_orderHere_19 rfl (lv_at hl 2 rfl) ?_
          refine z_iald C hP hta i (by omega) (by omega) d_Mod_orderHere_20 ?_
          refine z_topi (y := nI ((tb i).toNat)) rfl ?_
          refine lv_aload_n hx hb d_Mod_orderHere_21 rfl (lv_at hl 0 rfl) ?_
          refine lv_iload_n hx hb d_Mod_orderHere_22 rfl (lv_at hl 2 rfl) ?_
          refine z_ki (z_runV (np := 1) C (c_Mod_byteHere l g T o ts ta ne ans anm anu asa apl akd nk akn aks akp akk bg sz hd alg ni aip aix aiz aim aod av hv lf sn pv ho f hlg (i) (by omega)) hP hD hS ho (show classes[11]? = some (R_Mod, F_Mod, 29) from rfl) k_948 k_12 k_945 k_947 ks_Mod_byteHere ⟨by decide, by decide, by decide⟩ ⟨Nat.le_of_ble_eq_true rfl, Nat.le_of_ble_eq_true rfl⟩ rfl hl.1 rfl (Nat.le_of_ble_eq_true rfl) d_Mod_orderHere_23 ⟨by show _ ≤ 0; omega, by show _ ≤ 0; omega⟩) hS (fun r_23 w H locs hw hP hD hS => ?_)
          obtain ⟨rfl, hw⟩ := hw
          rw [hw] at hP hD
          have b0 := u8_lt (tb i)
          have b1 := u8_lt (f (av + 8 + i))
          refine lv_icmp_eq (tgt := 42) hx hb d_Mod_orderHere_26 (by decide) (fun c_26 => ?_) (fun c_26 => ?_)
          · skip
            have c_26 : ((tb i).toNat) = ((f (av + 8 + i)).toNat) := (nI_eq (a := (tb i).toNat) (b := (f (av + 8 + i)).toNat) (by omega) (by omega)).mp c_26
            refine lv_iinc (v := nI (i + 1)) (lv' := [(2, .int (nI (i + 1))), (0, .ref o), (1, .int (nI n0))]) hx hb d_Mod_orderHere_42 hl (k := 2) rfl (by rw [show Int32.ofInt 1 = nI 1 by decide]; exact nI_add _ _) (by decide) rfl (fun ls hl => ?_)
            refine lv_goto (tgt := 2) hx hb d_Mod_orderHere_45 (by decide) ?_
            exact ih (i + 1) (by omega) (by omega) (by rw [cmpB_at (by omega) (by omega), Nat.zero_add, if_pos (u8_eq.mpr c_26)] at hI; exact hI) (by omega) _ _ hP hD hS ls (lv_sub hl [1, 2, 0] rfl)
          · skip
            have c_26 : ¬ ((tb i).toNat) = ((f (av + 8 + i)).toNat) := fun q9 => c_26 ((nI_eq (a := (tb i).toNat) (b := (f (av + 8 + i)).toNat) (by omega) (by omega)).mpr q9)
            refine lv_aload_n hx hb d_Mod_orderHere_29 rfl (lv_at hl 0 rfl) ?_
            refine z_get C hP ho q_Mod 1 (by decide) k_729 (fun _ h9 => h9) rfl d_Mod_orderHere_30 ?_
            refine lv_iload_n hx hb d_Mod_orderHere_33 rfl (lv_at hl 2 rfl) ?_
            refine z_iald C hP hta i (by omega) (by omega) d_Mod_orderHere_34 ?_
            refine z_topi (y := nI ((tb i).toNat)) rfl ?_
            refine lv_aload_n hx hb d_Mod_orderHere_35 rfl (lv_at hl 0 rfl) ?_
            refine lv_iload_n hx hb d_Mod_orderHere_36 rfl (lv_at hl 2 rfl) ?_
            refine z_ki (z_runV (np := 1) C (c_Mod_byteHere l g T o ts ta ne ans anm anu asa apl akd nk akn aks akp akk bg sz hd alg ni aip aix aiz aim aod av hv lf sn pv ho f hlg (i) (by omega)) hP hD hS ho (show classes[11]? = some (R_Mod, F_Mod, 29) from rfl) k_948 k_12 k_945 k_947 ks_Mod_byteHere ⟨by decide, by decide, by decide⟩ ⟨Nat.le_of_ble_eq_true rfl, Nat.le_of_ble_eq_true rfl⟩ rfl hl.1 rfl (Nat.le_of_ble_eq_true rfl) d_Mod_orderHere_37 ⟨by show _ ≤ 0; omega, by show _ ≤ 0; omega⟩) hS (fun r_37 w H locs hw hP hD hS => ?_)
            obtain ⟨rfl, hw⟩ := hw
            rw [hw] at hP hD
            refine z_isub (v := iI (((tb i).toNat : Int) - ((f (av + 8 + i)).toNat : Int))) C d_Mod_orderHere_40 (nI_sub _ _) ?_
            exact z_iret C hr hlk hP hD hS (by omega) (by omega) ⟨by rw [← hI, cmpB_at (by omega) (by omega), Nat.zero_add, if_neg (fun q9 => c_26 (by rw [q9]))], rfl⟩ d_Mod_orderHere_41
  refine lv_iconst (v := nI 0) hx hb d_Mod_orderHere_0 (by decide) ?_
  refine lv_istore_n (lv' := [(2, .int (nI 0)), (0, .ref o), (1, .int (nI n0))]) hx hb d_Mod_orderHere_1 rfl hl (by decide) rfl (fun ls hl => ?_)
  exact L_2 _ 0 (Nat.zero_le _) (Nat.zero_le _) rfl (Nat.lt_succ_self _) _ _ hP hD hS ls (lv_sub hl [1, 2, 0] rfl)
set_option maxHeartbeats 4000000 in
set_option maxRecDepth 100000 in
theorem c_Mod_orderOfIndex (l : Launch) (g : zT) (T : va_W) (o ts ta ne ans anm anu asa apl akd nk akn aks akp akk bg sz hd alg ni aip aix aiz aim aod av hv lf sn pv : Nat) (ho : (o, zo 11 [.int (nI ts), .ref ta, .int (nI ne), .ref ans, .ref anm, .ref anu, .ref asa, .ref apl, .ref akd, .int (nI nk), .ref akn, .ref aks, .ref akp, .ref akk, .int (nI bg), .int (nI sz), .int (nI hd), .ref alg, .int (nI ni), .ref aip, .ref aix, .ref aiz, .ref aim, .ref aod, .int (nI av), .int (nI hv), .int (nI lf), .int (nI sn), .int (nI pv)]) ∈ T) (tb : Nat → UInt8) (hta : (ta, zIn g 300 (nB tb)) ∈ T) (isz : Nat → Nat) (hiz : (aiz, zIn g 16 (nN isz)) ∈ T) (inm : Nat → UInt8) (him : (aim, zIn g 4096 (nB inm)) ∈ T) (n0 e0 : Nat) (v1 : n0 ≤ 300) (v2 : e0 < 16) (v3 : isz e0 ≤ 256) : Met l y_Mod_orderOfIndex (zw y_Mod_orderOfIndex b_Mod_orderOfIndex 4 (some .int)) (zR 0 0 0 0) (zP g [.ref o, .int (nI n0), .int (nI e0)] (T)) (zQi g (fun r w => r = iI (cmpB (zl tb 0 n0) (zl inm (256 * e0) (isz e0))) ∧ w = T)) 0 0 (zA g) := by
  refine zMet (by decide) (Nat.le_of_ble_eq_true rfl) ?_
  intro p e s m below meth c ls C hr hlk hnm hP hD hl
  have hx := C.1.1
  have hb := C.1.2.1
  have hS : va_S (zA g) s.heap s.heap [] := va_S.rf
  have hl : lv_has ls 4 [(0, .ref o), (1, .int (nI n0)), (2, .int (nI e0))] := hl
  have L_2 : ∀ (nu : Nat) (i : Nat) (_ : i ≤ n0) (_ : i ≤ isz e0) (_ : cmpB (zl tb (0 + i) (n0 - i)) (zl inm (256 * e0 + i) (isz e0 - i)) = cmpB (zl tb 0 n0) (zl inm (256 * e0) (isz e0))) (_ : n0 - i < nu) (H : Heap) (locs : List Loc), va_P g.1 classes (T) H → va_D (zA g) (T) → va_S (zA g) s.heap H locs → ∀ ls : Array Slot, lv_has ls 4 [(0, .ref o), (1, .int (nI n0)), (2, .int (nI e0)), (3, .int (nI i))] → W p l e (zR 0 0 0 0) s m [.ref o, .int (nI n0), .int (nI e0)].toArray below meth c H locs 0 0 (MQ below (zQi g (fun r w => r = iI (cmpB (zl tb 0 n0) (zl inm (256 * e0) (isz e0))) ∧ w = T)) [.ref o, .int (nI n0), .int (nI e0)].toArray s 0 0 (zA g)) (F0 m 2 ls []) := by
    intro nu
    induction nu with
    | zero => intros; omega
    | succ nu ih =>
      intro i g1 g2 hI hmu H locs hP hD hS ls hl
      refine lv_iload_n hx hb d_Mod_orderOfIndex_2 rfl (lv_at hl 3 rfl) ?_
      refine lv_iload_n hx hb d_Mod_orderOfIndex_3 rfl (lv_at hl 1 rfl) ?_
      refine lv_icmp_ge (tgt := 64) hx hb d_Mod_orderOfIndex_4 (by decide) (fun c_4 => ?_) (fun c_4 => ?_)
      · skip
        have c_4 : n0 ≤ i := (nI_leI (a := n0) (b := i) (by omega) (by omega)).mp c_4
        refine lv_iload_n hx hb d_Mod_orderOfIndex_64 rfl (lv_at hl 1 rfl) ?_
        refine lv_aload_n hx hb d_Mod_orderOfIndex_65 rfl (lv_at hl 0 rfl) ?_
        refine z_get C hP ho q_Mod 21 (by decide) k_749 (fun _ h9 => h9) rfl d_Mod_orderOfIndex_66 ?_
        refine lv_iload_n hx hb d_Mod_orderOfIndex_69 rfl (lv_at hl 2 rfl) ?_
        refine z_iald C hP hiz e0 (by omega) (by omega) d_Mod_orderOfIndex_70 ?_
        refine z_topi (y := nI (isz e0)) rfl ?_
        refine z_isub (v := iI ((n0 : Int) - (isz e0 : Int))) C d_Mod_orderOfIndex_71 (nI_sub _ _) ?_
        exact z_iret C hr hlk hP hD hS (by omega) (by omega) ⟨by rw [← hI, cmpB_end (by omega)]; congr 1; omega, rfl⟩ d_Mod_orderOfIndex_72
      · skip
        have c_4 : ¬ n0 ≤ i := fun q9 => c_4 ((nI_leI (a := n0) (b := i) (by omega) (by omega)).mpr q9)
        refine lv_iload_n hx hb d_Mod_orderOfIndex_7 rfl (lv_at hl 3 rfl) ?_
        refine lv_aload_n hx hb d_Mod_orderOfIndex_8 rfl (lv_at hl 0 rfl) ?_
        refine z_get C hP ho q_Mod 21 (by decide) k_749 (fun _ h9 => h9) rfl d_Mod_orderOfIndex_9 ?_
        refine lv_iload_n hx hb d_Mod_orderOfIndex_12 rfl (lv_at hl 2 rfl) ?_
        refine z_iald C hP hiz e0 (by omega) (by omega) d_Mod_orderOfIndex_13 ?_
        refine z_topi (y := nI (isz e0)) rfl ?_
        refine lv_icmp_ge (tgt := 64) hx hb d_Mod_orderOfIndex_14 (by decide) (fun c_14 => ?_) (fun c_14 => ?_)
        · skip
          have c_14 : (isz e0) ≤ i := (nI_leI (a := isz e0) (b := i) (by omega) (by omega)).mp c_14
          refine lv_iload_n hx hb d_Mod_orderOfIndex_64 rfl (lv_at hl 1 rfl) ?_
          refine lv_aload_n hx hb d_Mod_orderOfIndex_65 rfl (lv_at hl 0 rfl) ?_
          refine z_get C hP ho q_Mod 21 (by decide) k_749 (fun _ h9 => h9) rfl d_Mod_orderOfIndex_66 ?_
          refine lv_iload_n hx hb d_Mod_orderOfIndex_69 rfl (lv_at hl 2 rfl) ?_
          refine z_iald C hP hiz e0 (by omega) (by omega) d_Mod_orderOfIndex_70 ?_
          refine z_topi (y := nI (isz e0)) rfl ?_
          refine z_isub (v := iI ((n0 : Int) - (isz e0 : Int))) C d_Mod_orderOfIndex_71 (nI_sub _ _) ?_
          exact z_iret C hr hlk hP hD hS (by omega) (by omega) ⟨by rw [← hI, cmpB_end (by omega)]; congr 1; omega, rfl⟩ d_Mod_orderOfIndex_72
        · skip
          have c_14 : ¬ (isz e0) ≤ i := fun q9 => c_14 ((nI_leI (a := isz e0) (b := i) (by omega) (by omega)).mpr q9)
          refine lv_aload_n hx hb d_Mod_orderOfIndex_17 rfl (lv_at hl 0 rfl) ?_
          refine z_get C hP ho q_Mod 1 (by decide) k_729 (fun _ h9 => h9) rfl d_Mod_orderOfIndex_18 ?_
          refine lv_iload_n hx hb d_Mod_orderOfIndex_21 rfl (lv_at hl 3 rfl) ?_
          refine z_iald C hP hta i (by omega) (by omega) d_Mod_orderOfIndex_22 ?_
          refine z_topi (y := nI ((tb i).toNat)) rfl ?_
          refine lv_aload_n hx hb d_Mod_orderOfIndex_23 rfl (lv_at hl 0 rfl) ?_
          refine z_get C hP ho q_Mod 22 (by decide) k_750 (fun _ h9 => h9) rfl d_Mod_orderOfIndex_24 ?_
          refine lv_sipush (v := nI 256) hx hb d_Mod_orderOfIndex_27 (by decide) ?_
          refine lv_iload_n hx hb d_Mod_orderOfIndex_30 rfl (lv_at hl 2 rfl) ?_
          refine z_imul (v := nI (256 * e0)) C d_Mod_orderOfIndex_31 (pk_mul _ _) ?_
          refine lv_iload_n hx hb d_Mod_orderOfIndex_32 rfl (lv_at hl 3 rfl) ?_
          refine z_iadd (v := nI ((256 * e0) + i)) C d_Mod_orderOfIndex_33 (nI_add _ _) ?_
          refine z_iald C hP him ((256 * e0) + i) (by omega) (by omega) d_Mod_orderOfIndex_34 ?_
          refine z_topi (y := nI ((inm ((256 * e0) + i)).toNat)) rfl ?_
          have b0 := u8_lt (tb i)
          have b1 := u8_lt (inm (256 * e0 + i))
          refine lv_icmp_eq (tgt := 58) hx hb d_Mod_orderOfIndex_35 (by decide) (fun c_35 => ?_) (fun c_35 => ?_)
          · skip
            have c_35 : ((tb i).toNat) = ((inm ((256 * e0) + i)).toNat) := (nI_eq (a := (tb i).toNat) (b := (inm ((256 * e0) + i)).toNat) (by omega) (by omega)).mp c_35
            refine lv_iinc (v := nI (i + 1)) (lv' := [(3, .int (nI (i + 1))), (0, .ref o), (1, .int (nI n0)), (2, .int (nI e0))]) hx hb d_Mod_orderOfIndex_58 hl (k := 3) rfl (by rw [show Int32.ofInt 1 = nI 1 by decide]; exact nI_add _ _) (by decide) rfl (fun ls hl => ?_)
            refine lv_goto (tgt := 2) hx hb d_Mod_orderOfIndex_61 (by decide) ?_
            exact ih (i + 1) (by omega) (by omega) (by rw [cmpB_at (by omega) (by omega), Nat.zero_add, if_pos (u8_eq.mpr c_35)] at hI; exact hI) (by omega) _ _ hP hD hS ls (lv_sub hl [1, 2, 3, 0] rfl)
          · skip
            have c_35 : ¬ ((tb i).toNat) = ((inm ((256 * e0) + i)).toNat) := fun q9 => c_35 ((nI_eq (a := (tb i).toNat) (b := (inm ((256 * e0) + i)).toNat) (by omega) (by omega)).mpr q9)
            refine lv_aload_n hx hb d_Mod_orderOfIndex_38 rfl (lv_at hl 0 rfl) ?_
            refine z_get C hP ho q_Mod 1 (by decide) k_729 (fun _ h9 => h9) rfl d_Mod_orderOfIndex_39 ?_
            refine lv_iload_n hx hb d_Mod_orderOfIndex_42 rfl (lv_at hl 3 rfl) ?_
            refine z_iald C hP hta i (by omega) (by omega) d_Mod_orderOfIndex_43 ?_
            refine z_topi (y := nI ((tb i).toNat)) rfl ?_
            refine lv_aload_n hx hb d_Mod_orderOfIndex_44 rfl (lv_at hl 0 rfl) ?_
            refine z_get C hP ho q_Mod 22 (by decide) k_750 (fun _ h9 => h9) rfl d_Mod_orderOfIndex_45 ?_
            refine lv_sipush (v := nI 256) hx hb d_Mod_orderOfIndex_48 (by decide) ?_
            refine lv_iload_n hx hb d_Mod_orderOfIndex_51 rfl (lv_at hl 2 rfl) ?_
            refine z_imul (v := nI (256 * e0)) C d_Mod_orderOfIndex_52 (pk_mul _ _) ?_
            refine lv_iload_n hx hb d_Mod_orderOfIndex_53 rfl (lv_at hl 3 rfl) ?_
            refine z_iadd (v := nI ((256 * e0) + i)) C d_Mod_orderOfIndex_54 (nI_add _ _) ?_
            refine z_iald C hP him ((256 * e0) + i) (by omega) (by omega) d_Mod_orderOfIndex_55 ?_
            refine z_topi (y := nI ((inm ((256 * e0) + i)).toNat)) rfl ?_
            refine z_isub (v := iI (((tb i).toNat : Int) - ((inm (256 * e0 + i)).toNat : Int))) C d_Mod_orderOfIndex_56 (nI_sub _ _) ?_
            exact z_iret C hr hlk hP hD hS (by omega) (by omega) ⟨by rw [← hI, cmpB_at (by omega) (by omega), Nat.zero_add, if_neg (fun q9 => c_35 (by rw [q9]))], rfl⟩ d_Mod_orderOfIndex_57
  refine lv_iconst (v := nI 0) hx hb d_Mod_orderOfIndex_0 (by decide) ?_
  refine lv_istore_n (lv' := [(3, .int (nI 0)), (0, .ref o), (1, .int (nI n0)), (2, .int (nI e0))]) hx hb d_Mod_orderOfIndex_1 rfl hl (by decide) rfl (fun ls hl => ?_)
  exact L_2 _ 0 (Nat.zero_le _) (Nat.zero_le _) rfl (Nat.lt_succ_self _) _ _ hP hD hS ls (lv_sub hl [1, 2, 3, 0] rfl)
