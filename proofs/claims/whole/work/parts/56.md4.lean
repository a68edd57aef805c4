set_option maxHeartbeats 4000000 in
set_option maxRecDepth 100000 in
theorem c_Mod_init (l : Launch) (g : zT) (T : va_W) (o : Nat) : Met l y_Mod_init (zw y_Mod_init b_Mod_init 1 (none)) (zR 1 20 17 233180) (zP g [.ref o] ((o, zo 11 [.int (nI 0), .null, .int (nI 0), .null, .null, .null, .null, .null, .null, .int (nI 0), .null, .null, .null, .null, .int (nI 0), .int (nI 0), .int (nI 0), .null, .int (nI 0), .null, .null, .null, .null, .null, .int (nI 0), .int (nI 0), .int (nI 0), .int (nI 0), .int (nI 0)]) :: T)) (zQv g (fun w => ∃ ta ans anm anu asa apl akd akn aks akp akk alg aip aix aiz aim aod : Nat, w = (o, zo 11 [.int (nI 0), .ref ta, .int (nI 0), .ref ans, .ref anm, .ref anu, .ref asa, .ref apl, .ref akd, .int (nI 0), .ref akn, .ref aks, .ref akp, .ref akk, .int (nI 0), .int (nI 0), .int (nI 0), .ref alg, .int (nI 0), .ref aip, .ref aix, .ref aiz, .ref aim, .ref aod, .int (nI 0), .int (nI 0), .int (nI 0), .int (nI 0), .int (nI 0)]) :: (ta, zIn g 300 (fun _ => 0)) :: (ans, zIn g 600 (fun _ => 0)) :: (anm, zBy g 153600 (fun _ => 0)) :: (anu, zIn g 600 (fun _ => 0)) :: (asa, zIn g 600 (fun _ => 0)) :: (apl, zIn g 600 (fun _ => 0)) :: (akd, zIn g 600 (fun _ => 0)) :: (akn, zIn g 1500 (fun _ => 0)) :: (aks, zIn g 1500 (fun _ => 0)) :: (akp, zIn g 1500 (fun _ => 0)) :: (akk, zIn g 1500 (fun _ => 0)) :: (alg, zBy g 65536 (fun _ => 0)) :: (aip, zIn g 16 (fun _ => 0)) :: (aix, zIn g 16 (fun _ => 0)) :: (aiz, zIn g 16 (fun _ => 0)) :: (aim, zIn g 4096 (fun _ => 0)) :: (aod, zIn g 600 (fun _ => 0)) :: T)) 17 233180 (zA g) := by
  refine zMet (by decide) (Nat.le_of_ble_eq_true rfl) ?_
  intro p e s m below meth c ls C hr hlk hnm hP hD hl
  have hx := C.1.1
  have hb := C.1.2.1
  have hS : va_S (zA g) s.heap s.heap [] := va_S.rf
  have hl : lv_has ls 1 [(0, .ref o)] := hl
  refine lv_aload_n hx hb d_Mod_init_0 rfl (lv_at hl 0 rfl) ?_
  refine W.objInit hx hb C.1.2.2.2.1 (C.ts k_725 rfl) (C.ts k_28 rfl) (C.ts k_29 rfl) rfl (by rw [C.1.2.2.1]; exact hl.1) rfl d_Mod_init_1 (Nat.le_of_ble_eq_true rfl) (Nat.le_of_ble_eq_true rfl) ?_
  refine W.eq (g2 := F0 m 4 ls []) rfl ?_
  refine lv_aload_n hx hb d_Mod_init_4 rfl (lv_at hl 0 rfl) ?_
  refine lv_sipush (v := nI 300) hx hb d_Mod_init_5 (by decide) ?_
  refine z_newI C hP hD hS k_816 300 (by omega) (by show _ ≤ 17; omega) (by show _ ≤ 233180; omega) d_Mod_init_8 (fun ta H hP hD hS => ?_)
  refine z_putF C hP hD hS hnm 1 rfl q_Mod 1 (by decide) k_729 (fun _ h9 => h9) rfl rfl rfl rfl (Nat.le_of_ble_eq_true rfl) d_Mod_init_10 (ws' := (ta, zIn g 300 (fun _ => 0)) :: (o, zo 11 [.int (nI 0), .ref ta, .int (nI 0), .null, .null, .null, .null, .null, .null, .int (nI 0), .null, .null, .null, .null, .int (nI 0), .int (nI 0), .int (nI 0), .null, .int (nI 0), .null, .null, .null, .null, .null, .int (nI 0), .int (nI 0), .int (nI 0), .int (nI 0), .int (nI 0)]) :: T) rfl (fun H locs hP hD hS => ?_)
  refine lv_aload_n hx hb d_Mod_init_13 rfl (lv_at hl 0 rfl) ?_
  refine lv_sipush (v := nI 600) hx hb d_Mod_init_14 (by decide) ?_
  refine z_newI C hP hD hS k_816 600 (by omega) (by show _ ≤ 17; omega) (by show _ ≤ 233180; omega) d_Mod_init_17 (fun ans H hP hD hS => ?_)
  refine z_putF C hP hD hS hnm 2 rfl q_Mod 3 (by decide) k_731 (fun _ h9 => h9) rfl rfl rfl rfl (Nat.le_of_ble_eq_true rfl) d_Mod_init_19 (ws' := (ans, zIn g 600 (fun _ => 0)) :: (ta, zIn g 300 (fun _ => 0)) :: (o, zo 11 [.int (nI 0), .ref ta, .int (nI 0), .ref ans, .null, .null, .null, .null, .null, .int (nI 0), .null, .null, .null, .null, .int (nI 0), .int (nI 0), .int (nI 0), .null, .int (nI 0), .null, .null, .null, .null, .null, .int (nI 0), .int (nI 0), .int (nI 0), .int (nI 0), .int (nI 0)]) :: T) rfl (fun H locs hP hD hS => ?_)
  refine lv_aload_n hx hb d_Mod_init_22 rfl (lv_at hl 0 rfl) ?_
  refine lv_ldc (v := nI 153600) hx hb C.1.2.2.2.1 (C.ts k_726 rfl) d_Mod_init_23 ?_
  refine z_newB C hP hD hS k_45 153600 (by omega) (by show _ ≤ 17; omega) (by show _ ≤ 233180; omega) d_Mod_init_25 (fun anm H hP hD hS => ?_)
  refine z_putF C hP hD hS hnm 3 rfl q_Mod 4 (by decide) k_732 (fun _ h9 => h9) rfl rfl rfl rfl (Nat.le_of_ble_eq_true rfl) d_Mod_init_27 (ws' := (anm, zBy g 153600 (fun _ => 0)) :: (ans, zIn g 600 (fun _ => 0)) :: (ta, zIn g 300 (fun _ => 0)) :: (o, zo 11 [.int (nI 0), .ref ta, .int (nI 0), .ref ans, .ref anm, .null, .null, .null, .null, .int (nI 0), .null, .null, .null, .null, .int (nI 0), .int (nI 0), .int (nI 0), .null, .int (nI 0), .null, .null, .null, .null, .null, .int (nI 0), .int (nI 0), .int (nI 0), .int (nI 0), .int (nI 0)]) :: T) rfl (fun H locs hP hD hS => ?_)
  refine lv_aload_n hx hb d_Mod_init_30 rfl (lv_at hl 0 rfl) ?_
  refine lv_sipush (v := nI 600) hx hb d_Mod_init_31 (by decide) ?_
  refine z_newI C hP hD hS k_816 600 (by omega) (by show _ ≤ 17; omega) (by show _ ≤ 233180; omega) d_Mod_init_34 (fun anu H hP hD hS => ?_)
  refine z_putF C hP hD hS hnm 4 rfl q_Mod 5 (by decide) k_733 (fun _ h9 => h9) rfl rfl rfl rfl (Nat.le_of_ble_eq_true rfl) d_Mod_init_36 (ws' := (anu, zIn g 600 (fun _ => 0)) :: (anm, zBy g 153600 (fun _ => 0)) :: (ans, zIn g 600 (fun _ => 0)) :: (ta, zIn g 300 (fun _ => 0)) :: (o, zo 11 [.int (nI 0), .ref ta, .int (nI 0), .ref ans, .ref anm, .ref anu, .null, .null, .null, .int (nI 0), .null, .null, .null, .null, .int (nI 0), .int (nI 0), .int (nI 0), .null, .int (nI 0), .null, .null, .null, .null, .null, .int (nI 0), .int (nI 0), .int (nI 0), .int (nI 0), .int (nI 0)]) :: T) rfl (fun H locs hP hD hS => ?_)
  refine lv_aload_n hx hb d_Mod_init_39 rfl (lv_at hl 0 rfl) ?_
  refine lv_sipush (v := nI 600) hx hb d_Mod_init_40 (by decide) ?_
  refine z_newI C hP hD hS k_816 600 (by omega) (by show _ ≤ 17; omega) (by show _ ≤ 233180; omega) d_Mod_init_43 (fun asa H hP hD hS => ?_)
  refine z_putF C hP hD hS hnm 5 rfl q_Mod 6 (by decide) k_734 (fun _ h9 => h9) rfl rfl rfl rfl (Nat.le_of_ble_eq_true rfl) d_Mod_init_45 (ws' := (asa, zIn g 600 (fun _ => 0)) :: (anu, zIn g 600 (fun _ => 0)) :: (anm, zBy g 153600 (fun _ => 0)) :: (ans, zIn g 600 (fun _ => 0)) :: (ta, zIn g 300 (fun _ => 0)) :: (o, zo 11 [.int (nI 0), .ref ta, .int (nI 0), .ref ans, .ref anm, .ref anu, .ref asa, .null, .null, .int (nI 0), .null, .null, .null, .null, .int (nI 0), .int (nI 0), .int (nI 0), .null, .int (nI 0), .null, .null, .null, .null, .null, .int (nI 0), .int (nI 0), .int (nI 0), .int (nI 0), .int (nI 0)]) :: T) rfl (fun H locs hP hD hS => ?_)
  refine lv_aload_n hx hb d_Mod_init_48 rfl (lv_at hl 0 rfl) ?_
  refine lv_sipush (v := nI 600) hx hb d_Mod_init_49 (by decide) ?_
  refine z_newI C hP hD hS k_816 600 (by omega) (by show _ ≤ 17; omega) (by show _ ≤ 233180; omega) d_Mod_init_52 (fun apl H hP hD hS => ?_)
  refine z_putF C hP hD hS hnm 6 rfl q_Mod 7 (by decide) k_735 (fun _ h9 => h9) rfl rfl rfl rfl (Nat.le_of_ble_eq_true rfl) d_Mod_init_54 (ws' := (apl, zIn g 600 (fun _ => 0)) :: (asa, zIn g 600 (fun _ => 0)) :: (anu, zIn g 600 (fun _ => 0)) :: (anm, zBy g 153600 (fun _ => 0)) :: (ans, zIn g 600 (fun _ => 0)) :: (ta, zIn g 300 (fun _ => 0)) :: (o, zo 11 [.int (nI 0), .ref ta, .int (nI 0), .ref ans, .ref anm, .ref anu, .ref asa, .ref apl, .null, .int (nI 0), .null, .null, .null, .null, .int (nI 0), .int (nI 0), .int (nI 0), .null, .int (nI 0), .null, .null, .null, .null, .null, .int (nI 0), .int (nI 0), .int (nI 0), .int (nI 0), .int (nI 0)]) :: T) rfl (fun H locs hP hD hS => ?_)
  refine lv_aload_n hx hb d_Mod_init_57 rfl (lv_at hl 0 rfl) ?_
  refine lv_sipush (v := nI 600) hx hb d_Mod_init_58 (by decide) ?_
  refine z_newI C hP hD hS k_816 600 (by omega) (by show _ ≤ 17; omega) (by show _ ≤ 233180; omega) d_Mod_init_61 (fun akd H hP hD hS => ?_)
  refine z_putF C hP hD hS hnm 7 rfl q_Mod 8 (by decide) k_736 (fun _ h9 => h9) rfl rfl rfl rfl (Nat.le_of_ble_eq_true rfl) d_Mod_init_63 (ws' := (akd, zIn g 600 (fun _ => 0)) :: (apl, zIn g 600 (fun _ => 0)) :: (asa, zIn g 600 (fun _ => 0)) :: (anu, zIn g 600 (fun _ => 0)) :: (anm, zBy g 153600 (fun _ => 0)) :: (ans, zIn g 600 (fun _ => 0)) :: (ta, zIn g 300 (fun _ => 0)) :: (o, zo 11 [.int (nI 0), .ref ta, .int (nI 0), .ref ans, .ref anm, .ref anu, .ref asa, .ref apl, .ref akd, .int (nI 0), .null, .null, .null, .null, .int (nI 0), .int (nI 0), .int (nI 0), .null, .int (nI 0), .null, .null, .null, .null, .null, .int (nI 0), .int (nI 0), .int (nI 0), .int (nI 0), .int (nI 0)]) :: T) rfl (fun H locs hP hD hS => ?_)
  refine lv_aload_n hx hb d_Mod_init_66 rfl (lv_at hl 0 rfl) ?_
  refine lv_sipush (v := nI 1500) hx hb d_Mod_init_67 (by decide) ?_
  refine z_newI C hP hD hS k_816 1500 (by omega) (by show _ ≤ 17; omega) (by show _ ≤ 233180; omega) d_Mod_init_70 (fun akn H hP hD hS => ?_)
  refine z_putF C hP hD hS hnm 8 rfl q_Mod 10 (by decide) k_738 (fun _ h9 => h9) rfl rfl rfl rfl (Nat.le_of_ble_eq_true rfl) d_Mod_init_72 (ws' := (akn, zIn g 1500 (fun _ => 0)) :: (akd, zIn g 600 (fun _ => 0)) :: (apl, zIn g 600 (fun _ => 0)) :: (asa, zIn g 600 (fun _ => 0)) :: (anu, zIn g 600 (fun _ => 0)) :: (anm, zBy g 153600 (fun _ => 0)) :: (ans, zIn g 600 (fun _ => 0)) :: (ta, zIn g 300 (fun _ => 0)) :: (o, zo 11 [.int (nI 0), .ref ta, .int (nI 0), .ref ans, .ref anm, .ref anu, .ref asa, .ref apl, .ref akd, .int (nI 0), .ref akn, .null, .null, .null, .int (nI 0), .int (nI 0), .int (nI 0), .null, .int (nI 0), .null, .null, .null, .null, .null, .int (nI 0), .int (nI 0), .int (nI 0), .int (nI 0), .int (nI 0)]) :: T) rfl (fun H locs hP hD hS => ?_)
  refine lv_aload_n hx hb d_Mod_init_75 rfl (lv_at hl 0 rfl) ?_
  refine lv_sipush (v := nI 1500) hx hb d_Mod_init_76 (by decide) ?_
  refine z_newI C hP hD hS k_816 1500 (by omega) (by show _ ≤ 17; omega) (by show _ ≤ 233180; omega) d_Mod_init_79 (fun aks H hP hD hS => ?_)
  refine z_putF C hP hD hS hnm 9 rfl q_Mod 11 (by decide) k_739 (fun _ h9 => h9) rfl rfl rfl rfl (Nat.le_of_ble_eq_true rfl) d_Mod_init_81 (ws' := (aks, zIn g 1500 (fun _ => 0)) :: (akn, zIn g 1500 (fun _ => 0)) :: (akd, zIn g 600 (fun _ => 0)) :: (apl, zIn g 600 (fun _ => 0)) :: (asa, zIn g 600 (fun _ => 0)) :: (anu, zIn g 600 (fun _ => 0)) :: (anm, zBy g 153600 (fun _ => 0)) :: (ans, zIn g 600 (fun _ => 0)) :: (ta, zIn g 300 (fun _ => 0)) :: (o, zo 11 [.int (nI 0), .ref ta, .int (nI 0), .ref ans, .ref anm, .ref anu, .ref asa, .ref apl, .ref akd, .int (nI 0), .ref akn, .ref aks, .null, .null, .int (nI 0), .int (nI 0), .int (nI 0), .null, .int (nI 0), .null, .null, .null, .null, .null, .int (nI 0), .int (nI 0), .int (nI 0), .int (nI 0), .int (nI 0)]) :: T) rfl (fun H locs hP hD hS => ?_)
  refine lv_aload_n hx hb d_Mod_init_84 rfl (lv_at hl 0 rfl) ?_
  refine lv_sipush (v := nI 1500) hx hb d_Mod_init_85 (by decide) ?_
  refine z_newI C hP hD hS k_816 1500 (by omega) (by show _ ≤ 17; omega) (by show _ ≤ 233180; omega) d_Mod_init_88 (fun akp H hP hD hS => ?_)
  refine z_putF C hP hD hS hnm 10 rfl q_Mod 12 (by decide) k_740 (fun _ h9 => h9) rfl rfl rfl rfl (Nat.le_of_ble_eq_true rfl) d_Mod_init_90 (ws' := (akp, zIn g 1500 (fun _ => 0)) :: (aks, zIn g 1500 (fun _ => 0)) :: (akn, zIn g 1500 (fun _ => 0)) :: (akd, zIn g 600 (fun _ => 0)) :: (apl, zIn g 600 (fun _ => 0)) :: (asa, zIn g 600 (fun _ => 0)) :: (anu, zIn g 600 (fun _ => 0)) :: (anm, zBy g 153600 (fun _ => 0)) :: (ans, zIn g 600 (fun _ => 0)) :: (ta, zIn g 300 (fun _ => 0)) :: (o, zo 11 [.int (nI 0), .ref ta, .int (nI 0), .ref ans, .ref anm, .ref anu, .ref asa, .ref apl, .ref akd, .int (nI 0), .ref akn, .ref aks, .ref akp, .null, .int (nI 0), .int (nI 0), .int (nI 0), .null, .int (nI 0), .null, .null, .null, .null, .null, .int (nI 0), .int (nI 0), .int (nI 0), .int (nI 0), .int (nI 0)]) :: T) rfl (fun H locs hP hD hS => ?_)
  refine lv_aload_n hx hb d_Mod_init_93 rfl (lv_at hl 0 rfl) ?_
  refine lv_sipush (v := nI 1500) hx hb d_Mod_init_94 (by decide) ?_
  refine z_newI C hP hD hS k_816 1500 (by omega) (by show _ ≤ 17; omega) (by show _ ≤ 233180; omega) d_Mod_init_97 (fun akk H hP hD hS => ?_)
  refine z_putF C hP hD hS hnm 11 rfl q_Mod 13 (by decide) k_741 (fun _ h9 => h9) rfl rfl rfl rfl (Nat.le_of_ble_eq_true rfl) d_Mod_init_99 (ws' := (akk, zIn g 1500 (fun _ => 0)) :: (akp, zIn g 1500 (fun _ => 0)) :: (aks, zIn g 1500 (fun _ => 0)) :: (akn, zIn g 1500 (fun _ => 0)) :: (akd, zIn g 600 (fun _ => 0)) :: (apl, zIn g 600 (fun _ => 0)) :: (asa, zIn g 600 (fun _ => 0)) :: (anu, zIn g 600 (fun _ => 0)) :: (anm, zBy g 153600 (fun _ => 0)) :: (ans, zIn g 600 (fun _ => 0)) :: (ta, zIn g 300 (fun _ => 0)) :: (o, zo 11 [.int (nI 0), .ref ta, .int (nI 0), .ref ans, .ref anm, .ref anu, .ref asa, .ref apl, .ref akd, .int (nI 0), .ref akn, .ref aks, .ref akp, .ref akk, .int (nI 0), .int (nI 0), .int (nI 0), .null, .int (nI 0), .null, .null, .null, .null, .null, .int (nI 0), .int (nI 0), .int (nI 0), .int (nI 0), .int (nI 0)]) :: T) rfl (fun H locs hP hD hS => ?_)
  refine lv_aload_n hx hb d_Mod_init_102 rfl (lv_at hl 0 rfl) ?_
  refine lv_ldc (v := nI 65536) hx hb C.1.2.2.2.1 (C.ts k_727 rfl) d_Mod_init_103 ?_
  refine z_newB C hP hD hS k_45 65536 (by omega) (by show _ ≤ 17; omega) (by show _ ≤ 233180; omega) d_Mod_init_105 (fun alg H hP hD hS => ?_)
  refine z_putF C hP hD hS hnm 12 rfl q_Mod 17 (by decide) k_745 (fun _ h9 => h9) rfl rfl rfl rfl (Nat.le_of_ble_eq_true rfl) d_Mod_init_107 (ws' := (alg, zBy g 65536 (fun _ => 0)) :: (akk, zIn g 1500 (fun _ => 0)) :: (akp, zIn g 1500 (fun _ => 0)) :: (aks, zIn g 1500 (fun _ => 0)) :: (akn, zIn g 1500 (fun _ => 0)) :: (akd, zIn g 600 (fun _ => 0)) :: (apl, zIn g 600 (fun _ => 0)) :: (asa, zIn g 600 (fun _ => 0)) :: (anu, zIn g 600 (fun _ => 0)) :: (anm, zBy g 153600 (fun _ => 0)) :: (ans, zIn g 600 (fun _ => 0)) :: (ta, zIn g 300 (fun _ => 0)) :: (o, zo 11 [.int (nI 0), .ref ta, .int (nI 0), .ref ans, .ref anm, .ref anu, .ref asa, .ref apl, .ref akd, .int (nI 0), .ref akn, .ref aks, .ref akp, .ref akk, .int (nI 0), .int (nI 0), .int (nI 0), .ref alg, .int (nI 0), .null, .null, .null, .null, .null, .int (nI 0), .int (nI 0), .int (nI 0), .int (nI 0), .int (nI 0)]) :: T) rfl (fun H locs hP hD hS => ?_)
  refine lv_aload_n hx hb d_Mod_init_110 rfl (lv_at hl 0 rfl) ?_
  refine lv_bipush (v := nI 16) hx hb d_Mod_init_111 (by decide) ?_
  refine z_newI C hP hD hS k_816 16 (by omega) (by show _ ≤ 17; omega) (by show _ ≤ 233180; omega) d_Mod_init_113 (fun aip H hP hD hS => ?_)
  refine z_putF C hP hD hS hnm 13 rfl q_Mod 19 (by decide) k_747 (fun _ h9 => h9) rfl rfl rfl rfl (Nat.le_of_ble_eq_true rfl) d_Mod_init_115 (ws' := (aip, zIn g 16 (fun _ => 0)) :: (alg, zBy g 65536 (fun _ => 0)) :: (akk, zIn g 1500 (fun _ => 0)) :: (akp, zIn g 1500 (fun _ => 0)) :: (aks, zIn g 1500 (fun _ => 0)) :: (akn, zIn g 1500 (fun _ => 0)) :: (akd, zIn g 600 (fun _ => 0)) :: (apl, zIn g 600 (fun _ => 0)) :: (asa, zIn g 600 (fun _ => 0)) :: (anu, zIn g 600 (fun _ => 0)) :: (anm, zBy g 153600 (fun _ => 0)) :: (ans, zIn g 600 (fun _ => 0)) :: (ta, zIn g 300 (fun _ => 0)) :: (o, zo 11 [.int (nI 0), .ref ta, .int (nI 0), .ref ans, .ref anm, .ref anu, .ref asa, .ref apl, .ref akd, .int (nI 0), .ref akn, .ref aks, .ref akp, .ref akk, .int (nI 0), .int (nI 0), .int (nI 0), .ref alg, .int (nI 0), .ref aip, .null, .null, .null, .null, .int (nI 0), .int (nI 0), .int (nI 0), .int (nI 0), .int (nI 0)]) :: T) rfl (fun H locs hP hD hS => ?_)
  refine lv_aload_n hx hb d_Mod_init_118 rfl (lv_at hl 0 rfl) ?_
  refine lv_bipush (v := nI 16) hx hb d_Mod_init_119 (by decide) ?_
  refine z_newI C hP hD hS k_816 16 (by omega) (by show _ ≤ 17; omega) (by show _ ≤ 233180; omega) d_Mod_init_121 (fun aix H hP hD hS => ?_)
  refine z_putF C hP hD hS hnm 14 rfl q_Mod 20 (by decide) k_748 (fun _ h9 => h9) rfl rfl rfl rfl (Nat.le_of_ble_eq_true rfl) d_Mod_init_123 (ws' := (aix, zIn g 16 (fun _ => 0)) :: (aip, zIn g 16 (fun _ => 0)) :: (alg, zBy g 65536 (fun _ => 0)) :: (akk, zIn g 1500 (fun _ => 0)) :: (akp, zIn g 1500 (fun _ => 0)) :: (aks, zIn g 1500 (fun _ => 0)) :: (akn, zIn g 1500 (fun _ => 0)) :: (akd, zIn g 600 (fun _ => 0)) :: (apl, zIn g 600 (fun _ => 0)) :: (asa, zIn g 600 (fun _ => 0)) :: (anu, zIn g 600 (fun _ => 0)) :: (anm, zBy g 153600 (fun _ => 0)) :: (ans, zIn g 600 (fun _ => 0)) :: (ta, zIn g 300 (fun _ => 0)) :: (o, zo 11 [.int (nI 0), .ref ta, .int (nI 0), .ref ans, .ref anm, .ref anu, .ref asa, .ref apl, .ref akd, .int (nI 0), .ref akn, .ref aks, .ref akp, .ref akk, .int (nI 0), .int (nI 0), .int (nI 0), .ref alg, .int (nI 0), .ref aip, .ref aix, .null, .null, .null, .int (nI 0), .int (nI 0), .int (nI 0), .int (nI 0), .int (nI 0)]) :: T) rfl (fun H locs hP hD hS => ?_)
  refine lv_aload_n hx hb d_Mod_init_126 rfl (lv_at hl 0 rfl) ?_
  refine lv_bipush (v := nI 16) hx hb d_Mod_init_127 (by decide) ?_
  refine z_newI C hP hD hS k_816 16 (by omega) (by show _ ≤ 17; omega) (by show _ ≤ 233180; omega) d_Mod_init_129 (fun aiz H hP hD hS => ?_)
  refine z_putF C hP hD hS hnm 15 rfl q_Mod 21 (by decide) k_749 (fun _ h9 => h9) rfl rfl rfl rfl (Nat.le_of_ble_eq_true rfl) d_Mod_init_131 (ws' := (aiz, zIn g 16 (fun _ => 0)) :: (aix, zIn g 16 (fun _ => 0)) :: (aip, zIn g 16 (fun _ => 0)) :: (alg, zBy g 65536 (fun _ => 0)) :: (akk, zIn g 1500 (fun _ => 0)) :: (akp, zIn g 1500 (fun _ => 0)) :: (aks, zIn g 1500 (fun _ => 0)) :: (akn, zIn g 1500 (fun _ => 0)) :: (akd, zIn g 600 (fun _ => 0)) :: (apl, zIn g 600 (fun _ => 0)) :: (asa, zIn g 600 (fun _ => 0)) :: (anu, zIn g 600 (fun _ => 0)) :: (anm, zBy g 153600 (fun _ => 0)) :: (ans, zIn g 600 (fun _ => 0)) :: (ta, zIn g 300 (fun _ => 0)) :: (o, zo 11 [.int (nI 0), .ref ta, .int (nI 0), .ref ans, .ref anm, .ref anu, .ref asa, .ref apl, .ref akd, .int (nI 0), .ref akn, .ref aks, .ref akp, .ref akk, .int (nI 0), .int (nI 0), .int (nI 0), .ref alg, .int (nI 0), .ref aip, .ref aix, .ref aiz, .null, .null, .int (nI 0), .int (nI 0), .int (nI 0), .int (nI 0), .int (nI 0)]) :: T) rfl (fun H locs hP hD hS => ?_)
  refine lv_aload_n hx hb d_Mod_init_134 rfl (lv_at hl 0 rfl) ?_
  refine lv_sipush (v := nI 4096) hx hb d_Mod_init_135 (by decide) ?_
  refine z_newI C hP hD hS k_816 4096 (by omega) (by show _ ≤ 17; omega) (by show _ ≤ 233180; omega) d_Mod_init_138 (fun aim H hP hD hS => ?_)
  refine z_putF C hP hD hS hnm 16 rfl q_Mod 22 (by decide) k_750 (fun _ h9 => h9) rfl rfl rfl rfl (Nat.le_of_ble_eq_true rfl) d_Mod_init_140 (ws' := (aim, zIn g 4096 (fun _ => 0)) :: (aiz, zIn g 16 (fun _ => 0)) :: (aix, zIn g 16 (fun _ => 0)) :: (aip, zIn g 16 (fun _ => 0)) :: (alg, zBy g 65536 (fun _ => 0)) :: (akk, zIn g 1500 (fun _ => 0)) :: (akp, zIn g 1500 (fun _ => 0)) :: (aks, zIn g 1500 (fun _ => 0)) :: (akn, zIn g 1500 (fun _ => 0)) :: (akd, zIn g 600 (fun _ => 0)) :: (apl, zIn g 600 (fun _ => 0)) :: (asa, zIn g 600 (fun _ => 0)) :: (anu, zIn g 600 (fun _ => 0)) :: (anm, zBy g 153600 (fun _ => 0)) :: (ans, zIn g 600 (fun _ => 0)) :: (ta, zIn g 300 (fun _ => 0)) :: (o, zo 11 [.int (nI 0), .ref ta, .int (nI 0), .ref ans, .ref anm, .ref anu, .ref asa, .ref apl, .ref akd, .int (nI 0), .ref akn, .ref aks, .ref akp, .ref akk, .int (nI 0), .int (nI 0), .int (nI 0), .ref alg, .int (nI 0), .ref aip, .ref aix, .ref aiz, .ref aim, .null, .int (nI 0), .int (nI 0), .int (nI 0), .int (nI 0), .int (nI 0)]) :: T) rfl (fun H locs hP hD hS => ?_)
  refine lv_aload_n hx hb d_Mod_init_143 rfl (lv_at hl 0 rfl) ?_
  refine lv_sipush (v := nI 600) hx hb d_Mod_init_144 (by decide) ?_
  refine z_newI C hP hD hS k_816 600 (by omega) (by show _ ≤ 17; omega) (by show _ ≤ 233180; omega) d_Mod_init_147 (fun aod H hP hD hS => ?_)
  refine z_putF C hP hD hS hnm 17 rfl q_Mod 23 (by decide) k_751 (fun _ h9 => h9) rfl rfl rfl rfl (Nat.le_of_ble_eq_true rfl) d_Mod_init_149 (ws' := (aod, zIn g 600 (fun _ => 0)) :: (aim, zIn g 4096 (fun _ => 0)) :: (aiz, zIn g 16 (fun _ => 0)) :: (aix, zIn g 16 (fun _ => 0)) :: (aip, zIn g 16 (fun _ => 0)) :: (alg, zBy g 65536 (fun _ => 0)) :: (akk, zIn g 1500 (fun _ => 0)) :: (akp, zIn g 1500 (fun _ => 0)) :: (aks, zIn g 1500 (fun _ => 0)) :: (akn, zIn g 1500 (fun _ => 0)) :: (akd, zIn g 600 (fun _ => 0)) :: (apl, zIn g 600 (fun _ => 0)) :: (asa, zIn g 600 (fun _ => 0)) :: (anu, zIn g 600 (fun _ => 0)) :: (anm, zBy g 153600 (fun _ => 0)) :: (ans, zIn g 600 (fun _ => 0)) :: (ta, zIn g 300 (fun _ => 0)) :: (o, zo 11 [.int (nI 0), .ref ta, .int (nI 0), .ref ans, .ref anm, .ref anu, .ref asa, .ref apl, .ref akd, .int (nI 0), .ref akn, .ref aks, .ref akp, .ref akk, .int (nI 0), .int (nI 0), .int (nI 0), .ref alg, .int (nI 0), .ref aip, .ref aix, .ref aiz, .ref aim, .ref aod, .int (nI 0), .int (nI 0), .int (nI 0), .int (nI 0), .int (nI 0)]) :: T) rfl (fun H locs hP hD hS => ?_)
  exact z_vret C hr hlk (z_Pq (z_bk (bs := [[(aod, zIn g 600 (fun _ => 0))], [(aim, zIn g 4096 (fun _ => 0))], [(aiz, zIn g 16 (fun _ => 0))], [(aix, zIn g 16 (fun _ => 0))], [(aip, zIn g 16 (fun _ => 0))], [(alg, zBy g 65536 (fun _ => 0))], [(akk, zIn g 1500 (fun _ => 0))], [(akp, zIn g 1500 (fun _ => 0))], [(aks, zIn g 1500 (fun _ => 0))], [(akn, zIn g 1500 (fun _ => 0))], [(akd, zIn g 600 (fun _ => 0))], [(apl, zIn g 600 (fun _ => 0))], [(asa, zIn g 600 (fun _ => 0))], [(anu, zIn g 600 (fun _ => 0))], [(anm, zBy g 153600 (fun _ => 0))], [(ans, zIn g 600 (fun _ => 0))], [(ta, zIn g 300 (fun _ => 0))], [(o, zo 11 [.int (nI 0), .ref ta, .int (nI 0), .ref ans, .ref anm, .ref anu, .ref asa, .ref apl, .ref akd, .int (nI 0), .ref akn, .ref aks, .ref akp, .ref akk, .int (nI 0), .int (nI 0), .int (nI 0), .ref alg, .int (nI 0), .ref aip, .ref aix, .ref aiz, .ref aim, .ref aod, .int (nI 0), .int (nI 0), .int (nI 0), .int (nI 0), .int (nI 0)])], T]) (bs' := [[(o, zo 11 [.int (nI 0), .ref ta, .int (nI 0), .ref ans, .ref anm, .ref anu, .ref asa, .ref apl, .ref akd, .int (nI 0), .ref akn, .ref aks, .ref akp, .ref akk, .int (nI 0), .int (nI 0), .int (nI 0), .ref alg, .int (nI 0), .ref aip, .ref aix, .ref aiz, .ref aim, .ref aod, .int (nI 0), .int (nI 0), .int (nI 0), .int (nI 0), .int (nI 0)])], [(ta, zIn g 300 (fun _ => 0))], [(ans, zIn g 600 (fun _ => 0))], [(anm, zBy g 153600 (fun _ => 0))], [(anu, zIn g 600 (fun _ => 0))], [(asa, zIn g 600 (fun _ => 0))], [(apl, zIn g 600 (fun _ => 0))], [(akd, zIn g 600 (fun _ => 0))], [(akn, zIn g 1500 (fun _ => 0))], [(aks, zIn g 1500 (fun _ => 0))], [(akp, zIn g 1500 (fun _ => 0))], [(akk, zIn g 1500 (fun _ => 0))], [(alg, zBy g 65536 (fun _ => 0))], [(aip, zIn g 16 (fun _ => 0))], [(aix, zIn g 16 (fun _ => 0))], [(aiz, zIn g 16 (fun _ => 0))], [(aim, zIn g 4096 (fun _ => 0))], [(aod, zIn g 600 (fun _ => 0))], T]) [17, 16, 15, 14, 13, 12, 11, 10, 9, 8, 7, 6, 5, 4, 3, 2, 1, 0, 18] rfl (by decide) rfl) hP) (z_Dq (z_bk (bs := [[(aod, zIn g 600 (fun _ => 0))], [(aim, zIn g 4096 (fun _ => 0))], [(aiz, zIn g 16 (fun _ => 0))], [(aix, zIn g 16 (fun _ => 0))], [(aip, zIn g 16 (fun _ => 0))], [(alg, zBy g 65536 (fun _ => 0))], [(akk, zIn g 1500 (fun _ => 0))], [(akp, zIn g 1500 (fun _ => 0))], [(aks, zIn g 1500 (fun _ => 0))], [(akn, zIn g 1500 (fun _ => 0))], [(akd, zIn g 600 (fun _ => 0))], [(apl, zIn g 600 (fun _ => 0))], [(asa, zIn g 600 (fun _ => 0))], [(anu, zIn g 600 (fun _ => 0))], [(anm, zBy g 153600 (fun _ => 0))], [(ans, zIn g 600 (fun _ => 0))], [(ta, zIn g 300 (fun _ => 0))], [(o, zo 11 [.int (nI 0), .ref ta, .int (nI 0), .ref ans, .ref anm, .ref anu, .ref asa, .ref apl, .ref akd, .int (nI 0), .ref akn, .ref aks, .ref akp, .ref akk, .int (nI 0), .int (nI 0), .int (nI 0), .ref alg, .int (nI 0), .ref aip, .ref aix, .ref aiz, .ref aim, .ref aod, .int (nI 0), .int (nI 0), .int (nI 0), .int (nI 0), .int (nI 0)])], T]) (bs' := [[(o, zo 11 [.int (nI 0), .ref ta, .int (nI 0), .ref ans, .ref anm, .ref anu, .ref asa, .ref apl, .ref akd, .int (nI 0), .ref akn, .ref aks, .ref akp, .ref akk, .int (nI 0), .int (nI 0), .int (nI 0), .ref alg, .int (nI 0), .ref aip, .ref aix, .ref aiz, .ref aim, .ref aod, .int (nI 0), .int (nI 0), .int (nI 0), .int (nI 0), .int (nI 0)])], [(ta, zIn g 300 (fun _ => 0))], [(ans, zIn g 600 (fun _ => 0))], [(anm, zBy g 153600 (fun _ => 0))], [(anu, zIn g 600 (fun _ => 0))], [(asa, zIn g 600 (fun _ => 0))], [(apl, zIn g 600 (fun _ => 0))], [(akd, zIn g 600 (fun _ => 0))], [(akn, zIn g 1500 (fun _ => 0))], [(aks, zIn g 1500 (fun _ => 0))], [(akp, zIn g 1500 (fun _ => 0))], [(akk, zIn g 1500 (fun _ => 0))], [(alg, zBy g 65536 (fun _ => 0))], [(aip, zIn g 16 (fun _ => 0))], [(aix, zIn g 16 (fun _ => 0))], [(aiz, zIn g 16 (fun _ => 0))], [(aim, zIn g 4096 (fun _ => 0))], [(aod, zIn g 600 (fun _ => 0))], T]) [17, 16, 15, 14, 13, 12, 11, 10, 9, 8, 7, 6, 5, 4, 3, 2, 1, 0, 18] rfl (by decide) rfl) hD) hS (by omega) (by omega) ⟨ta, ans, anm, anu, asa, apl, akd, akn, aks, akp, akk, alg, aip, aix, aiz, aim, aod, rfl⟩ d_Mod_init_152
set_option maxHeartbeats 4000000 in
set_option maxRecDepth 100000 in
theorem c_Mod_feed_b (l : Launch) (g : zT) (T : va_W) (o ts ta ne ans anm anu asa apl akd nk akn aks akp akk bg sz hd alg ni aip aix aiz aim aod av hv lf sn pv : Nat) (ho : (o, zo 11 [.int (nI ts), .ref ta, .int (nI ne), .ref ans, .ref anm, .ref anu, .ref asa, .ref apl, .ref akd, .int (nI nk), .ref akn, .ref aks, .ref akp, .ref akk, .int (nI bg), .int (nI sz), .int (nI hd), .ref alg, .int (nI ni), .ref aip, .ref aix, .ref aiz, .ref aim, .ref aod, .int (nI av), .int (nI hv), .int (nI lf), .int (nI sn), .int (nI pv)]) ∈ T) (b : Int64) (a : Int32) (hr9 : ¬ (1 ≤ a.toInt ∧ a.toInt ≤ 8)) : Met l y_Mod_feed (zw y_Mod_feed b_Mod_feed 5 (some .int)) (zR 0 0 0 0) (zP g [.ref o, .long b, .int a] (T)) (zQi g (fun r w => r = iI (-1) ∧ w = T)) 0 0 (zA g) := by
  refine zMet (by decide) (Nat.le_of_ble_eq_true rfl) ?_
  intro p e s m below meth c ls C hr hlk hnm hP hD hl
  have hx := C.1.1
  have hb := C.1.2.1
  have hS : va_S (zA g) s.heap s.heap [] := va_S.rf
  have hl : lv_has ls 5 [(0, .ref o), (1, .long b), (3, .int a)] := hl
  have r1 := zi_rg a
  refine lv_iload_n hx hb d_Mod_feed_0 rfl (lv_at hl 2 rfl) ?_
  refine lv_iconst (v := nI 1) hx hb d_Mod_feed_1 (by decide) ?_
  refine lv_icmp_lt (tgt := 11) hx hb d_Mod_feed_2 (by decide) (fun c_2 => ?_) (fun c_2 => ?_)
  · skip
    have c_2 : a.toInt < 1 := (zi_lt (a := a.toInt) (b := 1) (iI_of _) (nI_iI _) (by omega) (by omega) (by omega) (by omega)).mp c_2
    refine lv_iconst (v := iI (-1)) hx hb d_Mod_feed_11 (by decide) ?_
    exact z_iret C hr hlk hP hD hS (by omega) (by omega) ⟨rfl, rfl⟩ d_Mod_feed_12
  · skip
    have c_2 : ¬ a.toInt < 1 := fun q9 => c_2 ((zi_lt (a := a.toInt) (b := 1) (iI_of _) (nI_iI _) (by omega) (by omega) (by omega) (by omega)).mpr q9)
    refine lv_iload_n hx hb d_Mod_feed_5 rfl (lv_at hl 2 rfl) ?_
    refine lv_bipush (v := nI 8) hx hb d_Mod_feed_6 (by decide) ?_
    refine lv_icmp_le (tgt := 13) hx hb d_Mod_feed_8 (by decide) (fun c_8 => ?_) (fun c_8 => ?_)
    · skip
      have c_8 : a.toInt ≤ 8 := (zi_le (a := a.toInt) (b := 8) (iI_of _) (nI_iI _) (by omega) (by omega) (by omega) (by omega)).mp c_8
      exact absurd c_8 (by omega)
    · skip
      have c_8 : ¬ a.toInt ≤ 8 := fun q9 => c_8 ((zi_le (a := a.toInt) (b := 8) (iI_of _) (nI_iI _) (by omega) (by omega) (by omega) (by omega)).mpr q9)
      refine lv_iconst (v := iI (-1)) hx hb d_Mod_feed_11 (by decide) ?_
      exact z_iret C hr hlk hP hD hS (by omega) (by omega) ⟨rfl, rfl⟩ d_Mod_feed_12
set_option maxHeartbeats 4000000 in
set_option maxRecDepth 100000 in
theorem c_Mod_feed_g (l : Launch) (g : zT) (T : va_W) (o ts ta ne ans anm anu asa apl akd nk akn aks akp akk bg sz hd alg ni aip aix aiz aim aod av hv lf sn pv : Nat) (tb : Nat → UInt8) (n : Nat) (b : Int64) (v1 : 1 ≤ n) (v2 : n ≤ 8) (v3 : ts ≤ 300) : Met l y_Mod_feed (zw y_Mod_feed b_Mod_feed 5 (some .int)) (zR 0 0 0 0) (zP g [.ref o, .long b, .int (nI n)] ((o, zo 11 [.int (nI ts), .ref ta, .int (nI ne), .ref ans, .ref anm, .ref anu, .ref asa, .ref apl, .ref akd, .int (nI nk), .ref akn, .ref aks, .ref akp, .ref akk, .int (nI bg), .int (nI sz), .int (nI hd), .ref alg, .int (nI ni), .ref aip, .ref aix, .ref aiz, .ref aim, .ref aod, .int (nI av), .int (nI hv), .int (nI lf), .int (nI sn), .int (nI pv)]) :: (ta, zIn g 300 (nB tb)) :: T)) (zQi g (fun r w => (300 < ts + n → r = iI (-4) ∧ w = (o, zo 11 [.int (nI ts), .ref ta, .int (nI ne), .ref ans, .ref anm, .ref anu, .ref asa, .ref apl, .ref akd, .int (nI nk), .ref akn, .ref aks, .ref akp, .ref akk, .int (nI bg), .int (nI sz), .int (nI hd), .ref alg, .int (nI ni), .ref aip, .ref aix, .ref aiz, .ref aim, .ref aod, .int (nI av), .int (nI hv), .int (nI lf), .int (nI sn), .int (nI pv)]) :: (ta, zIn g 300 (nB tb)) :: T) ∧ (ts + n ≤ 300 → r = nI (ts + n) ∧ w = (o, zo 11 [.int (nI (ts + n)), .ref ta, .int (nI ne), .ref ans, .ref anm, .ref anu, .ref asa, .ref apl, .ref akd, .int (nI nk), .ref akn, .ref aks, .ref akp, .ref akk, .int (nI bg), .int (nI sz), .int (nI hd), .ref alg, .int (nI ni), .ref aip, .ref aix, .ref aiz, .ref aim, .ref aod, .int (nI av), .int (nI hv), .int (nI lf), .int (nI sn), .int (nI pv)]) :: (ta, zIn g 300 (nB (wr tb ts ((List.range n).map (fB b))))) :: T))) 0 0 (zA g) := by
  refine zMet (by decide) (Nat.le_of_ble_eq_true rfl) ?_
  intro p e s m below meth c ls C hr hlk hnm hP hD hl
  have hx := C.1.1
  have hb := C.1.2.1
  have hS : va_S (zA g) s.heap s.heap [] := va_S.rf
  have hl : lv_has ls 5 [(0, .ref o), (1, .long b), (3, .int (nI n))] := hl
  have L_31 : ∀ (nu : Nat) (k t2 : Nat) (_ : k ≤ n) (_ : t2 = ts + k) (_ : ts + n ≤ 300) (_ : n - k < nu) (H : Heap) (locs : List Loc), va_P g.1 classes ((o, zo 11 [.int (nI t2), .ref ta, .int (nI ne), .ref ans, .ref anm, .ref anu, .ref asa, .ref apl, .ref akd, .int (nI nk), .ref akn, .ref aks, .ref akp, .ref akk, .int (nI bg), .int (nI sz), .int (nI hd), .ref alg, .int (nI ni), .ref aip, .ref aix, .ref aiz, .ref aim, .ref aod, .int (nI av), .int (nI hv), .int (nI lf), .int (nI sn), .int (nI pv)]) :: (ta, zIn g 300 (nB (wr tb ts ((List.range k).map (fB b))))) :: T) H → va_D (zA g) ((o, zo 11 [.int (nI t2), .ref ta, .int (nI ne), .ref ans, .ref anm, .ref anu, .ref asa, .ref apl, .ref akd, .int (nI nk), .ref akn, .ref aks, .ref akp, .ref akk, .int (nI bg), .int (nI sz), .int (nI hd), .ref alg, .int (nI ni), .ref aip, .ref aix, .ref aiz, .ref aim, .ref aod, .int (nI av), .int (nI hv), .int (nI lf), .int (nI sn), .int (nI pv)]) :: (ta, zIn g 300 (nB (wr tb ts ((List.range k).map (fB b))))) :: T) → va_S (zA g) s.heap H locs → ∀ ls : Array Slot, lv_has ls 5 [(0, .ref o), (1, .long b), (3, .int (nI n)), (4, .int (nI k))] → W p l e (zR 0 0 0 0) s m [.ref o, .long b, .int (nI n)].toArray below meth c H locs 0 0 (MQ below (zQi g (fun r w => (300 < ts + n → r = iI (-4) ∧ w = (o, zo 11 [.int (nI ts), .ref ta, .int (nI ne), .ref ans, .ref anm, .ref anu, .ref asa, .ref apl, .ref akd, .int (nI nk), .ref akn, .ref aks, .ref akp, .ref akk, .int (nI bg), .int (nI sz), .int (nI hd), .ref alg, .int (nI ni), .ref aip, .ref aix, .ref aiz, .ref aim, .ref aod, .int (nI av), .int (nI hv), .int (nI lf), .int (nI sn), .int (nI pv)]) :: (ta, zIn g 300 (nB tb)) :: T) ∧ (ts + n ≤ 300 → r = nI (ts + n) ∧ w = (o, zo 11 [.int (nI (ts + n)), .ref ta, .int (nI ne), .ref ans, .ref anm, .ref anu, .ref asa, .ref apl, .ref akd, .int (nI nk), .ref akn, .ref aks, .ref akp, .ref akk, .int (nI bg), .int (nI sz), .int (nI hd), .ref alg, .int (nI ni), .ref aip, .ref aix, .ref aiz, .ref aim, .ref aod, .int (nI av), .int (nI hv), .int (nI lf), .int (nI sn), .int (nI pv)]) :: (ta, zIn g 300 (nB (wr tb ts ((List.range n).map (fB b))))) :: T))) [.ref o, .long b, .int (nI n)].toArray s 0 0 (zA g)) (F0 m 31 ls []) := by
    intro nu
    induction nu with
    | zero => intros; omega
    | succ nu ih =>
      intro k t2 g1 g2 g3 hmu H locs hP hD hS ls hl
      refine lv_iload hx hb d_Mod_feed_31 (lv_at hl 3 rfl) ?_
      refine lv_iload_n hx hb d_Mod_feed_33 rfl (lv_at hl 2 rfl) ?_
      refine lv_icmp_ge (tgt := 74) hx hb d_Mod_feed_34 (by decide) (fun c_34 => ?_) (fun c_34 => ?_)
      · skip
        have c_34 : n ≤ k := (nI_leI (a := n) (b := k) (by omega) (by omega)).mp c_34
        refine lv_aload_n hx hb d_Mod_feed_74 rfl (lv_at hl 0 rfl) ?_
        refine z_get C hP List.mem_cons_self q_Mod 0 (by decide) k_728 (fun _ h9 => h9) rfl d_Mod_feed_75 ?_
        exact z_iret C hr hlk hP hD hS (by omega) (by omega) ⟨fun q9 => absurd q9 (by omega), fun _ => ⟨by rw [show t2 = ts + n by omega], by rw [show t2 = ts + n by omega, show k = n by omega]⟩⟩ d_Mod_feed_78
      · skip
        have c_34 : ¬ n ≤ k := fun q9 => c_34 ((nI_leI (a := n) (b := k) (by omega) (by omega)).mpr q9)
        refine lv_aload_n hx hb d_Mod_feed_37 rfl (lv_at hl 0 rfl) ?_
        refine z_get C hP List.mem_cons_self q_Mod 1 (by decide) k_729 (fun _ h9 => h9) rfl d_Mod_feed_38 ?_
        refine lv_aload_n hx hb d_Mod_feed_41 rfl (lv_at hl 0 rfl) ?_
        refine z_get C hP List.mem_cons_self q_Mod 0 (by decide) k_728 (fun _ h9 => h9) rfl d_Mod_feed_42 ?_
        refine lv_lload_n hx hb d_Mod_feed_45 rfl (lv_at hl 1 rfl) ?_
        refine lv_bipush (v := nI 8) hx hb d_Mod_feed_46 (by decide) ?_
        refine lv_iload hx hb d_Mod_feed_48 (lv_at hl 3 rfl) ?_
        refine z_imul (v := nI (8 * k)) C d_Mod_feed_50 (pk_mul _ _) ?_
        refine lv_lshr (v := b >>> ((nI (8 * k)).toInt64 &&& 63)) hx hb d_Mod_feed_51 rfl ?_
        refine lv_ldc2 hx hb C.1.2.2.2.1 (C.ts k_821 rfl) d_Mod_feed_52 ?_
        refine z_land (v := (b >>> ((nI (8 * k)).toInt64 &&& 63)) &&& 255) C d_Mod_feed_55 rfl ?_
        refine lv_l2i (v := nI ((fB b k).toNat)) hx hb d_Mod_feed_56 (fed_b _) ?_
        refine z_iast C hP hD hS 1 rfl t2 (by omega) (by omega) d_Mod_feed_57 (ws' := (o, zo 11 [.int (nI t2), .ref ta, .int (nI ne), .ref ans, .ref anm, .ref anu, .ref asa, .ref apl, .ref akd, .int (nI nk), .ref akn, .ref aks, .ref akp, .ref akk, .int (nI bg), .int (nI sz), .int (nI hd), .ref alg, .int (nI ni), .ref aip, .ref aix, .ref aiz, .ref aim, .ref aod, .int (nI av), .int (nI hv), .int (nI lf), .int (nI sn), .int (nI pv)]) :: (ta, zIn g 300 (upd (nB (wr tb ts ((List.range k).map (fB b)))) t2 (nI ((fB b k).toNat)))) :: T) rfl (fun H locs hP hD hS => ?_)
        rw [upd_nB] at hP hD
        rw [fed_s _ _ _ _ _ g2] at hP hD
        refine lv_aload_n hx hb d_Mod_feed_58 rfl (lv_at hl 0 rfl) ?_
        refine lv_dup hx hb d_Mod_feed_59 rfl ?_
        refine z_get C hP List.mem_cons_self q_Mod 0 (by decide) k_728 (fun _ h9 => h9) rfl d_Mod_feed_60 ?_
        refine lv_iconst (v := nI 1) hx hb d_Mod_feed_63 (by decide) ?_
        refine z_iadd (v := nI (t2 + 1)) C d_Mod_feed_64 (nI_add _ _) ?_
        refine z_put C hP hD hS 0 rfl q_Mod 0 (by decide) k_728 (fun _ h9 => h9) rfl rfl rfl (Nat.le_of_ble_eq_true rfl) d_Mod_feed_65 (ws' := (o, zo 11 [.int (nI (t2 + 1)), .ref ta, .int (nI ne), .ref ans, .ref anm, .ref anu, .ref asa, .ref apl, .ref akd, .int (nI nk), .ref akn, .ref aks, .ref akp, .ref akk, .int (nI bg), .int (nI sz), .int (nI hd), .ref alg, .int (nI ni), .ref aip, .ref aix, .ref aiz, .ref aim, .ref aod, .int (nI av), .int (nI hv), .int (nI lf), .int (nI sn), .int (nI pv)]) :: (ta, zIn g 300 (nB (wr tb ts ((List.range (k + 1)).map (fB b))))) :: T) rfl (fun H locs hP hD hS => ?_)
        refine lv_iinc (v := nI (k + 1)) (lv' := [(4, .int (nI (k + 1))), (0, .ref o), (1, .long b), (3, .int (nI n))]) hx hb d_Mod_feed_68 hl (k := 3) rfl (by rw [show Int32.ofInt 1 = nI 1 by decide]; exact nI_add _ _) (by decide) rfl (fun ls hl => ?_)
        refine lv_goto (tgt := 31) hx hb d_Mod_feed_71 (by decide) ?_
        exact ih (k + 1) (t2 + 1) (by omega) (by omega) g3 (by omega) _ _ hP hD hS ls (lv_sub hl [1, 2, 3, 0] rfl)
  refine lv_iload_n hx hb d_Mod_feed_0 rfl (lv_at hl 2 rfl) ?_
  refine lv_iconst (v := nI 1) hx hb d_Mod_feed_1 (by decide) ?_
  refine lv_icmp_lt (tgt := 11) hx hb d_Mod_feed_2 (by decide) (fun c_2 => ?_) (fun c_2 => ?_)
  · skip
    have c_2 : n < 1 := (nI_ltI (a := n) (b := 1) (by omega) (by decide)).mp c_2
    exact absurd c_2 (by omega)
  · skip
    have c_2 : ¬ n < 1 := fun q9 => c_2 ((nI_ltI (a := n) (b := 1) (by omega) (by decide)).mpr q9)
    refine lv_iload_n hx hb d_Mod_feed_5 rfl (lv_at hl 2 rfl) ?_
    refine lv_bipush (v := nI 8) hx hb d_Mod_feed_6 (by decide) ?_
    refine lv_icmp_le (tgt := 13) hx hb d_Mod_feed_8 (by decide) (fun c_8 => ?_) (fun c_8 => ?_)
    · skip
      have c_8 : n ≤ 8 := (nI_leI (a := n) (b := 8) (by omega) (by decide)).mp c_8
      refine lv_aload_n hx hb d_Mod_feed_13 rfl (lv_at hl 0 rfl) ?_
      refine z_get C hP List.mem_cons_self q_Mod 0 (by decide) k_728 (fun _ h9 => h9) rfl d_Mod_feed_14 ?_
      refine lv_iload_n hx hb d_Mod_feed_17 rfl (lv_at hl 2 rfl) ?_
      refine z_iadd (v := nI (ts + n)) C d_Mod_feed_18 (nI_add _ _) ?_
      refine lv_sipush (v := nI 300) hx hb d_Mod_feed_19 (by decide) ?_
      refine lv_icmp_le (tgt := 28) hx hb d_Mod_feed_22 (by decide) (fun c_22 => ?_) (fun c_22 => ?_)
      · skip
        have c_22 : (ts + n) ≤ 300 := (nI_leI (a := ts + n) (b := 300) (by omega) (by decide)).mp c_22
        refine lv_iconst (v := nI 0) hx hb d_Mod_feed_28 (by decide) ?_
        refine lv_istore (lv' := [(4, .int (nI 0)), (0, .ref o), (1, .long b), (3, .int (nI n))]) hx hb d_Mod_feed_29 hl (by decide) rfl (fun ls hl => ?_)
        have e_w : nB tb = nB (wr tb ts ((List.range 0).map (fB b))) := by rw [show (List.range 0).map (fB b) = [] from rfl, wr_0]
        rw [e_w] at hP hD
        exact L_31 _ 0 ts (Nat.zero_le _) rfl (by omega) (Nat.lt_succ_self _) _ _ hP hD hS ls (lv_sub hl [1, 2, 3, 0] rfl)
      · skip
        have c_22 : ¬ (ts + n) ≤ 300 := fun q9 => c_22 ((nI_leI (a := ts + n) (b := 300) (by omega) (by decide)).mpr q9)
        refine lv_bipush (v := iI (-4)) hx hb d_Mod_feed_25 (by decide) ?_
        exact z_iret C hr hlk hP hD hS (by omega) (by omega) ⟨fun _ => ⟨rfl, rfl⟩, fun q9 => absurd q9 (by omega)⟩ d_Mod_feed_27
    · skip
      have c_8 : ¬ n ≤ 8 := fun q9 => c_8 ((nI_leI (a := n) (b := 8) (by omega) (by decide)).mpr q9)
      exact absurd c_8 (by omega)
set_option maxHeartbeats 4000000 in
set_option maxRecDepth 100000 in
theorem c_Mod_bytes_b (l : Launch) (g : zT) (T : va_W) (o ts ta ne ans anm anu asa apl akd nk akn aks akp akk bg sz hd alg ni aip aix aiz aim aod av hv lf sn pv : Nat) (ho : (o, zo 11 [.int (nI ts), .ref ta, .int (nI ne), .ref ans, .ref anm, .ref anu, .ref asa, .ref apl, .ref akd, .int (nI nk), .ref akn, .ref aks, .ref akp, .ref akk, .int (nI bg), .int (nI sz), .int (nI hd), .ref alg, .int (nI ni), .ref aip, .ref aix, .ref aiz, .ref aim, .ref aod, .int (nI av), .int (nI hv), .int (nI lf), .int (nI sn), .int (nI pv)]) ∈ T) (a : Int32) (hr9 : ¬ (0 ≤ a.toInt ∧ a.toInt < 8192)) : Met l y_Mod_bytes (zw y_Mod_bytes b_Mod_bytes 5 (some .long)) (zR 0 0 0 0) (zP g [.ref o, .int a] (T)) (zQl g (fun r w => r = 0 ∧ w = T)) 0 0 (zA g) := by
  refine zMet (by decide) (Nat.le_of_ble_eq_true rfl) ?_
  intro p e s m below meth c ls C hr hlk hnm hP hD hl
  have hx := C.1.1
  have hb := C.1.2.1
  have hS : va_S (zA g) s.heap s.heap [] := va_S.rf
  have hl : lv_has ls 5 [(0, .ref o), (1, .int a)] := hl
  have r1 := zi_rg a
  refine lv_lconst (v := 0) hx hb d_Mod_bytes_0 (by decide) ?_
  refine lv_lstore_n (lv' := [(2, .long 0), (0, .ref o), (1, .int a)]) hx hb d_Mod_bytes_1 rfl hl (by decide) rfl (fun ls hl => ?_)
  refine lv_bipush (v := nI 7) hx hb d_Mod_bytes_2 (by decide) ?_
  refine lv_istore (lv' := [(4, .int (nI 7)), (2, .long 0), (0, .ref o), (1, .int a)]) hx hb d_Mod_bytes_4 hl (by decide) rfl (fun ls hl => ?_)
  refine lv_iload hx hb d_Mod_bytes_6 (lv_at hl 0 rfl) ?_
  refine lv_if_lt (tgt := 69) hx hb d_Mod_bytes_8 (by decide) (fun c_8 => ?_) (fun c_8 => ?_)
  · skip
    have c_8 : 7 < 0 := (nI_ltI (a := 7) (b := 0) (by decide) (by decide)).mp c_8
    exact absurd c_8 (by omega)
  · skip
    have c_8 : ¬ 7 < 0 := fun q9 => c_8 ((nI_ltI (a := 7) (b := 0) (by decide) (by decide)).mpr q9)
    refine lv_iload_n hx hb d_Mod_bytes_11 rfl (lv_at hl 3 rfl) ?_
    refine lv_if_lt (tgt := 69) hx hb d_Mod_bytes_12 (by decide) (fun c_12 => ?_) (fun c_12 => ?_)
    · skip
      have c_12 : a.toInt < 0 := (zi_lt (a := a.toInt) (b := 0) (iI_of _) (nI_iI _) (by omega) (by omega) (by omega) (by omega)).mp c_12
      refine lv_lload_n hx hb d_Mod_bytes_69 rfl (lv_at hl 1 rfl) ?_
      exact z_lret C hr hlk hP hD hS (by omega) (by omega) ⟨rfl, rfl⟩ d_Mod_bytes_70
    · skip
      have c_12 : ¬ a.toInt < 0 := fun q9 => c_12 ((zi_lt (a := a.toInt) (b := 0) (iI_of _) (nI_iI _) (by omega) (by omega) (by omega) (by omega)).mpr q9)
      refine lv_iload_n hx hb d_Mod_bytes_15 rfl (lv_at hl 3 rfl) ?_
      refine lv_sipush (v := nI 8192) hx hb d_Mod_bytes_16 (by decide) ?_
      refine lv_icmp_ge (tgt := 69) hx hb d_Mod_bytes_19 (by decide) (fun c_19 => ?_) (fun c_19 => ?_)
      · skip
        have c_19 : 8192 ≤ a.toInt := (zi_le (a := 8192) (b := a.toInt) (nI_iI _) (iI_of _) (by omega) (by omega) (by omega) (by omega)).mp c_19
        refine lv_lload_n hx hb d_Mod_bytes_69 rfl (lv_at hl 1 rfl) ?_
        exact z_lret C hr hlk hP hD hS (by omega) (by omega) ⟨rfl, rfl⟩ d_Mod_bytes_70
      · skip
        have c_19 : ¬ 8192 ≤ a.toInt := fun q9 => c_19 ((zi_le (a := 8192) (b := a.toInt) (nI_iI _) (iI_of _) (by omega) (by omega) (by omega) (by omega)).mpr q9)
        exact absurd c_19 (by omega)
set_option maxHeartbeats 4000000 in
set_option maxRecDepth 100000 in
theorem c_Mod_bytes_g (l : Launch) (g : zT) (T : va_W) (o ts ta ne ans anm anu asa apl akd nk akn aks akp akk bg sz hd alg ni aip aix aiz aim aod av hv lf sn pv : Nat) (ho : (o, zo 11 [.int (nI ts), .ref ta, .int (nI ne), .ref ans, .ref anm, .ref anu, .ref asa, .ref apl, .ref akd, .int (nI nk), .ref akn, .ref aks, .ref akp, .ref akk, .int (nI bg), .int (nI sz), .int (nI hd), .ref alg, .int (nI ni), .ref aip, .ref aix, .ref aiz, .ref aim, .ref aod, .int (nI av), .int (nI hv), .int (nI lf), .int (nI sn), .int (nI pv)]) ∈ T) (f : Nat → UInt8) (hlg : (alg, zBy g 65536 f) ∈ T) (n : Nat) (v1 : n < 8192) (v2 : sz ≤ 65536) : Met l y_Mod_bytes (zw y_Mod_bytes b_Mod_bytes 5 (some .long)) (zR 0 0 0 0) (zP g [.ref o, .int (nI n)] (T)) (zQl g (fun r w => r = bV f sz n 8 ∧ w = T)) 0 0 (zA g) := by
  refine zMet (by decide) (Nat.le_of_ble_eq_true rfl) ?_
  intro p e s m below meth c ls C hr hlk hnm hP hD hl
  have hx := C.1.1
  have hb := C.1.2.1
  have hS : va_S (zA g) s.heap s.heap [] := va_S.rf
  have hl : lv_has ls 5 [(0, .ref o), (1, .int (nI n))] := hl
  have L_6 : ∀ (nu : Nat) (j : Nat) (_ : j ≤ 8) (_ : j < nu) (H : Heap) (locs : List Loc), va_P g.1 classes (T) H → va_D (zA g) (T) → va_S (zA g) s.heap H locs → ∀ ls : Array Slot, lv_has ls 5 [(0, .ref o), (1, .int (nI n)), (2, .long (bV f sz n (8 - j))), (4, .int (iI ((j : Int) - 1)))] → W p l e (zR 0 0 0 0) s m [.ref o, .int (nI n)].toArray below meth c H locs 0 0 (MQ below (zQl g (fun r w => r = bV f sz n 8 ∧ w = T)) [.ref o, .int (nI n)].toArray s 0 0 (zA g)) (F0 m 6 ls []) := by
    intro nu
    induction nu with
    | zero => intros; omega
    | succ nu ih =>
      intro j hj hmu H locs hP hD hS ls hl
      have L_60 : ∀ (_ : 0 < j) (H : Heap) (locs : List Loc), va_P g.1 classes (T) H → va_D (zA g) (T) → va_S (zA g) s.heap H locs → ∀ ls : Array Slot, lv_has ls 5 [(0, .ref o), (1, .int (nI n)), (4, .int (iI ((j : Int) - 1)))] → W p l e (zR 0 0 0 0) s m [.ref o, .int (nI n)].toArray below meth c H locs 0 0 (MQ below (zQl g (fun r w => r = bV f sz n 8 ∧ w = T)) [.ref o, .int (nI n)].toArray s 0 0 (zA g)) (F0 m 60 ls [.int (nI (bz f sz (8 * n + (j - 1)))), .long ((bV f sz n (8 - j)) <<< ((nI 8).toInt64 &&& 63))]) := by
        intro g2 H locs hP hD hS ls hl
        have bzl := bz_lt f sz (8 * n + (j - 1))
        refine lv_i2l (v := lN (bz f sz (8 * n + (j - 1)))) hx hb d_Mod_bytes_60 (nI_l (by omega)) ?_
        refine z_lor (v := bV f sz n (8 - (j - 1))) C d_Mod_bytes_61 (by rw [show 8 - (j - 1) = (8 - j) + 1 by omega]; show _ = _ ||| lN (bz f sz (8 * n + (7 - (8 - j)))); rw [show 7 - (8 - j) = j - 1 by omega]) ?_
        refine lv_lstore_n (lv' := [(2, .long (bV f sz n (8 - (j - 1)))), (0, .ref o), (1, .int (nI n)), (4, .int (iI ((j : Int) - 1)))]) hx hb d_Mod_bytes_62 rfl hl (by decide) rfl (fun ls hl => ?_)
        refine lv_iinc (v := iI (((j - 1 : Nat) : Int) - 1)) (lv' := [(4, .int (iI (((j - 1 : Nat) : Int) - 1))), (2, .long (bV f sz n (8 - (j - 1)))), (0, .ref o), (1, .int (nI n))]) hx hb d_Mod_bytes_63 hl (k := 3) rfl (by show iI _ + iI (-1) = _; rw [iI_add]; congr 1; omega) (by decide) rfl (fun ls hl => ?_)
        refine lv_goto (tgt := 6) hx hb d_Mod_bytes_66 (by decide) ?_
        exact ih (j - 1) (by omega) (by omega) _ _ hP hD hS ls (lv_sub hl [2, 3, 1, 0] rfl)
      refine lv_iload hx hb d_Mod_bytes_6 (lv_at hl 3 rfl) ?_
      refine lv_if_lt (tgt := 69) hx hb d_Mod_bytes_8 (by decide) (fun c_8 => ?_) (fun c_8 => ?_)
      · skip
        have c_8 : ((j : Int) - 1) < 0 := (zi_lt (a := (j : Int) - 1) (b := 0) rfl (nI_iI _) (by omega) (by omega) (by omega) (by omega)).mp c_8
        refine lv_lload_n hx hb d_Mod_bytes_69 rfl (lv_at hl 2 rfl) ?_
        exact z_lret C hr hlk hP hD hS (by omega) (by omega) ⟨by rw [show j = 0 by omega], rfl⟩ d_Mod_bytes_70
      · skip
        have c_8 : ¬ ((j : Int) - 1) < 0 := fun q9 => c_8 ((zi_lt (a := (j : Int) - 1) (b := 0) rfl (nI_iI _) (by omega) (by omega) (by omega) (by omega)).mpr q9)
        refine lv_iload_n hx hb d_Mod_bytes_11 rfl (lv_at hl 1 rfl) ?_
        refine lv_if_lt (tgt := 69) hx hb d_Mod_bytes_12 (by decide) (fun c_12 => ?_) (fun c_12 => ?_)
        · skip
          have c_12 : n < 0 := (nI_ltI (a := n) (b := 0) (by omega) (by decide)).mp c_12
          exact absurd c_12 (by omega)
        · skip
          have c_12 : ¬ n < 0 := fun q9 => c_12 ((nI_ltI (a := n) (b := 0) (by omega) (by decide)).mpr q9)
          refine lv_iload_n hx hb d_Mod_bytes_15 rfl (lv_at hl 1 rfl) ?_
          refine lv_sipush (v := nI 8192) hx hb d_Mod_bytes_16 (by decide) ?_
          refine lv_icmp_ge (tgt := 69) hx hb d_Mod_bytes_19 (by decide) (fun c_19 => ?_) (fun c_19 => ?_)
          · skip
            have c_19 : 8192 ≤ n := (nI_leI (a := 8192) (b := n) (by decide) (by omega)).mp c_19
            exact absurd c_19 (by omega)
          · skip
            have c_19 : ¬ 8192 ≤ n := fun q9 => c_19 ((nI_leI (a := 8192) (b := n) (by decide) (by omega)).mpr q9)
            refine lv_lload_n hx hb d_Mod_bytes_22 rfl (lv_at hl 2 rfl) ?_
            refine lv_bipush (v := nI 8) hx hb d_Mod_bytes_23 (by decide) ?_
            refine lv_lshl (v := (bV f sz n (8 - j)) <<< ((nI 8).toInt64 &&& 63)) hx hb d_Mod_bytes_25 rfl ?_
            refine lv_bipush (v := nI 8) hx hb d_Mod_bytes_26 (by decide) ?_
            refine lv_iload_n hx hb d_Mod_bytes_28 rfl (lv_at hl 1 rfl) ?_
            refine z_imul (v := nI (8 * n)) C d_Mod_bytes_29 (pk_mul _ _) ?_
            refine lv_iload hx hb d_Mod_bytes_30 (lv_at hl 3 rfl) ?_
            refine z_iadd (v := nI (8 * n + (j - 1))) C d_Mod_bytes_32 (by rw [nI_iI, iI_add, nI_iI]; congr 1; omega) ?_
            refine lv_aload_n hx hb d_Mod_bytes_33 rfl (lv_at hl 0 rfl) ?_
            refine z_get C hP ho q_Mod 15 (by decide) k_743 (fun _ h9 => h9) rfl d_Mod_bytes_34 ?_
            refine lv_icmp_ge (tgt := 59) hx hb d_Mod_bytes_37 (by decide) (fun c_37 => ?_) (fun c_37 => ?_)
            · skip
              have c_37 : sz ≤ (8 * n + (j - 1)) := (nI_leI (a := sz) (b := 8 * n + (j - 1)) (by omega) (by omega)).mp c_37
              refine lv_iconst (v := nI 0) hx hb d_Mod_bytes_59 (by decide) ?_
              refine z_topi (y := nI (bz f sz (8 * n + (j - 1)))) (by unfold bz; rw [if_neg (by omega)]) ?_
              exact L_60 (by omega) _ _ hP hD hS ls (lv_sub hl [0, 1, 3] rfl)
            · skip
              have c_37 : ¬ sz ≤ (8 * n + (j - 1)) := fun q9 => c_37 ((nI_leI (a := sz) (b := 8 * n + (j - 1)) (by omega) (by omega)).mpr q9)
              refine lv_aload_n hx hb d_Mod_bytes_40 rfl (lv_at hl 0 rfl) ?_
              refine z_get C hP ho q_Mod 17 (by decide) k_745 (fun _ h9 => h9) rfl d_Mod_bytes_41 ?_
              refine lv_bipush (v := nI 8) hx hb d_Mod_bytes_44 (by decide) ?_
              refine lv_iload_n hx hb d_Mod_bytes_46 rfl (lv_at hl 1 rfl) ?_
              refine z_imul (v := nI (8 * n)) C d_Mod_bytes_47 (pk_mul _ _) ?_
              refine lv_iload hx hb d_Mod_bytes_48 (lv_at hl 3 rfl) ?_
              refine z_iadd (v := nI (8 * n + (j - 1))) C d_Mod_bytes_50 (by rw [nI_iI, iI_add, nI_iI]; congr 1; omega) ?_
              refine z_bald C hP hlg (8 * n + (j - 1)) (by omega) (by omega) d_Mod_bytes_51 ?_
              refine lv_sipush (v := nI 255) hx hb d_Mod_bytes_52 (by decide) ?_
              refine z_iand (v := nI ((f (8 * n + (j - 1))).toNat)) C d_Mod_bytes_55 (sb_and _) ?_
              refine lv_goto (tgt := 60) hx hb d_Mod_bytes_56 (by decide) ?_
              refine z_topi (y := nI (bz f sz (8 * n + (j - 1)))) (by unfold bz; rw [if_pos (by omega)]) ?_
              exact L_60 (by omega) _ _ hP hD hS ls (lv_sub hl [0, 1, 3] rfl)
  refine lv_lconst (v := 0) hx hb d_Mod_bytes_0 (by decide) ?_
  refine lv_lstore_n (lv' := [(2, .long 0), (0, .ref o), (1, .int (nI n))]) hx hb d_Mod_bytes_1 rfl hl (by decide) rfl (fun ls hl => ?_)
  refine lv_bipush (v := nI 7) hx hb d_Mod_bytes_2 (by decide) ?_
  refine lv_istore (lv' := [(4, .int (nI 7)), (2, .long 0), (0, .ref o), (1, .int (nI n))]) hx hb d_Mod_bytes_4 hl (by decide) rfl (fun ls hl => ?_)
  exact L_6 _ 8 (Nat.le_refl _) (Nat.lt_succ_self _) _ _ hP hD hS ls (lv_sub hl [2, 3, 1, 0] rfl)
set_option maxHeartbeats 4000000 in
set_option maxRecDepth 100000 in
theorem c_Mod_index_b1 (l : Launch) (g : zT) (T : va_W) (o ts ta ne ans anm anu asa apl akd nk akn aks akp akk bg sz hd alg ni aip aix aiz aim aod av hv lf sn pv : Nat) (ho : (o, zo 11 [.int (nI ts), .ref ta, .int (nI ne), .ref ans, .ref anm, .ref anu, .ref asa, .ref apl, .ref akd, .int (nI nk), .ref akn, .ref aks, .ref akp, .ref akk, .int (nI bg), .int (nI sz), .int (nI hd), .ref alg, .int (nI ni), .ref aip, .ref aix, .ref aiz, .ref aim, .ref aod, .int (nI av), .int (nI hv), .int (nI lf), .int (nI sn), .int (nI pv)]) ∈ T) (a b : Int32) (hr9 : ¬ (0 ≤ b.toInt ∧ b.toInt ≤ 2)) : Met l y_Mod_index (zw y_Mod_index b_Mod_index 3 (some .int)) (zR 0 0 0 0) (zP g [.ref o, .int a, .int b] (T)) (zQi g (fun r w => r = iI (-1) ∧ w = T)) 0 0 (zA g) := by
  refine zMet (by decide) (Nat.le_of_ble_eq_true rfl) ?_
  intro p e s m below meth c ls C hr hlk hnm hP hD hl
  have hx := C.1.1
  have hb := C.1.2.1
  have hS : va_S (zA g) s.heap s.heap [] := va_S.rf
  have hl : lv_has ls 3 [(0, .ref o), (1, .int a), (2, .int b)] := hl
  have r1 := zi_rg a
  have r2 := zi_rg b
  refine lv_iload_n hx hb d_Mod_index_0 rfl (lv_at hl 2 rfl) ?_
  refine lv_if_lt (tgt := 9) hx hb d_Mod_index_1 (by decide) (fun c_1 => ?_) (fun c_1 => ?_)
  · skip
    have c_1 : b.toInt < 0 := (zi_lt (a := b.toInt) (b := 0) (iI_of _) (nI_iI _) (by omega) (by omega) (by omega) (by omega)).mp c_1
    refine lv_iconst (v := iI (-1)) hx hb d_Mod_index_9 (by decide) ?_
    exact z_iret C hr hlk hP hD hS (by omega) (by omega) ⟨rfl, rfl⟩ d_Mod_index_10
  · skip
    have c_1 : ¬ b.toInt < 0 := fun q9 => c_1 ((zi_lt (a := b.toInt) (b := 0) (iI_of _) (nI_iI _) (by omega) (by omega) (by omega) (by omega)).mpr q9)
    refine lv_iload_n hx hb d_Mod_index_4 rfl (lv_at hl 2 rfl) ?_
    refine lv_iconst (v := nI 2) hx hb d_Mod_index_5 (by decide) ?_
    refine lv_icmp_le (tgt := 11) hx hb d_Mod_index_6 (by decide) (fun c_6 => ?_) (fun c_6 => ?_)
    · skip
      have c_6 : b.toInt ≤ 2 := (zi_le (a := b.toInt) (b := 2) (iI_of _) (nI_iI _) (by omega) (by omega) (by omega) (by omega)).mp c_6
      exact absurd c_6 (by omega)
    · skip
      have c_6 : ¬ b.toInt ≤ 2 := fun q9 => c_6 ((zi_le (a := b.toInt) (b := 2) (iI_of _) (nI_iI _) (by omega) (by omega) (by omega) (by omega)).mpr q9)
      refine lv_iconst (v := iI (-1)) hx hb d_Mod_index_9 (by decide) ?_
      exact z_iret C hr hlk hP hD hS (by omega) (by omega) ⟨rfl, rfl⟩ d_Mod_index_10
set_option maxHeartbeats 4000000 in
set_option maxRecDepth 100000 in
theorem c_Mod_index_b2 (l : Launch) (g : zT) (T : va_W) (o ts ta ne ans anm anu asa apl akd nk akn aks akp akk bg sz hd alg ni aip aix aiz aim aod av hv lf sn pv : Nat) (ho : (o, zo 11 [.int (nI ts), .ref ta, .int (nI ne), .ref ans, .ref anm, .ref anu, .ref asa, .ref apl, .ref akd, .int (nI nk), .ref akn, .ref aks, .ref akp, .ref akk, .int (nI bg), .int (nI sz), .int (nI hd), .ref alg, .int (nI ni), .ref aip, .ref aix, .ref aiz, .ref aim, .ref aod, .int (nI av), .int (nI hv), .int (nI lf), .int (nI sn), .int (nI pv)]) ∈ T) (a b : Int32) (v1 : ni < 60000) (hr9 : 0 ≤ b.toInt ∧ b.toInt ≤ 2) (hr8 : ¬ (0 ≤ a.toInt ∧ a.toInt < ni)) : Met l y_Mod_index (zw y_Mod_index b_Mod_index 3 (some .int)) (zR 0 0 0 0) (zP g [.ref o, .int a, .int b] (T)) (zQi g (fun r w => r = iI (-2) ∧ w = T)) 0 0 (zA g) := by
  refine zMet (by decide) (Nat.le_of_ble_eq_true rfl) ?_
  intro p e s m below meth c ls C hr hlk hnm hP hD hl
  have hx := C.1.1
  have hb := C.1.2.1
  have hS : va_S (zA g) s.heap s.heap [] := va_S.rf
  have hl : lv_has ls 3 [(0, .ref o), (1, .int a), (2, .int b)] := hl
  have r1 := zi_rg a
  have r2 := zi_rg b
  refine lv_iload_n hx hb d_Mod_index_0 rfl (lv_at hl 2 rfl) ?_
  refine lv_if_lt (tgt := 9) hx hb d_Mod_index_1 (by decide) (fun c_1 => ?_) (fun c_1 => ?_)
  · skip
    have c_1 : b.toInt < 0 := (zi_lt (a := b.toInt) (b := 0) (iI_of _) (nI_iI _) (by omega) (by omega) (by omega) (by omega)).mp c_1
    exact absurd c_1 (by omega)
  · skip
    have c_1 : ¬ b.toInt < 0 := fun q9 => c_1 ((zi_lt (a := b.toInt) (b := 0) (iI_of _) (nI_iI _) (by omega) (by omega) (by omega) (by omega)).mpr q9)
    refine lv_iload_n hx hb d_Mod_index_4 rfl (lv_at hl 2 rfl) ?_
    refine lv_iconst (v := nI 2) hx hb d_Mod_index_5 (by decide) ?_
    refine lv_icmp_le (tgt := 11) hx hb d_Mod_index_6 (by decide) (fun c_6 => ?_) (fun c_6 => ?_)
    · skip
      have c_6 : b.toInt ≤ 2 := (zi_le (a := b.toInt) (b := 2) (iI_of _) (nI_iI _) (by omega) (by omega) (by omega) (by omega)).mp c_6
      refine lv_iload_n hx hb d_Mod_index_11 rfl (lv_at hl 1 rfl) ?_
      refine lv_if_lt (tgt := 23) hx hb d_Mod_index_12 (by decide) (fun c_12 => ?_) (fun c_12 => ?_)
      · skip
        have c_12 : a.toInt < 0 := (zi_lt (a := a.toInt) (b := 0) (iI_of _) (nI_iI _) (by omega) (by omega) (by omega) (by omega)).mp c_12
        refine lv_bipush (v := iI (-2)) hx hb d_Mod_index_23 (by decide) ?_
        exact z_iret C hr hlk hP hD hS (by omega) (by omega) ⟨rfl, rfl⟩ d_Mod_index_25
      · skip
        have c_12 : ¬ a.toInt < 0 := fun q9 => c_12 ((zi_lt (a := a.toInt) (b := 0) (iI_of _) (nI_iI _) (by omega) (by omega) (by omega) (by omega)).mpr q9)
        refine lv_iload_n hx hb d_Mod_index_15 rfl (lv_at hl 1 rfl) ?_
        refine lv_aload_n hx hb d_Mod_index_16 rfl (lv_at hl 0 rfl) ?_
        refine z_get C hP ho q_Mod 18 (by decide) k_746 (fun _ h9 => h9) rfl d_Mod_index_17 ?_
        refine lv_icmp_lt (tgt := 26) hx hb d_Mod_index_20 (by decide) (fun c_20 => ?_) (fun c_20 => ?_)
        · skip
          have c_20 : a.toInt < (ni : Int) := (zi_lt (a := a.toInt) (b := (ni : Int)) (iI_of _) (nI_iI _) (by omega) (by omega) (by omega) (by omega)).mp c_20
          exact absurd c_20 (by omega)
        · skip
          have c_20 : ¬ a.toInt < (ni : Int) := fun q9 => c_20 ((zi_lt (a := a.toInt) (b := (ni : Int)) (iI_of _) (nI_iI _) (by omega) (by omega) (by omega) (by omega)).mpr q9)
          refine lv_bipush (v := iI (-2)) hx hb d_Mod_index_23 (by decide) ?_
          exact z_iret C hr hlk hP hD hS (by omega) (by omega) ⟨rfl, rfl⟩ d_Mod_index_25
    · skip
      have c_6 : ¬ b.toInt ≤ 2 := fun q9 => c_6 ((zi_le (a := b.toInt) (b := 2) (iI_of _) (nI_iI _) (by omega) (by omega) (by omega) (by omega)).mpr q9)
      exact absurd c_6 (by omega)
set_option maxHeartbeats 4000000 in
set_option maxRecDepth 100000 in
theorem c_Mod_index_g (l : Launch) (g : zT) (T : va_W) (o ts ta ne ans anm anu asa apl akd nk akn aks akp akk bg sz hd alg ni aip aix aiz aim aod av hv lf sn pv : Nat) (ho : (o, zo 11 [.int (nI ts), .ref ta, .int (nI ne), .ref ans, .ref anm, .ref anu, .ref asa, .ref apl, .ref akd, .int (nI nk), .ref akn, .ref aks, .ref akp, .ref akk, .int (nI bg), .int (nI sz), .int (nI hd), .ref alg, .int (nI ni), .ref aip, .ref aix, .ref aiz, .ref aim, .ref aod, .int (nI av), .int (nI hv), .int (nI lf), .int (nI sn), .int (nI pv)]) ∈ T) (ipl ist : Nat → Int32) (isz : Nat → Nat) (hip : (aip, zIn g 16 ipl) ∈ T) (hix : (aix, zIn g 16 ist) ∈ T) (hiz : (aiz, zIn g 16 (nN isz)) ∈ T) (n : Nat) (b : Int32) (v1 : ni ≤ 12) (hr9 : 0 ≤ b.toInt ∧ b.toInt ≤ 2) (hr8 : n < ni) : Met l y_Mod_index (zw y_Mod_index b_Mod_index 3 (some .int)) (zR 0 0 0 0) (zP g [.ref o, .int (nI n), .int b] (T)) (zQi g (fun r w => r = (if b = nI 0 then ipl n else if b = nI 1 then ist n else nI (isz n)) ∧ w = T)) 0 0 (zA g) := by
  refine zMet (by decide) (Nat.le_of_ble_eq_true rfl) ?_
  intro p e s m below meth c ls C hr hlk hnm hP hD hl
  have hx := C.1.1
  have hb := C.1.2.1
  have hS : va_S (zA g) s.heap s.heap [] := va_S.rf
  have hl : lv_has ls 3 [(0, .ref o), (1, .int (nI n)), (2, .int b)] := hl
  have r2 := zi_rg b
  refine lv_iload_n hx hb d_Mod_index_0 rfl (lv_at hl 2 rfl) ?_
  refine lv_if_lt (tgt := 9) hx hb d_Mod_index_1 (by decide) (fun c_1 => ?_) (fun c_1 => ?_)
  · skip
    have c_1 : b.toInt < 0 := (zi_lt (a := b.toInt) (b := 0) (iI_of _) (nI_iI _) (by omega) (by omega) (by omega) (by omega)).mp c_1
    exact absurd c_1 (by omega)
  · skip
    have c_1 : ¬ b.toInt < 0 := fun q9 => c_1 ((zi_lt (a := b.toInt) (b := 0) (iI_of _) (nI_iI _) (by omega) (by omega) (by omega) (by omega)).mpr q9)
    refine lv_iload_n hx hb d_Mod_index_4 rfl (lv_at hl 2 rfl) ?_
    refine lv_iconst (v := nI 2) hx hb d_Mod_index_5 (by decide) ?_
    refine lv_icmp_le (tgt := 11) hx hb d_Mod_index_6 (by decide) (fun c_6 => ?_) (fun c_6 => ?_)
    · skip
      have c_6 : b.toInt ≤ 2 := (zi_le (a := b.toInt) (b := 2) (iI_of _) (nI_iI _) (by omega) (by omega) (by omega) (by omega)).mp c_6
      refine lv_iload_n hx hb d_Mod_index_11 rfl (lv_at hl 1 rfl) ?_
      refine lv_if_lt (tgt := 23) hx hb d_Mod_index_12 (by decide) (fun c_12 => ?_) (fun c_12 => ?_)
      · skip
        have c_12 : n < 0 := (nI_ltI (a := n) (b := 0) (by omega) (by decide)).mp c_12
        exact absurd c_12 (by omega)
      · skip
        have c_12 : ¬ n < 0 := fun q9 => c_12 ((nI_ltI (a := n) (b := 0) (by omega) (by decide)).mpr q9)
        refine lv_iload_n hx hb d_Mod_index_15 rfl (lv_at hl 1 rfl) ?_
        refine lv_aload_n hx hb d_Mod_index_16 rfl (lv_at hl 0 rfl) ?_
        refine z_get C hP ho q_Mod 18 (by decide) k_746 (fun _ h9 => h9) rfl d_Mod_index_17 ?_
        refine lv_icmp_lt (tgt := 26) hx hb d_Mod_index_20 (by decide) (fun c_20 => ?_) (fun c_20 => ?_)
        · skip
          have c_20 : n < ni := (nI_ltI (a := n) (b := ni) (by omega) (by omega)).mp c_20
          refine lv_iload_n hx hb d_Mod_index_26 rfl (lv_at hl 2 rfl) ?_
          refine lv_if_ne (tgt := 39) hx hb d_Mod_index_27 (by decide) (fun c_27 => ?_) (fun c_27 => ?_)
          · skip
            refine lv_iload_n hx hb d_Mod_index_39 rfl (lv_at hl 2 rfl) ?_
            refine lv_iconst (v := nI 1) hx hb d_Mod_index_40 (by decide) ?_
            refine lv_icmp_ne (tgt := 53) hx hb d_Mod_index_41 (by decide) (fun c_41 => ?_) (fun c_41 => ?_)
            · skip
              refine lv_aload_n hx hb d_Mod_index_53 rfl (lv_at hl 0 rfl) ?_
              refine z_get C hP ho q_Mod 21 (by decide) k_749 (fun _ h9 => h9) rfl d_Mod_index_54 ?_
              refine lv_iload_n hx hb d_Mod_index_57 rfl (lv_at hl 1 rfl) ?_
              refine z_iald C hP hiz n (by omega) (by omega) d_Mod_index_58 ?_
              refine z_topi (y := nI (isz n)) rfl ?_
              exact z_iret C hr hlk hP hD hS (by omega) (by omega) ⟨by rw [if_neg (show ¬ b = nI 0 from c_27), if_neg c_41]; (try rfl), rfl⟩ d_Mod_index_59
            · skip
              refine lv_aload_n hx hb d_Mod_index_44 rfl (lv_at hl 0 rfl) ?_
              refine z_get C hP ho q_Mod 20 (by decide) k_748 (fun _ h9 => h9) rfl d_Mod_index_45 ?_
              refine lv_iload_n hx hb d_Mod_index_48 rfl (lv_at hl 1 rfl) ?_
              refine z_iald C hP hix n (by omega) (by omega) d_Mod_index_49 ?_
              refine lv_goto (tgt := 59) hx hb d_Mod_index_50 (by decide) ?_
              exact z_iret C hr hlk hP hD hS (by omega) (by omega) ⟨by rw [if_neg (show ¬ b = nI 0 from c_27), if_pos c_41]; (try rfl), rfl⟩ d_Mod_index_59
          · skip
            refine lv_aload_n hx hb d_Mod_index_30 rfl (lv_at hl 0 rfl) ?_
            refine z_get C hP ho q_Mod 19 (by decide) k_747 (fun _ h9 => h9) rfl d_Mod_index_31 ?_
            refine lv_iload_n hx hb d_Mod_index_34 rfl (lv_at hl 1 rfl) ?_
            refine z_iald C hP hip n (by omega) (by omega) d_Mod_index_35 ?_
            refine lv_goto (tgt := 59) hx hb d_Mod_index_36 (by decide) ?_
            exact z_iret C hr hlk hP hD hS (by omega) (by omega) ⟨by rw [if_pos (show b = nI 0 from c_27)]; (try rfl), rfl⟩ d_Mod_index_59
        · skip
          have c_20 : ¬ n < ni := fun q9 => c_20 ((nI_ltI (a := n) (b := ni) (by omega) (by omega)).mpr q9)
          exact absurd c_20 (by omega)
    · skip
      have c_6 : ¬ b.toInt ≤ 2 := fun q9 => c_6 ((zi_le (a := b.toInt) (b := 2) (iI_of _) (nI_iI _) (by omega) (by omega) (by omega) (by omega)).mpr q9)
      exact absurd c_6 (by omega)
set_option maxHeartbeats 4000000 in
set_option maxRecDepth 100000 in
theorem c_Mod_patch_b (l : Launch) (g : zT) (T : va_W) (o ts ta ne ans anm anu asa apl akd nk akn aks akp akk bg sz hd alg ni aip aix aiz aim aod av hv lf sn pv : Nat) (ho : (o, zo 11 [.int (nI ts), .ref ta, .int (nI ne), .ref ans, .ref anm, .ref anu, .ref asa, .ref apl, .ref akd, .int (nI nk), .ref akn, .ref aks, .ref akp, .ref akk, .int (nI bg), .int (nI sz), .int (nI hd), .ref alg, .int (nI ni), .ref aip, .ref aix, .ref aiz, .ref aim, .ref aod, .int (nI av), .int (nI hv), .int (nI lf), .int (nI sn), .int (nI pv)]) ∈ T) (a b : Int32) (v1 : sz ≤ 65536) (hr9 : ¬ (0 ≤ a.toInt ∧ a.toInt < sz)) : Met l y_Mod_patch (zw y_Mod_patch b_Mod_patch 4 (some .int)) (zR 0 0 0 0) (zP g [.ref o, .int a, .int b] (T)) (zQi g (fun r w => r = iI (-2) ∧ w = T)) 0 0 (zA g) := by
  refine zMet (by decide) (Nat.le_of_ble_eq_true rfl) ?_
  intro p e s m below meth c ls C hr hlk hnm hP hD hl
  have hx := C.1.1
  have hb := C.1.2.1
  have hS : va_S (zA g) s.heap s.heap [] := va_S.rf
  have hl : lv_has ls 4 [(0, .ref o), (1, .int a), (2, .int b)] := hl
  have r1 := zi_rg a
  refine lv_iload_n hx hb d_Mod_patch_0 rfl (lv_at hl 1 rfl) ?_
  refine lv_if_lt (tgt := 12) hx hb d_Mod_patch_1 (by decide) (fun c_1 => ?_) (fun c_1 => ?_)
  · skip
    have c_1 : a.toInt < 0 := (zi_lt (a := a.toInt) (b := 0) (iI_of _) (nI_iI _) (by omega) (by omega) (by omega) (by omega)).mp c_1
    refine lv_bipush (v := iI (-2)) hx hb d_Mod_patch_12 (by decide) ?_
    exact z_iret C hr hlk hP hD hS (by omega) (by omega) ⟨rfl, rfl⟩ d_Mod_patch_14
  · skip
    have c_1 : ¬ a.toInt < 0 := fun q9 => c_1 ((zi_lt (a := a.toInt) (b := 0) (iI_of _) (nI_iI _) (by omega) (by omega) (by omega) (by omega)).mpr q9)
    refine lv_iload_n hx hb d_Mod_patch_4 rfl (lv_at hl 1 rfl) ?_
    refine lv_aload_n hx hb d_Mod_patch_5 rfl (lv_at hl 0 rfl) ?_
    refine z_get C hP ho q_Mod 15 (by decide) k_743 (fun _ h9 => h9) rfl d_Mod_patch_6 ?_
    refine lv_icmp_lt (tgt := 15) hx hb d_Mod_patch_9 (by decide) (fun c_9 => ?_) (fun c_9 => ?_)
    · skip
      have c_9 : a.toInt < (sz : Int) := (zi_lt (a := a.toInt) (b := (sz : Int)) (iI_of _) (nI_iI _) (by omega) (by omega) (by omega) (by omega)).mp c_9
      exact absurd c_9 (by omega)
    · skip
      have c_9 : ¬ a.toInt < (sz : Int) := fun q9 => c_9 ((zi_lt (a := a.toInt) (b := (sz : Int)) (iI_of _) (nI_iI _) (by omega) (by omega) (by omega) (by omega)).mpr q9)
      refine lv_bipush (v := iI (-2)) hx hb d_Mod_patch_12 (by decide) ?_
      exact z_iret C hr hlk hP hD hS (by omega) (by omega) ⟨rfl, rfl⟩ d_Mod_patch_14
set_option maxHeartbeats 4000000 in
set_option maxRecDepth 100000 in
theorem c_Mod_patch_g (l : Launch) (g : zT) (T : va_W) (o ts ta ne ans anm anu asa apl akd nk akn aks akp akk bg sz hd alg ni aip aix aiz aim aod av hv lf sn pv : Nat) (ho : (o, zo 11 [.int (nI ts), .ref ta, .int (nI ne), .ref ans, .ref anm, .ref anu, .ref asa, .ref apl, .ref akd, .int (nI nk), .ref akn, .ref aks, .ref akp, .ref akk, .int (nI bg), .int (nI sz), .int (nI hd), .ref alg, .int (nI ni), .ref aip, .ref aix, .ref aiz, .ref aim, .ref aod, .int (nI av), .int (nI hv), .int (nI lf), .int (nI sn), .int (nI pv)]) ∈ T) (f : Nat → UInt8) (n : Nat) (b : Int32) (v1 : n < sz) (v2 : sz ≤ 65536) : Met l y_Mod_patch (zw y_Mod_patch b_Mod_patch 4 (some .int)) (zR 0 0 0 0) (zP g [.ref o, .int (nI n), .int b] ((alg, zBy g 65536 f) :: T)) (zQi g (fun r w => r = nI (f n).toNat ∧ w = (alg, zBy g 65536 (uB f n (zu b))) :: T)) 0 0 (zA g) := by
  refine zMet (by decide) (Nat.le_of_ble_eq_true rfl) ?_
  intro p e s m below meth c ls C hr hlk hnm hP hD hl
  have hx := C.1.1
  have hb := C.1.2.1
  have hS : va_S (zA g) s.heap s.heap [] := va_S.rf
  have hl : lv_has ls 4 [(0, .ref o), (1, .int (nI n)), (2, .int b)] := hl
  refine lv_iload_n hx hb d_Mod_patch_0 rfl (lv_at hl 1 rfl) ?_
  refine lv_if_lt (tgt := 12) hx hb d_Mod_patch_1 (by decide) (fun c_1 => ?_) (fun c_1 => ?_)
  · skip
    have c_1 : n < 0 := (nI_ltI (a := n) (b := 0) (by omega) (by decide)).mp c_1
    exact absurd c_1 (by omega)
  · skip
    have c_1 : ¬ n < 0 := fun q9 => c_1 ((nI_ltI (a := n) (b := 0) (by omega) (by decide)).mpr q9)
    refine lv_iload_n hx hb d_Mod_patch_4 rfl (lv_at hl 1 rfl) ?_
    refine lv_aload_n hx hb d_Mod_patch_5 rfl (lv_at hl 0 rfl) ?_
    refine z_get C hP (List.mem_cons_of_mem _ ho) q_Mod 15 (by decide) k_743 (fun _ h9 => h9) rfl d_Mod_patch_6 ?_
    refine lv_icmp_lt (tgt := 15) hx hb d_Mod_patch_9 (by decide) (fun c_9 => ?_) (fun c_9 => ?_)
    · skip
      have c_9 : n < sz := (nI_ltI (a := n) (b := sz) (by omega) (by omega)).mp c_9
      refine lv_aload_n hx hb d_Mod_patch_15 rfl (lv_at hl 0 rfl) ?_
      refine z_get C hP (List.mem_cons_of_mem _ ho) q_Mod 17 (by decide) k_745 (fun _ h9 => h9) rfl d_Mod_patch_16 ?_
      refine lv_iload_n hx hb d_Mod_patch_19 rfl (lv_at hl 1 rfl) ?_
      refine z_bald C hP List.mem_cons_self n (by omega) (by omega) d_Mod_patch_20 ?_
      refine lv_sipush (v := nI 255) hx hb d_Mod_patch_21 (by decide) ?_
      refine z_iand (v := nI ((f n).toNat)) C d_Mod_patch_24 (sb_and _) ?_
      refine lv_istore_n (lv' := [(3, .int (nI ((f n).toNat))), (0, .ref o), (1, .int (nI n)), (2, .int b)]) hx hb d_Mod_patch_25 rfl hl (by decide) rfl (fun ls hl => ?_)
      refine lv_aload_n hx hb d_Mod_patch_26 rfl (lv_at hl 1 rfl) ?_
      refine z_get C hP (List.mem_cons_of_mem _ ho) q_Mod 17 (by decide) k_745 (fun _ h9 => h9) rfl d_Mod_patch_27 ?_
      refine lv_iload_n hx hb d_Mod_patch_30 rfl (lv_at hl 2 rfl) ?_
      refine lv_iload_n hx hb d_Mod_patch_31 rfl (lv_at hl 3 rfl) ?_
      refine lv_i2b (v := sb (zu b)) hx hb d_Mod_patch_32 (sb_zu _).symm ?_
      refine z_bast C hP hD hS 0 rfl n (by omega) (by omega) d_Mod_patch_33 (ws' := (alg, zBy g 65536 (uB f n (zu b))) :: T) rfl (fun H locs hP hD hS => ?_)
      refine lv_iload_n hx hb d_Mod_patch_34 rfl (lv_at hl 0 rfl) ?_
      exact z_iret C hr hlk hP hD hS (by omega) (by omega) ⟨rfl, rfl⟩ d_Mod_patch_35
    · skip
      have c_9 : ¬ n < sz := fun q9 => c_9 ((nI_ltI (a := n) (b := sz) (by omega) (by omega)).mpr q9)
      exact absurd c_9 (by omega)
set_option maxHeartbeats 4000000 in
set_option maxRecDepth 100000 in
theorem c_Mod_cut_b (l : Launch) (g : zT) (T : va_W) (o ts ta ne ans anm anu asa apl akd nk akn aks akp akk bg sz hd alg ni aip aix aiz aim aod av hv lf sn pv : Nat) (ho : (o, zo 11 [.int (nI ts), .ref ta, .int (nI ne), .ref ans, .ref anm, .ref anu, .ref asa, .ref apl, .ref akd, .int (nI nk), .ref akn, .ref aks, .ref akp, .ref akk, .int (nI bg), .int (nI sz), .int (nI hd), .ref alg, .int (nI ni), .ref aip, .ref aix, .ref aiz, .ref aim, .ref aod, .int (nI av), .int (nI hv), .int (nI lf), .int (nI sn), .int (nI pv)]) ∈ T) (a : Int32) (v1 : sz ≤ 65536) (hr9 : ¬ (0 ≤ a.toInt ∧ a.toInt ≤ sz)) : Met l y_Mod_cut (zw y_Mod_cut b_Mod_cut 3 (some .int)) (zR 0 0 0 0) (zP g [.ref o, .int a] (T)) (zQi g (fun r w => r = iI (-1) ∧ w = T)) 0 0 (zA g) := by
  refine zMet (by decide) (Nat.le_of_ble_eq_true rfl) ?_
  intro p e s m below meth c ls C hr hlk hnm hP hD hl
  have hx := C.1.1
  have hb := C.1.2.1
  have hS : va_S (zA g) s.heap s.heap [] := va_S.rf
  have hl : lv_has ls 3 [(0, .ref o), (1, .int a)] := hl
  have r1 := zi_rg a
  refine lv_iload_n hx hb d_Mod_cut_0 rfl (lv_at hl 1 rfl) ?_
  refine lv_if_lt (tgt := 12) hx hb d_Mod_cut_1 (by decide) (fun c_1 => ?_) (fun c_1 => ?_)
  · skip
    have c_1 : a.toInt < 0 := (zi_lt (a := a.toInt) (b := 0) (iI_of _) (nI_iI _) (by omega) (by omega) (by omega) (by omega)).mp c_1
    refine lv_iconst (v := iI (-1)) hx hb d_Mod_cut_12 (by decide) ?_
    exact z_iret C hr hlk hP hD hS (by omega) (by omega) ⟨rfl, rfl⟩ d_Mod_cut_13
  · skip
    have c_1 : ¬ a.toInt < 0 := fun q9 => c_1 ((zi_lt (a := a.toInt) (b := 0) (iI_of _) (nI_iI _) (by omega) (by omega) (by omega) (by omega)).mpr q9)
    refine lv_iload_n hx hb d_Mod_cut_4 rfl (lv_at hl 1 rfl) ?_
    refine lv_aload_n hx hb d_Mod_cut_5 rfl (lv_at hl 0 rfl) ?_
    refine z_get C hP ho q_Mod 15 (by decide) k_743 (fun _ h9 => h9) rfl d_Mod_cut_6 ?_
    refine lv_icmp_le (tgt := 14) hx hb d_Mod_cut_9 (by decide) (fun c_9 => ?_) (fun c_9 => ?_)
    · skip
      have c_9 : a.toInt ≤ (sz : Int) := (zi_le (a := a.toInt) (b := (sz : Int)) (iI_of _) (nI_iI _) (by omega) (by omega) (by omega) (by omega)).mp c_9
      exact absurd c_9 (by omega)
    · skip
      have c_9 : ¬ a.toInt ≤ (sz : Int) := fun q9 => c_9 ((zi_le (a := a.toInt) (b := (sz : Int)) (iI_of _) (nI_iI _) (by omega) (by omega) (by omega) (by omega)).mpr q9)
      refine lv_iconst (v := iI (-1)) hx hb d_Mod_cut_12 (by decide) ?_
      exact z_iret C hr hlk hP hD hS (by omega) (by omega) ⟨rfl, rfl⟩ d_Mod_cut_13
set_option maxHeartbeats 4000000 in
set_option maxRecDepth 100000 in
theorem c_Mod_cut_g (l : Launch) (g : zT) (T : va_W) (o ts ta ne ans anm anu asa apl akd nk akn aks akp akk bg sz hd alg ni aip aix aiz aim aod av hv lf sn pv : Nat) (n : Nat) (v1 : n ≤ sz) (v2 : sz ≤ 65536) : Met l y_Mod_cut (zw y_Mod_cut b_Mod_cut 3 (some .int)) (zR 0 0 0 0) (zP g [.ref o, .int (nI n)] ((o, zo 11 [.int (nI ts), .ref ta, .int (nI ne), .ref ans, .ref anm, .ref anu, .ref asa, .ref apl, .ref akd, .int (nI nk), .ref akn, .ref aks, .ref akp, .ref akk, .int (nI bg), .int (nI sz), .int (nI hd), .ref alg, .int (nI ni), .ref aip, .ref aix, .ref aiz, .ref aim, .ref aod, .int (nI av), .int (nI hv), .int (nI lf), .int (nI sn), .int (nI pv)]) :: T)) (zQi g (fun r w => r = nI (sz - n) ∧ w = (o, zo 11 [.int (nI ts), .ref ta, .int (nI ne), .ref ans, .ref anm, .ref anu, .ref asa, .ref apl, .ref akd, .int (nI nk), .ref akn, .ref aks, .ref akp, .ref akk, .int (nI bg), .int (nI n), .int (nI hd), .ref alg, .int (nI ni), .ref aip, .ref aix, .ref aiz, .ref aim, .ref aod, .int (nI av), .int (nI hv), .int (nI lf), .int (nI sn), .int (nI pv)]) :: T)) 0 0 (zA g) := by
  refine zMet (by decide) (Nat.le_of_ble_eq_true rfl) ?_
  intro p e s m below meth c ls C hr hlk hnm hP hD hl
  have hx := C.1.1
  have hb := C.1.2.1
  have hS : va_S (zA g) s.heap s.heap [] := va_S.rf
  have hl : lv_has ls 3 [(0, .ref o), (1, .int (nI n))] := hl
  refine lv_iload_n hx hb d_Mod_cut_0 rfl (lv_at hl 1 rfl) ?_
  refine lv_if_lt (tgt := 12) hx hb d_Mod_cut_1 (by decide) (fun c_1 => ?_) (fun c_1 => ?_)
  · skip
    have c_1 : n < 0 := (nI_ltI (a := n) (b := 0) (by omega) (by decide)).mp c_1
    exact absurd c_1 (by omega)
  · skip
    have c_1 : ¬ n < 0 := fun q9 => c_1 ((nI_ltI (a := n) (b := 0) (by omega) (by decide)).mpr q9)
    refine lv_iload_n hx hb d_Mod_cut_4 rfl (lv_at hl 1 rfl) ?_
    refine lv_aload_n hx hb d_Mod_cut_5 rfl (lv_at hl 0 rfl) ?_
    refine z_get C hP List.mem_cons_self q_Mod 15 (by decide) k_743 (fun _ h9 => h9) rfl d_Mod_cut_6 ?_
    refine lv_icmp_le (tgt := 14) hx hb d_Mod_cut_9 (by decide) (fun c_9 => ?_) (fun c_9 => ?_)
    · skip
      have c_9 : n ≤ sz := (nI_leI (a := n) (b := sz) (by omega) (by omega)).mp c_9
      refine lv_aload_n hx hb d_Mod_cut_14 rfl (lv_at hl 0 rfl) ?_
      refine z_get C hP List.mem_cons_self q_Mod 15 (by decide) k_743 (fun _ h9 => h9) rfl d_Mod_cut_15 ?_
      refine lv_iload_n hx hb d_Mod_cut_18 rfl (lv_at hl 1 rfl) ?_
      refine z_isub (v := nI (sz - n)) C d_Mod_cut_19 (pk_sub (by omega)) ?_
      refine lv_istore_n (lv' := [(2, .int (nI (sz - n))), (0, .ref o), (1, .int (nI n))]) hx hb d_Mod_cut_20 rfl hl (by decide) rfl (fun ls hl => ?_)
      refine lv_aload_n hx hb d_Mod_cut_21 rfl (lv_at hl 1 rfl) ?_
      refine lv_iload_n hx hb d_Mod_cut_22 rfl (lv_at hl 2 rfl) ?_
      refine z_put C hP hD hS 0 rfl q_Mod 15 (by decide) k_743 (fun _ h9 => h9) rfl rfl rfl (Nat.le_of_ble_eq_true rfl) d_Mod_cut_23 (ws' := (o, zo 11 [.int (nI ts), .ref ta, .int (nI ne), .ref ans, .ref anm, .ref anu, .ref asa, .ref apl, .ref akd, .int (nI nk), .ref akn, .ref aks, .ref akp, .ref akk, .int (nI bg), .int (nI n), .int (nI hd), .ref alg, .int (nI ni), .ref aip, .ref aix, .ref aiz, .ref aim, .ref aod, .int (nI av), .int (nI hv), .int (nI lf), .int (nI sn), .int (nI pv)]) :: T) rfl (fun H locs hP hD hS => ?_)
      refine lv_iload_n hx hb d_Mod_cut_26 rfl (lv_at hl 0 rfl) ?_
      exact z_iret C hr hlk hP hD hS (by omega) (by omega) ⟨rfl, rfl⟩ d_Mod_cut_27
    · skip
      have c_9 : ¬ n ≤ sz := fun q9 => c_9 ((nI_leI (a := n) (b := sz) (by omega) (by omega)).mpr q9)
      exact absurd c_9 (by omega)
set_option maxHeartbeats 4000000 in
set_option maxRecDepth 100000 in
theorem c_Mod_set_b1 (l : Launch) (g : zT) (T : va_W) (o ts ta ne ans anm anu asa apl akd nk akn aks akp akk bg sz hd alg ni aip aix aiz aim aod av hv lf sn pv : Nat) (a b c0 : Int32) (v1 : ts ≤ 300) (hr9 : ¬ (1 ≤ ts ∧ ts ≤ 256)) : Met l y_Mod_set (zw y_Mod_set b_Mod_set 6 (some .int)) (zR 1 21 0 0) (zP g [.ref o, .int a, .int b, .int c0] ((o, zo 11 [.int (nI ts), .ref ta, .int (nI ne), .ref ans, .ref anm, .ref anu, .ref asa, .ref apl, .ref akd, .int (nI nk), .ref akn, .ref aks, .ref akp, .ref akk, .int (nI bg), .int (nI sz), .int (nI hd), .ref alg, .int (nI ni), .ref aip, .ref aix, .ref aiz, .ref aim, .ref aod, .int (nI av), .int (nI hv), .int (nI lf), .int (nI sn), .int (nI pv)]) :: T)) (zQi g (fun r w => r = iI (-1) ∧ w = (o, zo 11 [.int (nI 0), .ref ta, .int (nI ne), .ref ans, .ref anm, .ref anu, .ref asa, .ref apl, .ref akd, .int (nI nk), .ref akn, .ref aks, .ref akp, .ref akk, .int (nI bg), .int (nI sz), .int (nI hd), .ref alg, .int (nI ni), .ref aip, .ref aix, .ref aiz, .ref aim, .ref aod, .int (nI av), .int (nI hv), .int (nI lf), .int (nI sn), .int (nI pv)]) :: T)) 0 0 (zA g) := by
  refine zMet (by decide) (Nat.le_of_ble_eq_true rfl) ?_
  intro p e s m below meth c ls C hr hlk hnm hP hD hl
  have hx := C.1.1
  have hb := C.1.2.1
  have hS : va_S (zA g) s.heap s.heap [] := va_S.rf
  have hl : lv_has ls 6 [(0, .ref o), (1, .int a), (2, .int b), (3, .int c0)] := hl
  refine lv_aload_n hx hb d_Mod_set_0 rfl (lv_at hl 0 rfl) ?_
  refine z_ki (z_runV (np := 0) C (c_Mod_use l g T o ts ta ne ans anm anu asa apl akd nk akn aks akp akk bg sz hd alg ni aip aix aiz aim aod av hv lf sn pv) hP hD hS List.mem_cons_self (show classes[11]? = some (R_Mod, F_Mod, 29) from rfl) k_829 k_12 k_826 k_828 ks_Mod_use ⟨by decide, by decide, by decide⟩ ⟨Nat.le_of_ble_eq_true rfl, Nat.le_of_ble_eq_true rfl⟩ rfl hl.1 rfl (Nat.le_of_ble_eq_true rfl) d_Mod_set_1 ⟨by show _ ≤ 0; omega, by show _ ≤ 0; omega⟩) hS (fun r_1 w H locs hw hP hD hS => ?_)
  obtain ⟨rfl, hw⟩ := hw
  rw [hw] at hP hD
  refine lv_istore (lv' := [(4, .int (nI ts)), (0, .ref o), (1, .int a), (2, .int b), (3, .int c0)]) hx hb d_Mod_set_4 hl (by decide) rfl (fun ls hl => ?_)
  refine lv_iload hx hb d_Mod_set_6 (lv_at hl 0 rfl) ?_
  refine lv_iconst (v := nI 1) hx hb d_Mod_set_8 (by decide) ?_
  refine lv_icmp_lt (tgt := 20) hx hb d_Mod_set_9 (by decide) (fun c_9 => ?_) (fun c_9 => ?_)
  · skip
    have c_9 : ts < 1 := (nI_ltI (a := ts) (b := 1) (by omega) (by decide)).mp c_9
    refine lv_iconst (v := iI (-1)) hx hb d_Mod_set_20 (by decide) ?_
    exact z_iret C hr hlk hP hD hS (by omega) (by omega) ⟨rfl, rfl⟩ d_Mod_set_21
  · skip
    have c_9 : ¬ ts < 1 := fun q9 => c_9 ((nI_ltI (a := ts) (b := 1) (by omega) (by decide)).mpr q9)
    refine lv_iload hx hb d_Mod_set_12 (lv_at hl 0 rfl) ?_
    refine lv_sipush (v := nI 256) hx hb d_Mod_set_14 (by decide) ?_
    refine lv_icmp_le (tgt := 22) hx hb d_Mod_set_17 (by decide) (fun c_17 => ?_) (fun c_17 => ?_)
    · skip
      have c_17 : ts ≤ 256 := (nI_leI (a := ts) (b := 256) (by omega) (by decide)).mp c_17
      exact absurd c_17 (by omega)
    · skip
      have c_17 : ¬ ts ≤ 256 := fun q9 => c_17 ((nI_leI (a := ts) (b := 256) (by omega) (by decide)).mpr q9)
      refine lv_iconst (v := iI (-1)) hx hb d_Mod_set_20 (by decide) ?_
      exact z_iret C hr hlk hP hD hS (by omega) (by omega) ⟨rfl, rfl⟩ d_Mod_set_21
set_option maxHeartbeats 4000000 in
set_option maxRecDepth 100000 in
theorem c_Mod_set_b2 (l : Launch) (g : zT) (T : va_W) (o ts ta ne ans anm anu asa apl akd nk akn aks akp akk bg sz hd alg ni aip aix aiz aim aod av hv lf sn pv : Nat) (a b c0 : Int32) (v1 : 1 ≤ ts) (v2 : ts ≤ 256) (v3 : ni < 60000) (hr9 : ¬ (0 ≤ a.toInt ∧ a.toInt < ni)) : Met l y_Mod_set (zw y_Mod_set b_Mod_set 6 (some .int)) (zR 1 21 0 0) (zP g [.ref o, .int a, .int b, .int c0] ((o, zo 11 [.int (nI ts), .ref ta, .int (nI ne), .ref ans, .ref anm, .ref anu, .ref asa, .ref apl, .ref akd, .int (nI nk), .ref akn, .ref aks, .ref akp, .ref akk, .int (nI bg), .int (nI sz), .int (nI hd), .ref alg, .int (nI ni), .ref aip, .ref aix, .ref aiz, .ref aim, .ref aod, .int (nI av), .int (nI hv), .int (nI lf), .int (nI sn), .int (nI pv)]) :: T)) (zQi g (fun r w => r = iI (-2) ∧ w = (o, zo 11 [.int (nI 0), .ref ta, .int (nI ne), .ref ans, .ref anm, .ref anu, .ref asa, .ref apl, .ref akd, .int (nI nk), .ref akn, .ref aks, .ref akp, .ref akk, .int (nI bg), .int (nI sz), .int (nI hd), .ref alg, .int (nI ni), .ref aip, .ref aix, .ref aiz, .ref aim, .ref aod, .int (nI av), .int (nI hv), .int (nI lf), .int (nI sn), .int (nI pv)]) :: T)) 0 0 (zA g) := by
  refine zMet (by decide) (Nat.le_of_ble_eq_true rfl) ?_
  intro p e s m below meth c ls C hr hlk hnm hP hD hl
  have hx := C.1.1
  have hb := C.1.2.1
  have hS : va_S (zA g) s.heap s.heap [] := va_S.rf
  have hl : lv_has ls 6 [(0, .ref o), (1, .int a), (2, .int b), (3, .int c0)] := hl
  have r1 := zi_rg a
  refine lv_aload_n hx hb d_Mod_set_0 rfl (lv_at hl 0 rfl) ?_
  refine z_ki (z_runV (np := 0) C (c_Mod_use l g T o ts ta ne ans anm anu asa apl akd nk akn aks akp akk bg sz hd alg ni aip aix aiz aim aod av hv lf sn pv) hP hD hS List.mem_cons_self (show classes[11]? = some (R_Mod, F_Mod, 29) from rfl) k_829 k_12 k_826 k_828 ks_Mod_use ⟨by decide, by decide, by decide⟩ ⟨Nat.le_of_ble_eq_true rfl, Nat.le_of_ble_eq_true rfl⟩ rfl hl.1 rfl (Nat.le_of_ble_eq_true rfl) d_Mod_set_1 ⟨by show _ ≤ 0; omega, by show _ ≤ 0; omega⟩) hS (fun r_1 w H locs hw hP hD hS => ?_)
  obtain ⟨rfl, hw⟩ := hw
  rw [hw] at hP hD
  refine lv_istore (lv' := [(4, .int (nI ts)), (0, .ref o), (1, .int a), (2, .int b), (3, .int c0)]) hx hb d_Mod_set_4 hl (by decide) rfl (fun ls hl => ?_)
  refine lv_iload hx hb d_Mod_set_6 (lv_at hl 0 rfl) ?_
  refine lv_iconst (v := nI 1) hx hb d_Mod_set_8 (by decide) ?_
  refine lv_icmp_lt (tgt := 20) hx hb d_Mod_set_9 (by decide) (fun c_9 => ?_) (fun c_9 => ?_)
  · skip
    have c_9 : ts < 1 := (nI_ltI (a := ts) (b := 1) (by omega) (by decide)).mp c_9
    exact absurd c_9 (by omega)
  · skip
    have c_9 : ¬ ts < 1 := fun q9 => c_9 ((nI_ltI (a := ts) (b := 1) (by omega) (by decide)).mpr q9)
    refine lv_iload hx hb d_Mod_set_12 (lv_at hl 0 rfl) ?_
    refine lv_sipush (v := nI 256) hx hb d_Mod_set_14 (by decide) ?_
    refine lv_icmp_le (tgt := 22) hx hb d_Mod_set_17 (by decide) (fun c_17 => ?_) (fun c_17 => ?_)
    · skip
      have c_17 : ts ≤ 256 := (nI_leI (a := ts) (b := 256) (by omega) (by decide)).mp c_17
      refine lv_iload_n hx hb d_Mod_set_22 rfl (lv_at hl 2 rfl) ?_
      refine lv_if_lt (tgt := 34) hx hb d_Mod_set_23 (by decide) (fun c_23 => ?_) (fun c_23 => ?_)
      · skip
        have c_23 : a.toInt < 0 := (zi_lt (a := a.toInt) (b := 0) (iI_of _) (nI_iI _) (by omega) (by omega) (by omega) (by omega)).mp c_23
        refine lv_bipush (v := iI (-2)) hx hb d_Mod_set_34 (by decide) ?_
        exact z_iret C hr hlk hP hD hS (by omega) (by omega) ⟨rfl, rfl⟩ d_Mod_set_36
      · skip
        have c_23 : ¬ a.toInt < 0 := fun q9 => c_23 ((zi_lt (a := a.toInt) (b := 0) (iI_of _) (nI_iI _) (by omega) (by omega) (by omega) (by omega)).mpr q9)
        refine lv_iload_n hx hb d_Mod_set_26 rfl (lv_at hl 2 rfl) ?_
        refine lv_aload_n hx hb d_Mod_set_27 rfl (lv_at hl 1 rfl) ?_
        refine z_get C hP List.mem_cons_self q_Mod 18 (by decide) k_746 (fun _ h9 => h9) rfl d_Mod_set_28 ?_
        refine lv_icmp_lt (tgt := 37) hx hb d_Mod_set_31 (by decide) (fun c_31 => ?_) (fun c_31 => ?_)
        · skip
          have c_31 : a.toInt < (ni : Int) := (zi_lt (a := a.toInt) (b := (ni : Int)) (iI_of _) (nI_iI _) (by omega) (by omega) (by omega) (by omega)).mp c_31
          exact absurd c_31 (by omega)
        · skip
          have c_31 : ¬ a.toInt < (ni : Int) := fun q9 => c_31 ((zi_lt (a := a.toInt) (b := (ni : Int)) (iI_of _) (nI_iI _) (by omega) (by omega) (by omega) (by omega)).mpr q9)
          refine lv_bipush (v := iI (-2)) hx hb d_Mod_set_34 (by decide) ?_
          exact z_iret C hr hlk hP hD hS (by omega) (by omega) ⟨rfl, rfl⟩ d_Mod_set_36
    · skip
      have c_17 : ¬ ts ≤ 256 := fun q9 => c_17 ((nI_leI (a := ts) (b := 256) (by omega) (by decide)).mpr q9)
      exact absurd c_17 (by omega)
set_option maxHeartbeats 4000000 in
set_option maxRecDepth 100000 in
theorem c_Mod_set_g (l : Launch) (g : zT) (T : va_W) (o ts ta ne ans anm anu asa apl akd nk akn aks akp akk bg sz hd alg ni aip aix aiz aim aod av hv lf sn pv : Nat) (tb : Nat → UInt8) (hta : (ta, zIn g 300 (nB tb)) ∈ T) (ipl : Nat → Int32) (ist : Nat → Int32) (isz : Nat → Nat) (inm : Nat → UInt8) (n : Nat) (b c0 : Int32) (v1 : 1 ≤ ts) (v2 : ts ≤ 256) (v3 : ni ≤ 12) (v4 : n < ni) : Met l y_Mod_set (zw y_Mod_set b_Mod_set 6 (some .int)) (zR 1 21 0 0) (zP g [.ref o, .int (nI n), .int b, .int c0] ((o, zo 11 [.int (nI ts), .ref ta, .int (nI ne), .ref ans, .ref anm, .ref anu, .ref asa, .ref apl, .ref akd, .int (nI nk), .ref akn, .ref aks, .ref akp, .ref akk, .int (nI bg), .int (nI sz), .int (nI hd), .ref alg, .int (nI ni), .ref aip, .ref aix, .ref aiz, .ref aim, .ref aod, .int (nI av), .int (nI hv), .int (nI lf), .int (nI sn), .int (nI pv)]) :: (aip, zIn g 16 ipl) :: (aix, zIn g 16 ist) :: (aiz, zIn g 16 (nN isz)) :: (aim, zIn g 4096 (nB inm)) :: T)) (zQi g (fun r w => r = nI 0 ∧ w = (o, zo 11 [.int (nI 0), .ref ta, .int (nI ne), .ref ans, .ref anm, .ref anu, .ref asa, .ref apl, .ref akd, .int (nI nk), .ref akn, .ref aks, .ref akp, .ref akk, .int (nI bg), .int (nI sz), .int (nI hd), .ref alg, .int (nI ni), .ref aip, .ref aix, .ref aiz, .ref aim, .ref aod, .int (nI av), .int (nI hv), .int (nI lf), .int (nI sn), .int (nI pv)]) :: (aip, zIn g 16 (upd ipl n b)) :: (aix, zIn g 16 (upd ist n c0)) :: (aiz, zIn g 16 (nN (upN isz n ts))) :: (aim, zIn g 4096 (nB (wr inm (256 * n) (zl tb 0 ts)))) :: T)) 0 0 (zA g) := by
  refine zMet (by decide) (Nat.le_of_ble_eq_true rfl) ?_
  intro p e s m below meth c ls C hr hlk hnm hP hD hl
  have hx := C.1.1
  have hb := C.1.2.1
  have hS : va_S (zA g) s.heap s.heap [] := va_S.rf
  have hl : lv_has ls 6 [(0, .ref o), (1, .int (nI n)), (2, .int b), (3, .int c0)] := hl
  have L_62 : ∀ (nu : Nat) (k : Nat) (_ : k ≤ ts) (_ : ts - k < nu) (H : Heap) (locs : List Loc), va_P g.1 classes ((o, zo 11 [.int (nI 0), .ref ta, .int (nI ne), .ref ans, .ref anm, .ref anu, .ref asa, .ref apl, .ref akd, .int (nI nk), .ref akn, .ref aks, .ref akp, .ref akk, .int (nI bg), .int (nI sz), .int (nI hd), .ref alg, .int (nI ni), .ref aip, .ref aix, .ref aiz, .ref aim, .ref aod, .int (nI av), .int (nI hv), .int (nI lf), .int (nI sn), .int (nI pv)]) :: (aip, zIn g 16 (upd ipl n b)) :: (aix, zIn g 16 (upd ist n c0)) :: (aiz, zIn g 16 (nN (upN isz n ts))) :: (aim, zIn g 4096 (nB (wr inm (256 * n) (zl tb 0 k)))) :: T) H → va_D (zA g) ((o, zo 11 [.int (nI 0), .ref ta, .int (nI ne), .ref ans, .ref anm, .ref anu, .ref asa, .ref apl, .ref akd, .int (nI nk), .ref akn, .ref aks, .ref akp, .ref akk, .int (nI bg), .int (nI sz), .int (nI hd), .ref alg, .int (nI ni), .ref aip, .ref aix, .ref aiz, .ref aim, .ref aod, .int (nI av), .int (nI hv), .int (nI lf), .int (nI sn), .int (nI pv)]) :: (aip, zIn g 16 (upd ipl n b)) :: (aix, zIn g 16 (upd ist n c0)) :: (aiz, zIn g 16 (nN (upN isz n ts))) :: (aim, zIn g 4096 (nB (wr inm (256 * n) (zl tb 0 k)))) :: T) → va_S (zA g) s.heap H locs → ∀ ls : Array Slot, lv_has ls 6 [(0, .ref o), (1, .int (nI n)), (4, .int (nI ts)), (5, .int (nI k))] → W p l e (zR 1 21 0 0) s m [.ref o, .int (nI n), .int b, .int c0].toArray below meth c H locs 0 0 (MQ below (zQi g (fun r w => r = nI 0 ∧ w = (o, zo 11 [.int (nI 0), .ref ta, .int (nI ne), .ref ans, .ref anm, .ref anu, .ref asa, .ref apl, .ref akd, .int (nI nk), .ref akn, .ref aks, .ref akp, .ref akk, .int (nI bg), .int (nI sz), .int (nI hd), .ref alg, .int (nI ni), .ref aip, .ref aix, .ref aiz, .ref aim, .ref aod, .int (nI av), .int (nI hv), .int (nI lf), .int (nI sn), .int (nI pv)]) :: (aip, zIn g 16 (upd ipl n b)) :: (aix, zIn g 16 (upd ist n c0)) :: (aiz, zIn g 16 (nN (upN isz n ts))) :: (aim, zIn g 4096 (nB (wr inm (256 * n) (zl tb 0 ts)))) :: T)) [.ref o, .int (nI n), .int b, .int c0].toArray s 0 0 (zA g)) (F0 m 62 ls []) := by
    intro nu
    induction nu with
    | zero => intros; omega
    | succ nu ih =>
      intro k g1 hmu H locs hP hD hS ls hl
      refine lv_iload hx hb d_Mod_set_62 (lv_at hl 3 rfl) ?_
      refine lv_iload hx hb d_Mod_set_64 (lv_at hl 2 rfl) ?_
      refine lv_icmp_ge (tgt := 95) hx hb d_Mod_set_66 (by decide) (fun c_66 => ?_) (fun c_66 => ?_)
      · skip
        have c_66 : ts ≤ k := (nI_leI (a := ts) (b := k) (by omega) (by omega)).mp c_66
        refine lv_iconst (v := nI 0) hx hb d_Mod_set_95 (by decide) ?_
        exact z_iret C hr hlk hP hD hS (by omega) (by omega) ⟨rfl, by rw [show k = ts by omega]⟩ d_Mod_set_96
      · skip
        have c_66 : ¬ ts ≤ k := fun q9 => c_66 ((nI_leI (a := ts) (b := k) (by omega) (by omega)).mpr q9)
        refine lv_aload_n hx hb d_Mod_set_69 rfl (lv_at hl 0 rfl) ?_
        refine z_get C hP List.mem_cons_self q_Mod 22 (by decide) k_750 (fun _ h9 => h9) rfl d_Mod_set_70 ?_
        refine lv_sipush (v := nI 256) hx hb d_Mod_set_73 (by decide) ?_
        refine lv_iload_n hx hb d_Mod_set_76 rfl (lv_at hl 1 rfl) ?_
        refine z_imul (v := nI (256 * n)) C d_Mod_set_77 (pk_mul _ _) ?_
        refine lv_iload hx hb d_Mod_set_78 (lv_at hl 3 rfl) ?_
        refine z_iadd (v := nI ((256 * n) + k)) C d_Mod_set_80 (nI_add _ _) ?_
        refine lv_aload_n hx hb d_Mod_set_81 rfl (lv_at hl 0 rfl) ?_
        refine z_get C hP List.mem_cons_self q_Mod 1 (by decide) k_729 (fun _ h9 => h9) rfl d_Mod_set_82 ?_
        refine lv_iload hx hb d_Mod_set_85 (lv_at hl 3 rfl) ?_
        refine z_iald C hP (List.mem_cons_of_mem _ (List.mem_cons_of_mem _ (List.mem_cons_of_mem _ (List.mem_cons_of_mem _ (List.mem_cons_of_mem _ hta))))) k (by omega) (by omega) d_Mod_set_87 ?_
        refine z_topi (y := nI ((tb k).toNat)) rfl ?_
        refine z_iast C hP hD hS 4 rfl ((256 * n) + k) (by omega) (by omega) d_Mod_set_88 (ws' := (o, zo 11 [.int (nI 0), .ref ta, .int (nI ne), .ref ans, .ref anm, .ref anu, .ref asa, .ref apl, .ref akd, .int (nI nk), .ref akn, .ref aks, .ref akp, .ref akk, .int (nI bg), .int (nI sz), .int (nI hd), .ref alg, .int (nI ni), .ref aip, .ref aix, .ref aiz, .ref aim, .ref aod, .int (nI av), .int (nI hv), .int (nI lf), .int (nI sn), .int (nI pv)]) :: (aip, zIn g 16 (upd ipl n b)) :: (aix, zIn g 16 (upd ist n c0)) :: (aiz, zIn g 16 (nN (upN isz n ts))) :: (aim, zIn g 4096 (upd (nB (wr inm (256 * n) (zl tb 0 k))) ((256 * n) + k) (nI ((tb k).toNat)))) :: T) rfl (fun H locs hP hD hS => ?_)
        rw [upd_nB] at hP hD
        rw [zlw_s _ _ _ _ _ _ _ rfl (by rw [Nat.zero_add])] at hP hD
        refine lv_iinc (v := nI (k + 1)) (lv' := [(5, .int (nI (k + 1))), (0, .ref o), (1, .int (nI n)), (4, .int (nI ts))]) hx hb d_Mod_set_89 hl (k := 3) rfl (by rw [show Int32.ofInt 1 = nI 1 by decide]; exact nI_add _ _) (by decide) rfl (fun ls hl => ?_)
        refine lv_goto (tgt := 62) hx hb d_Mod_set_92 (by decide) ?_
        exact ih (k + 1) (by omega) (by omega) _ _ hP hD hS ls (lv_sub hl [1, 2, 3, 0] rfl)
  refine lv_aload_n hx hb d_Mod_set_0 rfl (lv_at hl 0 rfl) ?_
  refine z_ki (z_runV (np := 0) C (c_Mod_use l g ((aip, zIn g 16 ipl) :: (aix, zIn g 16 ist) :: (aiz, zIn g 16 (nN isz)) :: (aim, zIn g 4096 (nB inm)) :: T) o ts ta ne ans anm anu asa apl akd nk akn aks akp akk bg sz hd alg ni aip aix aiz aim aod av hv lf sn pv) hP hD hS List.mem_cons_self (show classes[11]? = some (R_Mod, F_Mod, 29) from rfl) k_829 k_12 k_826 k_828 ks_Mod_use ⟨by decide, by decide, by decide⟩ ⟨Nat.le_of_ble_eq_true rfl, Nat.le_of_ble_eq_true rfl⟩ rfl hl.1 rfl (Nat.le_of_ble_eq_true rfl) d_Mod_set_1 ⟨by show _ ≤ 0; omega, by show _ ≤ 0; omega⟩) hS (fun r_1 w H locs hw hP hD hS => ?_)
  obtain ⟨rfl, hw⟩ := hw
  rw [hw] at hP hD
  refine lv_istore (lv' := [(4, .int (nI ts)), (0, .ref o), (1, .int (nI n)), (2, .int b), (3, .int c0)]) hx hb d_Mod_set_4 hl (by decide) rfl (fun ls hl => ?_)
  refine lv_iload hx hb d_Mod_set_6 (lv_at hl 0 rfl) ?_
  refine lv_iconst (v := nI 1) hx hb d_Mod_set_8 (by decide) ?_
  refine lv_icmp_lt (tgt := 20) hx hb d_Mod_set_9 (by decide) (fun c_9 => ?_) (fun c_9 => ?_)
  · skip
    have c_9 : ts < 1 := (nI_ltI (a := ts) (b := 1) (by omega) (by decide)).mp c_9
    exact absurd c_9 (by omega)
  · skip
    have c_9 : ¬ ts < 1 := fun q9 => c_9 ((nI_ltI (a := ts) (b := 1) (by omega) (by decide)).mpr q9)
    refine lv_iload hx hb d_Mod_set_12 (lv_at hl 0 rfl) ?_
    refine lv_sipush (v := nI 256) hx hb d_Mod_set_14 (by decide) ?_
    refine lv_icmp_le (tgt := 22) hx hb d_Mod_set_17 (by decide) (fun c_17 => ?_) (fun c_17 => ?_)
    · skip
      have c_17 : ts ≤ 256 := (nI_leI (a := ts) (b := 256) (by omega) (by decide)).mp c_17
      refine lv_iload_n hx hb d_Mod_set_22 rfl (lv_at hl 2 rfl) ?_
      refine lv_if_lt (tgt := 34) hx hb d_Mod_set_23 (by decide) (fun c_23 => ?_) (fun c_23 => ?_)
      · skip
        have c_23 : n < 0 := (nI_ltI (a := n) (b := 0) (by omega) (by decide)).mp c_23
        exact absurd c_23 (by omega)
      · skip
        have c_23 : ¬ n < 0 := fun q9 => c_23 ((nI_ltI (a := n) (b := 0) (by omega) (by decide)).mpr q9)
        refine lv_iload_n hx hb d_Mod_set_26 rfl (lv_at hl 2 rfl) ?_
        refine lv_aload_n hx hb d_Mod_set_27 rfl (lv_at hl 1 rfl) ?_
        refine z_get C hP List.mem_cons_self q_Mod 18 (by decide) k_746 (fun _ h9 => h9) rfl d_Mod_set_28 ?_
        refine lv_icmp_lt (tgt := 37) hx hb d_Mod_set_31 (by decide) (fun c_31 => ?_) (fun c_31 => ?_)
        · skip
          have c_31 : n < ni := (nI_ltI (a := n) (b := ni) (by omega) (by omega)).mp c_31
          refine lv_aload_n hx hb d_Mod_set_37 rfl (lv_at hl 1 rfl) ?_
          refine z_get C hP List.mem_cons_self q_Mod 19 (by decide) k_747 (fun _ h9 => h9) rfl d_Mod_set_38 ?_
          refine lv_iload_n hx hb d_Mod_set_41 rfl (lv_at hl 2 rfl) ?_
          refine lv_iload_n hx hb d_Mod_set_42 rfl (lv_at hl 3 rfl) ?_
          refine z_iast C hP hD hS 1 rfl n (by omega) (by omega) d_Mod_set_43 (ws' := (o, zo 11 [.int (nI 0), .ref ta, .int (nI ne), .ref ans, .ref anm, .ref anu, .ref asa, .ref apl, .ref akd, .int (nI nk), .ref akn, .ref aks, .ref akp, .ref akk, .int (nI bg), .int (nI sz), .int (nI hd), .ref alg, .int (nI ni), .ref aip, .ref aix, .ref aiz, .ref aim, .ref aod, .int (nI av), .int (nI hv), .int (nI lf), .int (nI sn), .int (nI pv)]) :: (aip, zIn g 16 (upd ipl n b)) :: (aix, zIn g 16 ist) :: (aiz, zIn g 16 (nN isz)) :: (aim, zIn g 4096 (nB inm)) :: T) rfl (fun H locs hP hD hS => ?_)
          refine lv_aload_n hx hb d_Mod_set_44 rfl (lv_at hl 1 rfl) ?_
          refine z_get C hP List.mem_cons_self q_Mod 20 (by decide) k_748 (fun _ h9 => h9) rfl d_Mod_set_45 ?_
          refine lv_iload_n hx hb d_Mod_set_48 rfl (lv_at hl 2 rfl) ?_
          refine lv_iload_n hx hb d_Mod_set_49 rfl (lv_at hl 4 rfl) ?_
          refine z_iast C hP hD hS 2 rfl n (by omega) (by omega) d_Mod_set_50 (ws' := (o, zo 11 [.int (nI 0), .ref ta, .int (nI ne), .ref ans, .ref anm, .ref anu, .ref asa, .ref apl, .ref akd, .int (nI nk), .ref akn, .ref aks, .ref akp, .ref akk, .int (nI bg), .int (nI sz), .int (nI hd), .ref alg, .int (nI ni), .ref aip, .ref aix, .ref aiz, .ref aim, .ref aod, .int (nI av), .int (nI hv), .int (nI lf), .int (nI sn), .int (nI pv)]) :: (aip, zIn g 16 (upd ipl n b)) :: (aix, zIn g 16 (upd ist n c0)) :: (aiz, zIn g 16 (nN isz)) :: (aim, zIn g 4096 (nB inm)) :: T) rfl (fun H locs hP hD hS => ?_)
          refine lv_aload_n hx hb d_Mod_set_51 rfl (lv_at hl 1 rfl) ?_
          refine z_get C hP List.mem_cons_self q_Mod 21 (by decide) k_749 (fun _ h9 => h9) rfl d_Mod_set_52 ?_
          refine lv_iload_n hx hb d_Mod_set_55 rfl (lv_at hl 2 rfl) ?_
          refine lv_iload hx hb d_Mod_set_56 (lv_at hl 0 rfl) ?_
          refine z_iast C hP hD hS 3 rfl n (by omega) (by omega) d_Mod_set_58 (ws' := (o, zo 11 [.int (nI 0), .ref ta, .int (nI ne), .ref ans, .ref anm, .ref anu, .ref asa, .ref apl, .ref akd, .int (nI nk), .ref akn, .ref aks, .ref akp, .ref akk, .int (nI bg), .int (nI sz), .int (nI hd), .ref alg, .int (nI ni), .ref aip, .ref aix, .ref aiz, .ref aim, .ref aod, .int (nI av), .int (nI hv), .int (nI lf), .int (nI sn), .int (nI pv)]) :: (aip, zIn g 16 (upd ipl n b)) :: (aix, zIn g 16 (upd ist n c0)) :: (aiz, zIn g 16 (upd (nN isz) n (nI ts))) :: (aim, zIn g 4096 (nB inm)) :: T) rfl (fun H locs hP hD hS => ?_)
          rw [upd_nN] at hP hD
          refine lv_iconst (v := nI 0) hx hb d_Mod_set_59 (by decide) ?_
          refine lv_istore (lv' := [(5, .int (nI 0)), (4, .int (nI ts)), (0, .ref o), (1, .int (nI n)), (2, .int b), (3, .int c0)]) hx hb d_Mod_set_60 hl (by decide) rfl (fun ls hl => ?_)
          have e_w : nB inm = nB (wr inm (256 * n) (zl tb 0 0)) := by rw [zl_0, wr_0]
          rw [e_w] at hP hD
          exact L_62 _ 0 (Nat.zero_le _) (Nat.lt_succ_self _) _ _ hP hD hS ls (lv_sub hl [2, 3, 1, 0] rfl)
        · skip
          have c_31 : ¬ n < ni := fun q9 => c_31 ((nI_ltI (a := n) (b := ni) (by omega) (by omega)).mpr q9)
          exact absurd c_31 (by omega)
    · skip
      have c_17 : ¬ ts ≤ 256 := fun q9 => c_17 ((nI_leI (a := ts) (b := 256) (by omega) (by decide)).mpr q9)
      exact absurd c_17 (by omega)
set_option maxHeartbeats 4000000 in
set_option maxRecDepth 100000 in
theorem c_Mod_drop_b (l : Launch) (g : zT) (T : va_W) (o ts ta ne ans anm anu asa apl akd nk akn aks akp akk bg sz hd alg ni aip aix aiz aim aod av hv lf sn pv : Nat) (tb : Nat → UInt8) (hta : (ta, zIn g 300 (nB tb)) ∈ T) (v1 : ts ≤ 300) (hn9 : isNm (zl tb 0 ts) = false) : Met l y_Mod_drop (zw y_Mod_drop b_Mod_drop 4 (some .int)) (zR 3 68 0 0) (zP g [.ref o] ((o, zo 11 [.int (nI ts), .ref ta, .int (nI ne), .ref ans, .ref anm, .ref anu, .ref asa, .ref apl, .ref akd, .int (nI nk), .ref akn, .ref aks, .ref akp, .ref akk, .int (nI bg), .int (nI sz), .int (nI hd), .ref alg, .int (nI ni), .ref aip, .ref aix, .ref aiz, .ref aim, .ref aod, .int (nI av), .int (nI hv), .int (nI lf), .int (nI sn), .int (nI pv)]) :: T)) (zQi g (fun r w => r = iI (-1) ∧ w = (o, zo 11 [.int (nI 0), .ref ta, .int (nI ne), .ref ans, .ref anm, .ref anu, .ref asa, .ref apl, .ref akd, .int (nI nk), .ref akn, .ref aks, .ref akp, .ref akk, .int (nI bg), .int (nI sz), .int (nI hd), .ref alg, .int (nI ni), .ref aip, .ref aix, .ref aiz, .ref aim, .ref aod, .int (nI av), .int (nI hv), .int (nI lf), .int (nI sn), .int (nI pv)]) :: T)) 0 0 (zA g) := by
  refine zMet (by decide) (Nat.le_of_ble_eq_true rfl) ?_
  intro p e s m below meth c ls C hr hlk hnm hP hD hl
  have hx := C.1.1
  have hb := C.1.2.1
  have hS : va_S (zA g) s.heap s.heap [] := va_S.rf
  have hl : lv_has ls 4 [(0, .ref o)] := hl
  refine lv_aload_n hx hb d_Mod_drop_0 rfl (lv_at hl 0 rfl) ?_
  refine z_ki (z_runV (np := 0) C (c_Mod_use l g T o ts ta ne ans anm anu asa apl akd nk akn aks akp akk bg sz hd alg ni aip aix aiz aim aod av hv lf sn pv) hP hD hS List.mem_cons_self (show classes[11]? = some (R_Mod, F_Mod, 29) from rfl) k_829 k_12 k_826 k_828 ks_Mod_use ⟨by decide, by decide, by decide⟩ ⟨Nat.le_of_ble_eq_true rfl, Nat.le_of_ble_eq_true rfl⟩ rfl hl.1 rfl (Nat.le_of_ble_eq_true rfl) d_Mod_drop_1 ⟨by show _ ≤ 0; omega, by show _ ≤ 0; omega⟩) hS (fun r_1 w H locs hw hP hD hS => ?_)
  obtain ⟨rfl, hw⟩ := hw
  rw [hw] at hP hD
  refine lv_istore_n (lv' := [(1, .int (nI ts)), (0, .ref o)]) hx hb d_Mod_drop_4 rfl hl (by decide) rfl (fun ls hl => ?_)
  refine lv_aload_n hx hb d_Mod_drop_5 rfl (lv_at hl 1 rfl) ?_
  refine lv_iload_n hx hb d_Mod_drop_6 rfl (lv_at hl 0 rfl) ?_
  refine z_ki (z_runV (np := 1) C (c_Mod_isName l g ((o, zo 11 [.int (nI 0), .ref ta, .int (nI ne), .ref ans, .ref anm, .ref anu, .ref asa, .ref apl, .ref akd, .int (nI nk), .ref akn, .ref aks, .ref akp, .ref akk, .int (nI bg), .int (nI sz), .int (nI hd), .ref alg, .int (nI ni), .ref aip, .ref aix, .ref aiz, .ref aim, .ref aod, .int (nI av), .int (nI hv), .int (nI lf), .int (nI sn), .int (nI pv)]) :: T) o 0 ta ne ans anm anu asa apl akd nk akn aks akp akk bg sz hd alg ni aip aix aiz aim aod av hv lf sn pv List.mem_cons_self tb (List.mem_cons_of_mem _ hta) ts v1) hP hD hS List.mem_cons_self (show classes[11]? = some (R_Mod, F_Mod, 29) from rfl) k_834 k_12 k_831 k_833 ks_Mod_isName ⟨by decide, by decide, by decide⟩ ⟨Nat.le_of_ble_eq_true rfl, Nat.le_of_ble_eq_true rfl⟩ rfl hl.1 rfl (Nat.le_of_ble_eq_true rfl) d_Mod_drop_7 ⟨by show _ ≤ 0; omega, by show _ ≤ 0; omega⟩) hS (fun r_7 w H locs hw hP hD hS => ?_)
  obtain ⟨hr8, hw⟩ := hw
  rw [hw] at hP hD
  rw [hn9] at hr8
  subst hr8
  refine lv_if_ne (tgt := 15) hx hb d_Mod_drop_10 (by decide) (fun c_10 => ?_) (fun c_10 => ?_)
  · skip
    have c_10 : ¬ 0 = 0 := fun q9 => c_10 ((nI_eq (a := 0) (b := 0) (by decide) (by decide)).mpr q9)
    exact absurd c_10 (by omega)
  · skip
    have c_10 : 0 = 0 := (nI_eq (a := 0) (b := 0) (by decide) (by decide)).mp c_10
    refine lv_iconst (v := iI (-1)) hx hb d_Mod_drop_13 (by decide) ?_
    exact z_iret C hr hlk hP hD hS (by omega) (by omega) ⟨rfl, rfl⟩ d_Mod_drop_14
set_option maxHeartbeats 4000000 in
set_option maxRecDepth 100000 in
theorem c_Mod_drop_n (l : Launch) (g : zT) (T : va_W) (o ts ta ne ans anm anu asa apl akd nk akn aks akp akk bg sz hd alg ni aip aix aiz aim aod av hv lf sn pv : Nat) (tb : Nat → UInt8) (hta : (ta, zIn g 300 (nB tb)) ∈ T) (nsz : Nat → Nat) (hns : (ans, zIn g 600 (nN nsz)) ∈ T) (nmb : Nat → UInt8) (hnb : (anm, zBy g 153600 nmb) ∈ T) (v1 : ts ≤ 300) (v2 : ne ≤ 600) (v3 : ∀ j, j < ne → nsz j ≤ 256) (hn9 : isNm (zl tb 0 ts) = true) (hlt : lastE (ofT tb ts nmb nsz) ne = -2) : Met l y_Mod_drop (zw y_Mod_drop b_Mod_drop 4 (some .int)) (zR 3 68 0 0) (zP g [.ref o] ((o, zo 11 [.int (nI ts), .ref ta, .int (nI ne), .ref ans, .ref anm, .ref anu, .ref asa, .ref apl, .ref akd, .int (nI nk), .ref akn, .ref aks, .ref akp, .ref akk, .int (nI bg), .int (nI sz), .int (nI hd), .ref alg, .int (nI ni), .ref aip, .ref aix, .ref aiz, .ref aim, .ref aod, .int (nI av), .int (nI hv), .int (nI lf), .int (nI sn), .int (nI pv)]) :: T)) (zQi g (fun r w => r = iI (-2) ∧ w = (o, zo 11 [.int (nI 0), .ref ta, .int (nI ne), .ref ans, .ref anm, .ref anu, .ref asa, .ref apl, .ref akd, .int (nI nk), .ref akn, .ref aks, .ref akp, .ref akk, .int (nI bg), .int (nI sz), .int (nI hd), .ref alg, .int (nI ni), .ref aip, .ref aix, .ref aiz, .ref aim, .ref aod, .int (nI av), .int (nI hv), .int (nI lf), .int (nI sn), .int (nI pv)]) :: T)) 0 0 (zA g) := by
  refine zMet (by decide) (Nat.le_of_ble_eq_true rfl) ?_
  intro p e s m below meth c ls C hr hlk hnm hP hD hl
  have hx := C.1.1
  have hb := C.1.2.1
  have hS : va_S (zA g) s.heap s.heap [] := va_S.rf
  have hl : lv_has ls 4 [(0, .ref o)] := hl
  refine lv_aload_n hx hb d_Mod_drop_0 rfl (lv_at hl 0 rfl) ?_
  refine z_ki (z_runV (np := 0) C (c_Mod_use l g T o ts ta ne ans anm anu asa apl akd nk akn aks akp akk bg sz hd alg ni aip aix aiz aim aod av hv lf sn pv) hP hD hS List.mem_cons_self (show classes[11]? = some (R_Mod, F_Mod, 29) from rfl) k_829 k_12 k_826 k_828 ks_Mod_use ⟨by decide, by decide, by decide⟩ ⟨Nat.le_of_ble_eq_true rfl, Nat.le_of_ble_eq_true rfl⟩ rfl hl.1 rfl (Nat.le_of_ble_eq_true rfl) d_Mod_drop_1 ⟨by show _ ≤ 0; omega, by show _ ≤ 0; omega⟩) hS (fun r_1 w H locs hw hP hD hS => ?_)
  obtain ⟨rfl, hw⟩ := hw
  rw [hw] at hP hD
  refine lv_istore_n (lv' := [(1, .int (nI ts)), (0, .ref o)]) hx hb d_Mod_drop_4 rfl hl (by decide) rfl (fun ls hl => ?_)
  refine lv_aload_n hx hb d_Mod_drop_5 rfl (lv_at hl 1 rfl) ?_
  refine lv_iload_n hx hb d_Mod_drop_6 rfl (lv_at hl 0 rfl) ?_
  refine z_ki (z_runV (np := 1) C (c_Mod_isName l g ((o, zo 11 [.int (nI 0), .ref ta, .int (nI ne), .ref ans, .ref anm, .ref anu, .ref asa, .ref apl, .ref akd, .int (nI nk), .ref akn, .ref aks, .ref akp, .ref akk, .int (nI bg), .int (nI sz), .int (nI hd), .ref alg, .int (nI ni), .ref aip, .ref aix, .ref aiz, .ref aim, .ref aod, .int (nI av), .int (nI hv), .int (nI lf), .int (nI sn), .int (nI pv)]) :: T) o 0 ta ne ans anm anu asa apl akd nk akn aks akp akk bg sz hd alg ni aip aix aiz aim aod av hv lf sn pv List.mem_cons_self tb (List.mem_cons_of_mem _ hta) ts v1) hP hD hS List.mem_cons_self (show classes[11]? = some (R_Mod, F_Mod, 29) from rfl) k_834 k_12 k_831 k_833 ks_Mod_isName ⟨by decide, by decide, by decide⟩ ⟨Nat.le_of_ble_eq_true rfl, Nat.le_of_ble_eq_true rfl⟩ rfl hl.1 rfl (Nat.le_of_ble_eq_true rfl) d_Mod_drop_7 ⟨by show _ ≤ 0; omega, by show _ ≤ 0; omega⟩) hS (fun r_7 w H locs hw hP hD hS => ?_)
  obtain ⟨hr8, hw⟩ := hw
  rw [hw] at hP hD
  rw [hn9] at hr8
  subst hr8
  refine lv_if_ne (tgt := 15) hx hb d_Mod_drop_10 (by decide) (fun c_10 => ?_) (fun c_10 => ?_)
  · skip
    have c_10 : ¬ 1 = 0 := fun q9 => c_10 ((nI_eq (a := 1) (b := 0) (by decide) (by decide)).mpr q9)
    refine lv_aload_n hx hb d_Mod_drop_15 rfl (lv_at hl 1 rfl) ?_
    refine lv_iload_n hx hb d_Mod_drop_16 rfl (lv_at hl 0 rfl) ?_
    refine z_ki (z_runV (np := 1) C (c_Mod_entryOfTape l g ((o, zo 11 [.int (nI 0), .ref ta, .int (nI ne), .ref ans, .ref anm, .ref anu, .ref asa, .ref apl, .ref akd, .int (nI nk), .ref akn, .ref aks, .ref akp, .ref akk, .int (nI bg), .int (nI sz), .int (nI hd), .ref alg, .int (nI ni), .ref aip, .ref aix, .ref aiz, .ref aim, .ref aod, .int (nI av), .int (nI hv), .int (nI lf), .int (nI sn), .int (nI pv)]) :: T) o 0 ta ne ans anm anu asa apl akd nk akn aks akp akk bg sz hd alg ni aip aix aiz aim aod av hv lf sn pv List.mem_cons_self tb (List.mem_cons_of_mem _ hta) nsz (List.mem_cons_of_mem _ hns) nmb (List.mem_cons_of_mem _ hnb) ts v1 v2 v3) hP hD hS List.mem_cons_self (show classes[11]? = some (R_Mod, F_Mod, 29) from rfl) k_838 k_12 k_835 k_837 ks_Mod_entryOfTape ⟨by decide, by decide, by decide⟩ ⟨Nat.le_of_ble_eq_true rfl, Nat.le_of_ble_eq_true rfl⟩ rfl hl.1 rfl (Nat.le_of_ble_eq_true rfl) d_Mod_drop_17 ⟨by show _ ≤ 0; omega, by show _ ≤ 0; omega⟩) hS (fun r_17 w H locs hw hP hD hS => ?_)
    obtain ⟨hr7, hw⟩ := hw
    rw [hw] at hP hD
    rw [hlt] at hr7
    subst hr7
    refine lv_istore_n (lv' := [(2, .int (iI (-2))), (1, .int (nI ts)), (0, .ref o)]) hx hb d_Mod_drop_20 rfl hl (by decide) rfl (fun ls hl => ?_)
    refine lv_iload_n hx hb d_Mod_drop_21 rfl (lv_at hl 0 rfl) ?_
    refine lv_if_ge (tgt := 28) hx hb d_Mod_drop_22 (by decide) (fun c_22 => ?_) (fun c_22 => ?_)
    · skip
      exact absurd c_22 (by decide)
    · skip
      refine lv_bipush (v := iI (-2)) hx hb d_Mod_drop_25 (by decide) ?_
      exact z_iret C hr hlk hP hD hS (by omega) (by omega) ⟨rfl, rfl⟩ d_Mod_drop_27
  · skip
    have c_10 : 1 = 0 := (nI_eq (a := 1) (b := 0) (by decide) (by decide)).mp c_10
    exact absurd c_10 (by omega)
set_option maxHeartbeats 4000000 in
set_option maxRecDepth 100000 in
theorem c_Mod_drop_g (l : Launch) (g : zT) (T : va_W) (o ts ta ne ans anm anu asa apl akd nk akn aks akp akk bg sz hd alg ni aip aix aiz aim aod av hv lf sn pv : Nat) (tb : Nat → UInt8) (hta : (ta, zIn g 300 (nB tb)) ∈ T) (nsz : Nat → Nat) (num : Nat → Nat) (sta : Nat → Nat) (pla : Nat → Nat) (kin : Nat → Nat) (nmb : Nat → UInt8) (v1 : ts ≤ 300) (v2 : ne ≤ 600) (v3 : ∀ j, j < ne → nsz j ≤ 256) (e0 : Nat) (v4 : e0 < ne) (hn9 : isNm (zl tb 0 ts) = true) (hlt : lastE (ofT tb ts nmb nsz) ne = (e0 : Int)) : Met l y_Mod_drop (zw y_Mod_drop b_Mod_drop 4 (some .int)) (zR 3 68 0 0) (zP g [.ref o] ((o, zo 11 [.int (nI ts), .ref ta, .int (nI ne), .ref ans, .ref anm, .ref anu, .ref asa, .ref apl, .ref akd, .int (nI nk), .ref akn, .ref aks, .ref akp, .ref akk, .int (nI bg), .int (nI sz), .int (nI hd), .ref alg, .int (nI ni), .ref aip, .ref aix, .ref aiz, .ref aim, .ref aod, .int (nI av), .int (nI hv), .int (nI lf), .int (nI sn), .int (nI pv)]) :: (ans, zIn g 600 (nN nsz)) :: (anu, zIn g 600 (nN num)) :: (asa, zIn g 600 (nN sta)) :: (apl, zIn g 600 (nN pla)) :: (akd, zIn g 600 (nN kin)) :: (anm, zBy g 153600 nmb) :: T)) (zQi g (fun r w => r = nI (ne - 1) ∧ w = (o, zo 11 [.int (nI 0), .ref ta, .int (nI (ne - 1)), .ref ans, .ref anm, .ref anu, .ref asa, .ref apl, .ref akd, .int (nI nk), .ref akn, .ref aks, .ref akp, .ref akk, .int (nI bg), .int (nI sz), .int (nI hd), .ref alg, .int (nI ni), .ref aip, .ref aix, .ref aiz, .ref aim, .ref aod, .int (nI av), .int (nI hv), .int (nI lf), .int (nI sn), .int (nI pv)]) :: (ans, zIn g 600 (nN (upN nsz e0 (nsz (ne - 1))))) :: (anu, zIn g 600 (nN (upN num e0 (num (ne - 1))))) :: (asa, zIn g 600 (nN (upN sta e0 (sta (ne - 1))))) :: (apl, zIn g 600 (nN (upN pla e0 (pla (ne - 1))))) :: (akd, zIn g 600 (nN (upN kin e0 (kin (ne - 1))))) :: (anm, zBy g 153600 (wr nmb (256 * e0) (zl nmb (256 * (ne - 1)) 256))) :: T)) 0 0 (zA g) := by
  refine zMet (by decide) (Nat.le_of_ble_eq_true rfl) ?_
  intro p e s m below meth c ls C hr hlk hnm hP hD hl
  have hx := C.1.1
  have hb := C.1.2.1
  have hS : va_S (zA g) s.heap s.heap [] := va_S.rf
  have hl : lv_has ls 4 [(0, .ref o)] := hl
  have L_115 : ∀ (nu : Nat) (k : Nat) (_ : k ≤ 256) (_ : 256 - k < nu) (H : Heap) (locs : List Loc), va_P g.1 classes ((o, zo 11 [.int (nI 0), .ref ta, .int (nI (ne - 1)), .ref ans, .ref anm, .ref anu, .ref asa, .ref apl, .ref akd, .int (nI nk), .ref akn, .ref aks, .ref akp, .ref akk, .int (nI bg), .int (nI sz), .int (nI hd), .ref alg, .int (nI ni), .ref aip, .ref aix, .ref aiz, .ref aim, .ref aod, .int (nI av), .int (nI hv), .int (nI lf), .int (nI sn), .int (nI pv)]) :: (ans, zIn g 600 (nN (upN nsz e0 (nsz (ne - 1))))) :: (anu, zIn g 600 (nN (upN num e0 (num (ne - 1))))) :: (asa, zIn g 600 (nN (upN sta e0 (sta (ne - 1))))) :: (apl, zIn g 600 (nN (upN pla e0 (pla (ne - 1))))) :: (akd, zIn g 600 (nN (upN kin e0 (kin (ne - 1))))) :: (anm, zBy g 153600 (wr nmb (256 * e0) (zl nmb (256 * (ne - 1)) k))) :: T) H → va_D (zA g) ((o, zo 11 [.int (nI 0), .ref ta, .int (nI (ne - 1)), .ref ans, .ref anm, .ref anu, .ref asa, .ref apl, .ref akd, .int (nI nk), .ref akn, .ref aks, .ref akp, .ref akk, .int (nI bg), .int (nI sz), .int (nI hd), .ref alg, .int (nI ni), .ref aip, .ref aix, .ref aiz, .ref aim, .ref aod, .int (nI av), .int (nI hv), .int (nI lf), .int (nI sn), .int (nI pv)]) :: (ans, zIn g 600 (nN (upN nsz e0 (nsz (ne - 1))))) :: (anu, zIn g 600 (nN (upN num e0 (num (ne - 1))))) :: (asa, zIn g 600 (nN (upN sta e0 (sta (ne - 1))))) :: (apl, zIn g 600 (nN (upN pla e0 (pla (ne - 1))))) :: (akd, zIn g 600 (nN (upN kin e0 (kin (ne - 1))))) :: (anm, zBy g 153600 (wr nmb (256 * e0) (zl nmb (256 * (ne - 1)) k))) :: T) → va_S (zA g) s.heap H locs → ∀ ls : Array Slot, lv_has ls 4 [(0, .ref o), (2, .int (nI e0)), (3, .int (nI k))] → W p l e (zR 3 68 0 0) s m [.ref o].toArray below meth c H locs 0 0 (MQ below (zQi g (fun r w => r = nI (ne - 1) ∧ w = (o, zo 11 [.int (nI 0), .ref ta, .int (nI (ne - 1)), .ref ans, .ref anm, .ref anu, .ref asa, .ref apl, .ref akd, .int (nI nk), .ref akn, .ref aks, .ref akp, .ref akk, .int (nI bg), .int (nI sz), .int (nI hd), .ref alg, .int (nI ni), .ref aip, .ref aix, .ref aiz, .ref aim, .ref aod, .int (nI av), .int (nI hv), .int (nI lf), .int (nI sn), .int (nI pv)]) :: (ans, zIn g 600 (nN (upN nsz e0 (nsz (ne - 1))))) :: (anu, zIn g 600 (nN (upN num e0 (num (ne - 1))))) :: (asa, zIn g 600 (nN (upN sta e0 (sta (ne - 1))))) :: (apl, zIn g 600 (nN (upN pla e0 (pla (ne - 1))))) :: (akd, zIn g 600 (nN (upN kin e0 (kin (ne - 1))))) :: (anm, zBy g 153600 (wr nmb (256 * e0) (zl nmb (256 * (ne - 1)) 256))) :: T)) [.ref o].toArray s 0 0 (zA g)) (F0 m 115 ls []) := by
    intro nu
    induction nu with
    | zero => intros; omega
    | succ nu ih =>
      intro k g1 hmu H locs hP hD hS ls hl
      refine lv_iload_n hx hb d_Mod_drop_115 rfl (lv_at hl 2 rfl) ?_
      refine lv_sipush (v := nI 256) hx hb d_Mod_drop_116 (by decide) ?_
      refine lv_icmp_ge (tgt := 155) hx hb d_Mod_drop_119 (by decide) (fun c_119 => ?_) (fun c_119 => ?_)
      · skip
        have c_119 : 256 ≤ k := (nI_leI (a := 256) (b := k) (by decide) (by omega)).mp c_119
        refine lv_aload_n hx hb d_Mod_drop_155 rfl (lv_at hl 0 rfl) ?_
        refine z_get C hP List.mem_cons_self q_Mod 2 (by decide) k_730 (fun _ h9 => h9) rfl d_Mod_drop_156 ?_
        exact z_iret C hr hlk hP hD hS (by omega) (by omega) ⟨rfl, by rw [show k = 256 by omega]⟩ d_Mod_drop_159
      · skip
        have c_119 : ¬ 256 ≤ k := fun q9 => c_119 ((nI_leI (a := 256) (b := k) (by decide) (by omega)).mpr q9)
        refine lv_aload_n hx hb d_Mod_drop_122 rfl (lv_at hl 0 rfl) ?_
        refine z_get C hP List.mem_cons_self q_Mod 4 (by decide) k_732 (fun _ h9 => h9) rfl d_Mod_drop_123 ?_
        refine lv_sipush (v := nI 256) hx hb d_Mod_drop_126 (by decide) ?_
        refine lv_iload_n hx hb d_Mod_drop_129 rfl (lv_at hl 1 rfl) ?_
        refine z_imul (v := nI (256 * e0)) C d_Mod_drop_130 (pk_mul _ _) ?_
        refine lv_iload_n hx hb d_Mod_drop_131 rfl (lv_at hl 2 rfl) ?_
        refine z_iadd (v := nI ((256 * e0) + k)) C d_Mod_drop_132 (nI_add _ _) ?_
        refine lv_aload_n hx hb d_Mod_drop_133 rfl (lv_at hl 0 rfl) ?_
        refine z_get C hP List.mem_cons_self q_Mod 4 (by decide) k_732 (fun _ h9 => h9) rfl d_Mod_drop_134 ?_
        refine lv_sipush (v := nI 256) hx hb d_Mod_drop_137 (by decide) ?_
        refine lv_aload_n hx hb d_Mod_drop_140 rfl (lv_at hl 0 rfl) ?_
        refine z_get C hP List.mem_cons_self q_Mod 2 (by decide) k_730 (fun _ h9 => h9) rfl d_Mod_drop_141 ?_
        refine z_imul (v := nI (256 * (ne - 1))) C d_Mod_drop_144 (pk_mul _ _) ?_
        refine lv_iload_n hx hb d_Mod_drop_145 rfl (lv_at hl 2 rfl) ?_
        refine z_iadd (v := nI ((256 * (ne - 1)) + k)) C d_Mod_drop_146 (nI_add _ _) ?_
        refine z_bald C hP (List.mem_cons_of_mem _ (List.mem_cons_of_mem _ (List.mem_cons_of_mem _ (List.mem_cons_of_mem _ (List.mem_cons_of_mem _ (List.mem_cons_of_mem _ List.mem_cons_self)))))) ((256 * (ne - 1)) + k) (by omega) (by omega) d_Mod_drop_147 ?_
        refine z_bast C hP hD hS 6 rfl ((256 * e0) + k) (by omega) (by omega) d_Mod_drop_148 (ws' := (o, zo 11 [.int (nI 0), .ref ta, .int (nI (ne - 1)), .ref ans, .ref anm, .ref anu, .ref asa, .ref apl, .ref akd, .int (nI nk), .ref akn, .ref aks, .ref akp, .ref akk, .int (nI bg), .int (nI sz), .int (nI hd), .ref alg, .int (nI ni), .ref aip, .ref aix, .ref aiz, .ref aim, .ref aod, .int (nI av), .int (nI hv), .int (nI lf), .int (nI sn), .int (nI pv)]) :: (ans, zIn g 600 (nN (upN nsz e0 (nsz (ne - 1))))) :: (anu, zIn g 600 (nN (upN num e0 (num (ne - 1))))) :: (asa, zIn g 600 (nN (upN sta e0 (sta (ne - 1))))) :: (apl, zIn g 600 (nN (upN pla e0 (pla (ne - 1))))) :: (akd, zIn g 600 (nN (upN kin e0 (kin (ne - 1))))) :: (anm, zBy g 153600 (uB (wr nmb (256 * e0) (zl nmb (256 * (ne - 1)) k)) ((256 * e0) + k) ((wr nmb (256 * e0) (zl nmb (256 * (ne - 1)) k)) ((256 * (ne - 1)) + k)))) :: T) rfl (fun H locs hP hD hS => ?_)
        have e_b : (uB (wr nmb (256 * e0) (zl nmb (256 * (ne - 1)) k)) ((256 * e0) + k) ((wr nmb (256 * e0) (zl nmb (256 * (ne - 1)) k)) ((256 * (ne - 1)) + k)) : Nat → UInt8) = wr nmb (256 * e0) (zl nmb (256 * (ne - 1)) (k + 1)) := cpw_s nmb _ _ k _ _ rfl rfl (by omega)
        rw [e_b] at hP hD
        refine lv_iinc (v := nI (k + 1)) (lv' := [(3, .int (nI (k + 1))), (0, .ref o), (2, .int (nI e0))]) hx hb d_Mod_drop_149 hl (k := 2) rfl (by rw [show Int32.ofInt 1 = nI 1 by decide]; exact nI_add _ _) (by decide) rfl (fun ls hl => ?_)
        refine lv_goto (tgt := 115) hx hb d_Mod_drop_152 (by decide) ?_
        exact ih (k + 1) (by omega) (by omega) _ _ hP hD hS ls (lv_sub hl [1, 2, 0] rfl)
  refine lv_aload_n hx hb d_Mod_drop_0 rfl (lv_at hl 0 rfl) ?_
  refine z_ki (z_runV (np := 0) C (c_Mod_use l g ((ans, zIn g 600 (nN nsz)) :: (anu, zIn g 600 (nN num)) :: (asa, zIn g 600 (nN sta)) :: (apl, zIn g 600 (nN pla)) :: (akd, zIn g 600 (nN kin)) :: (anm, zBy g 153600 nmb) :: T) o ts ta ne ans anm anu asa apl akd nk akn aks akp akk bg sz hd alg ni aip aix aiz aim aod av hv lf sn pv) hP hD hS List.mem_cons_self (show classes[11]? = some (R_Mod, F_Mod, 29) from rfl) k_829 k_12 k_826 k_828 ks_Mod_use ⟨by decide, by decide, by decide⟩ ⟨Nat.le_of_ble_eq_true rfl, Nat.le_of_ble_eq_true rfl⟩ rfl hl.1 rfl (Nat.le_of_ble_eq_true rfl) d_Mod_drop_1 ⟨by show _ ≤ 0; omega, by show _ ≤ 0; omega⟩) hS (fun r_1 w H locs hw hP hD hS => ?_)
  obtain ⟨rfl, hw⟩ := hw
  rw [hw] at hP hD
  refine lv_istore_n (lv' := [(1, .int (nI ts)), (0, .ref o)]) hx hb d_Mod_drop_4 rfl hl (by decide) rfl (fun ls hl => ?_)
  refine lv_aload_n hx hb d_Mod_drop_5 rfl (lv_at hl 1 rfl) ?_
  refine lv_iload_n hx hb d_Mod_drop_6 rfl (lv_at hl 0 rfl) ?_
  refine z_ki (z_runV (np := 1) C (c_Mod_isName l g ((o, zo 11 [.int (nI 0), .ref ta, .int (nI ne), .ref ans, .ref anm, .ref anu, .ref asa, .ref apl, .ref akd, .int (nI nk), .ref akn, .ref aks, .ref akp, .ref akk, .int (nI bg), .int (nI sz), .int (nI hd), .ref alg, .int (nI ni), .ref aip, .ref aix, .ref aiz, .ref aim, .ref aod, .int (nI av), .int (nI hv), .int (nI lf), .int (nI sn), .int (nI pv)]) :: (ans, zIn g 600 (nN nsz)) :: (anu, zIn g 600 (nN num)) :: (asa, zIn g 600 (nN sta)) :: (apl, zIn g 600 (nN pla)) :: (akd, zIn g 600 (nN kin)) :: (anm, zBy g 153600 nmb) :: T) o 0 ta ne ans anm anu asa apl akd nk akn aks akp akk bg sz hd alg ni aip aix aiz aim aod av hv lf sn pv List.mem_cons_self tb (List.mem_cons_of_mem _ (List.mem_cons_of_mem _ (List.mem_cons_of_mem _ (List.mem_cons_of_mem _ (List.mem_cons_of_mem _ (List.mem_cons_of_mem _ (List.mem_cons_of_mem _ hta))))))) ts v1) hP hD hS List.mem_cons_self (show classes[11]? = some (R_Mod, F_Mod, 29) from rfl) k_834 k_12 k_831 k_833 ks_Mod_isName ⟨by decide, by decide, by decide⟩ ⟨Nat.le_of_ble_eq_true rfl, Nat.le_of_ble_eq_true rfl⟩ rfl hl.1 rfl (Nat.le_of_ble_eq_true rfl) d_Mod_drop_7 ⟨by show _ ≤ 0; omega, by show _ ≤ 0; omega⟩) hS (fun r_7 w H locs hw hP hD hS => ?_)
  obtain ⟨hr8, hw⟩ := hw
  rw [hw] at hP hD
  rw [hn9] at hr8
  subst hr8
  refine lv_if_ne (tgt := 15) hx hb d_Mod_drop_10 (by decide) (fun c_10 => ?_) (fun c_10 => ?_)
  · skip
    have c_10 : ¬ 1 = 0 := fun q9 => c_10 ((nI_eq (a := 1) (b := 0) (by decide) (by decide)).mpr q9)
    refine lv_aload_n hx hb d_Mod_drop_15 rfl (lv_at hl 1 rfl) ?_
    refine lv_iload_n hx hb d_Mod_drop_16 rfl (lv_at hl 0 rfl) ?_
    refine z_ki (z_runV (np := 1) C (c_Mod_entryOfTape l g ((o, zo 11 [.int (nI 0), .ref ta, .int (nI ne), .ref ans, .ref anm, .ref anu, .ref asa, .ref apl, .ref akd, .int (nI nk), .ref akn, .ref aks, .ref akp, .ref akk, .int (nI bg), .int (nI sz), .int (nI hd), .ref alg, .int (nI ni), .ref aip, .ref aix, .ref aiz, .ref aim, .ref aod, .int (nI av), .int (nI hv), .int (nI lf), .int (nI sn), .int (nI pv)]) :: (ans, zIn g 600 (nN nsz)) :: (anu, zIn g 600 (nN num)) :: (asa, zIn g 600 (nN sta)) :: (apl, zIn g 600 (nN pla)) :: (akd, zIn g 600 (nN kin)) :: (anm, zBy g 153600 nmb) :: T) o 0 ta ne ans anm anu asa apl akd nk akn aks akp akk bg sz hd alg ni aip aix aiz aim aod av hv lf sn pv List.mem_cons_self tb (List.mem_cons_of_mem _ (List.mem_cons_of_mem _ (List.mem_cons_of_mem _ (List.mem_cons_of_mem _ (List.mem_cons_of_mem _ (List.mem_cons_of_mem _ (List.mem_cons_of_mem _ hta))))))) nsz (List.mem_cons_of_mem _ List.mem_cons_self) nmb (List.mem_cons_of_mem _ (List.mem_cons_of_mem _ (List.mem_cons_of_mem _ (List.mem_cons_of_mem _ (List.mem_cons_of_mem _ (List.mem_cons_of_mem _ List.mem_cons_self)))))) ts v1 v2 v3) hP hD hS List.mem_cons_self (show classes[11]? = some (R_Mod, F_Mod, 29) from rfl) k_838 k_12 k_835 k_837 ks_Mod_entryOfTape ⟨by decide, by decide, by decide⟩ ⟨Nat.le_of_ble_eq_true rfl, Nat.le_of_ble_eq_true rfl⟩ rfl hl.1 rfl (Nat.le_of_ble_eq_true rfl) d_Mod_drop_17 ⟨by show _ ≤ 0; omega, by show _ ≤ 0; omega⟩) hS (fun r_17 w H locs hw hP hD hS => ?_)
    obtain ⟨hr7, hw⟩ := hw
    rw [hw] at hP hD
    rw [hlt] at hr7
    rw [← nI_iI] at hr7
    subst hr7
    refine lv_istore_n (lv' := [(2, .int (nI e0)), (1, .int (nI ts)), (0, .ref o)]) hx hb d_Mod_drop_20 rfl hl (by decide) rfl (fun ls hl => ?_)
    refine lv_iload_n hx hb d_Mod_drop_21 rfl (lv_at hl 0 rfl) ?_
    refine lv_if_ge (tgt := 28) hx hb d_Mod_drop_22 (by decide) (fun c_22 => ?_) (fun c_22 => ?_)
    · skip
      have c_22 : 0 ≤ e0 := (nI_leI (a := 0) (b := e0) (by decide) (by omega)).mp c_22
      refine lv_aload_n hx hb d_Mod_drop_28 rfl (lv_at hl 2 rfl) ?_
      refine lv_dup hx hb d_Mod_drop_29 rfl ?_
      refine z_get C hP List.mem_cons_self q_Mod 2 (by decide) k_730 (fun _ h9 => h9) rfl d_Mod_drop_30 ?_
      refine lv_iconst (v := nI 1) hx hb d_Mod_drop_33 (by decide) ?_
      refine z_isub (v := nI (ne - 1)) C d_Mod_drop_34 (pk_sub (by omega)) ?_
      refine z_put C hP hD hS 0 rfl q_Mod 2 (by decide) k_730 (fun _ h9 => h9) rfl rfl rfl (Nat.le_of_ble_eq_true rfl) d_Mod_drop_35 (ws' := (o, zo 11 [.int (nI 0), .ref ta, .int (nI (ne - 1)), .ref ans, .ref anm, .ref anu, .ref asa, .ref apl, .ref akd, .int (nI nk), .ref akn, .ref aks, .ref akp, .ref akk, .int (nI bg), .int (nI sz), .int (nI hd), .ref alg, .int (nI ni), .ref aip, .ref aix, .ref aiz, .ref aim, .ref aod, .int (nI av), .int (nI hv), .int (nI lf), .int (nI sn), .int (nI pv)]) :: (ans, zIn g 600 (nN nsz)) :: (anu, zIn g 600 (nN num)) :: (asa, zIn g 600 (nN sta)) :: (apl, zIn g 600 (nN pla)) :: (akd, zIn g 600 (nN kin)) :: (anm, zBy g 153600 nmb) :: T) rfl (fun H locs hP hD hS => ?_)
      refine lv_aload_n hx hb d_Mod_drop_38 rfl (lv_at hl 2 rfl) ?_
      refine z_get C hP List.mem_cons_self q_Mod 3 (by decide) k_731 (fun _ h9 => h9) rfl d_Mod_drop_39 ?_
      refine lv_iload_n hx hb d_Mod_drop_42 rfl (lv_at hl 0 rfl) ?_
      refine lv_aload_n hx hb d_Mod_drop_43 rfl (lv_at hl 2 rfl) ?_
      refine z_get C hP List.mem_cons_self q_Mod 3 (by decide) k_731 (fun _ h9 => h9) rfl d_Mod_drop_44 ?_
      refine lv_aload_n hx hb d_Mod_drop_47 rfl (lv_at hl 2 rfl) ?_
      refine z_get C hP List.mem_cons_self q_Mod 2 (by decide) k_730 (fun _ h9 => h9) rfl d_Mod_drop_48 ?_
      refine z_iald C hP (List.mem_cons_of_mem _ List.mem_cons_self) (ne - 1) (by omega) (by omega) d_Mod_drop_51 ?_
      refine z_topi (y := nI (nsz (ne - 1))) rfl ?_
      refine z_iast C hP hD hS 1 rfl e0 (by omega) (by omega) d_Mod_drop_52 (ws' := (o, zo 11 [.int (nI 0), .ref ta, .int (nI (ne - 1)), .ref ans, .ref anm, .ref anu, .ref asa, .ref apl, .ref akd, .int (nI nk), .ref akn, .ref aks, .ref akp, .ref akk, .int (nI bg), .int (nI sz), .int (nI hd), .ref alg, .int (nI ni), .ref aip, .ref aix, .ref aiz, .ref aim, .ref aod, .int (nI av), .int (nI hv), .int (nI lf), .int (nI sn), .int (nI pv)]) :: (ans, zIn g 600 (upd (nN nsz) e0 (nI (nsz (ne - 1))))) :: (anu, zIn g 600 (nN num)) :: (asa, zIn g 600 (nN sta)) :: (apl, zIn g 600 (nN pla)) :: (akd, zIn g 600 (nN kin)) :: (anm, zBy g 153600 nmb) :: T) rfl (fun H locs hP hD hS => ?_)
      rw [upd_nN] at hP hD
      refine lv_aload_n hx hb d_Mod_drop_53 rfl (lv_at hl 2 rfl) ?_
      refine z_get C hP List.mem_cons_self q_Mod 5 (by decide) k_733 (fun _ h9 => h9) rfl d_Mod_drop_54 ?_
      refine lv_iload_n hx hb d_Mod_drop_57 rfl (lv_at hl 0 rfl) ?_
      refine lv_aload_n hx hb d_Mod_drop_58 rfl (lv_at hl 2 rfl) ?_
      refine z_get C hP List.mem_cons_self q_Mod 5 (by decide) k_733 (fun _ h9 => h9) rfl d_Mod_drop_59 ?_
      refine lv_aload_n hx hb d_Mod_drop_62 rfl (lv_at hl 2 rfl) ?_
      refine z_get C hP List.mem_cons_self q_Mod 2 (by decide) k_730 (fun _ h9 => h9) rfl d_Mod_drop_63 ?_
      refine z_iald C hP (List.mem_cons_of_mem _ (List.mem_cons_of_mem _ List.mem_cons_self)) (ne - 1) (by omega) (by omega) d_Mod_drop_66 ?_
      refine z_topi (y := nI (num (ne - 1))) rfl ?_
      refine z_iast C hP hD hS 2 rfl e0 (by omega) (by omega) d_Mod_drop_67 (ws' := (o, zo 11 [.int (nI 0), .ref ta, .int (nI (ne - 1)), .ref ans, .ref anm, .ref anu, .ref asa, .ref apl, .ref akd, .int (nI nk), .ref akn, .ref aks, .ref akp, .ref akk, .int (nI bg), .int (nI sz), .int (nI hd), .ref alg, .int (nI ni), .ref aip, .ref aix, .ref aiz, .ref aim, .ref aod, .int (nI av), .int (nI hv), .int (nI lf), .int (nI sn), .int (nI pv)]) :: (ans, zIn g 600 (nN (upN nsz e0 (nsz (ne - 1))))) :: (anu, zIn g 600 (upd (nN num) e0 (nI (num (ne - 1))))) :: (asa, zIn g 600 (nN sta)) :: (apl, zIn g 600 (nN pla)) :: (akd, zIn g 600 (nN kin)) :: (anm, zBy g 153600 nmb) :: T) rfl (fun H locs hP hD hS => ?_)
      rw [upd_nN] at hP hD
      refine lv_aload_n hx hb d_Mod_drop_68 rfl (lv_at hl 2 rfl) ?_
      refine z_get C hP List.mem_cons_self q_Mod 6 (by decide) k_734 (fun _ h9 => h9) rfl d_Mod_drop_69 ?_
      refine lv_iload_n hx hb d_Mod_drop_72 rfl (lv_at hl 0 rfl) ?_
      refine lv_aload_n hx hb d_Mod_drop_73 rfl (lv_at hl 2 rfl) ?_
      refine z_get C hP List.mem_cons_self q_Mod 6 (by decide) k_734 (fun _ h9 => h9) rfl d_Mod_drop_74 ?_
      refine lv_aload_n hx hb d_Mod_drop_77 rfl (lv_at hl 2 rfl) ?_
      refine z_get C hP List.mem_cons_self q_Mod 2 (by decide) k_730 (fun _ h9 => h9) rfl d_Mod_drop_78 ?_
      refine z_iald C hP (List.mem_cons_of_mem _ (List.mem_cons_of_mem _ (List.mem_cons_of_mem _ List.mem_cons_self))) (ne - 1) (by omega) (by omega) d_Mod_drop_81 ?_
      refine z_topi (y := nI (sta (ne - 1))) rfl ?_
      refine z_iast C hP hD hS 3 rfl e0 (by omega) (by omega) d_Mod_drop_82 (ws' := (o, zo 11 [.int (nI 0), .ref ta, .int (nI (ne - 1)), .ref ans, .ref anm, .ref anu, .ref asa, .ref apl, .ref akd, .int (nI nk), .ref akn, .ref aks, .ref akp, .ref akk, .int (nI bg), .int (nI sz), .int (nI hd), .ref alg, .int (nI ni), .ref aip, .ref aix, .ref aiz, .ref aim, .ref aod, .int (nI av), .int (nI hv), .int (nI lf), .int (nI sn), .int (nI pv)]) :: (ans, zIn g 600 (nN (upN nsz e0 (nsz (ne - 1))))) :: (anu, zIn g 600 (nN (upN num e0 (num (ne - 1))))) :: (asa, zIn g 600 (upd (nN sta) e0 (nI (sta (ne - 1))))) :: (apl, zIn g 600 (nN pla)) :: (akd, zIn g 600 (nN kin)) :: (anm, zBy g 153600 nmb) :: T) rfl (fun H locs hP hD hS => ?_)
      rw [upd_nN] at hP hD
      refine lv_aload_n hx hb d_Mod_drop_83 rfl (lv_at hl 2 rfl) ?_
      refine z_get C hP List.mem_cons_self q_Mod 7 (by decide) k_735 (fun _ h9 => h9) rfl d_Mod_drop_84 ?_
      refine lv_iload_n hx hb d_Mod_drop_87 rfl (lv_at hl 0 rfl) ?_
      refine lv_aload_n hx hb d_Mod_drop_88 rfl (lv_at hl 2 rfl) ?_
      refine z_get C hP List.mem_cons_self q_Mod 7 (by decide) k_735 (fun _ h9 => h9) rfl d_Mod_drop_89 ?_
      refine lv_aload_n hx hb d_Mod_drop_92 rfl (lv_at hl 2 rfl) ?_
      refine z_get C hP List.mem_cons_self q_Mod 2 (by decide) k_730 (fun _ h9 => h9) rfl d_Mod_drop_93 ?_
      refine z_iald C hP (List.mem_cons_of_mem _ (List.mem_cons_of_mem _ (List.mem_cons_of_mem _ (List.mem_cons_of_mem _ List.mem_cons_self)))) (ne - 1) (by omega) (by omega) d_Mod_drop_96 ?_
      refine z_topi (y := nI (pla (ne - 1))) rfl ?_
      refine z_iast C hP hD hS 4 rfl e0 (by omega) (by omega) d_Mod_drop_97 (ws' := (o, zo 11 [.int (nI 0), .ref ta, .int (nI (ne - 1)), .ref ans, .ref anm, .ref anu, .ref asa, .ref apl, .ref akd, .int (nI nk), .ref akn, .ref aks, .ref akp, .ref akk, .int (nI bg), .int (nI sz), .int (nI hd), .ref alg, .int (nI ni), .ref aip, .ref aix, .ref aiz, .ref aim, .ref aod, .int (nI av), .int (nI hv), .int (nI lf), .int (nI sn), .int (nI pv)]) :: (ans, zIn g 600 (nN (upN nsz e0 (nsz (ne - 1))))) :: (anu, zIn g 600 (nN (upN num e0 (num (ne - 1))))) :: (asa, zIn g 600 (nN (upN sta e0 (sta (ne - 1))))) :: (apl, zIn g 600 (upd (nN pla) e0 (nI (pla (ne - 1))))) :: (akd, zIn g 600 (nN kin)) :: (anm, zBy g 153600 nmb) :: T) rfl (fun H locs hP hD hS => ?_)
      rw [upd_nN] at hP hD
      refine lv_aload_n hx hb d_Mod_drop_98 rfl (lv_at hl 2 rfl) ?_
      refine z_get C hP List.mem_cons_self q_Mod 8 (by decide) k_736 (fun _ h9 => h9) rfl d_Mod_drop_99 ?_
      refine lv_iload_n hx hb d_Mod_drop_102 rfl (lv_at hl 0 rfl) ?_
      refine lv_aload_n hx hb d_Mod_drop_103 rfl (lv_at hl 2 rfl) ?_
      refine z_get C hP List.mem_cons_self q_Mod 8 (by decide) k_736 (fun _ h9 => h9) rfl d_Mod_drop_104 ?_
      refine lv_aload_n hx hb d_Mod_drop_107 rfl (lv_at hl 2 rfl) ?_
      refine z_get C hP List.mem_cons_self q_Mod 2 (by decide) k_730 (fun _ h9 => h9) rfl d_Mod_drop_108 ?_
      refine z_iald C hP (List.mem_cons_of_mem _ (List.mem_cons_of_mem _ (List.mem_cons_of_mem _ (List.mem_cons_of_mem _ (List.mem_cons_of_mem _ List.mem_cons_self))))) (ne - 1) (by omega) (by omega) d_Mod_drop_111 ?_
      refine z_topi (y := nI (kin (ne - 1))) rfl ?_
      refine z_iast C hP hD hS 5 rfl e0 (by omega) (by omega) d_Mod_drop_112 (ws' := (o, zo 11 [.int (nI 0), .ref ta, .int (nI (ne - 1)), .ref ans, .ref anm, .ref anu, .ref asa, .ref apl, .ref akd, .int (nI nk), .ref akn, .ref aks, .ref akp, .ref akk, .int (nI bg), .int (nI sz), .int (nI hd), .ref alg, .int (nI ni), .ref aip, .ref aix, .ref aiz, .ref aim, .ref aod, .int (nI av), .int (nI hv), .int (nI lf), .int (nI sn), .int (nI pv)]) :: (ans, zIn g 600 (nN (upN nsz e0 (nsz (ne - 1))))) :: (anu, zIn g 600 (nN (upN num e0 (num (ne - 1))))) :: (asa, zIn g 600 (nN (upN sta e0 (sta (ne - 1))))) :: (apl, zIn g 600 (nN (upN pla e0 (pla (ne - 1))))) :: (akd, zIn g 600 (upd (nN kin) e0 (nI (kin (ne - 1))))) :: (anm, zBy g 153600 nmb) :: T) rfl (fun H locs hP hD hS => ?_)
      rw [upd_nN] at hP hD
      refine lv_iconst (v := nI 0) hx hb d_Mod_drop_113 (by decide) ?_
      refine lv_istore_n (lv' := [(3, .int (nI 0)), (2, .int (nI e0)), (1, .int (nI ts)), (0, .ref o)]) hx hb d_Mod_drop_114 rfl hl (by decide) rfl (fun ls hl => ?_)
      have e_w : zBy g 153600 nmb = zBy g 153600 (wr nmb (256 * e0) (zl nmb (256 * (ne - 1)) 0)) := by rw [zl_0, wr_0]
      rw [e_w] at hP hD
      exact L_115 _ 0 (Nat.zero_le _) (Nat.lt_succ_self _) _ _ hP hD hS ls (lv_sub hl [3, 1, 0] rfl)
    · skip
      have c_22 : ¬ 0 ≤ e0 := fun q9 => c_22 ((nI_leI (a := 0) (b := e0) (by decide) (by omega)).mpr q9)
      exact absurd c_22 (by omega)
  · skip
    have c_10 : 1 = 0 := (nI_eq (a := 1) (b := 0) (by decide) (by decide)).mp c_10
    exact absurd c_10 (by omega)
set_option maxHeartbeats 4000000 in
set_option maxRecDepth 100000 in
theorem c_Mod_add_b (l : Launch) (g : zT) (T : va_W) (o ts ta ne ans anm anu asa apl akd nk akn aks akp akk bg sz hd alg ni aip aix aiz aim aod av hv lf sn pv : Nat) (tb : Nat → UInt8) (hta : (ta, zIn g 300 (nB tb)) ∈ T) (a1 a2 a3 a4 : Int32) (v1 : ts ≤ 300) (hn9 : isNm (zl tb 0 ts) = false ∨ canH a1.toInt a2.toInt a3.toInt a4.toInt = false) : Met l y_Mod_add (zw y_Mod_add b_Mod_add 9 (some .int)) (zR 3 68 0 0) (zP g [.ref o, .int a1, .int a2, .int a3, .int a4] ((o, zo 11 [.int (nI ts), .ref ta, .int (nI ne), .ref ans, .ref anm, .ref anu, .ref asa, .ref apl, .ref akd, .int (nI nk), .ref akn, .ref aks, .ref akp, .ref akk, .int (nI bg), .int (nI sz), .int (nI hd), .ref alg, .int (nI ni), .ref aip, .ref aix, .ref aiz, .ref aim, .ref aod, .int (nI av), .int (nI hv), .int (nI lf), .int (nI sn), .int (nI pv)]) :: T)) (zQi g (fun r w => r = iI (-1) ∧ w = (o, zo 11 [.int (nI 0), .ref ta, .int (nI ne), .ref ans, .ref anm, .ref anu, .ref asa, .ref apl, .ref akd, .int (nI nk), .ref akn, .ref aks, .ref akp, .ref akk, .int (nI bg), .int (nI sz), .int (nI hd), .ref alg, .int (nI ni), .ref aip, .ref aix, .ref aiz, .ref aim, .ref aod, .int (nI av), .int (nI hv), .int (nI lf), .int (nI sn), .int (nI pv)]) :: T)) 0 0 (zA g) := by
  refine zMet (by decide) (Nat.le_of_ble_eq_true rfl) ?_
  intro p e s m below meth c ls C hr hlk hnm hP hD hl
  have hx := C.1.1
  have hb := C.1.2.1
  have hS : va_S (zA g) s.heap s.heap [] := va_S.rf
  have hl : lv_has ls 9 [(0, .ref o), (1, .int a1), (2, .int a2), (3, .int a3), (4, .int a4)] := hl
  have r1 := zi_rg a1
  have r2 := zi_rg a2
  have r3 := zi_rg a3
  have r4 := zi_rg a4
  have L_54 : ∀ (b : Bool) (_ : b = canH a1.toInt a2.toInt a3.toInt a4.toInt) (H : Heap) (locs : List Loc), va_P g.1 classes ((o, zo 11 [.int (nI 0), .ref ta, .int (nI ne), .ref ans, .ref anm, .ref anu, .ref asa, .ref apl, .ref akd, .int (nI nk), .ref akn, .ref aks, .ref akp, .ref akk, .int (nI bg), .int (nI sz), .int (nI hd), .ref alg, .int (nI ni), .ref aip, .ref aix, .ref aiz, .ref aim, .ref aod, .int (nI av), .int (nI hv), .int (nI lf), .int (nI sn), .int (nI pv)]) :: T) H → va_D (zA g) ((o, zo 11 [.int (nI 0), .ref ta, .int (nI ne), .ref ans, .ref anm, .ref anu, .ref asa, .ref apl, .ref akd, .int (nI nk), .ref akn, .ref aks, .ref akp, .ref akk, .int (nI bg), .int (nI sz), .int (nI hd), .ref alg, .int (nI ni), .ref aip, .ref aix, .ref aiz, .ref aim, .ref aod, .int (nI av), .int (nI hv), .int (nI lf), .int (nI sn), .int (nI pv)]) :: T) → va_S (zA g) s.heap H locs → ∀ ls : Array Slot, lv_has ls 9 [(0, .ref o), (1, .int a1), (2, .int a2), (3, .int a3), (4, .int a4), (5, .int (nI ts))] → W p l e (zR 3 68 0 0) s m [.ref o, .int a1, .int a2, .int a3, .int a4].toArray below meth c H locs 0 0 (MQ below (zQi g (fun r w => r = iI (-1) ∧ w = (o, zo 11 [.int (nI 0), .ref ta, .int (nI ne), .ref ans, .ref anm, .ref anu, .ref asa, .ref apl, .ref akd, .int (nI nk), .ref akn, .ref aks, .ref akp, .ref akk, .int (nI bg), .int (nI sz), .int (nI hd), .ref alg, .int (nI ni), .ref aip, .ref aix, .ref aiz, .ref aim, .ref aod, .int (nI av), .int (nI hv), .int (nI lf), .int (nI sn), .int (nI pv)]) :: T)) [.ref o, .int a1, .int a2, .int a3, .int a4].toArray s 0 0 (zA g)) (F0 m 54 ls [.int (bI b)]) := by
    intro b hb9 H locs hP hD hS ls hl
    refine lv_istore (lv' := [(6, .int (bI b)), (0, .ref o), (1, .int a1), (2, .int a2), (3, .int a3), (4, .int a4), (5, .int (nI ts))]) hx hb d_Mod_add_54 hl (by decide) rfl (fun ls hl => ?_)
    refine lv_iload hx hb d_Mod_add_56 (lv_at hl 0 rfl) ?_
    refine lv_if_eq (tgt := 70) hx hb d_Mod_add_58 (by decide) (fun c_58 => ?_) (fun c_58 => ?_)
    · skip
      refine lv_iconst (v := iI (-1)) hx hb d_Mod_add_70 (by decide) ?_
      exact z_iret C hr hlk hP hD hS (by omega) (by omega) ⟨rfl, rfl⟩ d_Mod_add_71
    · skip
      refine lv_aload_n hx hb d_Mod_add_61 rfl (lv_at hl 1 rfl) ?_
      refine lv_iload hx hb d_Mod_add_62 (lv_at hl 6 rfl) ?_
      refine z_ki (z_runV (np := 1) C (c_Mod_isName l g ((o, zo 11 [.int (nI 0), .ref ta, .int (nI ne), .ref ans, .ref anm, .ref anu, .ref asa, .ref apl, .ref akd, .int (nI nk), .ref akn, .ref aks, .ref akp, .ref akk, .int (nI bg), .int (nI sz), .int (nI hd), .ref alg, .int (nI ni), .ref aip, .ref aix, .ref aiz, .ref aim, .ref aod, .int (nI av), .int (nI hv), .int (nI lf), .int (nI sn), .int (nI pv)]) :: T) o 0 ta ne ans anm anu asa apl akd nk akn aks akp akk bg sz hd alg ni aip aix aiz aim aod av hv lf sn pv List.mem_cons_self tb (List.mem_cons_of_mem _ hta) ts v1) hP hD hS List.mem_cons_self (show classes[11]? = some (R_Mod, F_Mod, 29) from rfl) k_834 k_12 k_831 k_833 ks_Mod_isName ⟨by decide, by decide, by decide⟩ ⟨Nat.le_of_ble_eq_true rfl, Nat.le_of_ble_eq_true rfl⟩ rfl hl.1 rfl (Nat.le_of_ble_eq_true rfl) d_Mod_add_64 ⟨by show _ ≤ 0; omega, by show _ ≤ 0; omega⟩) hS (fun r_64 w H locs hw hP hD hS => ?_)
      obtain ⟨rfl, hw⟩ := hw
      rw [hw] at hP hD
      refine lv_if_ne (tgt := 72) hx hb d_Mod_add_67 (by decide) (fun c_67 => ?_) (fun c_67 => ?_)
      · skip
        exact absurd hn9 (by rw [bI_ne.mp c_67, ← hb9, bI_ne.mp c_58]; decide)
      · skip
        refine lv_iconst (v := iI (-1)) hx hb d_Mod_add_70 (by decide) ?_
        exact z_iret C hr hlk hP hD hS (by omega) (by omega) ⟨rfl, rfl⟩ d_Mod_add_71
  refine lv_aload_n hx hb d_Mod_add_0 rfl (lv_at hl 0 rfl) ?_
  refine z_ki (z_runV (np := 0) C (c_Mod_use l g T o ts ta ne ans anm anu asa apl akd nk akn aks akp akk bg sz hd alg ni aip aix aiz aim aod av hv lf sn pv) hP hD hS List.mem_cons_self (show classes[11]? = some (R_Mod, F_Mod, 29) from rfl) k_829 k_12 k_826 k_828 ks_Mod_use ⟨by decide, by decide, by decide⟩ ⟨Nat.le_of_ble_eq_true rfl, Nat.le_of_ble_eq_true rfl⟩ rfl hl.1 rfl (Nat.le_of_ble_eq_true rfl) d_Mod_add_1 ⟨by show _ ≤ 0; omega, by show _ ≤ 0; omega⟩) hS (fun r_1 w H locs hw hP hD hS => ?_)
  obtain ⟨rfl, hw⟩ := hw
  rw [hw] at hP hD
  refine lv_istore (lv' := [(5, .int (nI ts)), (0, .ref o), (1, .int a1), (2, .int a2), (3, .int a3), (4, .int a4)]) hx hb d_Mod_add_4 hl (by decide) rfl (fun ls hl => ?_)
  refine lv_iload_n hx hb d_Mod_add_6 rfl (lv_at hl 2 rfl) ?_
  refine lv_if_le (tgt := 53) hx hb d_Mod_add_7 (by decide) (fun c_7 => ?_) (fun c_7 => ?_)
  · skip
    have c_7 : a1.toInt ≤ 0 := (zi_le (a := a1.toInt) (b := 0) (iI_of _) (nI_iI _) (by omega) (by omega) (by omega) (by omega)).mp c_7
    refine lv_iconst (v := nI 0) hx hb d_Mod_add_53 (by decide) ?_
    refine z_topi (y := bI false) rfl ?_
    exact L_54 false (by unfold canH; rw [decide_eq_false (by omega)]) _ _ hP hD hS ls (lv_sub hl [1, 2, 3, 4, 5, 0] rfl)
  · skip
    have c_7 : ¬ a1.toInt ≤ 0 := fun q9 => c_7 ((zi_le (a := a1.toInt) (b := 0) (iI_of _) (nI_iI _) (by omega) (by omega) (by omega) (by omega)).mpr q9)
    refine lv_iload_n hx hb d_Mod_add_10 rfl (lv_at hl 2 rfl) ?_
    refine lv_ldc (v := nI 100000) hx hb C.1.2.2.2.1 (C.ts k_830 rfl) d_Mod_add_11 ?_
    refine lv_icmp_gt (tgt := 53) hx hb d_Mod_add_13 (by decide) (fun c_13 => ?_) (fun c_13 => ?_)
    · skip
      have c_13 : 100000 < a1.toInt := (zi_lt (a := 100000) (b := a1.toInt) (nI_iI _) (iI_of _) (by omega) (by omega) (by omega) (by omega)).mp c_13
      refine lv_iconst (v := nI 0) hx hb d_Mod_add_53 (by decide) ?_
      refine z_topi (y := bI false) rfl ?_
      exact L_54 false (by unfold canH; rw [decide_eq_false (by omega)]) _ _ hP hD hS ls (lv_sub hl [1, 2, 3, 4, 5, 0] rfl)
    · skip
      have c_13 : ¬ 100000 < a1.toInt := fun q9 => c_13 ((zi_lt (a := 100000) (b := a1.toInt) (nI_iI _) (iI_of _) (by omega) (by omega) (by omega) (by omega)).mpr q9)
      refine lv_iload_n hx hb d_Mod_add_16 rfl (lv_at hl 3 rfl) ?_
      refine lv_if_lt (tgt := 53) hx hb d_Mod_add_17 (by decide) (fun c_17 => ?_) (fun c_17 => ?_)
      · skip
        have c_17 : a2.toInt < 0 := (zi_lt (a := a2.toInt) (b := 0) (iI_of _) (nI_iI _) (by omega) (by omega) (by omega) (by omega)).mp c_17
        refine lv_iconst (v := nI 0) hx hb d_Mod_add_53 (by decide) ?_
        refine z_topi (y := bI false) rfl ?_
        exact L_54 false (by unfold canH; rw [decide_eq_false (by omega)]) _ _ hP hD hS ls (lv_sub hl [1, 2, 3, 4, 5, 0] rfl)
      · skip
        have c_17 : ¬ a2.toInt < 0 := fun q9 => c_17 ((zi_lt (a := a2.toInt) (b := 0) (iI_of _) (nI_iI _) (by omega) (by omega) (by omega) (by omega)).mpr q9)
        refine lv_iload_n hx hb d_Mod_add_20 rfl (lv_at hl 3 rfl) ?_
        refine lv_ldc (v := nI 65536) hx hb C.1.2.2.2.1 (C.ts k_727 rfl) d_Mod_add_21 ?_
        refine lv_icmp_ge (tgt := 53) hx hb d_Mod_add_23 (by decide) (fun c_23 => ?_) (fun c_23 => ?_)
        · skip
          have c_23 : 65536 ≤ a2.toInt := (zi_le (a := 65536) (b := a2.toInt) (nI_iI _) (iI_of _) (by omega) (by omega) (by omega) (by omega)).mp c_23
          refine lv_iconst (v := nI 0) hx hb d_Mod_add_53 (by decide) ?_
          refine z_topi (y := bI false) rfl ?_
          exact L_54 false (by unfold canH; rw [decide_eq_false (by omega)]) _ _ hP hD hS ls (lv_sub hl [1, 2, 3, 4, 5, 0] rfl)
        · skip
          have c_23 : ¬ 65536 ≤ a2.toInt := fun q9 => c_23 ((zi_le (a := 65536) (b := a2.toInt) (nI_iI _) (iI_of _) (by omega) (by omega) (by omega) (by omega)).mpr q9)
          refine lv_iload_n hx hb d_Mod_add_26 rfl (lv_at hl 4 rfl) ?_
          refine lv_if_lt (tgt := 53) hx hb d_Mod_add_27 (by decide) (fun c_27 => ?_) (fun c_27 => ?_)
          · skip
            have c_27 : a3.toInt < 0 := (zi_lt (a := a3.toInt) (b := 0) (iI_of _) (nI_iI _) (by omega) (by omega) (by omega) (by omega)).mp c_27
            refine lv_iconst (v := nI 0) hx hb d_Mod_add_53 (by decide) ?_
            refine z_topi (y := bI false) rfl ?_
            exact L_54 false (by unfold canH; rw [decide_eq_false (by omega)]) _ _ hP hD hS ls (lv_sub hl [1, 2, 3, 4, 5, 0] rfl)
          · skip
            have c_27 : ¬ a3.toInt < 0 := fun q9 => c_27 ((zi_lt (a := a3.toInt) (b := 0) (iI_of _) (nI_iI _) (by omega) (by omega) (by omega) (by omega)).mpr q9)
            refine lv_iload_n hx hb d_Mod_add_30 rfl (lv_at hl 4 rfl) ?_
            refine lv_sipush (v := nI 8192) hx hb d_Mod_add_31 (by decide) ?_
            refine lv_icmp_ge (tgt := 53) hx hb d_Mod_add_34 (by decide) (fun c_34 => ?_) (fun c_34 => ?_)
            · skip
              have c_34 : 8192 ≤ a3.toInt := (zi_le (a := 8192) (b := a3.toInt) (nI_iI _) (iI_of _) (by omega) (by omega) (by omega) (by omega)).mp c_34
              refine lv_iconst (v := nI 0) hx hb d_Mod_add_53 (by decide) ?_
              refine z_topi (y := bI false) rfl ?_
              exact L_54 false (by unfold canH; rw [decide_eq_false (by omega)]) _ _ hP hD hS ls (lv_sub hl [1, 2, 3, 4, 5, 0] rfl)
            · skip
              have c_34 : ¬ 8192 ≤ a3.toInt := fun q9 => c_34 ((zi_le (a := 8192) (b := a3.toInt) (nI_iI _) (iI_of _) (by omega) (by omega) (by omega) (by omega)).mpr q9)
              refine lv_iload hx hb d_Mod_add_37 (lv_at hl 5 rfl) ?_
              refine lv_if_le (tgt := 53) hx hb d_Mod_add_39 (by decide) (fun c_39 => ?_) (fun c_39 => ?_)
              · skip
                have c_39 : a4.toInt ≤ 0 := (zi_le (a := a4.toInt) (b := 0) (iI_of _) (nI_iI _) (by omega) (by omega) (by omega) (by omega)).mp c_39
                refine lv_iconst (v := nI 0) hx hb d_Mod_add_53 (by decide) ?_
                refine z_topi (y := bI false) rfl ?_
                exact L_54 false (by unfold canH; rw [decide_eq_false (by omega)]) _ _ hP hD hS ls (lv_sub hl [1, 2, 3, 4, 5, 0] rfl)
              · skip
                have c_39 : ¬ a4.toInt ≤ 0 := fun q9 => c_39 ((zi_le (a := a4.toInt) (b := 0) (iI_of _) (nI_iI _) (by omega) (by omega) (by omega) (by omega)).mpr q9)
                refine lv_iload hx hb d_Mod_add_42 (lv_at hl 5 rfl) ?_
                refine lv_bipush (v := nI 8) hx hb d_Mod_add_44 (by decide) ?_
                refine lv_icmp_ge (tgt := 53) hx hb d_Mod_add_46 (by decide) (fun c_46 => ?_) (fun c_46 => ?_)
                · skip
                  have c_46 : 8 ≤ a4.toInt := (zi_le (a := 8) (b := a4.toInt) (nI_iI _) (iI_of _) (by omega) (by omega) (by omega) (by omega)).mp c_46
                  refine lv_iconst (v := nI 0) hx hb d_Mod_add_53 (by decide) ?_
                  refine z_topi (y := bI false) rfl ?_
                  exact L_54 false (by unfold canH; rw [decide_eq_false (by omega)]) _ _ hP hD hS ls (lv_sub hl [1, 2, 3, 4, 5, 0] rfl)
                · skip
                  have c_46 : ¬ 8 ≤ a4.toInt := fun q9 => c_46 ((zi_le (a := 8) (b := a4.toInt) (nI_iI _) (iI_of _) (by omega) (by omega) (by omega) (by omega)).mpr q9)
                  refine lv_iconst (v := nI 1) hx hb d_Mod_add_49 (by decide) ?_
                  refine lv_goto (tgt := 54) hx hb d_Mod_add_50 (by decide) ?_
                  refine z_topi (y := bI true) rfl ?_
                  exact L_54 true (by unfold canH; rw [decide_eq_true (by omega)]) _ _ hP hD hS ls (lv_sub hl [1, 2, 3, 4, 5, 0] rfl)
set_option maxHeartbeats 4000000 in
set_option maxRecDepth 100000 in
theorem c_Mod_add_t (l : Launch) (g : zT) (T : va_W) (o ts ta ne ans anm anu asa apl akd nk akn aks akp akk bg sz hd alg ni aip aix aiz aim aod av hv lf sn pv : Nat) (tb : Nat → UInt8) (hta : (ta, zIn g 300 (nB tb)) ∈ T) (nsz : Nat → Nat) (hns : (ans, zIn g 600 (nN nsz)) ∈ T) (nmb : Nat → UInt8) (hnb : (anm, zBy g 153600 nmb) ∈ T) (a1 a2 a3 a4 : Int32) (v1 : ts ≤ 300) (v2 : ne ≤ 600) (v3 : ∀ j, j < ne → nsz j ≤ 256) (e0 : Nat) (hn9 : isNm (zl tb 0 ts) = true) (hca : canH a1.toInt a2.toInt a3.toInt a4.toInt = true) (hlt : lastE (ofT tb ts nmb nsz) ne = (e0 : Int)) (v4 : e0 < 600) : Met l y_Mod_add (zw y_Mod_add b_Mod_add 9 (some .int)) (zR 3 68 0 0) (zP g [.ref o, .int a1, .int a2, .int a3, .int a4] ((o, zo 11 [.int (nI ts), .ref ta, .int (nI ne), .ref ans, .ref anm, .ref anu, .ref asa, .ref apl, .ref akd, .int (nI nk), .ref akn, .ref aks, .ref akp, .ref akk, .int (nI bg), .int (nI sz), .int (nI hd), .ref alg, .int (nI ni), .ref aip, .ref aix, .ref aiz, .ref aim, .ref aod, .int (nI av), .int (nI hv), .int (nI lf), .int (nI sn), .int (nI pv)]) :: T)) (zQi g (fun r w => r = iI (-3) ∧ w = (o, zo 11 [.int (nI 0), .ref ta, .int (nI ne), .ref ans, .ref anm, .ref anu, .ref asa, .ref apl, .ref akd, .int (nI nk), .ref akn, .ref aks, .ref akp, .ref akk, .int (nI bg), .int (nI sz), .int (nI hd), .ref alg, .int (nI ni), .ref aip, .ref aix, .ref aiz, .ref aim, .ref aod, .int (nI av), .int (nI hv), .int (nI lf), .int (nI sn), .int (nI pv)]) :: T)) 0 0 (zA g) := by
  refine zMet (by decide) (Nat.le_of_ble_eq_true rfl) ?_
  intro p e s m below meth c ls C hr hlk hnm hP hD hl
  have hx := C.1.1
  have hb := C.1.2.1
  have hS : va_S (zA g) s.heap s.heap [] := va_S.rf
  have hl : lv_has ls 9 [(0, .ref o), (1, .int a1), (2, .int a2), (3, .int a3), (4, .int a4)] := hl
  have r1 := zi_rg a1
  have r2 := zi_rg a2
  have r3 := zi_rg a3
  have r4 := zi_rg a4
  have L_54 : ∀ (b : Bool) (_ : b = canH a1.toInt a2.toInt a3.toInt a4.toInt) (H : Heap) (locs : List Loc), va_P g.1 classes ((o, zo 11 [.int (nI 0), .ref ta, .int (nI ne), .ref ans, .ref anm, .ref anu, .ref asa, .ref apl, .ref akd, .int (nI nk), .ref akn, .ref aks, .ref akp, .ref akk, .int (nI bg), .int (nI sz), .int (nI hd), .ref alg, .int (nI ni), .ref aip, .ref aix, .ref aiz, .ref aim, .ref aod, .int (nI av), .int (nI hv), .int (nI lf), .int (nI sn), .int (nI pv)]) :: T) H → va_D (zA g) ((o, zo 11 [.int (nI 0), .ref ta, .int (nI ne), .ref ans, .ref anm, .ref anu, .ref asa, .ref apl, .ref akd, .int (nI nk), .ref akn, .ref aks, .ref akp, .ref akk, .int (nI bg), .int (nI sz), .int (nI hd), .ref alg, .int (nI ni), .ref aip, .ref aix, .ref aiz, .ref aim, .ref aod, .int (nI av), .int (nI hv), .int (nI lf), .int (nI sn), .int (nI pv)]) :: T) → va_S (zA g) s.heap H locs → ∀ ls : Array Slot, lv_has ls 9 [(0, .ref o), (1, .int a1), (2, .int a2), (3, .int a3), (4, .int a4), (5, .int (nI ts))] → W p l e (zR 3 68 0 0) s m [.ref o, .int a1, .int a2, .int a3, .int a4].toArray below meth c H locs 0 0 (MQ below (zQi g (fun r w => r = iI (-3) ∧ w = (o, zo 11 [.int (nI 0), .ref ta, .int (nI ne), .ref ans, .ref anm, .ref anu, .ref asa, .ref apl, .ref akd, .int (nI nk), .ref akn, .ref aks, .ref akp, .ref akk, .int (nI bg), .int (nI sz), .int (nI hd), .ref alg, .int (nI ni), .ref aip, .ref aix, .ref aiz, .ref aim, .ref aod, .int (nI av), .int (nI hv), .int (nI lf), .int (nI sn), .int (nI pv)]) :: T)) [.ref o, .int a1, .int a2, .int a3, .int a4].toArray s 0 0 (zA g)) (F0 m 54 ls [.int (bI b)]) := by
    intro b hb9 H locs hP hD hS ls hl
    refine lv_istore (lv' := [(6, .int (bI b)), (0, .ref o), (1, .int a1), (2, .int a2), (3, .int a3), (4, .int a4), (5, .int (nI ts))]) hx hb d_Mod_add_54 hl (by decide) rfl (fun ls hl => ?_)
    refine lv_iload hx hb d_Mod_add_56 (lv_at hl 0 rfl) ?_
    refine lv_if_eq (tgt := 70) hx hb d_Mod_add_58 (by decide) (fun c_58 => ?_) (fun c_58 => ?_)
    · skip
      exact absurd c_58 (by rw [hb9, hca]; decide)
    · skip
      refine lv_aload_n hx hb d_Mod_add_61 rfl (lv_at hl 1 rfl) ?_
      refine lv_iload hx hb d_Mod_add_62 (lv_at hl 6 rfl) ?_
      refine z_ki (z_runV (np := 1) C (c_Mod_isName l g ((o, zo 11 [.int (nI 0), .ref ta, .int (nI ne), .ref ans, .ref anm, .ref anu, .ref asa, .ref apl, .ref akd, .int (nI nk), .ref akn, .ref aks, .ref akp, .ref akk, .int (nI bg), .int (nI sz), .int (nI hd), .ref alg, .int (nI ni), .ref aip, .ref aix, .ref aiz, .ref aim, .ref aod, .int (nI av), .int (nI hv), .int (nI lf), .int (nI sn), .int (nI pv)]) :: T) o 0 ta ne ans anm anu asa apl akd nk akn aks akp akk bg sz hd alg ni aip aix aiz aim aod av hv lf sn pv List.mem_cons_self tb (List.mem_cons_of_mem _ hta) ts v1) hP hD hS List.mem_cons_self (show classes[11]? = some (R_Mod, F_Mod, 29) from rfl) k_834 k_12 k_831 k_833 ks_Mod_isName ⟨by decide, by decide, by decide⟩ ⟨Nat.le_of_ble_eq_true rfl, Nat.le_of_ble_eq_true rfl⟩ rfl hl.1 rfl (Nat.le_of_ble_eq_true rfl) d_Mod_add_64 ⟨by show _ ≤ 0; omega, by show _ ≤ 0; omega⟩) hS (fun r_64 w H locs hw hP hD hS => ?_)
      obtain ⟨hr8, hw⟩ := hw
      rw [hw] at hP hD
      rw [hn9] at hr8
      subst hr8
      refine lv_if_ne (tgt := 72) hx hb d_Mod_add_67 (by decide) (fun c_67 => ?_) (fun c_67 => ?_)
      · skip
        have c_67 : ¬ 1 = 0 := fun q9 => c_67 ((nI_eq (a := 1) (b := 0) (by decide) (by decide)).mpr q9)
        refine lv_aload_n hx hb d_Mod_add_72 rfl (lv_at hl 1 rfl) ?_
        refine lv_iload hx hb d_Mod_add_73 (lv_at hl 6 rfl) ?_
        refine z_ki (z_runV (np := 1) C (c_Mod_entryOfTape l g ((o, zo 11 [.int (nI 0), .ref ta, .int (nI ne), .ref ans, .ref anm, .ref anu, .ref asa, .ref apl, .ref akd, .int (nI nk), .ref akn, .ref aks, .ref akp, .ref akk, .int (nI bg), .int (nI sz), .int (nI hd), .ref alg, .int (nI ni), .ref aip, .ref aix, .ref aiz, .ref aim, .ref aod, .int (nI av), .int (nI hv), .int (nI lf), .int (nI sn), .int (nI pv)]) :: T) o 0 ta ne ans anm anu asa apl akd nk akn aks akp akk bg sz hd alg ni aip aix aiz aim aod av hv lf sn pv List.mem_cons_self tb (List.mem_cons_of_mem _ hta) nsz (List.mem_cons_of_mem _ hns) nmb (List.mem_cons_of_mem _ hnb) ts v1 v2 v3) hP hD hS List.mem_cons_self (show classes[11]? = some (R_Mod, F_Mod, 29) from rfl) k_838 k_12 k_835 k_837 ks_Mod_entryOfTape ⟨by decide, by decide, by decide⟩ ⟨Nat.le_of_ble_eq_true rfl, Nat.le_of_ble_eq_true rfl⟩ rfl hl.1 rfl (Nat.le_of_ble_eq_true rfl) d_Mod_add_75 ⟨by show _ ≤ 0; omega, by show _ ≤ 0; omega⟩) hS (fun r_75 w H locs hw hP hD hS => ?_)
        obtain ⟨hr7, hw⟩ := hw
        rw [hw] at hP hD
        rw [hlt] at hr7
        rw [← nI_iI] at hr7
        subst hr7
        refine lv_if_lt (tgt := 84) hx hb d_Mod_add_78 (by decide) (fun c_78 => ?_) (fun c_78 => ?_)
        · skip
          have c_78 : e0 < 0 := (nI_ltI (a := e0) (b := 0) (by omega) (by decide)).mp c_78
          exact absurd c_78 (by omega)
        · skip
          have c_78 : ¬ e0 < 0 := fun q9 => c_78 ((nI_ltI (a := e0) (b := 0) (by omega) (by decide)).mpr q9)
          refine lv_bipush (v := iI (-3)) hx hb d_Mod_add_81 (by decide) ?_
          exact z_iret C hr hlk hP hD hS (by omega) (by omega) ⟨rfl, rfl⟩ d_Mod_add_83
      · skip
        have c_67 : 1 = 0 := (nI_eq (a := 1) (b := 0) (by decide) (by decide)).mp c_67
        exact absurd c_67 (by omega)
  refine lv_aload_n hx hb d_Mod_add_0 rfl (lv_at hl 0 rfl) ?_
  refine z_ki (z_runV (np := 0) C (c_Mod_use l g T o ts ta ne ans anm anu asa apl akd nk akn aks akp akk bg sz hd alg ni aip aix aiz aim aod av hv lf sn pv) hP hD hS List.mem_cons_self (show classes[11]? = some (R_Mod, F_Mod, 29) from rfl) k_829 k_12 k_826 k_828 ks_Mod_use ⟨by decide, by decide, by decide⟩ ⟨Nat.le_of_ble_eq_true rfl, Nat.le_of_ble_eq_true rfl⟩ rfl hl.1 rfl (Nat.le_of_ble_eq_true rfl) d_Mod_add_1 ⟨by show _ ≤ 0; omega, by show _ ≤ 0; omega⟩) hS (fun r_1 w H locs hw hP hD hS => ?_)
  obtain ⟨rfl, hw⟩ := hw
  rw [hw] at hP hD
  refine lv_istore (lv' := [(5, .int (nI ts)), (0, .ref o), (1, .int a1), (2, .int a2), (3, .int a3), (4, .int a4)]) hx hb d_Mod_add_4 hl (by decide) rfl (fun ls hl => ?_)
  refine lv_iload_n hx hb d_Mod_add_6 rfl (lv_at hl 2 rfl) ?_
  refine lv_if_le (tgt := 53) hx hb d_Mod_add_7 (by decide) (fun c_7 => ?_) (fun c_7 => ?_)
  · skip
    have c_7 : a1.toInt ≤ 0 := (zi_le (a := a1.toInt) (b := 0) (iI_of _) (nI_iI _) (by omega) (by omega) (by omega) (by omega)).mp c_7
    refine lv_iconst (v := nI 0) hx hb d_Mod_add_53 (by decide) ?_
    refine z_topi (y := bI false) rfl ?_
    exact L_54 false (by unfold canH; rw [decide_eq_false (by omega)]) _ _ hP hD hS ls (lv_sub hl [1, 2, 3, 4, 5, 0] rfl)
  · skip
    have c_7 : ¬ a1.toInt ≤ 0 := fun q9 => c_7 ((zi_le (a := a1.toInt) (b := 0) (iI_of _) (nI_iI _) (by omega) (by omega) (by omega) (by omega)).mpr q9)
    refine lv_iload_n hx hb d_Mod_add_10 rfl (lv_at hl 2 rfl) ?_
    refine lv_ldc (v := nI 100000) hx hb C.1.2.2.2.1 (C.ts k_830 rfl) d_Mod_add_11 ?_
    refine lv_icmp_gt (tgt := 53) hx hb d_Mod_add_13 (by decide) (fun c_13 => ?_) (fun c_13 => ?_)
    · skip
      have c_13 : 100000 < a1.toInt := (zi_lt (a := 100000) (b := a1.toInt) (nI_iI _) (iI_of _) (by omega) (by omega) (by omega) (by omega)).mp c_13
      refine lv_iconst (v := nI 0) hx hb d_Mod_add_53 (by decide) ?_
      refine z_topi (y := bI false) rfl ?_
      exact L_54 false (by unfold canH; rw [decide_eq_false (by omega)]) _ _ hP hD hS ls (lv_sub hl [1, 2, 3, 4, 5, 0] rfl)
    · skip
      have c_13 : ¬ 100000 < a1.toInt := fun q9 => c_13 ((zi_lt (a := 100000) (b := a1.toInt) (nI_iI _) (iI_of _) (by omega) (by omega) (by omega) (by omega)).mpr q9)
      refine lv_iload_n hx hb d_Mod_add_16 rfl (lv_at hl 3 rfl) ?_
      refine lv_if_lt (tgt := 53) hx hb d_Mod_add_17 (by decide) (fun c_17 => ?_) (fun c_17 => ?_)
      · skip
        have c_17 : a2.toInt < 0 := (zi_lt (a := a2.toInt) (b := 0) (iI_of _) (nI_iI _) (by omega) (by omega) (by omega) (by omega)).mp c_17
        refine lv_iconst (v := nI 0) hx hb d_Mod_add_53 (by decide) ?_
        refine z_topi (y := bI false) rfl ?_
        exact L_54 false (by unfold canH; rw [decide_eq_false (by omega)]) _ _ hP hD hS ls (lv_sub hl [1, 2, 3, 4, 5, 0] rfl)
      · skip
        have c_17 : ¬ a2.toInt < 0 := fun q9 => c_17 ((zi_lt (a := a2.toInt) (b := 0) (iI_of _) (nI_iI _) (by omega) (by omega) (by omega) (by omega)).mpr q9)
        refine lv_iload_n hx hb d_Mod_add_20 rfl (lv_at hl 3 rfl) ?_
        refine lv_ldc (v := nI 65536) hx hb C.1.2.2.2.1 (C.ts k_727 rfl) d_Mod_add_21 ?_
        refine lv_icmp_ge (tgt := 53) hx hb d_Mod_add_23 (by decide) (fun c_23 => ?_) (fun c_23 => ?_)
        · skip
          have c_23 : 65536 ≤ a2.toInt := (zi_le (a := 65536) (b := a2.toInt) (nI_iI _) (iI_of _) (by omega) (by omega) (by omega) (by omega)).mp c_23
          refine lv_iconst (v := nI 0) hx hb d_Mod_add_53 (by decide) ?_
          refine z_topi (y := bI false) rfl ?_
          exact L_54 false (by unfold canH; rw [decide_eq_false (by omega)]) _ _ hP hD hS ls (lv_sub hl [1, 2, 3, 4, 5, 0] rfl)
        · skip
          have c_23 : ¬ 65536 ≤ a2.toInt := fun q9 => c_23 ((zi_le (a := 65536) (b := a2.toInt) (nI_iI _) (iI_of _) (by omega) (by omega) (by omega) (by omega)).mpr q9)
          refine lv_iload_n hx hb d_Mod_add_26 rfl (lv_at hl 4 rfl) ?_
          refine lv_if_lt (tgt := 53) hx hb d_Mod_add_27 (by decide) (fun c_27 => ?_) (fun c_27 => ?_)
          · skip
            have c_27 : a3.toInt < 0 := (zi_lt (a := a3.toInt) (b := 0) (iI_of _) (nI_iI _) (by omega) (by omega) (by omega) (by omega)).mp c_27
            refine lv_iconst (v := nI 0) hx hb d_Mod_add_53 (by decide) ?_
            refine z_topi (y := bI false) rfl ?_
            exact L_54 false (by unfold canH; rw [decide_eq_false (by omega)]) _ _ hP hD hS ls (lv_sub hl [1, 2, 3, 4, 5, 0] rfl)
          · skip
            have c_27 : ¬ a3.toInt < 0 := fun q9 => c_27 ((zi_lt (a := a3.toInt) (b := 0) (iI_of _) (nI_iI _) (by omega) (by omega) (by omega) (by omega)).mpr q9)
            refine lv_iload_n hx hb d_Mod_add_30 rfl (lv_at hl 4 rfl) ?_
            refine lv_sipush (v := nI 8192) hx hb d_Mod_add_31 (by decide) ?_
            refine lv_icmp_ge (tgt := 53) hx hb d_Mod_add_34 (by decide) (fun c_34 => ?_) (fun c_34 => ?_)
            · skip
              have c_34 : 8192 ≤ a3.toInt := (zi_le (a := 8192) (b := a3.toInt) (nI_iI _) (iI_of _) (by omega) (by omega) (by omega) (by omega)).mp c_34
              refine lv_iconst (v := nI 0) hx hb d_Mod_add_53 (by decide) ?_
              refine z_topi (y := bI false) rfl ?_
              exact L_54 false (by unfold canH; rw [decide_eq_false (by omega)]) _ _ hP hD hS ls (lv_sub hl [1, 2, 3, 4, 5, 0] rfl)
            · skip
              have c_34 : ¬ 8192 ≤ a3.toInt := fun q9 => c_34 ((zi_le (a := 8192) (b := a3.toInt) (nI_iI _) (iI_of _) (by omega) (by omega) (by omega) (by omega)).mpr q9)
              refine lv_iload hx hb d_Mod_add_37 (lv_at hl 5 rfl) ?_
              refine lv_if_le (tgt := 53) hx hb d_Mod_add_39 (by decide) (fun c_39 => ?_) (fun c_39 => ?_)
              · skip
                have c_39 : a4.toInt ≤ 0 := (zi_le (a := a4.toInt) (b := 0) (iI_of _) (nI_iI _) (by omega) (by omega) (by omega) (by omega)).mp c_39
                refine lv_iconst (v := nI 0) hx hb d_Mod_add_53 (by decide) ?_
                refine z_topi (y := bI false) rfl ?_
                exact L_54 false (by unfold canH; rw [decide_eq_false (by omega)]) _ _ hP hD hS ls (lv_sub hl [1, 2, 3, 4, 5, 0] rfl)
              · skip
                have c_39 : ¬ a4.toInt ≤ 0 := fun q9 => c_39 ((zi_le (a := a4.toInt) (b := 0) (iI_of _) (nI_iI _) (by omega) (by omega) (by omega) (by omega)).mpr q9)
                refine lv_iload hx hb d_Mod_add_42 (lv_at hl 5 rfl) ?_
                refine lv_bipush (v := nI 8) hx hb d_Mod_add_44 (by decide) ?_
                refine lv_icmp_ge (tgt := 53) hx hb d_Mod_add_46 (by decide) (fun c_46 => ?_) (fun c_46 => ?_)
                · skip
                  have c_46 : 8 ≤ a4.toInt := (zi_le (a := 8) (b := a4.toInt) (nI_iI _) (iI_of _) (by omega) (by omega) (by omega) (by omega)).mp c_46
                  refine lv_iconst (v := nI 0) hx hb d_Mod_add_53 (by decide) ?_
                  refine z_topi (y := bI false) rfl ?_
                  exact L_54 false (by unfold canH; rw [decide_eq_false (by omega)]) _ _ hP hD hS ls (lv_sub hl [1, 2, 3, 4, 5, 0] rfl)
                · skip
                  have c_46 : ¬ 8 ≤ a4.toInt := fun q9 => c_46 ((zi_le (a := 8) (b := a4.toInt) (nI_iI _) (iI_of _) (by omega) (by omega) (by omega) (by omega)).mpr q9)
                  refine lv_iconst (v := nI 1) hx hb d_Mod_add_49 (by decide) ?_
                  refine lv_goto (tgt := 54) hx hb d_Mod_add_50 (by decide) ?_
                  refine z_topi (y := bI true) rfl ?_
                  exact L_54 true (by unfold canH; rw [decide_eq_true (by omega)]) _ _ hP hD hS ls (lv_sub hl [1, 2, 3, 4, 5, 0] rfl)
set_option maxHeartbeats 4000000 in
set_option maxRecDepth 100000 in
theorem c_Mod_add_n (l : Launch) (g : zT) (T : va_W) (o ts ta ne ans anm anu asa apl akd nk akn aks akp akk bg sz hd alg ni aip aix aiz aim aod av hv lf sn pv : Nat) (tb : Nat → UInt8) (hta : (ta, zIn g 300 (nB tb)) ∈ T) (kn : Nat → Nat) (ks : Nat → Nat) (kp : Nat → Nat) (kk : Nat → Nat) (nsz : Nat → Nat) (num : Nat → Nat) (sta : Nat → Nat) (pla : Nat → Nat) (kin : Nat → Nat) (nmb : Nat → UInt8) (v1 : ts ≤ 300) (v2 : ne < 600) (v3 : ∀ j, j < ne → nsz j ≤ 256) (n0 s0 p0 q0 : Nat) (o1 : 1 ≤ n0) (o2 : n0 ≤ 100000) (o3 : s0 ≤ 65535) (o4 : p0 ≤ 8191) (o5 : 1 ≤ q0) (o6 : q0 ≤ 7) (hn9 : isNm (zl tb 0 ts) = true) (hlt : lastE (ofT tb ts nmb nsz) ne = -2) (v6 : nk < 1500) (v7 : ∀ j, j < nk → kn j ≤ 100000) (v9 : ts ≤ 256) (hk : lastE (ofK kn (n0 : Int)) nk = -2) : Met l y_Mod_add (zw y_Mod_add b_Mod_add 9 (some .int)) (zR 3 68 0 0) (zP g [.ref o, .int (nI n0), .int (nI s0), .int (nI p0), .int (nI q0)] ((o, zo 11 [.int (nI ts), .ref ta, .int (nI ne), .ref ans, .ref anm, .ref anu, .ref asa, .ref apl, .ref akd, .int (nI nk), .ref akn, .ref aks, .ref akp, .ref akk, .int (nI bg), .int (nI sz), .int (nI hd), .ref alg, .int (nI ni), .ref aip, .ref aix, .ref aiz, .ref aim, .ref aod, .int (nI av), .int (nI hv), .int (nI lf), .int (nI sn), .int (nI pv)]) :: (akn, zIn g 1500 (nN kn)) :: (aks, zIn g 1500 (nN ks)) :: (akp, zIn g 1500 (nN kp)) :: (akk, zIn g 1500 (nN kk)) :: (ans, zIn g 600 (nN nsz)) :: (anu, zIn g 600 (nN num)) :: (asa, zIn g 600 (nN sta)) :: (apl, zIn g 600 (nN pla)) :: (akd, zIn g 600 (nN kin)) :: (anm, zBy g 153600 nmb) :: T)) (zQi g (fun r w => r = nI (ne + 1) ∧ w = (o, zo 11 [.int (nI 0), .ref ta, .int (nI (ne + 1)), .ref ans, .ref anm, .ref anu, .ref asa, .ref apl, .ref akd, .int (nI (nk + 1)), .ref akn, .ref aks, .ref akp, .ref akk, .int (nI bg), .int (nI sz), .int (nI hd), .ref alg, .int (nI ni), .ref aip, .ref aix, .ref aiz, .ref aim, .ref aod, .int (nI av), .int (nI hv), .int (nI lf), .int (nI sn), .int (nI pv)]) :: (akn, zIn g 1500 (nN (upN kn nk n0))) :: (aks, zIn g 1500 (nN (upN ks nk s0))) :: (akp, zIn g 1500 (nN (upN kp nk p0))) :: (akk, zIn g 1500 (nN (upN kk nk q0))) :: (ans, zIn g 600 (nN (upN nsz ne ts))) :: (anu, zIn g 600 (nN (upN num ne n0))) :: (asa, zIn g 600 (nN (upN sta ne s0))) :: (apl, zIn g 600 (nN (upN pla ne p0))) :: (akd, zIn g 600 (nN (upN kin ne q0))) :: (anm, zBy g 153600 (wr nmb (256 * ne) (zl tb 0 ts))) :: T)) 0 0 (zA g) := by
  refine zMet (by decide) (Nat.le_of_ble_eq_true rfl) ?_
  intro p e s m below meth c ls C hr hlk hnm hP hD hl
  have hx := C.1.1
  have hb := C.1.2.1
  have hS : va_S (zA g) s.heap s.heap [] := va_S.rf
  have hl : lv_has ls 9 [(0, .ref o), (1, .int (nI n0)), (2, .int (nI s0)), (3, .int (nI p0)), (4, .int (nI q0))] := hl
  have L_207 : ∀ (nu : Nat) (k : Nat) (_ : k ≤ ts) (_ : ts - k < nu) (H : Heap) (locs : List Loc), va_P g.1 classes ((o, zo 11 [.int (nI 0), .ref ta, .int (nI ne), .ref ans, .ref anm, .ref anu, .ref asa, .ref apl, .ref akd, .int (nI (nk + 1)), .ref akn, .ref aks, .ref akp, .ref akk, .int (nI bg), .int (nI sz), .int (nI hd), .ref alg, .int (nI ni), .ref aip, .ref aix, .ref aiz, .ref aim, .ref aod, .int (nI av), .int (nI hv), .int (nI lf), .int (nI sn), .int (nI pv)]) :: (akn, zIn g 1500 (nN (upN kn nk n0))) :: (aks, zIn g 1500 (nN (upN ks nk s0))) :: (akp, zIn g 1500 (nN (upN kp nk p0))) :: (akk, zIn g 1500 (nN (upN kk nk q0))) :: (ans, zIn g 600 (nN (upN nsz ne ts))) :: (anu, zIn g 600 (nN num)) :: (asa, zIn g 600 (nN sta)) :: (apl, zIn g 600 (nN pla)) :: (akd, zIn g 600 (nN kin)) :: (anm, zBy g 153600 (wr nmb (256 * ne) (zl tb 0 k))) :: T) H → va_D (zA g) ((o, zo 11 [.int (nI 0), .ref ta, .int (nI ne), .ref ans, .ref anm, .ref anu, .ref asa, .ref apl, .ref akd, .int (nI (nk + 1)), .ref akn, .ref aks, .ref akp, .ref akk, .int (nI bg), .int (nI sz), .int (nI hd), .ref alg, .int (nI ni), .ref aip, .ref aix, .ref aiz, .ref aim, .ref aod, .int (nI av), .int (nI hv), .int (nI lf), .int (nI sn), .int (nI pv)]) :: (akn, zIn g 1500 (nN (upN kn nk n0))) :: (aks, zIn g 1500 (nN (upN ks nk s0))) :: (akp, zIn g 1500 (nN (upN kp nk p0))) :: (akk, zIn g 1500 (nN (upN kk nk q0))) :: (ans, zIn g 600 (nN (upN nsz ne ts))) :: (anu, zIn g 600 (nN num)) :: (asa, zIn g 600 (nN sta)) :: (apl, zIn g 600 (nN pla)) :: (akd, zIn g 600 (nN kin)) :: (anm, zBy g 153600 (wr nmb (256 * ne) (zl tb 0 k))) :: T) → va_S (zA g) s.heap H locs → ∀ ls : Array Slot, lv_has ls 9 [(0, .ref o), (1, .int (nI n0)), (2, .int (nI s0)), (3, .int (nI p0)), (4, .int (nI q0)), (5, .int (nI ts)), (8, .int (nI k))] → W p l e (zR 3 68 0 0) s m [.ref o, .int (nI n0), .int (nI s0), .int (nI p0), .int (nI q0)].toArray below meth c H locs 0 0 (MQ below (zQi g (fun r w => r = nI (ne + 1) ∧ w = (o, zo 11 [.int (nI 0), .ref ta, .int (nI (ne + 1)), .ref ans, .ref anm, .ref anu, .ref asa, .ref apl, .ref akd, .int (nI (nk + 1)), .ref akn, .ref aks, .ref akp, .ref akk, .int (nI bg), .int (nI sz), .int (nI hd), .ref alg, .int (nI ni), .ref aip, .ref aix, .ref aiz, .ref aim, .ref aod, .int (nI av), .int (nI hv), .int (nI lf), .int (nI sn), .int (nI pv)]) :: (akn, zIn g 1500 (nN (upN kn nk n0))) :: (aks, zIn g 1500 (nN (upN ks nk s0))) :: (akp, zIn g 1500 (nN (upN kp nk p0))) :: (akk, zIn g 1500 (nN (upN kk nk q0))) :: (ans, zIn g 600 (nN (upN nsz ne ts))) :: (anu, zIn g 600 (nN (upN num ne n0))) :: (asa, zIn g 600 (nN (upN sta ne s0))) :: (apl, zIn g 600 (nN (upN pla ne p0))) :: (akd, zIn g 600 (nN (upN kin ne q0))) :: (anm, zBy g 153600 (wr nmb (256 * ne) (zl tb 0 ts))) :: T)) [.ref o, .int (nI n0), .int (nI s0), .int (nI p0), .int (nI q0)].toArray s 0 0 (zA g)) (F0 m 207 ls []) := by
    intro nu
    induction nu with
    | zero => intros; omega
    | succ nu ih =>
      intro k g1 hmu H locs hP hD hS ls hl
      refine lv_iload hx hb d_Mod_add_207 (lv_at hl 6 rfl) ?_
      refine lv_iload hx hb d_Mod_add_209 (lv_at hl 5 rfl) ?_
      refine lv_icmp_ge (tgt := 244) hx hb d_Mod_add_211 (by decide) (fun c_211 => ?_) (fun c_211 => ?_)
      · skip
        have c_211 : ts ≤ k := (nI_leI (a := ts) (b := k) (by omega) (by omega)).mp c_211
        refine lv_aload_n hx hb d_Mod_add_244 rfl (lv_at hl 0 rfl) ?_
        refine z_get C hP List.mem_cons_self q_Mod 5 (by decide) k_733 (fun _ h9 => h9) rfl d_Mod_add_245 ?_
        refine lv_aload_n hx hb d_Mod_add_248 rfl (lv_at hl 0 rfl) ?_
        refine z_get C hP List.mem_cons_self q_Mod 2 (by decide) k_730 (fun _ h9 => h9) rfl d_Mod_add_249 ?_
        refine lv_iload_n hx hb d_Mod_add_252 rfl (lv_at hl 1 rfl) ?_
        refine z_iast C hP hD hS 6 rfl ne (by omega) (by omega) d_Mod_add_253 (ws' := (o, zo 11 [.int (nI 0), .ref ta, .int (nI ne), .ref ans, .ref anm, .ref anu, .ref asa, .ref apl, .ref akd, .int (nI (nk + 1)), .ref akn, .ref aks, .ref akp, .ref akk, .int (nI bg), .int (nI sz), .int (nI hd), .ref alg, .int (nI ni), .ref aip, .ref aix, .ref aiz, .ref aim, .ref aod, .int (nI av), .int (nI hv), .int (nI lf), .int (nI sn), .int (nI pv)]) :: (akn, zIn g 1500 (nN (upN kn nk n0))) :: (aks, zIn g 1500 (nN (upN ks nk s0))) :: (akp, zIn g 1500 (nN (upN kp nk p0))) :: (akk, zIn g 1500 (nN (upN kk nk q0))) :: (ans, zIn g 600 (nN (upN nsz ne ts))) :: (anu, zIn g 600 (upd (nN num) ne (nI n0))) :: (asa, zIn g 600 (nN sta)) :: (apl, zIn g 600 (nN pla)) :: (akd, zIn g 600 (nN kin)) :: (anm, zBy g 153600 (wr nmb (256 * ne) (zl tb 0 k))) :: T) rfl (fun H locs hP hD hS => ?_)
        rw [upd_nN] at hP hD
        refine lv_aload_n hx hb d_Mod_add_254 rfl (lv_at hl 0 rfl) ?_
        refine z_get C hP List.mem_cons_self q_Mod 6 (by decide) k_734 (fun _ h9 => h9) rfl d_Mod_add_255 ?_
        refine lv_aload_n hx hb d_Mod_add_258 rfl (lv_at hl 0 rfl) ?_
        refine z_get C hP List.mem_cons_self q_Mod 2 (by decide) k_730 (fun _ h9 => h9) rfl d_Mod_add_259 ?_
        refine lv_iload_n hx hb d_Mod_add_262 rfl (lv_at hl 2 rfl) ?_
        refine z_iast C hP hD hS 7 rfl ne (by omega) (by omega) d_Mod_add_263 (ws' := (o, zo 11 [.int (nI 0), .ref ta, .int (nI ne), .ref ans, .ref anm, .ref anu, .ref asa, .ref apl, .ref akd, .int (nI (nk + 1)), .ref akn, .ref aks, .ref akp, .ref akk, .int (nI bg), .int (nI sz), .int (nI hd), .ref alg, .int (nI ni), .ref aip, .ref aix, .ref aiz, .ref aim, .ref aod, .int (nI av), .int (nI hv), .int (nI lf), .int (nI sn), .int (nI pv)]) :: (akn, zIn g 1500 (nN (upN kn nk n0))) :: (aks, zIn g 1500 (nN (upN ks nk s0))) :: (akp, zIn g 1500 (nN (upN kp nk p0))) :: (akk, zIn g 1500 (nN (upN kk nk q0))) :: (ans, zIn g 600 (nN (upN nsz ne ts))) :: (anu, zIn g 600 (nN (upN num ne n0))) :: (asa, zIn g 600 (upd (nN sta) ne (nI s0))) :: (apl, zIn g 600 (nN pla)) :: (akd, zIn g 600 (nN kin)) :: (anm, zBy g 153600 (wr nmb (256 * ne) (zl tb 0 k))) :: T) rfl (fun H locs hP hD hS => ?_)
        rw [upd_nN] at hP hD
        refine lv_aload_n hx hb d_Mod_add_264 rfl (lv_at hl 0 rfl) ?_
        refine z_get C hP List.mem_cons_self q_Mod 7 (by decide) k_735 (fun _ h9 => h9) rfl d_Mod_add_265 ?_
        refine lv_aload_n hx hb d_Mod_add_268 rfl (lv_at hl 0 rfl) ?_
        refine z_get C hP List.mem_cons_self q_Mod 2 (by decide) k_730 (fun _ h9 => h9) rfl d_Mod_add_269 ?_
        refine lv_iload_n hx hb d_Mod_add_272 rfl (lv_at hl 3 rfl) ?_
        refine z_iast C hP hD hS 8 rfl ne (by omega) (by omega) d_Mod_add_273 (ws' := (o, zo 11 [.int (nI 0), .ref ta, .int (nI ne), .ref ans, .ref anm, .ref anu, .ref asa, .ref apl, .ref akd, .int (nI (nk + 1)), .ref akn, .ref aks, .ref akp, .ref akk, .int (nI bg), .int (nI sz), .int (nI hd), .ref alg, .int (nI ni), .ref aip, .ref aix, .ref aiz, .ref aim, .ref aod, .int (nI av), .int (nI hv), .int (nI lf), .int (nI sn), .int (nI pv)]) :: (akn, zIn g 1500 (nN (upN kn nk n0))) :: (aks, zIn g 1500 (nN (upN ks nk s0))) :: (akp, zIn g 1500 (nN (upN kp nk p0))) :: (akk, zIn g 1500 (nN (upN kk nk q0))) :: (ans, zIn g 600 (nN (upN nsz ne ts))) :: (anu, zIn g 600 (nN (upN num ne n0))) :: (asa, zIn g 600 (nN (upN sta ne s0))) :: (apl, zIn g 600 (upd (nN pla) ne (nI p0))) :: (akd, zIn g 600 (nN kin)) :: (anm, zBy g 153600 (wr nmb (256 * ne) (zl tb 0 k))) :: T) rfl (fun H locs hP hD hS => ?_)
        rw [upd_nN] at hP hD
        refine lv_aload_n hx hb d_Mod_add_274 rfl (lv_at hl 0 rfl) ?_
        refine z_get C hP List.mem_cons_self q_Mod 8 (by decide) k_736 (fun _ h9 => h9) rfl d_Mod_add_275 ?_
        refine lv_aload_n hx hb d_Mod_add_278 rfl (lv_at hl 0 rfl) ?_
        refine z_get C hP List.mem_cons_self q_Mod 2 (by decide) k_730 (fun _ h9 => h9) rfl d_Mod_add_279 ?_
        refine lv_iload hx hb d_Mod_add_282 (lv_at hl 4 rfl) ?_
        refine z_iast C hP hD hS 9 rfl ne (by omega) (by omega) d_Mod_add_284 (ws' := (o, zo 11 [.int (nI 0), .ref ta, .int (nI ne), .ref ans, .ref anm, .ref anu, .ref asa, .ref apl, .ref akd, .int (nI (nk + 1)), .ref akn, .ref aks, .ref akp, .ref akk, .int (nI bg), .int (nI sz), .int (nI hd), .ref alg, .int (nI ni), .ref aip, .ref aix, .ref aiz, .ref aim, .ref aod, .int (nI av), .int (nI hv), .int (nI lf), .int (nI sn), .int (nI pv)]) :: (akn, zIn g 1500 (nN (upN kn nk n0))) :: (aks, zIn g 1500 (nN (upN ks nk s0))) :: (akp, zIn g 1500 (nN (upN kp nk p0))) :: (akk, zIn g 1500 (nN (upN kk nk q0))) :: (ans, zIn g 600 (nN (upN nsz ne ts))) :: (anu, zIn g 600 (nN (upN num ne n0))) :: (asa, zIn g 600 (nN (upN sta ne s0))) :: (apl, zIn g 600 (nN (upN pla ne p0))) :: (akd, zIn g 600 (upd (nN kin) ne (nI q0))) :: (anm, zBy g 153600 (wr nmb (256 * ne) (zl tb 0 k))) :: T) rfl (fun H locs hP hD hS => ?_)
        rw [upd_nN] at hP hD
        refine lv_aload_n hx hb d_Mod_add_285 rfl (lv_at hl 0 rfl) ?_
        refine lv_dup hx hb d_Mod_add_286 rfl ?_
        refine z_get C hP List.mem_cons_self q_Mod 2 (by decide) k_730 (fun _ h9 => h9) rfl d_Mod_add_287 ?_
        refine lv_iconst (v := nI 1) hx hb d_Mod_add_290 (by decide) ?_
        refine z_iadd (v := nI (ne + 1)) C d_Mod_add_291 (nI_add _ _) ?_
        refine z_put C hP hD hS 0 rfl q_Mod 2 (by decide) k_730 (fun _ h9 => h9) rfl rfl rfl (Nat.le_of_ble_eq_true rfl) d_Mod_add_292 (ws' := (o, zo 11 [.int (nI 0), .ref ta, .int (nI (ne + 1)), .ref ans, .ref anm, .ref anu, .ref asa, .ref apl, .ref akd, .int (nI (nk + 1)), .ref akn, .ref aks, .ref akp, .ref akk, .int (nI bg), .int (nI sz), .int (nI hd), .ref alg, .int (nI ni), .ref aip, .ref aix, .ref aiz, .ref aim, .ref aod, .int (nI av), .int (nI hv), .int (nI lf), .int (nI sn), .int (nI pv)]) :: (akn, zIn g 1500 (nN (upN kn nk n0))) :: (aks, zIn g 1500 (nN (upN ks nk s0))) :: (akp, zIn g 1500 (nN (upN kp nk p0))) :: (akk, zIn g 1500 (nN (upN kk nk q0))) :: (ans, zIn g 600 (nN (upN nsz ne ts))) :: (anu, zIn g 600 (nN (upN num ne n0))) :: (asa, zIn g 600 (nN (upN sta ne s0))) :: (apl, zIn g 600 (nN (upN pla ne p0))) :: (akd, zIn g 600 (nN (upN kin ne q0))) :: (anm, zBy g 153600 (wr nmb (256 * ne) (zl tb 0 k))) :: T) rfl (fun H locs hP hD hS => ?_)
        refine lv_aload_n hx hb d_Mod_add_295 rfl (lv_at hl 0 rfl) ?_
        refine z_get C hP List.mem_cons_self q_Mod 2 (by decide) k_730 (fun _ h9 => h9) rfl d_Mod_add_296 ?_
        exact z_iret C hr hlk hP hD hS (by omega) (by omega) ⟨rfl, by rw [show k = ts by omega]⟩ d_Mod_add_299
      · skip
        have c_211 : ¬ ts ≤ k := fun q9 => c_211 ((nI_leI (a := ts) (b := k) (by omega) (by omega)).mpr q9)
        refine lv_aload_n hx hb d_Mod_add_214 rfl (lv_at hl 0 rfl) ?_
        refine z_get C hP List.mem_cons_self q_Mod 4 (by decide) k_732 (fun _ h9 => h9) rfl d_Mod_add_215 ?_
        refine lv_sipush (v := nI 256) hx hb d_Mod_add_218 (by decide) ?_
        refine lv_aload_n hx hb d_Mod_add_221 rfl (lv_at hl 0 rfl) ?_
        refine z_get C hP List.mem_cons_self q_Mod 2 (by decide) k_730 (fun _ h9 => h9) rfl d_Mod_add_222 ?_
        refine z_imul (v := nI (256 * ne)) C d_Mod_add_225 (pk_mul _ _) ?_
        refine lv_iload hx hb d_Mod_add_226 (lv_at hl 6 rfl) ?_
        refine z_iadd (v := nI ((256 * ne) + k)) C d_Mod_add_228 (nI_add _ _) ?_
        refine lv_aload_n hx hb d_Mod_add_229 rfl (lv_at hl 0 rfl) ?_
        refine z_get C hP List.mem_cons_self q_Mod 1 (by decide) k_729 (fun _ h9 => h9) rfl d_Mod_add_230 ?_
        refine lv_iload hx hb d_Mod_add_233 (lv_at hl 6 rfl) ?_
        refine z_iald C hP (List.mem_cons_of_mem _ (List.mem_cons_of_mem _ (List.mem_cons_of_mem _ (List.mem_cons_of_mem _ (List.mem_cons_of_mem _ (List.mem_cons_of_mem _ (List.mem_cons_of_mem _ (List.mem_cons_of_mem _ (List.mem_cons_of_mem _ (List.mem_cons_of_mem _ (List.mem_cons_of_mem _ hta))))))))))) k (by omega) (by omega) d_Mod_add_235 ?_
        refine z_topi (y := nI ((tb k).toNat)) rfl ?_
        refine lv_i2b (v := sb (zu (nI ((tb k).toNat)))) hx hb d_Mod_add_236 (sb_zu _).symm ?_
        refine z_bast C hP hD hS 10 rfl ((256 * ne) + k) (by omega) (by omega) d_Mod_add_237 (ws' := (o, zo 11 [.int (nI 0), .ref ta, .int (nI ne), .ref ans, .ref anm, .ref anu, .ref asa, .ref apl, .ref akd, .int (nI (nk + 1)), .ref akn, .ref aks, .ref akp, .ref akk, .int (nI bg), .int (nI sz), .int (nI hd), .ref alg, .int (nI ni), .ref aip, .ref aix, .ref aiz, .ref aim, .ref aod, .int (nI av), .int (nI hv), .int (nI lf), .int (nI sn), .int (nI pv)]) :: (akn, zIn g 1500 (nN (upN kn nk n0))) :: (aks, zIn g 1500 (nN (upN ks nk s0))) :: (akp, zIn g 1500 (nN (upN kp nk p0))) :: (akk, zIn g 1500 (nN (upN kk nk q0))) :: (ans, zIn g 600 (nN (upN nsz ne ts))) :: (anu, zIn g 600 (nN num)) :: (asa, zIn g 600 (nN sta)) :: (apl, zIn g 600 (nN pla)) :: (akd, zIn g 600 (nN kin)) :: (anm, zBy g 153600 (uB (wr nmb (256 * ne) (zl tb 0 k)) ((256 * ne) + k) (zu (nI ((tb k).toNat))))) :: T) rfl (fun H locs hP hD hS => ?_)
        have e_b : (uB (wr nmb (256 * ne) (zl tb 0 k)) ((256 * ne) + k) (zu (nI ((tb k).toNat))) : Nat → UInt8) = wr nmb (256 * ne) (zl tb 0 (k + 1)) := zlw_s nmb tb _ _ k _ _ rfl (by rw [zu_u, Nat.zero_add])
        rw [e_b] at hP hD
        refine lv_iinc (v := nI (k + 1)) (lv' := [(8, .int (nI (k + 1))), (0, .ref o), (1, .int (nI n0)), (2, .int (nI s0)), (3, .int (nI p0)), (4, .int (nI q0)), (5, .int (nI ts))]) hx hb d_Mod_add_238 hl (k := 6) rfl (by rw [show Int32.ofInt 1 = nI 1 by decide]; exact nI_add _ _) (by decide) rfl (fun ls hl => ?_)
        refine lv_goto (tgt := 207) hx hb d_Mod_add_241 (by decide) ?_
        exact ih (k + 1) (by omega) (by omega) _ _ hP hD hS ls (lv_sub hl [1, 2, 3, 4, 5, 6, 0] rfl)
  refine lv_aload_n hx hb d_Mod_add_0 rfl (lv_at hl 0 rfl) ?_
  refine z_ki (z_runV (np := 0) C (c_Mod_use l g ((akn, zIn g 1500 (nN kn)) :: (aks, zIn g 1500 (nN ks)) :: (akp, zIn g 1500 (nN kp)) :: (akk, zIn g 1500 (nN kk)) :: (ans, zIn g 600 (nN nsz)) :: (anu, zIn g 600 (nN num)) :: (asa, zIn g 600 (nN sta)) :: (apl, zIn g 600 (nN pla)) :: (akd, zIn g 600 (nN kin)) :: (anm, zBy g 153600 nmb) :: T) o ts ta ne ans anm anu asa apl akd nk akn aks akp akk bg sz hd alg ni aip aix aiz aim aod av hv lf sn pv) hP hD hS List.mem_cons_self (show classes[11]? = some (R_Mod, F_Mod, 29) from rfl) k_829 k_12 k_826 k_828 ks_Mod_use ⟨by decide, by decide, by decide⟩ ⟨Nat.le_of_ble_eq_true rfl, Nat.le_of_ble_eq_true rfl⟩ rfl hl.1 rfl (Nat.le_of_ble_eq_true rfl) d_Mod_add_1 ⟨by show _ ≤ 0; omega, by show _ ≤ 0; omega⟩) hS (fun r_1 w H locs hw hP hD hS => ?_)
  obtain ⟨rfl, hw⟩ := hw
  rw [hw] at hP hD
  refine lv_istore (lv' := [(5, .int (nI ts)), (0, .ref o), (1, .int (nI n0)), (2, .int (nI s0)), (3, .int (nI p0)), (4, .int (nI q0))]) hx hb d_Mod_add_4 hl (by decide) rfl (fun ls hl => ?_)
  refine lv_iload_n hx hb d_Mod_add_6 rfl (lv_at hl 2 rfl) ?_
  refine lv_if_le (tgt := 53) hx hb d_Mod_add_7 (by decide) (fun c_7 => ?_) (fun c_7 => ?_)
  · skip
    have c_7 : n0 ≤ 0 := (nI_leI (a := n0) (b := 0) (by omega) (by decide)).mp c_7
    exact absurd c_7 (by omega)
  · skip
    have c_7 : ¬ n0 ≤ 0 := fun q9 => c_7 ((nI_leI (a := n0) (b := 0) (by omega) (by decide)).mpr q9)
    refine lv_iload_n hx hb d_Mod_add_10 rfl (lv_at hl 2 rfl) ?_
    refine lv_ldc (v := nI 100000) hx hb C.1.2.2.2.1 (C.ts k_830 rfl) d_Mod_add_11 ?_
    refine lv_icmp_gt (tgt := 53) hx hb d_Mod_add_13 (by decide) (fun c_13 => ?_) (fun c_13 => ?_)
    · skip
      have c_13 : 100000 < n0 := (nI_ltI (a := 100000) (b := n0) (by decide) (by omega)).mp c_13
      exact absurd c_13 (by omega)
    · skip
      have c_13 : ¬ 100000 < n0 := fun q9 => c_13 ((nI_ltI (a := 100000) (b := n0) (by decide) (by omega)).mpr q9)
      refine lv_iload_n hx hb d_Mod_add_16 rfl (lv_at hl 3 rfl) ?_
      refine lv_if_lt (tgt := 53) hx hb d_Mod_add_17 (by decide) (fun c_17 => ?_) (fun c_17 => ?_)
      · skip
        have c_17 : s0 < 0 := (nI_ltI (a := s0) (b := 0) (by omega) (by decide)).mp c_17
        exact absurd c_17 (by omega)
      · skip
        have c_17 : ¬ s0 < 0 := fun q9 => c_17 ((nI_ltI (a := s0) (b := 0) (by omega) (by decide)).mpr q9)
        refine lv_iload_n hx hb d_Mod_add_20 rfl (lv_at hl 3 rfl) ?_
        refine lv_ldc (v := nI 65536) hx hb C.1.2.2.2.1 (C.ts k_727 rfl) d_Mod_add_21 ?_
        refine lv_icmp_ge (tgt := 53) hx hb d_Mod_add_23 (by decide) (fun c_23 => ?_) (fun c_23 => ?_)
        · skip
          have c_23 : 65536 ≤ s0 := (nI_leI (a := 65536) (b := s0) (by decide) (by omega)).mp c_23
          exact absurd c_23 (by omega)
        · skip
          have c_23 : ¬ 65536 ≤ s0 := fun q9 => c_23 ((nI_leI (a := 65536) (b := s0) (by decide) (by omega)).mpr q9)
          refine lv_iload_n hx hb d_Mod_add_26 rfl (lv_at hl 4 rfl) ?_
          refine lv_if_lt (tgt := 53) hx hb d_Mod_add_27 (by decide) (fun c_27 => ?_) (fun c_27 => ?_)
          · skip
            have c_27 : p0 < 0 := (nI_ltI (a := p0) (b := 0) (by omega) (by decide)).mp c_27
            exact absurd c_27 (by omega)
          · skip
            have c_27 : ¬ p0 < 0 := fun q9 => c_27 ((nI_ltI (a := p0) (b := 0) (by omega) (by decide)).mpr q9)
            refine lv_iload_n hx hb d_Mod_add_30 rfl (lv_at hl 4 rfl) ?_
            refine lv_sipush (v := nI 8192) hx hb d_Mod_add_31 (by decide) ?_
            refine lv_icmp_ge (tgt := 53) hx hb d_Mod_add_34 (by decide) (fun c_34 => ?_) (fun c_34 => ?_)
            · skip
              have c_34 : 8192 ≤ p0 := (nI_leI (a := 8192) (b := p0) (by decide) (by omega)).mp c_34
              exact absurd c_34 (by omega)
            · skip
              have c_34 : ¬ 8192 ≤ p0 := fun q9 => c_34 ((nI_leI (a := 8192) (b := p0) (by decide) (by omega)).mpr q9)
              refine lv_iload hx hb d_Mod_add_37 (lv_at hl 5 rfl) ?_
              refine lv_if_le (tgt := 53) hx hb d_Mod_add_39 (by decide) (fun c_39 => ?_) (fun c_39 => ?_)
              · skip
                have c_39 : q0 ≤ 0 := (nI_leI (a := q0) (b := 0) (by omega) (by decide)).mp c_39
                exact absurd c_39 (by omega)
              · skip
                have c_39 : ¬ q0 ≤ 0 := fun q9 => c_39 ((nI_leI (a := q0) (b := 0) (by omega) (by decide)).mpr q9)
                refine lv_iload hx hb d_Mod_add_42 (lv_at hl 5 rfl) ?_
                refine lv_bipush (v := nI 8) hx hb d_Mod_add_44 (by decide) ?_
                refine lv_icmp_ge (tgt := 53) hx hb d_Mod_add_46 (by decide) (fun c_46 => ?_) (fun c_46 => ?_)
                · skip
                  have c_46 : 8 ≤ q0 := (nI_leI (a := 8) (b := q0) (by decide) (by omega)).mp c_46
                  exact absurd c_46 (by omega)
                · skip
                  have c_46 : ¬ 8 ≤ q0 := fun q9 => c_46 ((nI_leI (a := 8) (b := q0) (by decide) (by omega)).mpr q9)
                  refine lv_iconst (v := nI 1) hx hb d_Mod_add_49 (by decide) ?_
                  refine lv_goto (tgt := 54) hx hb d_Mod_add_50 (by decide) ?_
                  refine lv_istore (lv' := [(6, .int (nI 1)), (5, .int (nI ts)), (0, .ref o), (1, .int (nI n0)), (2, .int (nI s0)), (3, .int (nI p0)), (4, .int (nI q0))]) hx hb d_Mod_add_54 hl (by decide) rfl (fun ls hl => ?_)
                  refine lv_iload hx hb d_Mod_add_56 (lv_at hl 0 rfl) ?_
                  refine lv_if_eq (tgt := 70) hx hb d_Mod_add_58 (by decide) (fun c_58 => ?_) (fun c_58 => ?_)
                  · skip
                    have c_58 : 1 = 0 := (nI_eq (a := 1) (b := 0) (by decide) (by decide)).mp c_58
                    exact absurd c_58 (by omega)
                  · skip
                    have c_58 : ¬ 1 = 0 := fun q9 => c_58 ((nI_eq (a := 1) (b := 0) (by decide) (by decide)).mpr q9)
                    refine lv_aload_n hx hb d_Mod_add_61 rfl (lv_at hl 2 rfl) ?_
                    refine lv_iload hx hb d_Mod_add_62 (lv_at hl 1 rfl) ?_
                    refine z_ki (z_runV (np := 1) C (c_Mod_isName l g ((o, zo 11 [.int (nI 0), .ref ta, .int (nI ne), .ref ans, .ref anm, .ref anu, .ref asa, .ref apl, .ref akd, .int (nI nk), .ref akn, .ref aks, .ref akp, .ref akk, .int (nI bg), .int (nI sz), .int (nI hd), .ref alg, .int (nI ni), .ref aip, .ref aix, .ref aiz, .ref aim, .ref aod, .int (nI av), .int (nI hv), .int (nI lf), .int (nI sn), .int (nI pv)]) :: (akn, zIn g 1500 (nN kn)) :: (aks, zIn g 1500 (nN ks)) :: (akp, zIn g 1500 (nN kp)) :: (akk, zIn g 1500 (nN kk)) :: (ans, zIn g 600 (nN nsz)) :: (anu, zIn g 600 (nN num)) :: (asa, zIn g 600 (nN sta)) :: (apl, zIn g 600 (nN pla)) :: (akd, zIn g 600 (nN kin)) :: (anm, zBy g 153600 nmb) :: T) o 0 ta ne ans anm anu asa apl akd nk akn aks akp akk bg sz hd alg ni aip aix aiz aim aod av hv lf sn pv List.mem_cons_self tb (List.mem_cons_of_mem _ (List.mem_cons_of_mem _ (List.mem_cons_of_mem _ (List.mem_cons_of_mem _ (List.mem_cons_of_mem _ (List.mem_cons_of_mem _ (List.mem_cons_of_mem _ (List.mem_cons_of_mem _ (List.mem_cons_of_mem _ (List.mem_cons_of_mem _ (List.mem_cons_of_mem _ hta))))))))))) ts v1) hP hD hS List.mem_cons_self (show classes[11]? = some (R_Mod, F_Mod, 29) from rfl) k_834 k_12 k_831 k_833 ks_Mod_isName ⟨by decide, by decide, by decide⟩ ⟨Nat.le_of_ble_eq_true rfl, Nat.le_of_ble_eq_true rfl⟩ rfl hl.1 rfl (Nat.le_of_ble_eq_true rfl) d_Mod_add_64 ⟨by show _ ≤ 0; omega, by show _ ≤ 0; omega⟩) hS (fun r_64 w H locs hw hP hD hS => ?_)
                    obtain ⟨hr8, hw⟩ := hw
                    rw [hw] at hP hD
                    rw [hn9] at hr8
                    subst hr8
                    refine lv_if_ne (tgt := 72) hx hb d_Mod_add_67 (by decide) (fun c_67 => ?_) (fun c_67 => ?_)
                    · skip
                      have c_67 : ¬ 1 = 0 := fun q9 => c_67 ((nI_eq (a := 1) (b := 0) (by decide) (by decide)).mpr q9)
                      refine lv_aload_n hx hb d_Mod_add_72 rfl (lv_at hl 2 rfl) ?_
                      refine lv_iload hx hb d_Mod_add_73 (lv_at hl 1 rfl) ?_
                      refine z_ki (z_runV (np := 1) C (c_Mod_entryOfTape l g ((o, zo 11 [.int (nI 0), .ref ta, .int (nI ne), .ref ans, .ref anm, .ref anu, .ref asa, .ref apl, .ref akd, .int (nI nk), .ref akn, .ref aks, .ref akp, .ref akk, .int (nI bg), .int (nI sz), .int (nI hd), .ref alg, .int (nI ni), .ref aip, .ref aix, .ref aiz, .ref aim, .ref aod, .int (nI av), .int (nI hv), .int (nI lf), .int (nI sn), .int (nI pv)]) :: (akn, zIn g 1500 (nN kn)) :: (aks, zIn g 1500 (nN ks)) :: (akp, zIn g 1500 (nN kp)) :: (akk, zIn g 1500 (nN kk)) :: (ans, zIn g 600 (nN nsz)) :: (anu, zIn g 600 (nN num)) :: (asa, zIn g 600 (nN sta)) :: (apl, zIn g 600 (nN pla)) :: (akd, zIn g 600 (nN kin)) :: (anm, zBy g 153600 nmb) :: T) o 0 ta ne ans anm anu asa apl akd nk akn aks akp akk bg sz hd alg ni aip aix aiz aim aod av hv lf sn pv List.mem_cons_self tb (List.mem_cons_of_mem _ (List.mem_cons_of_mem _ (List.mem_cons_of_mem _ (List.mem_cons_of_mem _ (List.mem_cons_of_mem _ (List.mem_cons_of_mem _ (List.mem_cons_of_mem _ (List.mem_cons_of_mem _ (List.mem_cons_of_mem _ (List.mem_cons_of_mem _ (List.mem_cons_of_mem _ hta))))))))))) nsz (List.mem_cons_of_mem _ (List.mem_cons_of_mem _ (List.mem_cons_of_mem _ (List.mem_cons_of_mem _ (List.mem_cons_of_mem _ List.mem_cons_self))))) nmb (List.mem_cons_of_mem _ (List.mem_cons_of_mem _ (List.mem_cons_of_mem _ (List.mem_cons_of_mem _ (List.mem_cons_of_mem _ (List.mem_cons_of_mem _ (List.mem_cons_of_mem _ (List.mem_cons_of_mem _ (List.mem_cons_of_mem _ (List.mem_cons_of_mem _ List.mem_cons_self)))))))))) ts v1 (by omega) v3) hP hD hS List.mem_cons_self (show classes[11]? = some (R_Mod, F_Mod, 29) from rfl) k_838 k_12 k_835 k_837 ks_Mod_entryOfTape ⟨by decide, by decide, by decide⟩ ⟨Nat.le_of_ble_eq_true rfl, Nat.le_of_ble_eq_true rfl⟩ rfl hl.1 rfl (Nat.le_of_ble_eq_true rfl) d_Mod_add_75 ⟨by show _ ≤ 0; omega, by show _ ≤ 0; omega⟩) hS (fun r_75 w H locs hw hP hD hS => ?_)
                      obtain ⟨hr7, hw⟩ := hw
                      rw [hw] at hP hD
                      rw [hlt] at hr7
                      subst hr7
                      refine lv_if_lt (tgt := 84) hx hb d_Mod_add_78 (by decide) (fun c_78 => ?_) (fun c_78 => ?_)
                      · skip
                        refine lv_aload_n hx hb d_Mod_add_84 rfl (lv_at hl 2 rfl) ?_
                        refine lv_iload_n hx hb d_Mod_add_85 rfl (lv_at hl 3 rfl) ?_
                        refine lv_i2l (v := lI (n0 : Int)) hx hb d_Mod_add_86 (by rw [nI_l (by omega), lN_lI]) ?_
                        refine z_ki (z_runV (np := 1) C (c_Mod_knownAt l g ((o, zo 11 [.int (nI 0), .ref ta, .int (nI ne), .ref ans, .ref anm, .ref anu, .ref asa, .ref apl, .ref akd, .int (nI nk), .ref akn, .ref aks, .ref akp, .ref akk, .int (nI bg), .int (nI sz), .int (nI hd), .ref alg, .int (nI ni), .ref aip, .ref aix, .ref aiz, .ref aim, .ref aod, .int (nI av), .int (nI hv), .int (nI lf), .int (nI sn), .int (nI pv)]) :: (akn, zIn g 1500 (nN kn)) :: (aks, zIn g 1500 (nN ks)) :: (akp, zIn g 1500 (nN kp)) :: (akk, zIn g 1500 (nN kk)) :: (ans, zIn g 600 (nN nsz)) :: (anu, zIn g 600 (nN num)) :: (asa, zIn g 600 (nN sta)) :: (apl, zIn g 600 (nN pla)) :: (akd, zIn g 600 (nN kin)) :: (anm, zBy g 153600 nmb) :: T) o 0 ta ne ans anm anu asa apl akd nk akn aks akp akk bg sz hd alg ni aip aix aiz aim aod av hv lf sn pv List.mem_cons_self kn (List.mem_cons_of_mem _ List.mem_cons_self) (n0 : Int) (by omega) v7 (by omega) (by omega)) hP hD hS List.mem_cons_self (show classes[11]? = some (R_Mod, F_Mod, 29) from rfl) k_850 k_12 k_847 k_849 ks_Mod_knownAt ⟨by decide, by decide, by decide⟩ ⟨Nat.le_of_ble_eq_true rfl, Nat.le_of_ble_eq_true rfl⟩ rfl hl.1 rfl (Nat.le_of_ble_eq_true rfl) d_Mod_add_87 ⟨by show _ ≤ 0; omega, by show _ ≤ 0; omega⟩) hS (fun r_87 w H locs hw hP hD hS => ?_)
                        obtain ⟨hr6, hw⟩ := hw
                        rw [hw] at hP hD
                        rw [hk] at hr6
                        subst hr6
                        refine lv_istore (lv' := [(7, .int (iI (-2))), (6, .int (nI 1)), (5, .int (nI ts)), (0, .ref o), (1, .int (nI n0)), (2, .int (nI s0)), (3, .int (nI p0)), (4, .int (nI q0))]) hx hb d_Mod_add_90 hl (by decide) rfl (fun ls hl => ?_)
                        refine lv_aload_n hx hb d_Mod_add_92 rfl (lv_at hl 3 rfl) ?_
                        refine z_get C hP List.mem_cons_self q_Mod 2 (by decide) k_730 (fun _ h9 => h9) rfl d_Mod_add_93 ?_
                        refine lv_sipush (v := nI 600) hx hb d_Mod_add_96 (by decide) ?_
                        refine lv_icmp_eq (tgt := 117) hx hb d_Mod_add_99 (by decide) (fun c_99 => ?_) (fun c_99 => ?_)
                        · skip
                          have c_99 : ne = 600 := (nI_eq (a := ne) (b := 600) (by omega) (by decide)).mp c_99
                          exact absurd c_99 (by omega)
                        · skip
                          have c_99 : ¬ ne = 600 := fun q9 => c_99 ((nI_eq (a := ne) (b := 600) (by omega) (by decide)).mpr q9)
                          refine lv_iload hx hb d_Mod_add_102 (lv_at hl 0 rfl) ?_
                          refine lv_if_ge (tgt := 120) hx hb d_Mod_add_104 (by decide) (fun c_104 => ?_) (fun c_104 => ?_)
                          · skip
                            exact absurd c_104 (by decide)
                          · skip
                            refine lv_aload_n hx hb d_Mod_add_107 rfl (lv_at hl 3 rfl) ?_
                            refine z_get C hP List.mem_cons_self q_Mod 9 (by decide) k_737 (fun _ h9 => h9) rfl d_Mod_add_108 ?_
                            refine lv_sipush (v := nI 1500) hx hb d_Mod_add_111 (by decide) ?_
                            refine lv_icmp_ne (tgt := 120) hx hb d_Mod_add_114 (by decide) (fun c_114 => ?_) (fun c_114 => ?_)
                            · skip
                              have c_114 : ¬ nk = 1500 := fun q9 => c_114 ((nI_eq (a := nk) (b := 1500) (by omega) (by decide)).mpr q9)
                              refine lv_aload_n hx hb d_Mod_add_120 rfl (lv_at hl 3 rfl) ?_
                              refine lv_iload hx hb d_Mod_add_121 (lv_at hl 0 rfl) ?_
                              refine lv_if_ge (tgt := 135) hx hb d_Mod_add_123 (by decide) (fun c_123 => ?_) (fun c_123 => ?_)
                              · skip
                                exact absurd c_123 (by decide)
                              · skip
                                refine lv_aload_n hx hb d_Mod_add_126 rfl (lv_at hl 3 rfl) ?_
                                refine z_get C hP List.mem_cons_self q_Mod 9 (by decide) k_737 (fun _ h9 => h9) rfl d_Mod_add_127 ?_
                                refine lv_iconst (v := nI 1) hx hb d_Mod_add_130 (by decide) ?_
                                refine z_iadd (v := nI (nk + 1)) C d_Mod_add_131 (nI_add _ _) ?_
                                refine lv_goto (tgt := 139) hx hb d_Mod_add_132 (by decide) ?_
                                refine z_put C hP hD hS 0 rfl q_Mod 9 (by decide) k_737 (fun _ h9 => h9) rfl rfl rfl (Nat.le_of_ble_eq_true rfl) d_Mod_add_139 (ws' := (o, zo 11 [.int (nI 0), .ref ta, .int (nI ne), .ref ans, .ref anm, .ref anu, .ref asa, .ref apl, .ref akd, .int (nI (nk + 1)), .ref akn, .ref aks, .ref akp, .ref akk, .int (nI bg), .int (nI sz), .int (nI hd), .ref alg, .int (nI ni), .ref aip, .ref aix, .ref aiz, .ref aim, .ref aod, .int (nI av), .int (nI hv), .int (nI lf), .int (nI sn), .int (nI pv)]) :: (akn, zIn g 1500 (nN kn)) :: (aks, zIn g 1500 (nN ks)) :: (akp, zIn g 1500 (nN kp)) :: (akk, zIn g 1500 (nN kk)) :: (ans, zIn g 600 (nN nsz)) :: (anu, zIn g 600 (nN num)) :: (asa, zIn g 600 (nN sta)) :: (apl, zIn g 600 (nN pla)) :: (akd, zIn g 600 (nN kin)) :: (anm, zBy g 153600 nmb) :: T) rfl (fun H locs hP hD hS => ?_)
                                refine lv_iload hx hb d_Mod_add_142 (lv_at hl 0 rfl) ?_
                                refine lv_if_ge (tgt := 156) hx hb d_Mod_add_144 (by decide) (fun c_144 => ?_) (fun c_144 => ?_)
                                · skip
                                  exact absurd c_144 (by decide)
                                · skip
                                  refine lv_aload_n hx hb d_Mod_add_147 rfl (lv_at hl 3 rfl) ?_
                                  refine z_get C hP List.mem_cons_self q_Mod 9 (by decide) k_737 (fun _ h9 => h9) rfl d_Mod_add_148 ?_
                                  refine lv_iconst (v := nI 1) hx hb d_Mod_add_151 (by decide) ?_
                                  refine z_isub (v := nI nk) C d_Mod_add_152 (by rw [pk_sub (by omega), Nat.add_sub_cancel]) ?_
                                  refine lv_goto (tgt := 158) hx hb d_Mod_add_153 (by decide) ?_
                                  refine lv_istore (lv' := [(7, .int (nI nk)), (6, .int (nI 1)), (5, .int (nI ts)), (0, .ref o), (1, .int (nI n0)), (2, .int (nI s0)), (3, .int (nI p0)), (4, .int (nI q0))]) hx hb d_Mod_add_158 hl (by decide) rfl (fun ls hl => ?_)
                                  refine lv_aload_n hx hb d_Mod_add_160 rfl (lv_at hl 3 rfl) ?_
                                  refine z_get C hP List.mem_cons_self q_Mod 10 (by decide) k_738 (fun _ h9 => h9) rfl d_Mod_add_161 ?_
                                  refine lv_iload hx hb d_Mod_add_164 (lv_at hl 0 rfl) ?_
                                  refine lv_iload_n hx hb d_Mod_add_166 rfl (lv_at hl 4 rfl) ?_
                                  refine z_iast C hP hD hS 1 rfl nk (by omega) (by omega) d_Mod_add_167 (ws' := (o, zo 11 [.int (nI 0), .ref ta, .int (nI ne), .ref ans, .ref anm, .ref anu, .ref asa, .ref apl, .ref akd, .int (nI (nk + 1)), .ref akn, .ref aks, .ref akp, .ref akk, .int (nI bg), .int (nI sz), .int (nI hd), .ref alg, .int (nI ni), .ref aip, .ref aix, .ref aiz, .ref aim, .ref aod, .int (nI av), .int (nI hv), .int (nI lf), .int (nI sn), .int (nI pv)]) :: (akn, zIn g 1500 (upd (nN kn) nk (nI n0))) :: (aks, zIn g 1500 (nN ks)) :: (akp, zIn g 1500 (nN kp)) :: (akk, zIn g 1500 (nN kk)) :: (ans, zIn g 600 (nN nsz)) :: (anu, zIn g 600 (nN num)) :: (asa, zIn g 600 (nN sta)) :: (apl, zIn g 600 (nN pla)) :: (akd, zIn g 600 (nN kin)) :: (anm, zBy g 153600 nmb) :: T) rfl (fun H locs hP hD hS => ?_)
                                  rw [upd_nN] at hP hD
                                  refine lv_aload_n hx hb d_Mod_add_168 rfl (lv_at hl 3 rfl) ?_
                                  refine z_get C hP List.mem_cons_self q_Mod 11 (by decide) k_739 (fun _ h9 => h9) rfl d_Mod_add_169 ?_
                                  refine lv_iload hx hb d_Mod_add_172 (lv_at hl 0 rfl) ?_
                                  refine lv_iload_n hx hb d_Mod_add_174 rfl (lv_at hl 5 rfl) ?_
                                  refine z_iast C hP hD hS 2 rfl nk (by omega) (by omega) d_Mod_add_175 (ws' := (o, zo 11 [.int (nI 0), .ref ta, .int (nI ne), .ref ans, .ref anm, .ref anu, .ref asa, .ref apl, .ref akd, .int (nI (nk + 1)), .ref akn, .ref aks, .ref akp, .ref akk, .int (nI bg), .int (nI sz), .int (nI hd), .ref alg, .int (nI ni), .ref aip, .ref aix, .ref aiz, .ref aim, .ref aod, .int (nI av), .int (nI hv), .int (nI lf), .int (nI sn), .int (nI pv)]) :: (akn, zIn g 1500 (nN (upN kn nk n0))) :: (aks, zIn g 1500 (upd (nN ks) nk (nI s0))) :: (akp, zIn g 1500 (nN kp)) :: (akk, zIn g 1500 (nN kk)) :: (ans, zIn g 600 (nN nsz)) :: (anu, zIn g 600 (nN num)) :: (asa, zIn g 600 (nN sta)) :: (apl, zIn g 600 (nN pla)) :: (akd, zIn g 600 (nN kin)) :: (anm, zBy g 153600 nmb) :: T) rfl (fun H locs hP hD hS => ?_)
                                  rw [upd_nN] at hP hD
                                  refine lv_aload_n hx hb d_Mod_add_176 rfl (lv_at hl 3 rfl) ?_
                                  refine z_get C hP List.mem_cons_self q_Mod 12 (by decide) k_740 (fun _ h9 => h9) rfl d_Mod_add_177 ?_
                                  refine lv_iload hx hb d_Mod_add_180 (lv_at hl 0 rfl) ?_
                                  refine lv_iload_n hx hb d_Mod_add_182 rfl (lv_at hl 6 rfl) ?_
                                  refine z_iast C hP hD hS 3 rfl nk (by omega) (by omega) d_Mod_add_183 (ws' := (o, zo 11 [.int (nI 0), .ref ta, .int (nI ne), .ref ans, .ref anm, .ref anu, .ref asa, .ref apl, .ref akd, .int (nI (nk + 1)), .ref akn, .ref aks, .ref akp, .ref akk, .int (nI bg), .int (nI sz), .int (nI hd), .ref alg, .int (nI ni), .ref aip, .ref aix, .ref aiz, .ref aim, .ref aod, .int (nI av), .int (nI hv), .int (nI lf), .int (nI sn), .int (nI pv)]) :: (akn, zIn g 1500 (nN (upN kn nk n0))) :: (aks, zIn g 1500 (nN (upN ks nk s0))) :: (akp, zIn g 1500 (upd (nN kp) nk (nI p0))) :: (akk, zIn g 1500 (nN kk)) :: (ans, zIn g 600 (nN nsz)) :: (anu, zIn g 600 (nN num)) :: (asa, zIn g 600 (nN sta)) :: (apl, zIn g 600 (nN pla)) :: (akd, zIn g 600 (nN kin)) :: (anm, zBy g 153600 nmb) :: T) rfl (fun H locs hP hD hS => ?_)
                                  rw [upd_nN] at hP hD
                                  refine lv_aload_n hx hb d_Mod_add_184 rfl (lv_at hl 3 rfl) ?_
                                  refine z_get C hP List.mem_cons_self q_Mod 13 (by decide) k_741 (fun _ h9 => h9) rfl d_Mod_add_185 ?_
                                  refine lv_iload hx hb d_Mod_add_188 (lv_at hl 0 rfl) ?_
                                  refine lv_iload hx hb d_Mod_add_190 (lv_at hl 7 rfl) ?_
                                  refine z_iast C hP hD hS 4 rfl nk (by omega) (by omega) d_Mod_add_192 (ws' := (o, zo 11 [.int (nI 0), .ref ta, .int (nI ne), .ref ans, .ref anm, .ref anu, .ref asa, .ref apl, .ref akd, .int (nI (nk + 1)), .ref akn, .ref aks, .ref akp, .ref akk, .int (nI bg), .int (nI sz), .int (nI hd), .ref alg, .int (nI ni), .ref aip, .ref aix, .ref aiz, .ref aim, .ref aod, .int (nI av), .int (nI hv), .int (nI lf), .int (nI sn), .int (nI pv)]) :: (akn, zIn g 1500 (nN (upN kn nk n0))) :: (aks, zIn g 1500 (nN (upN ks nk s0))) :: (akp, zIn g 1500 (nN (upN kp nk p0))) :: (akk, zIn g 1500 (upd (nN kk) nk (nI q0))) :: (ans, zIn g 600 (nN nsz)) :: (anu, zIn g 600 (nN num)) :: (asa, zIn g 600 (nN sta)) :: (apl, zIn g 600 (nN pla)) :: (akd, zIn g 600 (nN kin)) :: (anm, zBy g 153600 nmb) :: T) rfl (fun H locs hP hD hS => ?_)
                                  rw [upd_nN] at hP hD
                                  refine lv_aload_n hx hb d_Mod_add_193 rfl (lv_at hl 3 rfl) ?_
                                  refine z_get C hP List.mem_cons_self q_Mod 3 (by decide) k_731 (fun _ h9 => h9) rfl d_Mod_add_194 ?_
                                  refine lv_aload_n hx hb d_Mod_add_197 rfl (lv_at hl 3 rfl) ?_
                                  refine z_get C hP List.mem_cons_self q_Mod 2 (by decide) k_730 (fun _ h9 => h9) rfl d_Mod_add_198 ?_
                                  refine lv_iload hx hb d_Mod_add_201 (lv_at hl 2 rfl) ?_
                                  refine z_iast C hP hD hS 5 rfl ne (by omega) (by omega) d_Mod_add_203 (ws' := (o, zo 11 [.int (nI 0), .ref ta, .int (nI ne), .ref ans, .ref anm, .ref anu, .ref asa, .ref apl, .ref akd, .int (nI (nk + 1)), .ref akn, .ref aks, .ref akp, .ref akk, .int (nI bg), .int (nI sz), .int (nI hd), .ref alg, .int (nI ni), .ref aip, .ref aix, .ref aiz, .ref aim, .ref aod, .int (nI av), .int (nI hv), .int (nI lf), .int (nI sn), .int (nI pv)]) :: (akn, zIn g 1500 (nN (upN kn nk n0))) :: (aks, zIn g 1500 (nN (upN ks nk s0))) :: (akp, zIn g 1500 (nN (upN kp nk p0))) :: (akk, zIn g 1500 (nN (upN kk nk q0))) :: (ans, zIn g 600 (upd (nN nsz) ne (nI ts))) :: (anu, zIn g 600 (nN num)) :: (asa, zIn g 600 (nN sta)) :: (apl, zIn g 600 (nN pla)) :: (akd, zIn g 600 (nN kin)) :: (anm, zBy g 153600 nmb) :: T) rfl (fun H locs hP hD hS => ?_)
                                  rw [upd_nN] at hP hD
                                  refine lv_iconst (v := nI 0) hx hb d_Mod_add_204 (by decide) ?_
                                  refine lv_istore (lv' := [(8, .int (nI 0)), (7, .int (nI nk)), (6, .int (nI 1)), (5, .int (nI ts)), (0, .ref o), (1, .int (nI n0)), (2, .int (nI s0)), (3, .int (nI p0)), (4, .int (nI q0))]) hx hb d_Mod_add_205 hl (by decide) rfl (fun ls hl => ?_)
                                  have e_w : zBy g 153600 nmb = zBy g 153600 (wr nmb (256 * ne) (zl tb 0 0)) := by rw [zl_0, wr_0]
                                  rw [e_w] at hP hD
                                  exact L_207 _ 0 (Nat.zero_le _) (Nat.lt_succ_self _) _ _ hP hD hS ls (lv_sub hl [4, 5, 6, 7, 8, 3, 0] rfl)
                            · skip
                              have c_114 : nk = 1500 := (nI_eq (a := nk) (b := 1500) (by omega) (by decide)).mp c_114
                              exact absurd c_114 (by omega)
                      · skip
                        exact absurd c_78 (by decide)
                    · skip
                      have c_67 : 1 = 0 := (nI_eq (a := 1) (b := 0) (by decide) (by decide)).mp c_67
                      exact absurd c_67 (by omega)
set_option maxHeartbeats 4000000 in
set_option maxRecDepth 100000 in
theorem c_Mod_add_k (l : Launch) (g : zT) (T : va_W) (o ts ta ne ans anm anu asa apl akd nk akn aks akp akk bg sz hd alg ni aip aix aiz aim aod av hv lf sn pv : Nat) (tb : Nat → UInt8) (hta : (ta, zIn g 300 (nB tb)) ∈ T) (kn : Nat → Nat) (ks : Nat → Nat) (kp : Nat → Nat) (kk : Nat → Nat) (nsz : Nat → Nat) (num : Nat → Nat) (sta : Nat → Nat) (pla : Nat → Nat) (kin : Nat → Nat) (nmb : Nat → UInt8) (v1 : ts ≤ 300) (v2 : ne < 600) (v3 : ∀ j, j < ne → nsz j ≤ 256) (n0 s0 p0 q0 : Nat) (o1 : 1 ≤ n0) (o2 : n0 ≤ 100000) (o3 : s0 ≤ 65535) (o4 : p0 ≤ 8191) (o5 : 1 ≤ q0) (o6 : q0 ≤ 7) (hn9 : isNm (zl tb 0 ts) = true) (hlt : lastE (ofT tb ts nmb nsz) ne = -2) (v6 : nk < 1500) (v7 : ∀ j, j < nk → kn j ≤ 100000) (v9 : ts ≤ 256) (k0 : Nat) (v8 : k0 < nk) (hk : lastE (ofK kn (n0 : Int)) nk = (k0 : Int)) : Met l y_Mod_add (zw y_Mod_add b_Mod_add 9 (some .int)) (zR 3 68 0 0) (zP g [.ref o, .int (nI n0), .int (nI s0), .int (nI p0), .int (nI q0)] ((o, zo 11 [.int (nI ts), .ref ta, .int (nI ne), .ref ans, .ref anm, .ref anu, .ref asa, .ref apl, .ref akd, .int (nI nk), .ref akn, .ref aks, .ref akp, .ref akk, .int (nI bg), .int (nI sz), .int (nI hd), .ref alg, .int (nI ni), .ref aip, .ref aix, .ref aiz, .ref aim, .ref aod, .int (nI av), .int (nI hv), .int (nI lf), .int (nI sn), .int (nI pv)]) :: (akn, zIn g 1500 (nN kn)) :: (aks, zIn g 1500 (nN ks)) :: (akp, zIn g 1500 (nN kp)) :: (akk, zIn g 1500 (nN kk)) :: (ans, zIn g 600 (nN nsz)) :: (anu, zIn g 600 (nN num)) :: (asa, zIn g 600 (nN sta)) :: (apl, zIn g 600 (nN pla)) :: (akd, zIn g 600 (nN kin)) :: (anm, zBy g 153600 nmb) :: T)) (zQi g (fun r w => r = nI (ne + 1) ∧ w = (o, zo 11 [.int (nI 0), .ref ta, .int (nI (ne + 1)), .ref ans, .ref anm, .ref anu, .ref asa, .ref apl, .ref akd, .int (nI nk), .ref akn, .ref aks, .ref akp, .ref akk, .int (nI bg), .int (nI sz), .int (nI hd), .ref alg, .int (nI ni), .ref aip, .ref aix, .ref aiz, .ref aim, .ref aod, .int (nI av), .int (nI hv), .int (nI lf), .int (nI sn), .int (nI pv)]) :: (akn, zIn g 1500 (nN (upN kn k0 n0))) :: (aks, zIn g 1500 (nN (upN ks k0 s0))) :: (akp, zIn g 1500 (nN (upN kp k0 p0))) :: (akk, zIn g 1500 (nN (upN kk k0 q0))) :: (ans, zIn g 600 (nN (upN nsz ne ts))) :: (anu, zIn g 600 (nN (upN num ne n0))) :: (asa, zIn g 600 (nN (upN sta ne s0))) :: (apl, zIn g 600 (nN (upN pla ne p0))) :: (akd, zIn g 600 (nN (upN kin ne q0))) :: (anm, zBy g 153600 (wr nmb (256 * ne) (zl tb 0 ts))) :: T)) 0 0 (zA g) := by
  refine zMet (by decide) (Nat.le_of_ble_eq_true rfl) ?_
  intro p e s m below meth c ls C hr hlk hnm hP hD hl
  have hx := C.1.1
  have hb := C.1.2.1
  have hS : va_S (zA g) s.heap s.heap [] := va_S.rf
  have hl : lv_has ls 9 [(0, .ref o), (1, .int (nI n0)), (2, .int (nI s0)), (3, .int (nI p0)), (4, .int (nI q0))] := hl
  have L_207 : ∀ (nu : Nat) (k : Nat) (_ : k ≤ ts) (_ : ts - k < nu) (H : Heap) (locs : List Loc), va_P g.1 classes ((o, zo 11 [.int (nI 0), .ref ta, .int (nI ne), .ref ans, .ref anm, .ref anu, .ref asa, .ref apl, .ref akd, .int (nI nk), .ref akn, .ref aks, .ref akp, .ref akk, .int (nI bg), .int (nI sz), .int (nI hd), .ref alg, .int (nI ni), .ref aip, .ref aix, .ref aiz, .ref aim, .ref aod, .int (nI av), .int (nI hv), .int (nI lf), .int (nI sn), .int (nI pv)]) :: (akn, zIn g 1500 (nN (upN kn k0 n0))) :: (aks, zIn g 1500 (nN (upN ks k0 s0))) :: (akp, zIn g 1500 (nN (upN kp k0 p0))) :: (akk, zIn g 1500 (nN (upN kk k0 q0))) :: (ans, zIn g 600 (nN (upN nsz ne ts))) :: (anu, zIn g 600 (nN num)) :: (asa, zIn g 600 (nN sta)) :: (apl, zIn g 600 (nN pla)) :: (akd, zIn g 600 (nN kin)) :: (anm, zBy g 153600 (wr nmb (256 * ne) (zl tb 0 k))) :: T) H → va_D (zA g) ((o, zo 11 [.int (nI 0), .ref ta, .int (nI ne), .ref ans, .ref anm, .ref anu, .ref asa, .ref apl, .ref akd, .int (nI nk), .ref akn, .ref aks, .ref akp, .ref akk, .int (nI bg), .int (nI sz), .int (nI hd), .ref alg, .int (nI ni), .ref aip, .ref aix, .ref aiz, .ref aim, .ref aod, .int (nI av), .int (nI hv), .int (nI lf), .int (nI sn), .int (nI pv)]) :: (akn, zIn g 1500 (nN (upN kn k0 n0))) :: (aks, zIn g 1500 (nN (upN ks k0 s0))) :: (akp, zIn g 1500 (nN (upN kp k0 p0))) :: (akk, zIn g 1500 (nN (upN kk k0 q0))) :: (ans, zIn g 600 (nN (upN nsz ne ts))) :: (anu, zIn g 600 (nN num)) :: (asa, zIn g 600 (nN sta)) :: (apl, zIn g 600 (nN pla)) :: (akd, zIn g 600 (nN kin)) :: (anm, zBy g 153600 (wr nmb (256 * ne) (zl tb 0 k))) :: T) → va_S (zA g) s.heap H locs → ∀ ls : Array Slot, lv_has ls 9 [(0, .ref o), (1, .int (nI n0)), (2, .int (nI s0)), (3, .int (nI p0)), (4, .int (nI q0)), (5, .int (nI ts)), (8, .int (nI k))] → W p l e (zR 3 68 0 0) s m [.ref o, .int (nI n0), .int (nI s0), .int (nI p0), .int (nI q0)].toArray below meth c H locs 0 0 (MQ below (zQi g (fun r w => r = nI (ne + 1) ∧ w = (o, zo 11 [.int (nI 0), .ref ta, .int (nI (ne + 1)), .ref ans, .ref anm, .ref anu, .ref asa, .ref apl, .ref akd, .int (nI nk), .ref akn, .ref aks, .ref akp, .ref akk, .int (nI bg), .int (nI sz), .int (nI hd), .ref alg, .int (nI ni), .ref aip, .ref aix, .ref aiz, .ref aim, .ref aod, .int (nI av), .int (nI hv), .int (nI lf), .int (nI sn), .int (nI pv)]) :: (akn, zIn g 1500 (nN (upN kn k0 n0))) :: (aks, zIn g 1500 (nN (upN ks k0 s0))) :: (akp, zIn g 1500 (nN (upN kp k0 p0))) :: (akk, zIn g 1500 (nN (upN kk k0 q0))) :: (ans, zIn g 600 (nN (upN nsz ne ts))) :: (anu, zIn g 600 (nN (upN num ne n0))) :: (asa, zIn g 600 (nN (upN sta ne s0))) :: (apl, zIn g 600 (nN (upN pla ne p0))) :: (akd, zIn g 600 (nN (upN kin ne q0))) :: (anm, zBy g 153600 (wr nmb (256 * ne) (zl tb 0 ts))) :: T)) [.ref o, .int (nI n0), .int (nI s0), .int (nI p0), .int (nI q0)].toArray s 0 0 (zA g)) (F0 m 207 ls []) := by
    intro nu
    induction nu with
    | zero => intros; omega
    | succ nu ih =>
      intro k g1 hmu H locs hP hD hS ls hl
      refine lv_iload hx hb d_Mod_add_207 (lv_at hl 6 rfl) ?_
      refine lv_iload hx hb d_Mod_add_209 (lv_at hl 5 rfl) ?_
      refine lv_icmp_ge (tgt := 244) hx hb d_Mod_add_211 (by decide) (fun c_211 => ?_) (fun c_211 => ?_)
      · skip
        have c_211 : ts ≤ k := (nI_leI (a := ts) (b := k) (by omega) (by omega)).mp c_211
        refine lv_aload_n hx hb d_Mod_add_244 rfl (lv_at hl 0 rfl) ?_
        refine z_get C hP List.mem_cons_self q_Mod 5 (by decide) k_733 (fun _ h9 => h9) rfl d_Mod_add_245 ?_
        refine lv_aload_n hx hb d_Mod_add_248 rfl (lv_at hl 0 rfl) ?_
        refine z_get C hP List.mem_cons_self q_Mod 2 (by decide) k_730 (fun _ h9 => h9) rfl d_Mod_add_249 ?_
        refine lv_iload_n hx hb d_Mod_add_252 rfl (lv_at hl 1 rfl) ?_
        refine z_iast C hP hD hS 6 rfl ne (by omega) (by omega) d_Mod_add_253 (ws' := (o, zo 11 [.int (nI 0), .ref ta, .int (nI ne), .ref ans, .ref anm, .ref anu, .ref asa, .ref apl, .ref akd, .int (nI nk), .ref akn, .ref aks, .ref akp, .ref akk, .int (nI bg), .int (nI sz), .int (nI hd), .ref alg, .int (nI ni), .ref aip, .ref aix, .ref aiz, .ref aim, .ref aod, .int (nI av), .int (nI hv), .int (nI lf), .int (nI sn), .int (nI pv)]) :: (akn, zIn g 1500 (nN (upN kn k0 n0))) :: (aks, zIn g 1500 (nN (upN ks k0 s0))) :: (akp, zIn g 1500 (nN (upN kp k0 p0))) :: (akk, zIn g 1500 (nN (upN kk k0 q0))) :: (ans, zIn g 600 (nN (upN nsz ne ts))) :: (anu, zIn g 600 (upd (nN num) ne (nI n0))) :: (asa, zIn g 600 (nN sta)) :: (apl, zIn g 600 (nN pla)) :: (akd, zIn g 600 (nN kin)) :: (anm, zBy g 153600 (wr nmb (256 * ne) (zl tb 0 k))) :: T) rfl (fun H locs hP hD hS => ?_)
        rw [upd_nN] at hP hD
        refine lv_aload_n hx hb d_Mod_add_254 rfl (lv_at hl 0 rfl) ?_
        refine z_get C hP List.mem_cons_self q_Mod 6 (by decide) k_734 (fun _ h9 => h9) rfl d_Mod_add_255 ?_
        refine lv_aload_n hx hb d_Mod_add_258 rfl (lv_at hl 0 rfl) ?_
        refine z_get C hP List.mem_cons_self q_Mod 2 (by decide) k_730 (fun _ h9 => h9) rfl d_Mod_add_259 ?_
        refine lv_iload_n hx hb d_Mod_add_262 rfl (lv_at hl 2 rfl) ?_
        refine z_iast C hP hD hS 7 rfl ne (by omega) (by omega) d_Mod_add_263 (ws' := (o, zo 11 [.int (nI 0), .ref ta, .int (nI ne), .ref ans, .ref anm, .ref anu, .ref asa, .ref apl, .ref akd, .int (nI nk), .ref akn, .ref aks, .ref akp, .ref akk, .int (nI bg), .int (nI sz), .int (nI hd), .ref alg, .int (nI ni), .ref aip, .ref aix, .ref aiz, .ref aim, .ref aod, .int (nI av), .int (nI hv), .int (nI lf), .int (nI sn), .int (nI pv)]) :: (akn, zIn g 1500 (nN (upN kn k0 n0))) :: (aks, zIn g 1500 (nN (upN ks k0 s0))) :: (akp, zIn g 1500 (nN (upN kp k0 p0))) :: (akk, zIn g 1500 (nN (upN kk k0 q0))) :: (ans, zIn g 600 (nN (upN nsz ne ts))) :: (anu, zIn g 600 (nN (upN num ne n0))) :: (asa, zIn g 600 (upd (nN sta) ne (nI s0))) :: (apl, zIn g 600 (nN pla)) :: (akd, zIn g 600 (nN kin)) :: (anm, zBy g 153600 (wr nmb (256 * ne) (zl tb 0 k))) :: T) rfl (fun H locs hP hD hS => ?_)
        rw [upd_nN] at hP hD
        refine lv_aload_n hx hb d_Mod_add_264 rfl (lv_at hl 0 rfl) ?_
        refine z_get C hP List.mem_cons_self q_Mod 7 (by decide) k_735 (fun _ h9 => h9) rfl d_Mod_add_265 ?_
        refine lv_aload_n hx hb d_Mod_add_268 rfl (lv_at hl 0 rfl) ?_
        refine z_get C hP List.mem_cons_self q_Mod 2 (by decide) k_730 (fun _ h9 => h9) rfl d_Mod_add_269 ?_
        refine lv_iload_n hx hb d_Mod_add_272 rfl (lv_at hl 3 rfl) ?_
        refine z_iast C hP hD hS 8 rfl ne (by omega) (by omega) d_Mod_add_273 (ws' := (o, zo 11 [.int (nI 0), .ref ta, .int (nI ne), .ref ans, .ref anm, .ref anu, .ref asa, .ref apl, .ref akd, .int (nI nk), .ref akn, .ref aks, .ref akp, .ref akk, .int (nI bg), .int (nI sz), .int (nI hd), .ref alg, .int (nI ni), .ref aip, .ref aix, .ref aiz, .ref aim, .ref aod, .int (nI av), .int (nI hv), .int (nI lf), .int (nI sn), .int (nI pv)]) :: (akn, zIn g 1500 (nN (upN kn k0 n0))) :: (aks, zIn g 1500 (nN (upN ks k0 s0))) :: (akp, zIn g 1500 (nN (upN kp k0 p0))) :: (akk, zIn g 1500 (nN (upN kk k0 q0))) :: (ans, zIn g 600 (nN (upN nsz ne ts))) :: (anu, zIn g 600 (nN (upN num ne n0))) :: (asa, zIn g 600 (nN (upN sta ne s0))) :: (apl, zIn g 600 (upd (nN pla) ne (nI p0))) :: (akd, zIn g 600 (nN kin)) :: (anm, zBy g 153600 (wr nmb (256 * ne) (zl tb 0 k))) :: T) rfl (fun H locs hP hD hS => ?_)
        rw [upd_nN] at hP hD
        refine lv_aload_n hx hb d_Mod_add_274 rfl (lv_at hl 0 rfl) ?_
        refine z_get C hP List.mem_cons_self q_Mod 8 (by decide) k_736 (fun _ h9 => h9) rfl d_Mod_add_275 ?_
        refine lv_aload_n hx hb d_Mod_add_278 rfl (lv_at hl 0 rfl) ?_
        refine z_get C hP List.mem_cons_self q_Mod 2 (by decide) k_730 (fun _ h9 => h9) rfl d_Mod_add_279 ?_
        refine lv_iload hx hb d_Mod_add_282 (lv_at hl 4 rfl) ?_
        refine z_iast C hP hD hS 9 rfl ne (by omega) (by omega) d_Mod_add_284 (ws' := (o, zo 11 [.int (nI 0), .ref ta, .int (nI ne), .ref ans, .ref anm, .ref anu, .ref asa, .ref apl, .ref akd, .int (nI nk), .ref akn, .ref aks, .ref akp, .ref akk, .int (nI bg), .int (nI sz), .int (nI hd), .ref alg, .int (nI ni), .ref aip, .ref aix, .ref aiz, .ref aim, .ref aod, .int (nI av), .int (nI hv), .int (nI lf), .int (nI sn), .int (nI pv)]) :: (akn, zIn g 1500 (nN (upN kn k0 n0))) :: (aks, zIn g 1500 (nN (upN ks k0 s0))) :: (akp, zIn g 1500 (nN (upN kp k0 p0))) :: (akk, zIn g 1500 (nN (upN kk k0 q0))) :: (ans, zIn g 600 (nN (upN nsz ne ts))) :: (anu, zIn g 600 (nN (upN num ne n0))) :: (asa, zIn g 600 (nN (upN sta ne s0))) :: (apl, zIn g 600 (nN (upN pla ne p0))) :: (akd, zIn g 600 (upd (nN kin) ne (nI q0))) :: (anm, zBy g 153600 (wr nmb (256 * ne) (zl tb 0 k))) :: T) rfl (fun H locs hP hD hS => ?_)
        rw [upd_nN] at hP hD
        refine lv_aload_n hx hb d_Mod_add_285 rfl (lv_at hl 0 rfl) ?_
        refine lv_dup hx hb d_Mod_add_286 rfl ?_
        refine z_get C hP List.mem_cons_self q_Mod 2 (by decide) k_730 (fun _ h9 => h9) rfl d_Mod_add_287 ?_
        refine lv_iconst (v := nI 1) hx hb d_Mod_add_290 (by decide) ?_
        refine z_iadd (v := nI (ne + 1)) C d_Mod_add_291 (nI_add _ _) ?_
        refine z_put C hP hD hS 0 rfl q_Mod 2 (by decide) k_730 (fun _ h9 => h9) rfl rfl rfl (Nat.le_of_ble_eq_true rfl) d_Mod_add_292 (ws' := (o, zo 11 [.int (nI 0), .ref ta, .int (nI (ne + 1)), .ref ans, .ref anm, .ref anu, .ref asa, .ref apl, .ref akd, .int (nI nk), .ref akn, .ref aks, .ref akp, .ref akk, .int (nI bg), .int (nI sz), .int (nI hd), .ref alg, .int (nI ni), .ref aip, .ref aix, .ref aiz, .ref aim, .ref aod, .int (nI av), .int (nI hv), .int (nI lf), .int (nI sn), .int (nI pv)]) :: (akn, zIn g 1500 (nN (upN kn k0 n0))) :: (aks, zIn g 1500 (nN (upN ks k0 s0))) :: (akp, zIn g 1500 (nN (upN kp k0 p0))) :: (akk, zIn g 1500 (nN (upN kk k0 q0))) :: (ans, zIn g 600 (nN (upN nsz ne ts))) :: (anu, zIn g 600 (nN (upN num ne n0))) :: (asa, zIn g 600 (nN (upN sta ne s0))) :: (apl, zIn g 600 (nN (upN pla ne p0))) :: (akd, zIn g 600 (nN (upN kin ne q0))) :: (anm, zBy g 153600 (wr nmb (256 * ne) (zl tb 0 k))) :: T) rfl (fun H locs hP hD hS => ?_)
        refine lv_aload_n hx hb d_Mod_add_295 rfl (lv_at hl 0 rfl) ?_
        refine z_get C hP List.mem_cons_self q_Mod 2 (by decide) k_730 (fun _ h9 => h9) rfl d_Mod_add_296 ?_
        exact z_iret C hr hlk hP hD hS (by omega) (by omega) ⟨rfl, by rw [show k = ts by omega]⟩ d_Mod_add_299
      · skip
        have c_211 : ¬ ts ≤ k := fun q9 => c_211 ((nI_leI (a := ts) (b := k) (by omega) (by omega)).mpr q9)
        refine lv_aload_n hx hb d_Mod_add_214 rfl (lv_at hl 0 rfl) ?_
        refine z_get C hP List.mem_cons_self q_Mod 4 (by decide) k_732 (fun _ h9 => h9) rfl d_Mod_add_215 ?_
        refine lv_sipush (v := nI 256) hx hb d_Mod_add_218 (by decide) ?_
        refine lv_aload_n hx hb d_Mod_add_221 rfl (lv_at hl 0 rfl) ?_
        refine z_get C hP List.mem_cons_self q_Mod 2 (by decide) k_730 (fun _ h9 => h9) rfl d_Mod_add_222 ?_
        refine z_imul (v := nI (256 * ne)) C d_Mod_add_225 (pk_mul _ _) ?_
        refine lv_iload hx hb d_Mod_add_226 (lv_at hl 6 rfl) ?_
        refine z_iadd (v := nI ((256 * ne) + k)) C d_Mod_add_228 (nI_add _ _) ?_
        refine lv_aload_n hx hb d_Mod_add_229 rfl (lv_at hl 0 rfl) ?_
        refine z_get C hP List.mem_cons_self q_Mod 1 (by decide) k_729 (fun _ h9 => h9) rfl d_Mod_add_230 ?_
        refine lv_iload hx hb d_Mod_add_233 (lv_at hl 6 rfl) ?_
        refine z_iald C hP (List.mem_cons_of_mem _ (List.mem_cons_of_mem _ (List.mem_cons_of_mem _ (List.mem_cons_of_mem _ (List.mem_cons_of_mem _ (List.mem_cons_of_mem _ (List.mem_cons_of_mem _ (List.mem_cons_of_mem _ (List.mem_cons_of_mem _ (List.mem_cons_of_mem _ (List.mem_cons_of_mem _ hta))))))))))) k (by omega) (by omega) d_Mod_add_235 ?_
        refine z_topi (y := nI ((tb k).toNat)) rfl ?_
        refine lv_i2b (v := sb (zu (nI ((tb k).toNat)))) hx hb d_Mod_add_236 (sb_zu _).symm ?_
        refine z_bast C hP hD hS 10 rfl ((256 * ne) + k) (by omega) (by omega) d_Mod_add_237 (ws' := (o, zo 11 [.int (nI 0), .ref ta, .int (nI ne), .ref ans, .ref anm, .ref anu, .ref asa, .ref apl, .ref akd, .int (nI nk), .ref akn, .ref aks, .ref akp, .ref akk, .int (nI bg), .int (nI sz), .int (nI hd), .ref alg, .int (nI ni), .ref aip, .ref aix, .ref aiz, .ref aim, .ref aod, .int (nI av), .int (nI hv), .int (nI lf), .int (nI sn), .int (nI pv)]) :: (akn, zIn g 1500 (nN (upN kn k0 n0))) :: (aks, zIn g 1500 (nN (upN ks k0 s0))) :: (akp, zIn g 1500 (nN (upN kp k0 p0))) :: (akk, zIn g 1500 (nN (upN kk k0 q0))) :: (ans, zIn g 600 (nN (upN nsz ne ts))) :: (anu, zIn g 600 (nN num)) :: (asa, zIn g 600 (nN sta)) :: (apl, zIn g 600 (nN pla)) :: (akd, zIn g 600 (nN kin)) :: (anm, zBy g 153600 (uB (wr nmb (256 * ne) (zl tb 0 k)) ((256 * ne) + k) (zu (nI ((tb k).toNat))))) :: T) rfl (fun H locs hP hD hS => ?_)
        have e_b : (uB (wr nmb (256 * ne) (zl tb 0 k)) ((256 * ne) + k) (zu (nI ((tb k).toNat))) : Nat → UInt8) = wr nmb (256 * ne) (zl tb 0 (k + 1)) := zlw_s nmb tb _ _ k _ _ rfl (by rw [zu_u, Nat.zero_add])
        rw [e_b] at hP hD
        refine lv_iinc (v := nI (k + 1)) (lv' := [(8, .int (nI (k + 1))), (0, .ref o), (1, .int (nI n0)), (2, .int (nI s0)), (3, .int (nI p0)), (4, .int (nI q0)), (5, .int (nI ts))]) hx hb d_Mod_add_238 hl (k := 6) rfl (by rw [show Int32.ofInt 1 = nI 1 by decide]; exact nI_add _ _) (by decide) rfl (fun ls hl => ?_)
        refine lv_goto (tgt := 207) hx hb d_Mod_add_241 (by decide) ?_
        exact ih (k + 1) (by omega) (by omega) _ _ hP hD hS ls (lv_sub hl [1, 2, 3, 4, 5, 6, 0] rfl)
  refine lv_aload_n hx hb d_Mod_add_0 rfl (lv_at hl 0 rfl) ?_
  refine z_ki (z_runV (np := 0) C (c_Mod_use l g ((akn, zIn g 1500 (nN kn)) :: (aks, zIn g 1500 (nN ks)) :: (akp, zIn g 1500 (nN kp)) :: (akk, zIn g 1500 (nN kk)) :: (ans, zIn g 600 (nN nsz)) :: (anu, zIn g 600 (nN num)) :: (asa, zIn g 600 (nN sta)) :: (apl, zIn g 600 (nN pla)) :: (akd, zIn g 600 (nN kin)) :: (anm, zBy g 153600 nmb) :: T) o ts ta ne ans anm anu asa apl akd nk akn aks akp akk bg sz hd alg ni aip aix aiz aim aod av hv lf sn pv) hP hD hS List.mem_cons_self (show classes[11]? = some (R_Mod, F_Mod, 29) from rfl) k_829 k_12 k_826 k_828 ks_Mod_use ⟨by decide, by decide, by decide⟩ ⟨Nat.le_of_ble_eq_true rfl, Nat.le_of_ble_eq_true rfl⟩ rfl hl.1 rfl (Nat.le_of_ble_eq_true rfl) d_Mod_add_1 ⟨by show _ ≤ 0; omega, by show _ ≤ 0; omega⟩) hS (fun r_1 w H locs hw hP hD hS => ?_)
  obtain ⟨rfl, hw⟩ := hw
  rw [hw] at hP hD
  refine lv_istore (lv' := [(5, .int (nI ts)), (0, .ref o), (1, .int (nI n0)), (2, .int (nI s0)), (3, .int (nI p0)), (4, .int (nI q0))]) hx hb d_Mod_add_4 hl (by decide) rfl (fun ls hl => ?_)
  refine lv_iload_n hx hb d_Mod_add_6 rfl (lv_at hl 2 rfl) ?_
  refine lv_if_le (tgt := 53) hx hb d_Mod_add_7 (by decide) (fun c_7 => ?_) (fun c_7 => ?_)
  · skip
    have c_7 : n0 ≤ 0 := (nI_leI (a := n0) (b := 0) (by omega) (by decide)).mp c_7
    exact absurd c_7 (by omega)
  · skip
    have c_7 : ¬ n0 ≤ 0 := fun q9 => c_7 ((nI_leI (a := n0) (b := 0) (by omega) (by decide)).mpr q9)
    refine lv_iload_n hx hb d_Mod_add_10 rfl (lv_at hl 2 rfl) ?_
    refine lv_ldc (v := nI 100000) hx hb C.1.2.2.2.1 (C.ts k_830 rfl) d_Mod_add_11 ?_
    refine lv_icmp_gt (tgt := 53) hx hb d_Mod_add_13 (by decide) (fun c_13 => ?_) (fun c_13 => ?_)
    · skip
      have c_13 : 100000 < n0 := (nI_ltI (a := 100000) (b := n0) (by decide) (by omega)).mp c_13
      exact absurd c_13 (by omega)
    · skip
      have c_13 : ¬ 100000 < n0 := fun q9 => c_13 ((nI_ltI (a := 100000) (b := n0) (by decide) (by omega)).mpr q9)
      refine lv_iload_n hx hb d_Mod_add_16 rfl (lv_at hl 3 rfl) ?_
      refine lv_if_lt (tgt := 53) hx hb d_Mod_add_17 (by decide) (fun c_17 => ?_) (fun c_17 => ?_)
      · skip
        have c_17 : s0 < 0 := (nI_ltI (a := s0) (b := 0) (by omega) (by decide)).mp c_17
        exact absurd c_17 (by omega)
      · skip
        have c_17 : ¬ s0 < 0 := fun q9 => c_17 ((nI_ltI (a := s0) (b := 0) (by omega) (by decide)).mpr q9)
        refine lv_iload_n hx hb d_Mod_add_20 rfl (lv_at hl 3 rfl) ?_
        refine lv_ldc (v := nI 65536) hx hb C.1.2.2.2.1 (C.ts k_727 rfl) d_Mod_add_21 ?_
        refine lv_icmp_ge (tgt := 53) hx hb d_Mod_add_23 (by decide) (fun c_23 => ?_) (fun c_23 => ?_)
        · skip
          have c_23 : 65536 ≤ s0 := (nI_leI (a := 65536) (b := s0) (by decide) (by omega)).mp c_23
          exact absurd c_23 (by omega)
        · skip
          have c_23 : ¬ 65536 ≤ s0 := fun q9 => c_23 ((nI_leI (a := 65536) (b := s0) (by decide) (by omega)).mpr q9)
          refine lv_iload_n hx hb d_Mod_add_26 rfl (lv_at hl 4 rfl) ?_
          refine lv_if_lt (tgt := 53) hx hb d_Mod_add_27 (by decide) (fun c_27 => ?_) (fun c_27 => ?_)
          · skip
            have c_27 : p0 < 0 := (nI_ltI (a := p0) (b := 0) (by omega) (by decide)).mp c_27
            exact absurd c_27 (by omega)
          · skip
            have c_27 : ¬ p0 < 0 := fun q9 => c_27 ((nI_ltI (a := p0) (b := 0) (by omega) (by decide)).mpr q9)
            refine lv_iload_n hx hb d_Mod_add_30 rfl (lv_at hl 4 rfl) ?_
            refine lv_sipush (v := nI 8192) hx hb d_Mod_add_31 (by decide) ?_
            refine lv_icmp_ge (tgt := 53) hx hb d_Mod_add_34 (by decide) (fun c_34 => ?_) (fun c_34 => ?_)
            · skip
              have c_34 : 8192 ≤ p0 := (nI_leI (a := 8192) (b := p0) (by decide) (by omega)).mp c_34
              exact absurd c_34 (by omega)
            · skip
              have c_34 : ¬ 8192 ≤ p0 := fun q9 => c_34 ((nI_leI (a := 8192) (b := p0) (by decide) (by omega)).mpr q9)
              refine lv_iload hx hb d_Mod_add_37 (lv_at hl 5 rfl) ?_
              refine lv_if_le (tgt := 53) hx hb d_Mod_add_39 (by decide) (fun c_39 => ?_) (fun c_39 => ?_)
              · skip
                have c_39 : q0 ≤ 0 := (nI_leI (a := q0) (b := 0) (by omega) (by decide)).mp c_39
                exact absurd c_39 (by omega)
              · skip
                have c_39 : ¬ q0 ≤ 0 := fun q9 => c_39 ((nI_leI (a := q0) (b := 0) (by omega) (by decide)).mpr q9)
                refine lv_iload hx hb d_Mod_add_42 (lv_at hl 5 rfl) ?_
                refine lv_bipush (v := nI 8) hx hb d_Mod_add_44 (by decide) ?_
                refine lv_icmp_ge (tgt := 53) hx hb d_Mod_add_46 (by decide) (fun c_46 => ?_) (fun c_46 => ?_)
                · skip
                  have c_46 : 8 ≤ q0 := (nI_leI (a := 8) (b := q0) (by decide) (by omega)).mp c_46
                  exact absurd c_46 (by omega)
                · skip
                  have c_46 : ¬ 8 ≤ q0 := fun q9 => c_46 ((nI_leI (a := 8) (b := q0) (by decide) (by omega)).mpr q9)
                  refine lv_iconst (v := nI 1) hx hb d_Mod_add_49 (by decide) ?_
                  refine lv_goto (tgt := 54) hx hb d_Mod_add_50 (by decide) ?_
                  refine lv_istore (lv' := [(6, .int (nI 1)), (5, .int (nI ts)), (0, .ref o), (1, .int (nI n0)), (2, .int (nI s0)), (3, .int (nI p0)), (4, .int (nI q0))]) hx hb d_Mod_add_54 hl (by decide) rfl (fun ls hl => ?_)
                  refine lv_iload hx hb d_Mod_add_56 (lv_at hl 0 rfl) ?_
                  refine lv_if_eq (tgt := 70) hx hb d_Mod_add_58 (by decide) (fun c_58 => ?_) (fun c_58 => ?_)
                  · skip
                    have c_58 : 1 = 0 := (nI_eq (a := 1) (b := 0) (by decide) (by decide)).mp c_58
                    exact absurd c_58 (by omega)
                  · skip
                    have c_58 : ¬ 1 = 0 := fun q9 => c_58 ((nI_eq (a := 1) (b := 0) (by decide) (by decide)).mpr q9)
                    refine lv_aload_n hx hb d_Mod_add_61 rfl (lv_at hl 2 rfl) ?_
                    refine lv_iload hx hb d_Mod_add_62 (lv_at hl 1 rfl) ?_
                    refine z_ki (z_runV (np := 1) C (c_Mod_isName l g ((o, zo 11 [.int (nI 0), .ref ta, .int (nI ne), .ref ans, .ref anm, .ref anu, .ref asa, .ref apl, .ref akd, .int (nI nk), .ref akn, .ref aks, .ref akp, .ref akk, .int (nI bg), .int (nI sz), .int (nI hd), .ref alg, .int (nI ni), .ref aip, .ref aix, .ref aiz, .ref aim, .ref aod, .int (nI av), .int (nI hv), .int (nI lf), .int (nI sn), .int (nI pv)]) :: (akn, zIn g 1500 (nN kn)) :: (aks, zIn g 1500 (nN ks)) :: (akp, zIn g 1500 (nN kp)) :: (akk, zIn g 1500 (nN kk)) :: (ans, zIn g 600 (nN nsz)) :: (anu, zIn g 600 (nN num)) :: (asa, zIn g 600 (nN sta)) :: (apl, zIn g 600 (nN pla)) :: (akd, zIn g 600 (nN kin)) :: (anm, zBy g 153600 nmb) :: T) o 0 ta ne ans anm anu asa apl akd nk akn aks akp akk bg sz hd alg ni aip aix aiz aim aod av hv lf sn pv List.mem_cons_self tb (List.mem_cons_of_mem _ (List.mem_cons_of_mem _ (List.mem_cons_of_mem _ (List.mem_cons_of_mem _ (List.mem_cons_of_mem _ (List.mem_cons_of_mem _ (List.mem_cons_of_mem _ (List.mem_cons_of_mem _ (List.mem_cons_of_mem _ (List.mem_cons_of_mem _ (List.mem_cons_of_mem _ hta))))))))))) ts v1) hP hD hS List.mem_cons_self (show classes[11]? = some (R_Mod, F_Mod, 29) from rfl) k_834 k_12 k_831 k_833 ks_Mod_isName ⟨by decide, by decide, by decide⟩ ⟨Nat.le_of_ble_eq_true rfl, Nat.le_of_ble_eq_true rfl⟩ rfl hl.1 rfl (Nat.le_of_ble_eq_true rfl) d_Mod_add_64 ⟨by show _ ≤ 0; omega, by show _ ≤ 0; omega⟩) hS (fun r_64 w H locs hw hP hD hS => ?_)
                    obtain ⟨hr8, hw⟩ := hw
                    rw [hw] at hP hD
                    rw [hn9] at hr8
                    subst hr8
                    refine lv_if_ne (tgt := 72) hx hb d_Mod_add_67 (by decide) (fun c_67 => ?_) (fun c_67 => ?_)
                    · skip
                      have c_67 : ¬ 1 = 0 := fun q9 => c_67 ((nI_eq (a := 1) (b := 0) (by decide) (by decide)).mpr q9)
                      refine lv_aload_n hx hb d_Mod_add_72 rfl (lv_at hl 2 rfl) ?_
                      refine lv_iload hx hb d_Mod_add_73 (lv_at hl 1 rfl) ?_
                      refine z_ki (z_runV (np := 1) C (c_Mod_entryOfTape l g ((o, zo 11 [.int (nI 0), .ref ta, .int (nI ne), .ref ans, .ref anm, .ref anu, .ref asa, .ref apl, .ref akd, .int (nI nk), .ref akn, .ref aks, .ref akp, .ref akk, .int (nI bg), .int (nI sz), .int (nI hd), .ref alg, .int (nI ni), .ref aip, .ref aix, .ref aiz, .ref aim, .ref aod, .int (nI av), .int (nI hv), .int (nI lf), .int (nI sn), .int (nI pv)]) :: (akn, zIn g 1500 (nN kn)) :: (aks, zIn g 1500 (nN ks)) :: (akp, zIn g 1500 (nN kp)) :: (akk, zIn g 1500 (nN kk)) :: (ans, zIn g 600 (nN nsz)) :: (anu, zIn g 600 (nN num)) :: (asa, zIn g 600 (nN sta)) :: (apl, zIn g 600 (nN pla)) :: (akd, zIn g 600 (nN kin)) :: (anm, zBy g 153600 nmb) :: T) o 0 ta ne ans anm anu asa apl akd nk akn aks akp akk bg sz hd alg ni aip aix aiz aim aod av hv lf sn pv List.mem_cons_self tb (List.mem_cons_of_mem _ (List.mem_cons_of_mem _ (List.mem_cons_of_mem _ (List.mem_cons_of_mem _ (List.mem_cons_of_mem _ (List.mem_cons_of_mem _ (List.mem_cons_of_mem _ (List.mem_cons_of_mem _ (List.mem_cons_of_mem _ (List.mem_cons_of_mem _ (List.mem_cons_of_mem _ hta))))))))))) nsz (List.mem_cons_of_mem _ (List.mem_cons_of_mem _ (List.mem_cons_of_mem _ (List.mem_cons_of_mem _ (List.mem_cons_of_mem _ List.mem_cons_self))))) nmb (List.mem_cons_of_mem _ (List.mem_cons_of_mem _ (List.mem_cons_of_mem _ (List.mem_cons_of_mem _ (List.mem_cons_of_mem _ (List.mem_cons_of_mem _ (List.mem_cons_of_mem _ (List.mem_cons_of_mem _ (List.mem_cons_of_mem _ (List.mem_cons_of_mem _ List.mem_cons_self)))))))))) ts v1 (by omega) v3) hP hD hS List.mem_cons_self (show classes[11]? = some (R_Mod, F_Mod, 29) from rfl) k_838 k_12 k_835 k_837 ks_Mod_entryOfTape ⟨by decide, by decide, by decide⟩ ⟨Nat.le_of_ble_eq_true rfl, Nat.le_of_ble_eq_true rfl⟩ rfl hl.1 rfl (Nat.le_of_ble_eq_true rfl) d_Mod_add_75 ⟨by show _ ≤ 0; omega, by show _ ≤ 0; omega⟩) hS (fun r_75 w H locs hw hP hD hS => ?_)
                      obtain ⟨hr7, hw⟩ := hw
                      rw [hw] at hP hD
                      rw [hlt] at hr7
                      subst hr7
                      refine lv_if_lt (tgt := 84) hx hb d_Mod_add_78 (by decide) (fun c_78 => ?_) (fun c_78 => ?_)
                      · skip
                        refine lv_aload_n hx hb d_Mod_add_84 rfl (lv_at hl 2 rfl) ?_
                        refine lv_iload_n hx hb d_Mod_add_85 rfl (lv_at hl 3 rfl) ?_
                        refine lv_i2l (v := lI (n0 : Int)) hx hb d_Mod_add_86 (by rw [nI_l (by omega), lN_lI]) ?_
                        refine z_ki (z_runV (np := 1) C (c_Mod_knownAt l g ((o, zo 11 [.int (nI 0), .ref ta, .int (nI ne), .ref ans, .ref anm, .ref anu, .ref asa, .ref apl, .ref akd, .int (nI nk), .ref akn, .ref aks, .ref akp, .ref akk, .int (nI bg), .int (nI sz), .int (nI hd), .ref alg, .int (nI ni), .ref aip, .ref aix, .ref aiz, .ref aim, .ref aod, .int (nI av), .int (nI hv), .int (nI lf), .int (nI sn), .int (nI pv)]) :: (akn, zIn g 1500 (nN kn)) :: (aks, zIn g 1500 (nN ks)) :: (akp, zIn g 1500 (nN kp)) :: (akk, zIn g 1500 (nN kk)) :: (ans, zIn g 600 (nN nsz)) :: (anu, zIn g 600 (nN num)) :: (asa, zIn g 600 (nN sta)) :: (apl, zIn g 600 (nN pla)) :: (akd, zIn g 600 (nN kin)) :: (anm, zBy g 153600 nmb) :: T) o 0 ta ne ans anm anu asa apl akd nk akn aks akp akk bg sz hd alg ni aip aix aiz aim aod av hv lf sn pv List.mem_cons_self kn (List.mem_cons_of_mem _ List.mem_cons_self) (n0 : Int) (by omega) v7 (by omega) (by omega)) hP hD hS List.mem_cons_self (show classes[11]? = some (R_Mod, F_Mod, 29) from rfl) k_850 k_12 k_847 k_849 ks_Mod_knownAt ⟨by decide, by decide, by decide⟩ ⟨Nat.le_of_ble_eq_true rfl, Nat.le_of_ble_eq_true rfl⟩ rfl hl.1 rfl (Nat.le_of_ble_eq_true rfl) d_Mod_add_87 ⟨by show _ ≤ 0; omega, by show _ ≤ 0; omega⟩) hS (fun r_87 w H locs hw hP hD hS => ?_)
                        obtain ⟨hr6, hw⟩ := hw
                        rw [hw] at hP hD
                        rw [hk] at hr6
                        rw [← nI_iI] at hr6
                        subst hr6
                        refine lv_istore (lv' := [(7, .int (nI k0)), (6, .int (nI 1)), (5, .int (nI ts)), (0, .ref o), (1, .int (nI n0)), (2, .int (nI s0)), (3, .int (nI p0)), (4, .int (nI q0))]) hx hb d_Mod_add_90 hl (by decide) rfl (fun ls hl => ?_)
                        refine lv_aload_n hx hb d_Mod_add_92 rfl (lv_at hl 3 rfl) ?_
                        refine z_get C hP List.mem_cons_self q_Mod 2 (by decide) k_730 (fun _ h9 => h9) rfl d_Mod_add_93 ?_
                        refine lv_sipush (v := nI 600) hx hb d_Mod_add_96 (by decide) ?_
                        refine lv_icmp_eq (tgt := 117) hx hb d_Mod_add_99 (by decide) (fun c_99 => ?_) (fun c_99 => ?_)
                        · skip
                          have c_99 : ne = 600 := (nI_eq (a := ne) (b := 600) (by omega) (by decide)).mp c_99
                          exact absurd c_99 (by omega)
                        · skip
                          have c_99 : ¬ ne = 600 := fun q9 => c_99 ((nI_eq (a := ne) (b := 600) (by omega) (by decide)).mpr q9)
                          refine lv_iload hx hb d_Mod_add_102 (lv_at hl 0 rfl) ?_
                          refine lv_if_ge (tgt := 120) hx hb d_Mod_add_104 (by decide) (fun c_104 => ?_) (fun c_104 => ?_)
                          · skip
                            have c_104 : 0 ≤ k0 := (nI_leI (a := 0) (b := k0) (by decide) (by omega)).mp c_104
                            refine lv_aload_n hx hb d_Mod_add_120 rfl (lv_at hl 3 rfl) ?_
                            refine lv_iload hx hb d_Mod_add_121 (lv_at hl 0 rfl) ?_
                            refine lv_if_ge (tgt := 135) hx hb d_Mod_add_123 (by decide) (fun c_123 => ?_) (fun c_123 => ?_)
                            · skip
                              have c_123 : 0 ≤ k0 := (nI_leI (a := 0) (b := k0) (by decide) (by omega)).mp c_123
                              refine lv_aload_n hx hb d_Mod_add_135 rfl (lv_at hl 3 rfl) ?_
                              refine z_get C hP List.mem_cons_self q_Mod 9 (by decide) k_737 (fun _ h9 => h9) rfl d_Mod_add_136 ?_
                              refine z_put C hP hD hS 0 rfl q_Mod 9 (by decide) k_737 (fun _ h9 => h9) rfl rfl rfl (Nat.le_of_ble_eq_true rfl) d_Mod_add_139 (ws' := (o, zo 11 [.int (nI 0), .ref ta, .int (nI ne), .ref ans, .ref anm, .ref anu, .ref asa, .ref apl, .ref akd, .int (nI nk), .ref akn, .ref aks, .ref akp, .ref akk, .int (nI bg), .int (nI sz), .int (nI hd), .ref alg, .int (nI ni), .ref aip, .ref aix, .ref aiz, .ref aim, .ref aod, .int (nI av), .int (nI hv), .int (nI lf), .int (nI sn), .int (nI pv)]) :: (akn, zIn g 1500 (nN kn)) :: (aks, zIn g 1500 (nN ks)) :: (akp, zIn g 1500 (nN kp)) :: (akk, zIn g 1500 (nN kk)) :: (ans, zIn g 600 (nN nsz)) :: (anu, zIn g 600 (nN num)) :: (asa, zIn g 600 (nN sta)) :: (apl, zIn g 600 (nN pla)) :: (akd, zIn g 600 (nN kin)) :: (anm, zBy g 153600 nmb) :: T) rfl (fun H locs hP hD hS => ?_)
                              refine lv_iload hx hb d_Mod_add_142 (lv_at hl 0 rfl) ?_
                              refine lv_if_ge (tgt := 156) hx hb d_Mod_add_144 (by decide) (fun c_144 => ?_) (fun c_144 => ?_)
                              · skip
                                have c_144 : 0 ≤ k0 := (nI_leI (a := 0) (b := k0) (by decide) (by omega)).mp c_144
                                refine lv_iload hx hb d_Mod_add_156 (lv_at hl 0 rfl) ?_
                                refine lv_istore (lv' := [(7, .int (nI k0)), (6, .int (nI 1)), (5, .int (nI ts)), (0, .ref o), (1, .int (nI n0)), (2, .int (nI s0)), (3, .int (nI p0)), (4, .int (nI q0))]) hx hb d_Mod_add_158 hl (by decide) rfl (fun ls hl => ?_)
                                refine lv_aload_n hx hb d_Mod_add_160 rfl (lv_at hl 3 rfl) ?_
                                refine z_get C hP List.mem_cons_self q_Mod 10 (by decide) k_738 (fun _ h9 => h9) rfl d_Mod_add_161 ?_
                                refine lv_iload hx hb d_Mod_add_164 (lv_at hl 0 rfl) ?_
                                refine lv_iload_n hx hb d_Mod_add_166 rfl (lv_at hl 4 rfl) ?_
                                refine z_iast C hP hD hS 1 rfl k0 (by omega) (by omega) d_Mod_add_167 (ws' := (o, zo 11 [.int (nI 0), .ref ta, .int (nI ne), .ref ans, .ref anm, .ref anu, .ref asa, .ref apl, .ref akd, .int (nI nk), .ref akn, .ref aks, .ref akp, .ref akk, .int (nI bg), .int (nI sz), .int (nI hd), .ref alg, .int (nI ni), .ref aip, .ref aix, .ref aiz, .ref aim, .ref aod, .int (nI av), .int (nI hv), .int (nI lf), .int (nI sn), .int (nI pv)]) :: (akn, zIn g 1500 (upd (nN kn) k0 (nI n0))) :: (aks, zIn g 1500 (nN ks)) :: (akp, zIn g 1500 (nN kp)) :: (akk, zIn g 1500 (nN kk)) :: (ans, zIn g 600 (nN nsz)) :: (anu, zIn g 600 (nN num)) :: (asa, zIn g 600 (nN sta)) :: (apl, zIn g 600 (nN pla)) :: (akd, zIn g 600 (nN kin)) :: (anm, zBy g 153600 nmb) :: T) rfl (fun H locs hP hD hS => ?_)
                                rw [upd_nN] at hP hD
                                refine lv_aload_n hx hb d_Mod_add_168 rfl (lv_at hl 3 rfl) ?_
                                refine z_get C hP List.mem_cons_self q_Mod 11 (by decide) k_739 (fun _ h9 => h9) rfl d_Mod_add_169 ?_
                                refine lv_iload hx hb d_Mod_add_172 (lv_at hl 0 rfl) ?_
                                refine lv_iload_n hx hb d_Mod_add_174 rfl (lv_at hl 5 rfl) ?_
                                refine z_iast C hP hD hS 2 rfl k0 (by omega) (by omega) d_Mod_add_175 (ws' := (o, zo 11 [.int (nI 0), .ref ta, .int (nI ne), .ref ans, .ref anm, .ref anu, .ref asa, .ref apl, .ref akd, .int (nI nk), .ref akn, .ref aks, .ref akp, .ref akk, .int (nI bg), .int (nI sz), .int (nI hd), .ref alg, .int (nI ni), .ref aip, .ref aix, .ref aiz, .ref aim, .ref aod, .int (nI av), .int (nI hv), .int (nI lf), .int (nI sn), .int (nI pv)]) :: (akn, zIn g 1500 (nN (upN kn k0 n0))) :: (aks, zIn g 1500 (upd (nN ks) k0 (nI s0))) :: (akp, zIn g 1500 (nN kp)) :: (akk, zIn g 1500 (nN kk)) :: (ans, zIn g 600 (nN nsz)) :: (anu, zIn g 600 (nN num)) :: (asa, zIn g 600 (nN sta)) :: (apl, zIn g 600 (nN pla)) :: (akd, zIn g 600 (nN kin)) :: (anm, zBy g 153600 nmb) :: T) rfl (fun H locs hP hD hS => ?_)
                                rw [upd_nN] at hP hD
                                refine lv_aload_n hx hb d_Mod_add_176 rfl (lv_at hl 3 rfl) ?_
                                refine z_get C hP List.mem_cons_self q_Mod 12 (by decide) k_740 (fun _ h9 => h9) rfl d_Mod_add_177 ?_
                                refine lv_iload hx hb d_Mod_add_180 (lv_at hl 0 rfl) ?_
                                refine lv_iload_n hx hb d_Mod_add_182 rfl (lv_at hl 6 rfl) ?_
                                refine z_iast C hP hD hS 3 rfl k0 (by omega) (by omega) d_Mod_add_183 (ws' := (o, zo 11 [.int (nI 0), .ref ta, .int (nI ne), .ref ans, .ref anm, .ref anu, .ref asa, .ref apl, .ref akd, .int (nI nk), .ref akn, .ref aks, .ref akp, .ref akk, .int (nI bg), .int (nI sz), .int (nI hd), .ref alg, .int (nI ni), .ref aip, .ref aix, .ref aiz, .ref aim, .ref aod, .int (nI av), .int (nI hv), .int (nI lf), .int (nI sn), .int (nI pv)]) :: (akn, zIn g 1500 (nN (upN kn k0 n0))) :: (aks, zIn g 1500 (nN (upN ks k0 s0))) :: (akp, zIn g 1500 (upd (nN kp) k0 (nI p0))) :: (akk, zIn g 1500 (nN kk)) :: (ans, zIn g 600 (nN nsz)) :: (anu, zIn g 600 (nN num)) :: (asa, zIn g 600 (nN sta)) :: (apl, zIn g 600 (nN pla)) :: (akd, zIn g 600 (nN kin)) :: (anm, zBy g 153600 nmb) :: T) rfl (fun H locs hP hD hS => ?_)
                                rw [upd_nN] at hP hD
                                refine lv_aload_n hx hb d_Mod_add_184 rfl (lv_at hl 3 rfl) ?_
                                refine z_get C hP List.mem_cons_self q_Mod 13 (by decide) k_741 (fun _ h9 => h9) rfl d_Mod_add_185 ?_
                                refine lv_iload hx hb d_Mod_add_188 (lv_at hl 0 rfl) ?_
                                refine lv_iload hx hb d_Mod_add_190 (lv_at hl 7 rfl) ?_
                                refine z_iast C hP hD hS 4 rfl k0 (by omega) (by omega) d_Mod_add_192 (ws' := (o, zo 11 [.int (nI 0), .ref ta, .int (nI ne), .ref ans, .ref anm, .ref anu, .ref asa, .ref apl, .ref akd, .int (nI nk), .ref akn, .ref aks, .ref akp, .ref akk, .int (nI bg), .int (nI sz), .int (nI hd), .ref alg, .int (nI ni), .ref aip, .ref aix, .ref aiz, .ref aim, .ref aod, .int (nI av), .int (nI hv), .int (nI lf), .int (nI sn), .int (nI pv)]) :: (akn, zIn g 1500 (nN (upN kn k0 n0))) :: (aks, zIn g 1500 (nN (upN ks k0 s0))) :: (akp, zIn g 1500 (nN (upN kp k0 p0))) :: (akk, zIn g 1500 (upd (nN kk) k0 (nI q0))) :: (ans, zIn g 600 (nN nsz)) :: (anu, zIn g 600 (nN num)) :: (asa, zIn g 600 (nN sta)) :: (apl, zIn g 600 (nN pla)) :: (akd, zIn g 600 (nN kin)) :: (anm, zBy g 153600 nmb) :: T) rfl (fun H locs hP hD hS => ?_)
                                rw [upd_nN] at hP hD
                                refine lv_aload_n hx hb d_Mod_add_193 rfl (lv_at hl 3 rfl) ?_
                                refine z_get C hP List.mem_cons_self q_Mod 3 (by decide) k_731 (fun _ h9 => h9) rfl d_Mod_add_194 ?_
                                refine lv_aload_n hx hb d_Mod_add_197 rfl (lv_at hl 3 rfl) ?_
                                refine z_get C hP List.mem_cons_self q_Mod 2 (by decide) k_730 (fun _ h9 => h9) rfl d_Mod_add_198 ?_
                                refine lv_iload hx hb d_Mod_add_201 (lv_at hl 2 rfl) ?_
                                refine z_iast C hP hD hS 5 rfl ne (by omega) (by omega) d_Mod_add_203 (ws' := (o, zo 11 [.int (nI 0), .ref ta, .int (nI ne), .ref ans, .ref anm, .ref anu, .ref asa, .ref apl, .ref akd, .int (nI nk), .ref akn, .ref aks, .ref akp, .ref akk, .int (nI bg), .int (nI sz), .int (nI hd), .ref alg, .int (nI ni), .ref aip, .ref aix, .ref aiz, .ref aim, .ref aod, .int (nI av), .int (nI hv), .int (nI lf), .int (nI sn), .int (nI pv)]) :: (akn, zIn g 1500 (nN (upN kn k0 n0))) :: (aks, zIn g 1500 (nN (upN ks k0 s0))) :: (akp, zIn g 1500 (nN (upN kp k0 p0))) :: (akk, zIn g 1500 (nN (upN kk k0 q0))) :: (ans, zIn g 600 (upd (nN nsz) ne (nI ts))) :: (anu, zIn g 600 (nN num)) :: (asa, zIn g 600 (nN sta)) :: (apl, zIn g 600 (nN pla)) :: (akd, zIn g 600 (nN kin)) :: (anm, zBy g 153600 nmb) :: T) rfl (fun H locs hP hD hS => ?_)
                                rw [upd_nN] at hP hD
                                refine lv_iconst (v := nI 0) hx hb d_Mod_add_204 (by decide) ?_
                                refine lv_istore (lv' := [(8, .int (nI 0)), (7, .int (nI k0)), (6, .int (nI 1)), (5, .int (nI ts)), (0, .ref o), (1, .int (nI n0)), (2, .int (nI s0)), (3, .int (nI p0)), (4, .int (nI q0))]) hx hb d_Mod_add_205 hl (by decide) rfl (fun ls hl => ?_)
                                have e_w : zBy g 153600 nmb = zBy g 153600 (wr nmb (256 * ne) (zl tb 0 0)) := by rw [zl_0, wr_0]
                                rw [e_w] at hP hD
                                exact L_207 _ 0 (Nat.zero_le _) (Nat.lt_succ_self _) _ _ hP hD hS ls (lv_sub hl [4, 5, 6, 7, 8, 3, 0] rfl)
                              · skip
                                have c_144 : ¬ 0 ≤ k0 := fun q9 => c_144 ((nI_leI (a := 0) (b := k0) (by decide) (by omega)).mpr q9)
                                exact absurd c_144 (by omega)
                            · skip
                              have c_123 : ¬ 0 ≤ k0 := fun q9 => c_123 ((nI_leI (a := 0) (b := k0) (by decide) (by omega)).mpr q9)
                              exact absurd c_123 (by omega)
                          · skip
                            have c_104 : ¬ 0 ≤ k0 := fun q9 => c_104 ((nI_leI (a := 0) (b := k0) (by decide) (by omega)).mpr q9)
                            exact absurd c_104 (by omega)
                      · skip
                        exact absurd c_78 (by decide)
                    · skip
                      have c_67 : 1 = 0 := (nI_eq (a := 1) (b := 0) (by decide) (by decide)).mp c_67
                      exact absurd c_67 (by omega)
