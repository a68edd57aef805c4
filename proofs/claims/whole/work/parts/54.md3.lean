set_option maxHeartbeats 4000000 in
set_option maxRecDepth 100000 in
theorem c_Mod_isIndexRight (l : Launch) (g : zT) (T : va_W) (o ts ta ne ans anm anu asa apl akd nk akn aks akp akk bg sz hd alg ni aip aix aiz aim aod av hv lf sn pv : Nat) (f : Nat → UInt8) (hlg : (alg, zBy g 65536 f) ∈ T) (ipl ist : Nat → Int32) (isz : Nat → Nat) (inm : Nat → UInt8) (hip : (aip, zIn g 16 ipl) ∈ T) (hix : (aix, zIn g 16 ist) ∈ T) (hiz : (aiz, zIn g 16 (nN isz)) ∈ T) (him : (aim, zIn g 4096 (nB inm)) ∈ T) (i0 : Nat) (v4 : i0 < ni) (v2 : sz ≤ 65536) (x1 : ni ≤ 12) (x2 : ∀ j, j < ni → isz j ≤ 256) (x3 : bg ≤ 40000)  : Met l y_Mod_isIndexRight (zw y_Mod_isIndexRight b_Mod_isIndexRight 4 (some .boolean)) (zR 3 64 0 0) (zP g [.ref o, .int (nI i0)] ((o, zo 11 [.int (nI ts), .ref ta, .int (nI ne), .ref ans, .ref anm, .ref anu, .ref asa, .ref apl, .ref akd, .int (nI nk), .ref akn, .ref aks, .ref akp, .ref akk, .int (nI bg), .int (nI sz), .int (nI hd), .ref alg, .int (nI ni), .ref aip, .ref aix, .ref aiz, .ref aim, .ref aod, .int (nI av), .int (nI hv), .int (nI lf), .int (nI sn), .int (nI pv)]) :: T)) (zQi g (fun r w => r = bI (ixC f sz (ixP f sz bg (mdM ipl ist isz inm) i0) (sz + 1) 0 0 0 0 0 && (decide (i0 = 0) || decide (ipl (i0 - 1) < ipl i0))) ∧ ∃ av2 hv2 lf2 sn2 : Nat, w = (o, zo 11 [.int (nI ts), .ref ta, .int (nI ne), .ref ans, .ref anm, .ref anu, .ref asa, .ref apl, .ref akd, .int (nI nk), .ref akn, .ref aks, .ref akp, .ref akk, .int (nI bg), .int (nI sz), .int (nI hd), .ref alg, .int (nI ni), .ref aip, .ref aix, .ref aiz, .ref aim, .ref aod, .int (nI av2), .int (nI hv2), .int (nI lf2), .int (nI sn2), .int (nI pv)]) :: T)) 0 0 (zA g) := by
  refine zMet (by decide) (Nat.le_of_ble_eq_true rfl) ?_
  intro p e s m below meth c ls C hr hlk hnm hP hD hl
  have hx := C.1.1
  have hb := C.1.2.1
  have hS : va_S (zA g) s.heap s.heap [] := va_S.rf
  have hl : lv_has ls 4 [(0, .ref o), (1, .int (nI i0))] := hl
  have L_61 : ∀ (b : Bool) (av hv lf sn : Nat) (_ : ixC f sz (ixP f sz bg (mdM ipl ist isz inm) i0) (sz + 1) 0 0 0 0 0 = b) (H : Heap) (locs : List Loc), va_P g.1 classes ((o, zo 11 [.int (nI ts), .ref ta, .int (nI ne), .ref ans, .ref anm, .ref anu, .ref asa, .ref apl, .ref akd, .int (nI nk), .ref akn, .ref aks, .ref akp, .ref akk, .int (nI bg), .int (nI sz), .int (nI hd), .ref alg, .int (nI ni), .ref aip, .ref aix, .ref aiz, .ref aim, .ref aod, .int (nI av), .int (nI hv), .int (nI lf), .int (nI sn), .int (nI pv)]) :: T) H → va_D (zA g) ((o, zo 11 [.int (nI ts), .ref ta, .int (nI ne), .ref ans, .ref anm, .ref anu, .ref asa, .ref apl, .ref akd, .int (nI nk), .ref akn, .ref aks, .ref akp, .ref akk, .int (nI bg), .int (nI sz), .int (nI hd), .ref alg, .int (nI ni), .ref aip, .ref aix, .ref aiz, .ref aim, .ref aod, .int (nI av), .int (nI hv), .int (nI lf), .int (nI sn), .int (nI pv)]) :: T) → va_S (zA g) s.heap H locs → ∀ ls : Array Slot, lv_has ls 4 [(0, .ref o), (1, .int (nI i0)), (2, .int (bI b))] → W p l e (zR 3 64 0 0) s m [.ref o, .int (nI i0)].toArray below meth c H locs 0 0 (MQ below (zQi g (fun r w => r = bI (ixC f sz (ixP f sz bg (mdM ipl ist isz inm) i0) (sz + 1) 0 0 0 0 0 && (decide (i0 = 0) || decide (ipl (i0 - 1) < ipl i0))) ∧ ∃ av2 hv2 lf2 sn2 : Nat, w = (o, zo 11 [.int (nI ts), .ref ta, .int (nI ne), .ref ans, .ref anm, .ref anu, .ref asa, .ref apl, .ref akd, .int (nI nk), .ref akn, .ref aks, .ref akp, .ref akk, .int (nI bg), .int (nI sz), .int (nI hd), .ref alg, .int (nI ni), .ref aip, .ref aix, .ref aiz, .ref aim, .ref aod, .int (nI av2), .int (nI hv2), .int (nI lf2), .int (nI sn2), .int (nI pv)]) :: T)) [.ref o, .int (nI i0)].toArray s 0 0 (zA g)) (F0 m 61 ls []) := by
    intro b av hv lf sn hT H locs hP hD hS ls hl
    refine lv_iload_n hx hb d_Mod_isIndexRight_61 rfl (lv_at hl 2 rfl) ?_
    refine lv_if_eq (tgt := 90) hx hb d_Mod_isIndexRight_62 (by decide) (fun c_62 => ?_) (fun c_62 => ?_)
    · skip
      refine lv_iconst (v := nI 0) hx hb d_Mod_isIndexRight_90 (by decide) ?_
      exact z_zret C hr hlk hP hD hS (by omega) (by omega) (by first | exact Or.inl rfl | exact Or.inr rfl) ⟨bI_f (by rw [hT, bI_eq.mp c_62]; rfl), _, _, _, _, rfl⟩ d_Mod_isIndexRight_91
    · skip
      refine lv_iload_n hx hb d_Mod_isIndexRight_65 rfl (lv_at hl 1 rfl) ?_
      refine lv_if_eq (tgt := 86) hx hb d_Mod_isIndexRight_66 (by decide) (fun c_66 => ?_) (fun c_66 => ?_)
      · skip
        have c_66 : i0 = 0 := (nI_eq (a := i0) (b := 0) (by omega) (by decide)).mp c_66
        refine lv_iconst (v := nI 1) hx hb d_Mod_isIndexRight_86 (by decide) ?_
        refine lv_goto (tgt := 91) hx hb d_Mod_isIndexRight_87 (by decide) ?_
        exact z_zret C hr hlk hP hD hS (by omega) (by omega) (by first | exact Or.inl rfl | exact Or.inr rfl) ⟨bI_t (by rw [hT, bI_ne.mp c_62, decide_eq_true c_66]; rfl), _, _, _, _, rfl⟩ d_Mod_isIndexRight_91
      · skip
        have c_66 : ¬ i0 = 0 := fun q9 => c_66 ((nI_eq (a := i0) (b := 0) (by omega) (by decide)).mpr q9)
        refine lv_aload_n hx hb d_Mod_isIndexRight_69 rfl (lv_at hl 0 rfl) ?_
        refine z_get C hP List.mem_cons_self q_Mod 19 (by decide) k_747 (fun _ h9 => h9) rfl d_Mod_isIndexRight_70 ?_
        refine lv_iload_n hx hb d_Mod_isIndexRight_73 rfl (lv_at hl 1 rfl) ?_
        refine z_iald C hP (List.mem_cons_of_mem _ hip) i0 (by omega) (by omega) d_Mod_isIndexRight_74 ?_
        refine lv_aload_n hx hb d_Mod_isIndexRight_75 rfl (lv_at hl 0 rfl) ?_
        refine z_get C hP List.mem_cons_self q_Mod 19 (by decide) k_747 (fun _ h9 => h9) rfl d_Mod_isIndexRight_76 ?_
        refine lv_iload_n hx hb d_Mod_isIndexRight_79 rfl (lv_at hl 1 rfl) ?_
        refine lv_iconst (v := nI 1) hx hb d_Mod_isIndexRight_80 (by decide) ?_
        refine z_isub (v := nI (i0 - 1)) C d_Mod_isIndexRight_81 (pk_sub (by omega)) ?_
        refine z_iald C hP (List.mem_cons_of_mem _ hip) (i0 - 1) (by omega) (by omega) d_Mod_isIndexRight_82 ?_
        refine lv_icmp_le (tgt := 90) hx hb d_Mod_isIndexRight_83 (by decide) (fun c_83 => ?_) (fun c_83 => ?_)
        · skip
          refine lv_iconst (v := nI 0) hx hb d_Mod_isIndexRight_90 (by decide) ?_
          exact z_zret C hr hlk hP hD hS (by omega) (by omega) (by first | exact Or.inl rfl | exact Or.inr rfl) ⟨bI_f (by rw [hT, bI_ne.mp c_62, decide_eq_false c_66, decide_eq_false (show ¬ ipl (i0 - 1) < ipl i0 from fun q9 => absurd c_83 (Int32.not_le.mpr q9))]; rfl), _, _, _, _, rfl⟩ d_Mod_isIndexRight_91
        · skip
          refine lv_iconst (v := nI 1) hx hb d_Mod_isIndexRight_86 (by decide) ?_
          refine lv_goto (tgt := 91) hx hb d_Mod_isIndexRight_87 (by decide) ?_
          exact z_zret C hr hlk hP hD hS (by omega) (by omega) (by first | exact Or.inl rfl | exact Or.inr rfl) ⟨bI_t (by rw [hT, bI_ne.mp c_62, decide_eq_true (show ipl (i0 - 1) < ipl i0 from Int32.not_le.mp c_83), Bool.or_true]; rfl), _, _, _, _, rfl⟩ d_Mod_isIndexRight_91
  have L_13 : ∀ (nu : Nat) (b : Bool) (fu av hv lf sn en2 hn2 st2 : Nat) (_ : en2 = av + 9 + U2 f sz (av + 6)) (_ : en2 ≤ sz) (_ : hv + 21 ≤ en2) (_ : lf ≤ 256) (_ : sn ≤ en2) (_ : hn2 = U4 f sz (hv + 8)) (_ : st2 = U4 f sz (hv + 4)) (_ : sz < fu + en2) (_ : ixC f sz (ixP f sz bg (mdM ipl ist isz inm) i0) (sz + 1) 0 0 0 0 0 = (b || ((decide (0 < hv ∧ av = hv + 12) && ixP f sz bg (mdM ipl ist isz inm) i0 hv av) || ixC f sz (ixP f sz bg (mdM ipl ist isz inm) i0) fu en2 lf hv hn2 st2))) (_ : sz - en2 < nu) (H : Heap) (locs : List Loc), va_P g.1 classes ((o, zo 11 [.int (nI ts), .ref ta, .int (nI ne), .ref ans, .ref anm, .ref anu, .ref asa, .ref apl, .ref akd, .int (nI nk), .ref akn, .ref aks, .ref akp, .ref akk, .int (nI bg), .int (nI sz), .int (nI hd), .ref alg, .int (nI ni), .ref aip, .ref aix, .ref aiz, .ref aim, .ref aod, .int (nI av), .int (nI hv), .int (nI lf), .int (nI sn), .int (nI pv)]) :: T) H → va_D (zA g) ((o, zo 11 [.int (nI ts), .ref ta, .int (nI ne), .ref ans, .ref anm, .ref anu, .ref asa, .ref apl, .ref akd, .int (nI nk), .ref akn, .ref aks, .ref akp, .ref akk, .int (nI bg), .int (nI sz), .int (nI hd), .ref alg, .int (nI ni), .ref aip, .ref aix, .ref aiz, .ref aim, .ref aod, .int (nI av), .int (nI hv), .int (nI lf), .int (nI sn), .int (nI pv)]) :: T) → va_S (zA g) s.heap H locs → ∀ ls : Array Slot, lv_has ls 4 [(0, .ref o), (1, .int (nI i0)), (2, .int (bI b))] → W p l e (zR 3 64 0 0) s m [.ref o, .int (nI i0)].toArray below meth c H locs 0 0 (MQ below (zQi g (fun r w => r = bI (ixC f sz (ixP f sz bg (mdM ipl ist isz inm) i0) (sz + 1) 0 0 0 0 0 && (decide (i0 = 0) || decide (ipl (i0 - 1) < ipl i0))) ∧ ∃ av2 hv2 lf2 sn2 : Nat, w = (o, zo 11 [.int (nI ts), .ref ta, .int (nI ne), .ref ans, .ref anm, .ref anu, .ref asa, .ref apl, .ref akd, .int (nI nk), .ref akn, .ref aks, .ref akp, .ref akk, .int (nI bg), .int (nI sz), .int (nI hd), .ref alg, .int (nI ni), .ref aip, .ref aix, .ref aiz, .ref aim, .ref aod, .int (nI av2), .int (nI hv2), .int (nI lf2), .int (nI sn2), .int (nI pv)]) :: T)) [.ref o, .int (nI i0)].toArray s 0 0 (zA g)) (F0 m 13 ls []) := by
    intro nu
    induction nu with
    | zero => intros; omega
    | succ nu ih =>
      intro b fu av hv lf sn en2 hn2 st2 e1 e2 e3 e4 e5 e6 e7 e8 hT hmu H locs hP hD hS ls hl
      obtain ⟨fu, rfl⟩ : ∃ q9, fu = q9 + 1 := ⟨fu - 1, by omega⟩
      have L_51 : ∀ (b2 : Bool) (_ : b2 = (b || (decide (0 < hv ∧ av = hv + 12) && ixP f sz bg (mdM ipl ist isz inm) i0 hv av))) (H : Heap) (locs : List Loc), va_P g.1 classes ((o, zo 11 [.int (nI ts), .ref ta, .int (nI ne), .ref ans, .ref anm, .ref anu, .ref asa, .ref apl, .ref akd, .int (nI nk), .ref akn, .ref aks, .ref akp, .ref akk, .int (nI bg), .int (nI sz), .int (nI hd), .ref alg, .int (nI ni), .ref aip, .ref aix, .ref aiz, .ref aim, .ref aod, .int (nI av), .int (nI hv), .int (nI lf), .int (nI sn), .int (nI pv)]) :: T) H → va_D (zA g) ((o, zo 11 [.int (nI ts), .ref ta, .int (nI ne), .ref ans, .ref anm, .ref anu, .ref asa, .ref apl, .ref akd, .int (nI nk), .ref akn, .ref aks, .ref akp, .ref akk, .int (nI bg), .int (nI sz), .int (nI hd), .ref alg, .int (nI ni), .ref aip, .ref aix, .ref aiz, .ref aim, .ref aod, .int (nI av), .int (nI hv), .int (nI lf), .int (nI sn), .int (nI pv)]) :: T) → va_S (zA g) s.heap H locs → ∀ ls : Array Slot, lv_has ls 4 [(0, .ref o), (1, .int (nI i0))] → W p l e (zR 3 64 0 0) s m [.ref o, .int (nI i0)].toArray below meth c H locs 0 0 (MQ below (zQi g (fun r w => r = bI (ixC f sz (ixP f sz bg (mdM ipl ist isz inm) i0) (sz + 1) 0 0 0 0 0 && (decide (i0 = 0) || decide (ipl (i0 - 1) < ipl i0))) ∧ ∃ av2 hv2 lf2 sn2 : Nat, w = (o, zo 11 [.int (nI ts), .ref ta, .int (nI ne), .ref ans, .ref anm, .ref anu, .ref asa, .ref apl, .ref akd, .int (nI nk), .ref akn, .ref aks, .ref akp, .ref akk, .int (nI bg), .int (nI sz), .int (nI hd), .ref alg, .int (nI ni), .ref aip, .ref aix, .ref aiz, .ref aim, .ref aod, .int (nI av2), .int (nI hv2), .int (nI lf2), .int (nI sn2), .int (nI pv)]) :: T)) [.ref o, .int (nI i0)].toArray s 0 0 (zA g)) (F0 m 51 ls [.int (bI b2)]) := by
        intro b2 hb2 H locs hP hD hS ls hl
        refine lv_istore_n (lv' := [(2, .int (bI b2)), (0, .ref o), (1, .int (nI i0))]) hx hb d_Mod_isIndexRight_51 rfl hl (by decide) rfl (fun ls hl => ?_)
        refine lv_aload_n hx hb d_Mod_isIndexRight_52 rfl (lv_at hl 1 rfl) ?_
        refine lv_iconst (v := nI 0) hx hb d_Mod_isIndexRight_53 (by decide) ?_
        refine z_ki (z_runV (np := 1) C (c_Mod_step_f l g T o ts ta ne ans anm anu asa apl akd nk akn aks akp akk bg sz hd alg ni aip aix aiz aim aod av hv lf sn pv f hlg hn2 st2 (by omega) (by omega) (by omega) (by omega)) hP hD hS List.mem_cons_self (show classes[11]? = some (R_Mod, F_Mod, 29) from rfl) k_928 k_12 k_925 k_927 ks_Mod_step ⟨by decide, by decide, by decide⟩ ⟨Nat.le_of_ble_eq_true rfl, Nat.le_of_ble_eq_true rfl⟩ rfl hl.1 rfl (Nat.le_of_ble_eq_true rfl) d_Mod_isIndexRight_54 ⟨by show _ ≤ 0; omega, by show _ ≤ 0; omega⟩) hS (fun r_54 w H locs hw hP hD hS => ?_)
        rcases st3 f sz (av + 9 + U2 f sz (av + 6)) lf hv hn2 st2 with hend | ⟨hne, hst⟩ | ⟨hne, en3, lf3, ha3, hn3, st3_, at3, hst⟩
        · skip
          obtain ⟨rfl, hw2⟩ := hw.1 hend
          rw [hw2] at hP hD
          refine lv_istore_n (lv' := [(3, .int (nI 0)), (2, .int (bI b2)), (0, .ref o), (1, .int (nI i0))]) hx hb d_Mod_isIndexRight_57 rfl hl (by decide) rfl (fun ls hl => ?_)
          refine lv_goto (tgt := 8) hx hb d_Mod_isIndexRight_58 (by decide) ?_
          refine lv_iload_n hx hb d_Mod_isIndexRight_8 rfl (lv_at hl 0 rfl) ?_
          refine lv_iconst (v := nI 1) hx hb d_Mod_isIndexRight_9 (by decide) ?_
          refine lv_icmp_ne (tgt := 61) hx hb d_Mod_isIndexRight_10 (by decide) (fun c_10 => ?_) (fun c_10 => ?_)
          · skip
            have c_10 : ¬ 0 = 1 := fun q9 => c_10 ((nI_eq (a := 0) (b := 1) (by decide) (by decide)).mpr q9)
            exact L_61 b2 _ _ _ _ (by first | (rw [ix_end (show lf = 0 ∧ en2 = sz by rw [e1]; exact hend), Bool.or_false] at hT; rw [hT, hb2]) | (rw [ix_none (show ¬ (lf = 0 ∧ en2 = sz) by rw [e1]; exact hne) (show stepP f sz en2 lf hv hn2 st2 = none by rw [e1]; exact hst), Bool.or_false] at hT; rw [hT, hb2])) _ _ hP hD hS ls (lv_sub hl [2, 3, 1] rfl)
          · skip
            have c_10 : 0 = 1 := (nI_eq (a := 0) (b := 1) (by decide) (by decide)).mp c_10
            exact absurd c_10 (by omega)
        · skip
          obtain ⟨rfl, hv9, lf9, hw2⟩ := (hw.2 hne).1 hst
          rw [hw2] at hP hD
          refine lv_istore_n (lv' := [(3, .int (iI (-1))), (2, .int (bI b2)), (0, .ref o), (1, .int (nI i0))]) hx hb d_Mod_isIndexRight_57 rfl hl (by decide) rfl (fun ls hl => ?_)
          refine lv_goto (tgt := 8) hx hb d_Mod_isIndexRight_58 (by decide) ?_
          refine lv_iload_n hx hb d_Mod_isIndexRight_8 rfl (lv_at hl 0 rfl) ?_
          refine lv_iconst (v := nI 1) hx hb d_Mod_isIndexRight_9 (by decide) ?_
          refine lv_icmp_ne (tgt := 61) hx hb d_Mod_isIndexRight_10 (by decide) (fun c_10 => ?_) (fun c_10 => ?_)
          · skip
            exact L_61 b2 _ _ _ _ (by first | (rw [ix_end (show lf = 0 ∧ en2 = sz by rw [e1]; exact hend), Bool.or_false] at hT; rw [hT, hb2]) | (rw [ix_none (show ¬ (lf = 0 ∧ en2 = sz) by rw [e1]; exact hne) (show stepP f sz en2 lf hv hn2 st2 = none by rw [e1]; exact hst), Bool.or_false] at hT; rw [hT, hb2])) _ _ hP hD hS ls (lv_sub hl [2, 3, 1] rfl)
          · skip
            exact absurd c_10 (by decide)
        · skip
          obtain ⟨rfl, hw2⟩ := (hw.2 hne).2 _ _ _ _ _ _ hst
          rw [hw2] at hP hD
          obtain ⟨p1, p2, p3, p4, p5, p6, p7⟩ := step_inv hst (Or.inr ⟨by omega, e6, e7⟩) (by omega)
          refine lv_istore_n (lv' := [(3, .int (nI 1)), (2, .int (bI b2)), (0, .ref o), (1, .int (nI i0))]) hx hb d_Mod_isIndexRight_57 rfl hl (by decide) rfl (fun ls hl => ?_)
          refine lv_goto (tgt := 8) hx hb d_Mod_isIndexRight_58 (by decide) ?_
          refine lv_iload_n hx hb d_Mod_isIndexRight_8 rfl (lv_at hl 0 rfl) ?_
          refine lv_iconst (v := nI 1) hx hb d_Mod_isIndexRight_9 (by decide) ?_
          refine lv_icmp_ne (tgt := 61) hx hb d_Mod_isIndexRight_10 (by decide) (fun c_10 => ?_) (fun c_10 => ?_)
          · skip
            have c_10 : ¬ 1 = 1 := fun q9 => c_10 ((nI_eq (a := 1) (b := 1) (by decide) (by decide)).mpr q9)
            exact absurd c_10 (by omega)
          · skip
            have c_10 : 1 = 1 := (nI_eq (a := 1) (b := 1) (by decide) (by decide)).mp c_10
            exact ih b2 fu at3 ha3 lf3 _ en3 hn3 st3_ p1 p2 p3 p6 (by omega) p4 p5 (by omega) (by rw [ix_some (show ¬ (lf = 0 ∧ en2 = sz) by rw [e1]; exact hne) (show stepP f sz en2 lf hv hn2 st2 = some (en3, lf3, ha3, hn3, st3_, at3) by rw [e1]; exact hst), ← Bool.or_assoc, ← hb2] at hT; exact hT) (by omega) _ _ hP hD hS ls (lv_sub hl [2, 3, 1] rfl)
      refine lv_iload_n hx hb d_Mod_isIndexRight_13 rfl (lv_at hl 2 rfl) ?_
      refine lv_if_ne (tgt := 46) hx hb d_Mod_isIndexRight_14 (by decide) (fun c_14 => ?_) (fun c_14 => ?_)
      · skip
        refine lv_iconst (v := nI 1) hx hb d_Mod_isIndexRight_46 (by decide) ?_
        refine lv_goto (tgt := 51) hx hb d_Mod_isIndexRight_47 (by decide) ?_
        refine z_topi (y := bI true) rfl ?_
        exact L_51 true (by rw [bI_ne.mp c_14]; rfl) _ _ hP hD hS ls (lv_sub hl [0, 1] rfl)
      · skip
        refine lv_aload_n hx hb d_Mod_isIndexRight_17 rfl (lv_at hl 0 rfl) ?_
        refine z_get C hP List.mem_cons_self q_Mod 25 (by decide) k_753 (fun _ h9 => h9) rfl d_Mod_isIndexRight_18 ?_
        refine lv_if_le (tgt := 50) hx hb d_Mod_isIndexRight_21 (by decide) (fun c_21 => ?_) (fun c_21 => ?_)
        · skip
          have c_21 : hv ≤ 0 := (nI_leI (a := hv) (b := 0) (by omega) (by decide)).mp c_21
          refine lv_iconst (v := nI 0) hx hb d_Mod_isIndexRight_50 (by decide) ?_
          refine z_topi (y := bI false) rfl ?_
          exact L_51 false (by rw [decide_eq_false (show ¬ (0 < hv ∧ av = hv + 12) by omega), bI_eq.mp c_14]; rfl) _ _ hP hD hS ls (lv_sub hl [0, 1] rfl)
        · skip
          have c_21 : ¬ hv ≤ 0 := fun q9 => c_21 ((nI_leI (a := hv) (b := 0) (by omega) (by decide)).mpr q9)
          refine lv_aload_n hx hb d_Mod_isIndexRight_24 rfl (lv_at hl 0 rfl) ?_
          refine z_get C hP List.mem_cons_self q_Mod 24 (by decide) k_752 (fun _ h9 => h9) rfl d_Mod_isIndexRight_25 ?_
          refine lv_aload_n hx hb d_Mod_isIndexRight_28 rfl (lv_at hl 0 rfl) ?_
          refine z_get C hP List.mem_cons_self q_Mod 25 (by decide) k_753 (fun _ h9 => h9) rfl d_Mod_isIndexRight_29 ?_
          refine lv_bipush (v := nI 12) hx hb d_Mod_isIndexRight_32 (by decide) ?_
          refine z_iadd (v := nI (hv + 12)) C d_Mod_isIndexRight_34 (nI_add _ _) ?_
          refine lv_icmp_ne (tgt := 50) hx hb d_Mod_isIndexRight_35 (by decide) (fun c_35 => ?_) (fun c_35 => ?_)
          · skip
            have c_35 : ¬ av = (hv + 12) := fun q9 => c_35 ((nI_eq (a := av) (b := hv + 12) (by omega) (by omega)).mpr q9)
            refine lv_iconst (v := nI 0) hx hb d_Mod_isIndexRight_50 (by decide) ?_
            refine z_topi (y := bI false) rfl ?_
            exact L_51 false (by rw [decide_eq_false (show ¬ (0 < hv ∧ av = hv + 12) by omega), bI_eq.mp c_14]; rfl) _ _ hP hD hS ls (lv_sub hl [0, 1] rfl)
          · skip
            have c_35 : av = (hv + 12) := (nI_eq (a := av) (b := hv + 12) (by omega) (by omega)).mp c_35
            refine lv_aload_n hx hb d_Mod_isIndexRight_38 rfl (lv_at hl 0 rfl) ?_
            refine lv_iload_n hx hb d_Mod_isIndexRight_39 rfl (lv_at hl 1 rfl) ?_
            refine z_ki (z_runV (np := 1) C (c_Mod_isIndexHere l g ((o, zo 11 [.int (nI ts), .ref ta, .int (nI ne), .ref ans, .ref anm, .ref anu, .ref asa, .ref apl, .ref akd, .int (nI nk), .ref akn, .ref aks, .ref akp, .ref akk, .int (nI bg), .int (nI sz), .int (nI hd), .ref alg, .int (nI ni), .ref aip, .ref aix, .ref aiz, .ref aim, .ref aod, .int (nI av), .int (nI hv), .int (nI lf), .int (nI sn), .int (nI pv)]) :: T) o ts ta ne ans anm anu asa apl akd nk akn aks akp akk bg sz hd alg ni aip aix aiz aim aod av hv lf sn pv List.mem_cons_self f (List.mem_cons_of_mem _ hlg) ipl ist isz inm (List.mem_cons_of_mem _ hip) (List.mem_cons_of_mem _ hix) (List.mem_cons_of_mem _ hiz) (List.mem_cons_of_mem _ him) i0 (by omega) (x2 i0 v4) x3 (by omega) (by omega) v2) hP hD hS List.mem_cons_self (show classes[11]? = some (R_Mod, F_Mod, 29) from rfl) k_964 k_12 k_961 k_963 ks_Mod_isIndexHere ⟨by decide, by decide, by decide⟩ ⟨Nat.le_of_ble_eq_true rfl, Nat.le_of_ble_eq_true rfl⟩ rfl hl.1 rfl (Nat.le_of_ble_eq_true rfl) d_Mod_isIndexRight_40 ⟨by show _ ≤ 0; omega, by show _ ≤ 0; omega⟩) hS (fun r_40 w H locs hw hP hD hS => ?_)
            obtain ⟨rfl, hw⟩ := hw
            rw [hw] at hP hD
            refine lv_if_eq (tgt := 50) hx hb d_Mod_isIndexRight_43 (by decide) (fun c_43 => ?_) (fun c_43 => ?_)
            · skip
              refine lv_iconst (v := nI 0) hx hb d_Mod_isIndexRight_50 (by decide) ?_
              refine z_topi (y := bI false) rfl ?_
              exact L_51 false (by rw [bI_eq.mp c_43, Bool.and_false, bI_eq.mp c_14]; rfl) _ _ hP hD hS ls (lv_sub hl [0, 1] rfl)
            · skip
              refine lv_iconst (v := nI 1) hx hb d_Mod_isIndexRight_46 (by decide) ?_
              refine lv_goto (tgt := 51) hx hb d_Mod_isIndexRight_47 (by decide) ?_
              refine z_topi (y := bI true) rfl ?_
              exact L_51 true (by rw [decide_eq_true (show 0 < hv ∧ av = hv + 12 by omega), bI_ne.mp c_43]; cases b <;> rfl) _ _ hP hD hS ls (lv_sub hl [0, 1] rfl)
  refine lv_iconst (v := nI 0) hx hb d_Mod_isIndexRight_0 (by decide) ?_
  refine lv_istore_n (lv' := [(2, .int (nI 0)), (0, .ref o), (1, .int (nI i0))]) hx hb d_Mod_isIndexRight_1 rfl hl (by decide) rfl (fun ls hl => ?_)
  refine lv_aload_n hx hb d_Mod_isIndexRight_2 rfl (lv_at hl 1 rfl) ?_
  refine lv_iconst (v := nI 1) hx hb d_Mod_isIndexRight_3 (by decide) ?_
  refine z_ki (z_runV (np := 1) C (c_Mod_step_t l g T o ts ta ne ans anm anu asa apl akd nk akn aks akp akk bg sz hd alg ni aip aix aiz aim aod av hv lf sn pv f hlg 0 0 (by omega)) hP hD hS List.mem_cons_self (show classes[11]? = some (R_Mod, F_Mod, 29) from rfl) k_928 k_12 k_925 k_927 ks_Mod_step ⟨by decide, by decide, by decide⟩ ⟨Nat.le_of_ble_eq_true rfl, Nat.le_of_ble_eq_true rfl⟩ rfl hl.1 rfl (Nat.le_of_ble_eq_true rfl) d_Mod_isIndexRight_4 ⟨by show _ ≤ 0; omega, by show _ ≤ 0; omega⟩) hS (fun r_4 w H locs hw hP hD hS => ?_)
  rcases st3 f sz 0 0 0 0 0 with hend | ⟨hne, hst⟩ | ⟨hne, en3, lf3, ha3, hn3, st3_, at3, hst⟩
  · skip
    obtain ⟨rfl, hw2⟩ := hw.1 hend
    rw [hw2] at hP hD
    refine lv_istore_n (lv' := [(3, .int (nI 0)), (2, .int (nI 0)), (0, .ref o), (1, .int (nI i0))]) hx hb d_Mod_isIndexRight_7 rfl hl (by decide) rfl (fun ls hl => ?_)
    refine lv_iload_n hx hb d_Mod_isIndexRight_8 rfl (lv_at hl 0 rfl) ?_
    refine lv_iconst (v := nI 1) hx hb d_Mod_isIndexRight_9 (by decide) ?_
    refine lv_icmp_ne (tgt := 61) hx hb d_Mod_isIndexRight_10 (by decide) (fun c_10 => ?_) (fun c_10 => ?_)
    · skip
      have c_10 : ¬ 0 = 1 := fun q9 => c_10 ((nI_eq (a := 0) (b := 1) (by decide) (by decide)).mpr q9)
      exact L_61 false _ _ _ _ (by first | exact ix_end hend | exact ix_none hne hst) _ _ hP hD hS ls (lv_sub hl [2, 3, 1] rfl)
    · skip
      have c_10 : 0 = 1 := (nI_eq (a := 0) (b := 1) (by decide) (by decide)).mp c_10
      exact absurd c_10 (by omega)
  · skip
    obtain ⟨rfl, hv9, lf9, hw2⟩ := (hw.2 hne).1 hst
    rw [hw2] at hP hD
    refine lv_istore_n (lv' := [(3, .int (iI (-1))), (2, .int (nI 0)), (0, .ref o), (1, .int (nI i0))]) hx hb d_Mod_isIndexRight_7 rfl hl (by decide) rfl (fun ls hl => ?_)
    refine lv_iload_n hx hb d_Mod_isIndexRight_8 rfl (lv_at hl 0 rfl) ?_
    refine lv_iconst (v := nI 1) hx hb d_Mod_isIndexRight_9 (by decide) ?_
    refine lv_icmp_ne (tgt := 61) hx hb d_Mod_isIndexRight_10 (by decide) (fun c_10 => ?_) (fun c_10 => ?_)
    · skip
      exact L_61 false _ _ _ _ (by first | exact ix_end hend | exact ix_none hne hst) _ _ hP hD hS ls (lv_sub hl [2, 3, 1] rfl)
    · skip
      exact absurd c_10 (by decide)
  · skip
    obtain ⟨rfl, hw2⟩ := (hw.2 hne).2 _ _ _ _ _ _ hst
    rw [hw2] at hP hD
    obtain ⟨p1, p2, p3, p4, p5, p6, p7⟩ := step_inv hst (Or.inl rfl) (Nat.zero_le _)
    refine lv_istore_n (lv' := [(3, .int (nI 1)), (2, .int (nI 0)), (0, .ref o), (1, .int (nI i0))]) hx hb d_Mod_isIndexRight_7 rfl hl (by decide) rfl (fun ls hl => ?_)
    refine lv_iload_n hx hb d_Mod_isIndexRight_8 rfl (lv_at hl 0 rfl) ?_
    refine lv_iconst (v := nI 1) hx hb d_Mod_isIndexRight_9 (by decide) ?_
    refine lv_icmp_ne (tgt := 61) hx hb d_Mod_isIndexRight_10 (by decide) (fun c_10 => ?_) (fun c_10 => ?_)
    · skip
      have c_10 : ¬ 1 = 1 := fun q9 => c_10 ((nI_eq (a := 1) (b := 1) (by decide) (by decide)).mpr q9)
      exact absurd c_10 (by omega)
    · skip
      have c_10 : 1 = 1 := (nI_eq (a := 1) (b := 1) (by decide) (by decide)).mp c_10
      exact L_13 _ false sz at3 ha3 lf3 _ en3 hn3 st3_ p1 p2 p3 p6 (by omega) p4 p5 (by omega) (by rw [Bool.false_or]; exact ix_some hne hst) (Nat.lt_succ_self _) _ _ hP hD hS ls (lv_sub hl [2, 3, 1] rfl)
set_option maxHeartbeats 4000000 in
set_option maxRecDepth 100000 in
theorem c_Mod_count (l : Launch) (g : zT) (T : va_W) (o ts ta ne ans anm anu asa apl akd nk akn aks akp akk bg sz hd alg ni aip aix aiz aim aod av hv lf sn pv : Nat) (f : Nat → UInt8) (hlg : (alg, zBy g 65536 f) ∈ T) (kn ks kp kk : Nat → Nat) (hkn : (akn, zIn g 1500 (nN kn)) ∈ T) (hks : (aks, zIn g 1500 (nN ks)) ∈ T) (hkp : (akp, zIn g 1500 (nN kp)) ∈ T) (hkk : (akk, zIn g 1500 (nN kk)) ∈ T) (ipl ist : Nat → Int32) (isz : Nat → Nat) (inm : Nat → UInt8) (hip : (aip, zIn g 16 ipl) ∈ T) (hix : (aix, zIn g 16 ist) ∈ T) (hiz : (aiz, zIn g 16 (nN isz)) ∈ T) (him : (aim, zIn g 4096 (nB inm)) ∈ T) (v2 : sz ≤ 65536) (k1 : nk ≤ 1500) (k2 : ∀ j, j < nk → kn j ≤ 100000 ∧ ks j < 65536 ∧ kp j < 65536 ∧ kk j < 65536) (x1 : ni ≤ 12) (x2 : ∀ j, j < ni → isz j ≤ 256) (x3 : bg ≤ 40000)  : Met l y_Mod_count (zw y_Mod_count b_Mod_count 7 (some .int)) (zR 4 87 0 0) (zP g [.ref o] ((o, zo 11 [.int (nI ts), .ref ta, .int (nI ne), .ref ans, .ref anm, .ref anu, .ref asa, .ref apl, .ref akd, .int (nI nk), .ref akn, .ref aks, .ref akp, .ref akk, .int (nI bg), .int (nI sz), .int (nI hd), .ref alg, .int (nI ni), .ref aip, .ref aix, .ref aiz, .ref aim, .ref aod, .int (nI av), .int (nI hv), .int (nI lf), .int (nI sn), .int (nI pv)]) :: T)) (zQi g (fun r w => r = iI (cntM f sz bg (knM kn ks kp kk nk) (mdM ipl ist isz inm) ni) ∧ ∃ av2 hv2 lf2 sn2 : Nat, w = (o, zo 11 [.int (nI ts), .ref ta, .int (nI ne), .ref ans, .ref anm, .ref anu, .ref asa, .ref apl, .ref akd, .int (nI nk), .ref akn, .ref aks, .ref akp, .ref akk, .int (nI bg), .int (nI sz), .int (nI hd), .ref alg, .int (nI ni), .ref aip, .ref aix, .ref aiz, .ref aim, .ref aod, .int (nI av2), .int (nI hv2), .int (nI lf2), .int (nI sn2), .int (nI pv)]) :: T)) 0 0 (zA g) := by
  refine zMet (by decide) (Nat.le_of_ble_eq_true rfl) ?_
  intro p e s m below meth c ls C hr hlk hnm hP hD hl
  have hx := C.1.1
  have hb := C.1.2.1
  have hS : va_S (zA g) s.heap s.heap [] := va_S.rf
  have hl : lv_has ls 7 [(0, .ref o)] := hl
  have L_108 : ∀ (mny : Nat) (b : Bool) (av hv lf sn : Nat) (_ : b = (decide (mcC f sz (knM kn ks kp kk nk) (sz + 1) 0 0 0 0 0 0 [] ≠ -2) && (List.range ni).all (ixJ f sz bg (mdM ipl ist isz inm)))) (_ : mcC f sz (knM kn ks kp kk nk) (sz + 1) 0 0 0 0 0 0 [] ≠ -2 → mcC f sz (knM kn ks kp kk nk) (sz + 1) 0 0 0 0 0 0 [] = (mny : Int)) (H : Heap) (locs : List Loc), va_P g.1 classes ((o, zo 11 [.int (nI ts), .ref ta, .int (nI ne), .ref ans, .ref anm, .ref anu, .ref asa, .ref apl, .ref akd, .int (nI nk), .ref akn, .ref aks, .ref akp, .ref akk, .int (nI bg), .int (nI sz), .int (nI hd), .ref alg, .int (nI ni), .ref aip, .ref aix, .ref aiz, .ref aim, .ref aod, .int (nI av), .int (nI hv), .int (nI lf), .int (nI sn), .int (nI pv)]) :: T) H → va_D (zA g) ((o, zo 11 [.int (nI ts), .ref ta, .int (nI ne), .ref ans, .ref anm, .ref anu, .ref asa, .ref apl, .ref akd, .int (nI nk), .ref akn, .ref aks, .ref akp, .ref akk, .int (nI bg), .int (nI sz), .int (nI hd), .ref alg, .int (nI ni), .ref aip, .ref aix, .ref aiz, .ref aim, .ref aod, .int (nI av), .int (nI hv), .int (nI lf), .int (nI sn), .int (nI pv)]) :: T) → va_S (zA g) s.heap H locs → ∀ ls : Array Slot, lv_has ls 7 [(0, .ref o), (4, .int (nI mny)), (5, .int (bI b))] → W p l e (zR 4 87 0 0) s m [.ref o].toArray below meth c H locs 0 0 (MQ below (zQi g (fun r w => r = iI (cntM f sz bg (knM kn ks kp kk nk) (mdM ipl ist isz inm) ni) ∧ ∃ av2 hv2 lf2 sn2 : Nat, w = (o, zo 11 [.int (nI ts), .ref ta, .int (nI ne), .ref ans, .ref anm, .ref anu, .ref asa, .ref apl, .ref akd, .int (nI nk), .ref akn, .ref aks, .ref akp, .ref akk, .int (nI bg), .int (nI sz), .int (nI hd), .ref alg, .int (nI ni), .ref aip, .ref aix, .ref aiz, .ref aim, .ref aod, .int (nI av2), .int (nI hv2), .int (nI lf2), .int (nI sn2), .int (nI pv)]) :: T)) [.ref o].toArray s 0 0 (zA g)) (F0 m 108 ls []) := by
    intro mny b av hv lf sn hb1 hb3 H locs hP hD hS ls hl
    refine lv_iload hx hb d_Mod_count_108 (lv_at hl 2 rfl) ?_
    refine lv_if_eq (tgt := 118) hx hb d_Mod_count_110 (by decide) (fun c_110 => ?_) (fun c_110 => ?_)
    · skip
      refine lv_bipush (v := iI (-2)) hx hb d_Mod_count_118 (by decide) ?_
      exact z_iret C hr hlk hP hD hS (by omega) (by omega) ⟨by rw [cnt_b hb1, if_neg (by rw [bI_eq.mp c_110]; decide)], _, _, _, _, rfl⟩ d_Mod_count_120
    · skip
      refine lv_iload hx hb d_Mod_count_113 (lv_at hl 1 rfl) ?_
      refine lv_goto (tgt := 120) hx hb d_Mod_count_115 (by decide) ?_
      exact z_iret C hr hlk hP hD hS (by omega) (by omega) ⟨by rw [cnt_b hb1, if_pos (bI_ne.mp c_110), hb3 (by have q9 := bI_ne.mp c_110; rw [hb1] at q9; exact of_decide_eq_true (Bool.and_eq_true_iff.mp q9).1), nI_iI], _, _, _, _, rfl⟩ d_Mod_count_120
  have L_80 : ∀ (nu : Nat) (i mny : Nat) (b : Bool) (av hv lf sn : Nat) (_ : i ≤ ni) (_ : mny ≤ 65536) (_ : b = (decide (mcC f sz (knM kn ks kp kk nk) (sz + 1) 0 0 0 0 0 0 [] ≠ -2) && (List.range i).all (ixJ f sz bg (mdM ipl ist isz inm)))) (_ : mcC f sz (knM kn ks kp kk nk) (sz + 1) 0 0 0 0 0 0 [] ≠ -2 → mcC f sz (knM kn ks kp kk nk) (sz + 1) 0 0 0 0 0 0 [] = (mny : Int)) (_ : ni - i < nu) (H : Heap) (locs : List Loc), va_P g.1 classes ((o, zo 11 [.int (nI ts), .ref ta, .int (nI ne), .ref ans, .ref anm, .ref anu, .ref asa, .ref apl, .ref akd, .int (nI nk), .ref akn, .ref aks, .ref akp, .ref akk, .int (nI bg), .int (nI sz), .int (nI hd), .ref alg, .int (nI ni), .ref aip, .ref aix, .ref aiz, .ref aim, .ref aod, .int (nI av), .int (nI hv), .int (nI lf), .int (nI sn), .int (nI pv)]) :: T) H → va_D (zA g) ((o, zo 11 [.int (nI ts), .ref ta, .int (nI ne), .ref ans, .ref anm, .ref anu, .ref asa, .ref apl, .ref akd, .int (nI nk), .ref akn, .ref aks, .ref akp, .ref akk, .int (nI bg), .int (nI sz), .int (nI hd), .ref alg, .int (nI ni), .ref aip, .ref aix, .ref aiz, .ref aim, .ref aod, .int (nI av), .int (nI hv), .int (nI lf), .int (nI sn), .int (nI pv)]) :: T) → va_S (zA g) s.heap H locs → ∀ ls : Array Slot, lv_has ls 7 [(0, .ref o), (4, .int (nI mny)), (5, .int (bI b)), (6, .int (nI i))] → W p l e (zR 4 87 0 0) s m [.ref o].toArray below meth c H locs 0 0 (MQ below (zQi g (fun r w => r = iI (cntM f sz bg (knM kn ks kp kk nk) (mdM ipl ist isz inm) ni) ∧ ∃ av2 hv2 lf2 sn2 : Nat, w = (o, zo 11 [.int (nI ts), .ref ta, .int (nI ne), .ref ans, .ref anm, .ref anu, .ref asa, .ref apl, .ref akd, .int (nI nk), .ref akn, .ref aks, .ref akp, .ref akk, .int (nI bg), .int (nI sz), .int (nI hd), .ref alg, .int (nI ni), .ref aip, .ref aix, .ref aiz, .ref aim, .ref aod, .int (nI av2), .int (nI hv2), .int (nI lf2), .int (nI sn2), .int (nI pv)]) :: T)) [.ref o].toArray s 0 0 (zA g)) (F0 m 80 ls []) := by
    intro nu
    induction nu with
    | zero => intros; omega
    | succ nu ih =>
      intro i mny b av hv lf sn f2 f3 hb1 hb3 hmu H locs hP hD hS ls hl
      refine lv_iload hx hb d_Mod_count_80 (lv_at hl 3 rfl) ?_
      refine lv_aload_n hx hb d_Mod_count_82 rfl (lv_at hl 0 rfl) ?_
      refine z_get C hP List.mem_cons_self q_Mod 18 (by decide) k_746 (fun _ h9 => h9) rfl d_Mod_count_83 ?_
      refine lv_icmp_ge (tgt := 108) hx hb d_Mod_count_86 (by decide) (fun c_86 => ?_) (fun c_86 => ?_)
      · skip
        have c_86 : ni ≤ i := (nI_leI (a := ni) (b := i) (by omega) (by omega)).mp c_86
        exact L_108 _ _ _ _ _ _ (by rw [show ni = i by omega]; exact hb1) hb3 _ _ hP hD hS ls (lv_sub hl [0, 1, 2] rfl)
      · skip
        have c_86 : ¬ ni ≤ i := fun q9 => c_86 ((nI_leI (a := ni) (b := i) (by omega) (by omega)).mpr q9)
        refine lv_iload hx hb d_Mod_count_89 (lv_at hl 2 rfl) ?_
        refine lv_if_eq (tgt := 108) hx hb d_Mod_count_91 (by decide) (fun c_91 => ?_) (fun c_91 => ?_)
        · skip
          have c_91 := bI_eq.mp c_91
          exact L_108 _ _ _ _ _ _ (by rw [c_91]; rw [c_91] at hb1; rcases Bool.and_eq_false_iff.mp hb1.symm with q9 | q9; rw [q9]; rfl; rw [all_le q9 f2, Bool.and_false]) hb3 _ _ hP hD hS ls (lv_sub hl [0, 1, 2] rfl)
        · skip
          have c_91 := bI_ne.mp c_91
          refine lv_aload_n hx hb d_Mod_count_94 rfl (lv_at hl 0 rfl) ?_
          refine lv_iload hx hb d_Mod_count_95 (lv_at hl 3 rfl) ?_
          refine z_ki (z_runV (np := 1) C (c_Mod_isIndexRight l g T o ts ta ne ans anm anu asa apl akd nk akn aks akp akk bg sz hd alg ni aip aix aiz aim aod av hv lf sn pv f hlg ipl ist isz inm hip hix hiz him i (by omega) v2 x1 x2 x3) hP hD hS List.mem_cons_self (show classes[11]? = some (R_Mod, F_Mod, 29) from rfl) k_960 k_12 k_957 k_959 ks_Mod_isIndexRight ⟨by decide, by decide, by decide⟩ ⟨Nat.le_of_ble_eq_true rfl, Nat.le_of_ble_eq_true rfl⟩ rfl hl.1 rfl (Nat.le_of_ble_eq_true rfl) d_Mod_count_97 ⟨by show _ ≤ 0; omega, by show _ ≤ 0; omega⟩) hS (fun r_97 w H locs hw hP hD hS => ?_)
          obtain ⟨rfl, av2, hv2, lf2, sn2, hw⟩ := hw
          rw [hw] at hP hD
          refine lv_istore (lv' := [(5, .int (bI (ixJ f sz bg (mdM ipl ist isz inm) i))), (0, .ref o), (4, .int (nI mny)), (6, .int (nI i))]) hx hb d_Mod_count_100 hl (by decide) rfl (fun ls hl => ?_)
          refine lv_iinc (v := nI (i + 1)) (lv' := [(6, .int (nI (i + 1))), (5, .int (bI (ixJ f sz bg (mdM ipl ist isz inm) i))), (0, .ref o), (4, .int (nI mny))]) hx hb d_Mod_count_102 hl (k := 3) rfl (by rw [show Int32.ofInt 1 = nI 1 by decide]; exact nI_add _ _) (by decide) rfl (fun ls hl => ?_)
          refine lv_goto (tgt := 80) hx hb d_Mod_count_105 (by decide) ?_
          exact ih (i + 1) _ _ _ _ _ _ (by omega) f3 (by rw [all_s, ← Bool.and_assoc, ← hb1, c_91, Bool.true_and]) hb3 (by omega) _ _ hP hD hS ls (lv_sub hl [2, 3, 1, 0] rfl)
  have L_60 : ∀ (gt : Int32) (av hv lf sn : Nat) (_ : sn ≤ 65536) (_ : (gt = nI 0 ∧ mcC f sz (knM kn ks kp kk nk) (sz + 1) 0 0 0 0 0 0 [] = (sn : Int)) ∨ (gt = iI (-1) ∧ mcC f sz (knM kn ks kp kk nk) (sz + 1) 0 0 0 0 0 0 [] = -2)) (H : Heap) (locs : List Loc), va_P g.1 classes ((o, zo 11 [.int (nI ts), .ref ta, .int (nI ne), .ref ans, .ref anm, .ref anu, .ref asa, .ref apl, .ref akd, .int (nI nk), .ref akn, .ref aks, .ref akp, .ref akk, .int (nI bg), .int (nI sz), .int (nI hd), .ref alg, .int (nI ni), .ref aip, .ref aix, .ref aiz, .ref aim, .ref aod, .int (nI av), .int (nI hv), .int (nI lf), .int (nI sn), .int (nI pv)]) :: T) H → va_D (zA g) ((o, zo 11 [.int (nI ts), .ref ta, .int (nI ne), .ref ans, .ref anm, .ref anu, .ref asa, .ref apl, .ref akd, .int (nI nk), .ref akn, .ref aks, .ref akp, .ref akk, .int (nI bg), .int (nI sz), .int (nI hd), .ref alg, .int (nI ni), .ref aip, .ref aix, .ref aiz, .ref aim, .ref aod, .int (nI av), .int (nI hv), .int (nI lf), .int (nI sn), .int (nI pv)]) :: T) → va_S (zA g) s.heap H locs → ∀ ls : Array Slot, lv_has ls 7 [(0, .ref o), (3, .int gt)] → W p l e (zR 4 87 0 0) s m [.ref o].toArray below meth c H locs 0 0 (MQ below (zQi g (fun r w => r = iI (cntM f sz bg (knM kn ks kp kk nk) (mdM ipl ist isz inm) ni) ∧ ∃ av2 hv2 lf2 sn2 : Nat, w = (o, zo 11 [.int (nI ts), .ref ta, .int (nI ne), .ref ans, .ref anm, .ref anu, .ref asa, .ref apl, .ref akd, .int (nI nk), .ref akn, .ref aks, .ref akp, .ref akk, .int (nI bg), .int (nI sz), .int (nI hd), .ref alg, .int (nI ni), .ref aip, .ref aix, .ref aiz, .ref aim, .ref aod, .int (nI av2), .int (nI hv2), .int (nI lf2), .int (nI sn2), .int (nI pv)]) :: T)) [.ref o].toArray s 0 0 (zA g)) (F0 m 60 ls []) := by
    intro gt av hv lf sn f1 hG H locs hP hD hS ls hl
    have L_75 : ∀ (b : Bool) (_ : b = decide (mcC f sz (knM kn ks kp kk nk) (sz + 1) 0 0 0 0 0 0 [] ≠ -2)) (_ : mcC f sz (knM kn ks kp kk nk) (sz + 1) 0 0 0 0 0 0 [] ≠ -2 → mcC f sz (knM kn ks kp kk nk) (sz + 1) 0 0 0 0 0 0 [] = (sn : Int)) (H : Heap) (locs : List Loc), va_P g.1 classes ((o, zo 11 [.int (nI ts), .ref ta, .int (nI ne), .ref ans, .ref anm, .ref anu, .ref asa, .ref apl, .ref akd, .int (nI nk), .ref akn, .ref aks, .ref akp, .ref akk, .int (nI bg), .int (nI sz), .int (nI hd), .ref alg, .int (nI ni), .ref aip, .ref aix, .ref aiz, .ref aim, .ref aod, .int (nI av), .int (nI hv), .int (nI lf), .int (nI sn), .int (nI pv)]) :: T) H → va_D (zA g) ((o, zo 11 [.int (nI ts), .ref ta, .int (nI ne), .ref ans, .ref anm, .ref anu, .ref asa, .ref apl, .ref akd, .int (nI nk), .ref akn, .ref aks, .ref akp, .ref akk, .int (nI bg), .int (nI sz), .int (nI hd), .ref alg, .int (nI ni), .ref aip, .ref aix, .ref aiz, .ref aim, .ref aod, .int (nI av), .int (nI hv), .int (nI lf), .int (nI sn), .int (nI pv)]) :: T) → va_S (zA g) s.heap H locs → ∀ ls : Array Slot, lv_has ls 7 [(0, .ref o), (4, .int (nI sn))] → W p l e (zR 4 87 0 0) s m [.ref o].toArray below meth c H locs 0 0 (MQ below (zQi g (fun r w => r = iI (cntM f sz bg (knM kn ks kp kk nk) (mdM ipl ist isz inm) ni) ∧ ∃ av2 hv2 lf2 sn2 : Nat, w = (o, zo 11 [.int (nI ts), .ref ta, .int (nI ne), .ref ans, .ref anm, .ref anu, .ref asa, .ref apl, .ref akd, .int (nI nk), .ref akn, .ref aks, .ref akp, .ref akk, .int (nI bg), .int (nI sz), .int (nI hd), .ref alg, .int (nI ni), .ref aip, .ref aix, .ref aiz, .ref aim, .ref aod, .int (nI av2), .int (nI hv2), .int (nI lf2), .int (nI sn2), .int (nI pv)]) :: T)) [.ref o].toArray s 0 0 (zA g)) (F0 m 75 ls [.int (bI b)]) := by
      intro b hb1 hb3 H locs hP hD hS ls hl
      refine lv_istore (lv' := [(5, .int (bI b)), (0, .ref o), (4, .int (nI sn))]) hx hb d_Mod_count_75 hl (by decide) rfl (fun ls hl => ?_)
      refine lv_iconst (v := nI 0) hx hb d_Mod_count_77 (by decide) ?_
      refine lv_istore (lv' := [(6, .int (nI 0)), (5, .int (bI b)), (0, .ref o), (4, .int (nI sn))]) hx hb d_Mod_count_78 hl (by decide) rfl (fun ls hl => ?_)
      exact L_80 _ 0 _ b _ _ _ _ (Nat.zero_le _) f1 (by rw [hb1]; exact (Bool.and_true _).symm) hb3 (Nat.lt_succ_self _) _ _ hP hD hS ls (lv_sub hl [2, 3, 1, 0] rfl)
    refine lv_aload_n hx hb d_Mod_count_60 rfl (lv_at hl 0 rfl) ?_
    refine z_get C hP List.mem_cons_self q_Mod 27 (by decide) k_755 (fun _ h9 => h9) rfl d_Mod_count_61 ?_
    refine lv_istore (lv' := [(4, .int (nI sn)), (0, .ref o), (3, .int gt)]) hx hb d_Mod_count_64 hl (by decide) rfl (fun ls hl => ?_)
    refine lv_iload_n hx hb d_Mod_count_66 rfl (lv_at hl 2 rfl) ?_
    refine lv_if_ne (tgt := 74) hx hb d_Mod_count_67 (by decide) (fun c_67 => ?_) (fun c_67 => ?_)
    · skip
      refine lv_iconst (v := nI 0) hx hb d_Mod_count_74 (by decide) ?_
      refine z_topi (y := bI false) rfl ?_
      exact L_75 false (by rcases hG with ⟨q1, q2⟩ | ⟨q1, q2⟩; exact absurd q1 c_67; rw [decide_eq_false (fun q9 => q9 q2)]) (fun q9 => by rcases hG with ⟨q1, q2⟩ | ⟨q1, q2⟩; exact q2; exact absurd q2 q9) _ _ hP hD hS ls (lv_sub hl [1, 0] rfl)
    · skip
      refine lv_iconst (v := nI 1) hx hb d_Mod_count_70 (by decide) ?_
      refine lv_goto (tgt := 75) hx hb d_Mod_count_71 (by decide) ?_
      refine z_topi (y := bI true) rfl ?_
      exact L_75 true (by rcases hG with ⟨q1, q2⟩ | ⟨q1, q2⟩; rw [decide_eq_true]; omega; rw [q1] at c_67; exact absurd c_67 (by decide)) (fun q9 => by rcases hG with ⟨q1, q2⟩ | ⟨q1, q2⟩; exact q2; exact absurd q2 q9) _ _ hP hD hS ls (lv_sub hl [1, 0] rfl)
  have L_15 : ∀ (nu : Nat) (nm nn fu av hv lf sn en2 hn2 st2 : Nat) (_ : en2 = av + 9 + U2 f sz (av + 6)) (_ : en2 ≤ sz) (_ : hv + 21 ≤ en2) (_ : lf ≤ 256) (_ : sn ≤ en2) (_ : hn2 = U4 f sz (hv + 8)) (_ : st2 = U4 f sz (hv + 4)) (_ : sz < fu + en2) (_ : nm + nn ≤ sz) (_ : mcC f sz (knM kn ks kp kk nk) (sz + 1) 0 0 0 0 0 0 [] = if entQ f sz (knM kn ks kp kk nk) (zl f nm nn) hn2 st2 av = true then mcC f sz (knM kn ks kp kk nk) fu sn en2 lf hv hn2 st2 (nmA f sz av) else -2) (_ : sz - en2 < nu) (H : Heap) (locs : List Loc), va_P g.1 classes ((o, zo 11 [.int (nI ts), .ref ta, .int (nI ne), .ref ans, .ref anm, .ref anu, .ref asa, .ref apl, .ref akd, .int (nI nk), .ref akn, .ref aks, .ref akp, .ref akk, .int (nI bg), .int (nI sz), .int (nI hd), .ref alg, .int (nI ni), .ref aip, .ref aix, .ref aiz, .ref aim, .ref aod, .int (nI av), .int (nI hv), .int (nI lf), .int (nI sn), .int (nI pv)]) :: T) H → va_D (zA g) ((o, zo 11 [.int (nI ts), .ref ta, .int (nI ne), .ref ans, .ref anm, .ref anu, .ref asa, .ref apl, .ref akd, .int (nI nk), .ref akn, .ref aks, .ref akp, .ref akk, .int (nI bg), .int (nI sz), .int (nI hd), .ref alg, .int (nI ni), .ref aip, .ref aix, .ref aiz, .ref aim, .ref aod, .int (nI av), .int (nI hv), .int (nI lf), .int (nI sn), .int (nI pv)]) :: T) → va_S (zA g) s.heap H locs → ∀ ls : Array Slot, lv_has ls 7 [(0, .ref o), (1, .int (nI nm)), (2, .int (nI nn))] → W p l e (zR 4 87 0 0) s m [.ref o].toArray below meth c H locs 0 0 (MQ below (zQi g (fun r w => r = iI (cntM f sz bg (knM kn ks kp kk nk) (mdM ipl ist isz inm) ni) ∧ ∃ av2 hv2 lf2 sn2 : Nat, w = (o, zo 11 [.int (nI ts), .ref ta, .int (nI ne), .ref ans, .ref anm, .ref anu, .ref asa, .ref apl, .ref akd, .int (nI nk), .ref akn, .ref aks, .ref akp, .ref akk, .int (nI bg), .int (nI sz), .int (nI hd), .ref alg, .int (nI ni), .ref aip, .ref aix, .ref aiz, .ref aim, .ref aod, .int (nI av2), .int (nI hv2), .int (nI lf2), .int (nI sn2), .int (nI pv)]) :: T)) [.ref o].toArray s 0 0 (zA g)) (F0 m 15 ls []) := by
    intro nu
    induction nu with
    | zero => intros; omega
    | succ nu ih =>
      intro nm nn fu av hv lf sn en2 hn2 st2 e1 e2 e3 e4 e5 e6 e7 e8 e9 hT hmu H locs hP hD hS ls hl
      obtain ⟨fu, rfl⟩ : ∃ q9, fu = q9 + 1 := ⟨fu - 1, by omega⟩
      have L_38 : ∀ (_ : entQ f sz (knM kn ks kp kk nk) (zl f nm nn) hn2 st2 av = true) (H : Heap) (locs : List Loc), va_P g.1 classes ((o, zo 11 [.int (nI ts), .ref ta, .int (nI ne), .ref ans, .ref anm, .ref anu, .ref asa, .ref apl, .ref akd, .int (nI nk), .ref akn, .ref aks, .ref akp, .ref akk, .int (nI bg), .int (nI sz), .int (nI hd), .ref alg, .int (nI ni), .ref aip, .ref aix, .ref aiz, .ref aim, .ref aod, .int (nI av), .int (nI hv), .int (nI lf), .int (nI sn), .int (nI pv)]) :: T) H → va_D (zA g) ((o, zo 11 [.int (nI ts), .ref ta, .int (nI ne), .ref ans, .ref anm, .ref anu, .ref asa, .ref apl, .ref akd, .int (nI nk), .ref akn, .ref aks, .ref akp, .ref akk, .int (nI bg), .int (nI sz), .int (nI hd), .ref alg, .int (nI ni), .ref aip, .ref aix, .ref aiz, .ref aim, .ref aod, .int (nI av), .int (nI hv), .int (nI lf), .int (nI sn), .int (nI pv)]) :: T) → va_S (zA g) s.heap H locs → ∀ ls : Array Slot, lv_has ls 7 [(0, .ref o), (1, .int (nI nm)), (2, .int (nI nn))] → W p l e (zR 4 87 0 0) s m [.ref o].toArray below meth c H locs 0 0 (MQ below (zQi g (fun r w => r = iI (cntM f sz bg (knM kn ks kp kk nk) (mdM ipl ist isz inm) ni) ∧ ∃ av2 hv2 lf2 sn2 : Nat, w = (o, zo 11 [.int (nI ts), .ref ta, .int (nI ne), .ref ans, .ref anm, .ref anu, .ref asa, .ref apl, .ref akd, .int (nI nk), .ref akn, .ref aks, .ref akp, .ref akk, .int (nI bg), .int (nI sz), .int (nI hd), .ref alg, .int (nI ni), .ref aip, .ref aix, .ref aiz, .ref aim, .ref aod, .int (nI av2), .int (nI hv2), .int (nI lf2), .int (nI sn2), .int (nI pv)]) :: T)) [.ref o].toArray s 0 0 (zA g)) (F0 m 38 ls []) := by
        intro hE H locs hP hD hS ls hl
        have hT2 := hT.trans (if_pos hE)
        refine lv_aload_n hx hb d_Mod_count_38 rfl (lv_at hl 0 rfl) ?_
        refine z_get C hP List.mem_cons_self q_Mod 24 (by decide) k_752 (fun _ h9 => h9) rfl d_Mod_count_39 ?_
        refine lv_bipush (v := nI 8) hx hb d_Mod_count_42 (by decide) ?_
        refine z_iadd (v := nI (av + 8)) C d_Mod_count_44 (nI_add _ _) ?_
        refine lv_istore_n (lv' := [(1, .int (nI (av + 8))), (0, .ref o), (2, .int (nI nn))]) hx hb d_Mod_count_45 rfl hl (by decide) rfl (fun ls hl => ?_)
        refine lv_aload_n hx hb d_Mod_count_46 rfl (lv_at hl 1 rfl) ?_
        refine z_ki (z_runV (np := 0) C (c_Mod_sizeHere l g ((o, zo 11 [.int (nI ts), .ref ta, .int (nI ne), .ref ans, .ref anm, .ref anu, .ref asa, .ref apl, .ref akd, .int (nI nk), .ref akn, .ref aks, .ref akp, .ref akk, .int (nI bg), .int (nI sz), .int (nI hd), .ref alg, .int (nI ni), .ref aip, .ref aix, .ref aiz, .ref aim, .ref aod, .int (nI av), .int (nI hv), .int (nI lf), .int (nI sn), .int (nI pv)]) :: T) o ts ta ne ans anm anu asa apl akd nk akn aks akp akk bg sz hd alg ni aip aix aiz aim aod av hv lf sn pv List.mem_cons_self f (List.mem_cons_of_mem _ hlg) (by omega) (by omega)) hP hD hS List.mem_cons_self (show classes[11]? = some (R_Mod, F_Mod, 29) from rfl) k_944 k_12 k_941 k_943 ks_Mod_sizeHere ⟨by decide, by decide, by decide⟩ ⟨Nat.le_of_ble_eq_true rfl, Nat.le_of_ble_eq_true rfl⟩ rfl hl.1 rfl (Nat.le_of_ble_eq_true rfl) d_Mod_count_47 ⟨by show _ ≤ 0; omega, by show _ ≤ 0; omega⟩) hS (fun r_47 w H locs hw hP hD hS => ?_)
        obtain ⟨rfl, hw⟩ := hw
        rw [hw] at hP hD
        have u9 := U2_lt f sz (av + 6)
        refine lv_istore_n (lv' := [(2, .int (nI (U2 f sz (av + 6) + 1))), (1, .int (nI (av + 8))), (0, .ref o)]) hx hb d_Mod_count_50 rfl hl (by decide) rfl (fun ls hl => ?_)
        refine lv_aload_n hx hb d_Mod_count_51 rfl (lv_at hl 2 rfl) ?_
        refine lv_iconst (v := nI 0) hx hb d_Mod_count_52 (by decide) ?_
        refine z_ki (z_runV (np := 1) C (c_Mod_step_f l g T o ts ta ne ans anm anu asa apl akd nk akn aks akp akk bg sz hd alg ni aip aix aiz aim aod av hv lf sn pv f hlg hn2 st2 (by omega) (by omega) (by omega) (by omega)) hP hD hS List.mem_cons_self (show classes[11]? = some (R_Mod, F_Mod, 29) from rfl) k_928 k_12 k_925 k_927 ks_Mod_step ⟨by decide, by decide, by decide⟩ ⟨Nat.le_of_ble_eq_true rfl, Nat.le_of_ble_eq_true rfl⟩ rfl hl.1 rfl (Nat.le_of_ble_eq_true rfl) d_Mod_count_53 ⟨by show _ ≤ 0; omega, by show _ ≤ 0; omega⟩) hS (fun r_53 w H locs hw hP hD hS => ?_)
        rcases st3 f sz (av + 9 + U2 f sz (av + 6)) lf hv hn2 st2 with hend | ⟨hne, hst⟩ | ⟨hne, en3, lf3, ha3, hn3, st3_, at3, hst⟩
        · skip
          obtain ⟨rfl, hw2⟩ := hw.1 hend
          rw [hw2] at hP hD
          refine lv_istore_n (lv' := [(3, .int (nI 0)), (2, .int (nI (U2 f sz (av + 6) + 1))), (1, .int (nI (av + 8))), (0, .ref o)]) hx hb d_Mod_count_56 rfl hl (by decide) rfl (fun ls hl => ?_)
          refine lv_goto (tgt := 10) hx hb d_Mod_count_57 (by decide) ?_
          refine lv_iload_n hx hb d_Mod_count_10 rfl (lv_at hl 0 rfl) ?_
          refine lv_iconst (v := nI 1) hx hb d_Mod_count_11 (by decide) ?_
          refine lv_icmp_ne (tgt := 60) hx hb d_Mod_count_12 (by decide) (fun c_12 => ?_) (fun c_12 => ?_)
          · skip
            have c_12 : ¬ 0 = 1 := fun q9 => c_12 ((nI_eq (a := 0) (b := 1) (by decide) (by decide)).mpr q9)
            exact L_60 _ _ _ _ _ (by omega) (by first | exact Or.inl ⟨rfl, by rw [hT2, mc_end (show lf = 0 ∧ en2 = sz by rw [e1]; exact hend)]⟩ | exact Or.inr ⟨rfl, by rw [hT2, mc_none (show ¬ (lf = 0 ∧ en2 = sz) by rw [e1]; exact hne) (show stepP f sz en2 lf hv hn2 st2 = none by rw [e1]; exact hst)]⟩) _ _ hP hD hS ls (lv_sub hl [3, 0] rfl)
          · skip
            have c_12 : 0 = 1 := (nI_eq (a := 0) (b := 1) (by decide) (by decide)).mp c_12
            exact absurd c_12 (by omega)
        · skip
          obtain ⟨rfl, hv9, lf9, hw2⟩ := (hw.2 hne).1 hst
          rw [hw2] at hP hD
          refine lv_istore_n (lv' := [(3, .int (iI (-1))), (2, .int (nI (U2 f sz (av + 6) + 1))), (1, .int (nI (av + 8))), (0, .ref o)]) hx hb d_Mod_count_56 rfl hl (by decide) rfl (fun ls hl => ?_)
          refine lv_goto (tgt := 10) hx hb d_Mod_count_57 (by decide) ?_
          refine lv_iload_n hx hb d_Mod_count_10 rfl (lv_at hl 0 rfl) ?_
          refine lv_iconst (v := nI 1) hx hb d_Mod_count_11 (by decide) ?_
          refine lv_icmp_ne (tgt := 60) hx hb d_Mod_count_12 (by decide) (fun c_12 => ?_) (fun c_12 => ?_)
          · skip
            exact L_60 _ _ _ _ _ (by omega) (by first | exact Or.inl ⟨rfl, by rw [hT2, mc_end (show lf = 0 ∧ en2 = sz by rw [e1]; exact hend)]⟩ | exact Or.inr ⟨rfl, by rw [hT2, mc_none (show ¬ (lf = 0 ∧ en2 = sz) by rw [e1]; exact hne) (show stepP f sz en2 lf hv hn2 st2 = none by rw [e1]; exact hst)]⟩) _ _ hP hD hS ls (lv_sub hl [3, 0] rfl)
          · skip
            exact absurd c_12 (by decide)
        · skip
          obtain ⟨rfl, hw2⟩ := (hw.2 hne).2 _ _ _ _ _ _ hst
          rw [hw2] at hP hD
          obtain ⟨p1, p2, p3, p4, p5, p6, p7⟩ := step_inv hst (Or.inr ⟨by omega, e6, e7⟩) (by omega)
          refine lv_istore_n (lv' := [(3, .int (nI 1)), (2, .int (nI (U2 f sz (av + 6) + 1))), (1, .int (nI (av + 8))), (0, .ref o)]) hx hb d_Mod_count_56 rfl hl (by decide) rfl (fun ls hl => ?_)
          refine lv_goto (tgt := 10) hx hb d_Mod_count_57 (by decide) ?_
          refine lv_iload_n hx hb d_Mod_count_10 rfl (lv_at hl 0 rfl) ?_
          refine lv_iconst (v := nI 1) hx hb d_Mod_count_11 (by decide) ?_
          refine lv_icmp_ne (tgt := 60) hx hb d_Mod_count_12 (by decide) (fun c_12 => ?_) (fun c_12 => ?_)
          · skip
            have c_12 : ¬ 1 = 1 := fun q9 => c_12 ((nI_eq (a := 1) (b := 1) (by decide) (by decide)).mpr q9)
            exact absurd c_12 (by omega)
          · skip
            have c_12 : 1 = 1 := (nI_eq (a := 1) (b := 1) (by decide) (by decide)).mp c_12
            exact ih _ _ fu at3 ha3 lf3 _ en3 hn3 st3_ p1 p2 p3 p6 (by omega) p4 p5 (by omega) (by omega) (by rw [mc_some (show ¬ (lf = 0 ∧ en2 = sz) by rw [e1]; exact hne) (show stepP f sz en2 lf hv hn2 st2 = some (en3, lf3, ha3, hn3, st3_, at3) by rw [e1]; exact hst)] at hT2; exact hT2) (by omega) _ _ hP hD hS ls (lv_sub hl [3, 2, 1] rfl)
      refine lv_aload_n hx hb d_Mod_count_15 rfl (lv_at hl 0 rfl) ?_
      refine z_ki (z_runV (np := 0) C (c_Mod_isEntryRight l g ((o, zo 11 [.int (nI ts), .ref ta, .int (nI ne), .ref ans, .ref anm, .ref anu, .ref asa, .ref apl, .ref akd, .int (nI nk), .ref akn, .ref aks, .ref akp, .ref akk, .int (nI bg), .int (nI sz), .int (nI hd), .ref alg, .int (nI ni), .ref aip, .ref aix, .ref aiz, .ref aim, .ref aod, .int (nI av), .int (nI hv), .int (nI lf), .int (nI sn), .int (nI pv)]) :: T) o ts ta ne ans anm anu asa apl akd nk akn aks akp akk bg sz hd alg ni aip aix aiz aim aod av hv lf sn pv List.mem_cons_self f (List.mem_cons_of_mem _ hlg) kn ks kp kk (List.mem_cons_of_mem _ hkn) (List.mem_cons_of_mem _ hks) (List.mem_cons_of_mem _ hkp) (List.mem_cons_of_mem _ hkk) (by omega) v2 (by omega) k1 k2) hP hD hS List.mem_cons_self (show classes[11]? = some (R_Mod, F_Mod, 29) from rfl) k_940 k_12 k_937 k_939 ks_Mod_isEntryRight ⟨by decide, by decide, by decide⟩ ⟨Nat.le_of_ble_eq_true rfl, Nat.le_of_ble_eq_true rfl⟩ rfl hl.1 rfl (Nat.le_of_ble_eq_true rfl) d_Mod_count_16 ⟨by show _ ≤ 0; omega, by show _ ≤ 0; omega⟩) hS (fun r_16 w H locs hw hP hD hS => ?_)
      obtain ⟨hR, hw⟩ := hw
      rw [hw] at hP hD
      obtain ⟨bb, hbb⟩ : ∃ q9, q9 = (isNm (nmA f sz av) && knM kn ks kp kk nk ((U4 f sz (hv + 8) : Int) + s16 (U2 f sz (av + 2))) (U4 f sz (hv + 4)) (U2 f sz av) (U2 f sz (av + 4))) := ⟨_, rfl⟩
      rw [← hbb] at hR
      subst hR
      have hR : bb = (isNm (nmA f sz av) && knM kn ks kp kk nk ((hn2 : Int) + s16 (U2 f sz (av + 2))) st2 (U2 f sz av) (U2 f sz (av + 4))) := by rw [e6, e7]; exact hbb
      refine lv_if_eq (tgt := 35) hx hb d_Mod_count_19 (by decide) (fun c_19 => ?_) (fun c_19 => ?_)
      · skip
        refine lv_bipush (v := iI (-2)) hx hb d_Mod_count_35 (by decide) ?_
        exact z_iret C hr hlk hP hD hS (by omega) (by omega) ⟨by rw [cnt_ff (hT.trans (if_neg (entQ_f1 hR (bI_eq.mp c_19))))], _, _, _, _, rfl⟩ d_Mod_count_37
      · skip
        refine lv_iload_n hx hb d_Mod_count_22 rfl (lv_at hl 2 rfl) ?_
        refine lv_if_le (tgt := 38) hx hb d_Mod_count_23 (by decide) (fun c_23 => ?_) (fun c_23 => ?_)
        · skip
          have c_23 : nn ≤ 0 := (nI_leI (a := nn) (b := 0) (by omega) (by decide)).mp c_23
          exact L_38 (entQ_t hR (bI_ne.mp c_19) (Or.inl (by rw [show nn = 0 by omega]; rfl))) _ _ hP hD hS ls (lv_sub hl [0, 1, 2] rfl)
        · skip
          have c_23 : ¬ nn ≤ 0 := fun q9 => c_23 ((nI_leI (a := nn) (b := 0) (by omega) (by decide)).mpr q9)
          refine lv_aload_n hx hb d_Mod_count_26 rfl (lv_at hl 0 rfl) ?_
          refine lv_iload_n hx hb d_Mod_count_27 rfl (lv_at hl 1 rfl) ?_
          refine lv_iload_n hx hb d_Mod_count_28 rfl (lv_at hl 2 rfl) ?_
          refine z_ki (z_runV (np := 2) C (c_Mod_isBehind l g ((o, zo 11 [.int (nI ts), .ref ta, .int (nI ne), .ref ans, .ref anm, .ref anu, .ref asa, .ref apl, .ref akd, .int (nI nk), .ref akn, .ref aks, .ref akp, .ref akk, .int (nI bg), .int (nI sz), .int (nI hd), .ref alg, .int (nI ni), .ref aip, .ref aix, .ref aiz, .ref aim, .ref aod, .int (nI av), .int (nI hv), .int (nI lf), .int (nI sn), .int (nI pv)]) :: T) o ts ta ne ans anm anu asa apl akd nk akn aks akp akk bg sz hd alg ni aip aix aiz aim aod av hv lf sn pv List.mem_cons_self f (List.mem_cons_of_mem _ hlg) nm nn (by omega) v2 (by omega)) hP hD hS List.mem_cons_self (show classes[11]? = some (R_Mod, F_Mod, 29) from rfl) k_956 k_12 k_953 k_955 ks_Mod_isBehind ⟨by decide, by decide, by decide⟩ ⟨Nat.le_of_ble_eq_true rfl, Nat.le_of_ble_eq_true rfl⟩ rfl hl.1 rfl (Nat.le_of_ble_eq_true rfl) d_Mod_count_29 ⟨by show _ ≤ 0; omega, by show _ ≤ 0; omega⟩) hS (fun r_29 w H locs hw hP hD hS => ?_)
          obtain ⟨rfl, hw⟩ := hw
          rw [hw] at hP hD
          refine lv_if_ne (tgt := 38) hx hb d_Mod_count_32 (by decide) (fun c_32 => ?_) (fun c_32 => ?_)
          · skip
            exact L_38 (entQ_t hR (bI_ne.mp c_19) (Or.inr (of_decide_eq_true (bI_ne.mp c_32)))) _ _ hP hD hS ls (lv_sub hl [0, 1, 2] rfl)
          · skip
            refine lv_bipush (v := iI (-2)) hx hb d_Mod_count_35 (by decide) ?_
            exact z_iret C hr hlk hP hD hS (by omega) (by omega) ⟨by rw [cnt_ff (hT.trans (if_neg (entQ_f2 (of_decide_eq_false (bI_eq.mp c_32)))))], _, _, _, _, rfl⟩ d_Mod_count_37
  refine lv_iconst (v := nI 0) hx hb d_Mod_count_0 (by decide) ?_
  refine lv_istore_n (lv' := [(1, .int (nI 0)), (0, .ref o)]) hx hb d_Mod_count_1 rfl hl (by decide) rfl (fun ls hl => ?_)
  refine lv_iconst (v := nI 0) hx hb d_Mod_count_2 (by decide) ?_
  refine lv_istore_n (lv' := [(2, .int (nI 0)), (1, .int (nI 0)), (0, .ref o)]) hx hb d_Mod_count_3 rfl hl (by decide) rfl (fun ls hl => ?_)
  refine lv_aload_n hx hb d_Mod_count_4 rfl (lv_at hl 2 rfl) ?_
  refine lv_iconst (v := nI 1) hx hb d_Mod_count_5 (by decide) ?_
  refine z_ki (z_runV (np := 1) C (c_Mod_step_t l g T o ts ta ne ans anm anu asa apl akd nk akn aks akp akk bg sz hd alg ni aip aix aiz aim aod av hv lf sn pv f hlg 0 0 (by omega)) hP hD hS List.mem_cons_self (show classes[11]? = some (R_Mod, F_Mod, 29) from rfl) k_928 k_12 k_925 k_927 ks_Mod_step ⟨by decide, by decide, by decide⟩ ⟨Nat.le_of_ble_eq_true rfl, Nat.le_of_ble_eq_true rfl⟩ rfl hl.1 rfl (Nat.le_of_ble_eq_true rfl) d_Mod_count_6 ⟨by show _ ≤ 0; omega, by show _ ≤ 0; omega⟩) hS (fun r_6 w H locs hw hP hD hS => ?_)
  rcases st3 f sz 0 0 0 0 0 with hend | ⟨hne, hst⟩ | ⟨hne, en3, lf3, ha3, hn3, st3_, at3, hst⟩
  · skip
    obtain ⟨rfl, hw2⟩ := hw.1 hend
    rw [hw2] at hP hD
    refine lv_istore_n (lv' := [(3, .int (nI 0)), (2, .int (nI 0)), (1, .int (nI 0)), (0, .ref o)]) hx hb d_Mod_count_9 rfl hl (by decide) rfl (fun ls hl => ?_)
    refine lv_iload_n hx hb d_Mod_count_10 rfl (lv_at hl 0 rfl) ?_
    refine lv_iconst (v := nI 1) hx hb d_Mod_count_11 (by decide) ?_
    refine lv_icmp_ne (tgt := 60) hx hb d_Mod_count_12 (by decide) (fun c_12 => ?_) (fun c_12 => ?_)
    · skip
      have c_12 : ¬ 0 = 1 := fun q9 => c_12 ((nI_eq (a := 0) (b := 1) (by decide) (by decide)).mpr q9)
      exact L_60 _ _ _ _ _ (by omega) (by first | exact Or.inl ⟨rfl, mc_end hend⟩ | exact Or.inr ⟨rfl, mc_none hne hst⟩) _ _ hP hD hS ls (lv_sub hl [3, 0] rfl)
    · skip
      have c_12 : 0 = 1 := (nI_eq (a := 0) (b := 1) (by decide) (by decide)).mp c_12
      exact absurd c_12 (by omega)
  · skip
    obtain ⟨rfl, hv9, lf9, hw2⟩ := (hw.2 hne).1 hst
    rw [hw2] at hP hD
    refine lv_istore_n (lv' := [(3, .int (iI (-1))), (2, .int (nI 0)), (1, .int (nI 0)), (0, .ref o)]) hx hb d_Mod_count_9 rfl hl (by decide) rfl (fun ls hl => ?_)
    refine lv_iload_n hx hb d_Mod_count_10 rfl (lv_at hl 0 rfl) ?_
    refine lv_iconst (v := nI 1) hx hb d_Mod_count_11 (by decide) ?_
    refine lv_icmp_ne (tgt := 60) hx hb d_Mod_count_12 (by decide) (fun c_12 => ?_) (fun c_12 => ?_)
    · skip
      exact L_60 _ _ _ _ _ (by omega) (by first | exact Or.inl ⟨rfl, mc_end hend⟩ | exact Or.inr ⟨rfl, mc_none hne hst⟩) _ _ hP hD hS ls (lv_sub hl [3, 0] rfl)
    · skip
      exact absurd c_12 (by decide)
  · skip
    obtain ⟨rfl, hw2⟩ := (hw.2 hne).2 _ _ _ _ _ _ hst
    rw [hw2] at hP hD
    obtain ⟨p1, p2, p3, p4, p5, p6, p7⟩ := step_inv hst (Or.inl rfl) (Nat.zero_le _)
    refine lv_istore_n (lv' := [(3, .int (nI 1)), (2, .int (nI 0)), (1, .int (nI 0)), (0, .ref o)]) hx hb d_Mod_count_9 rfl hl (by decide) rfl (fun ls hl => ?_)
    refine lv_iload_n hx hb d_Mod_count_10 rfl (lv_at hl 0 rfl) ?_
    refine lv_iconst (v := nI 1) hx hb d_Mod_count_11 (by decide) ?_
    refine lv_icmp_ne (tgt := 60) hx hb d_Mod_count_12 (by decide) (fun c_12 => ?_) (fun c_12 => ?_)
    · skip
      have c_12 : ¬ 1 = 1 := fun q9 => c_12 ((nI_eq (a := 1) (b := 1) (by decide) (by decide)).mpr q9)
      exact absurd c_12 (by omega)
    · skip
      have c_12 : 1 = 1 := (nI_eq (a := 1) (b := 1) (by decide) (by decide)).mp c_12
      exact L_15 _ 0 0 sz at3 ha3 lf3 _ en3 hn3 st3_ p1 p2 p3 p6 (by omega) p4 p5 (by omega) (by omega) (mc_some hne hst) (Nat.lt_succ_self _) _ _ hP hD hS ls (lv_sub hl [3, 2, 1] rfl)
set_option maxHeartbeats 4000000 in
set_option maxRecDepth 100000 in
theorem c_Mod_check (l : Launch) (g : zT) (T : va_W) (o ts ta ne ans anm anu asa apl akd nk akn aks akp akk bg sz hd alg ni aip aix aiz aim aod av hv lf sn pv : Nat) (f : Nat → UInt8) (hlg : (alg, zBy g 65536 f) ∈ T) (kn ks kp kk : Nat → Nat) (hkn : (akn, zIn g 1500 (nN kn)) ∈ T) (hks : (aks, zIn g 1500 (nN ks)) ∈ T) (hkp : (akp, zIn g 1500 (nN kp)) ∈ T) (hkk : (akk, zIn g 1500 (nN kk)) ∈ T) (ipl ist : Nat → Int32) (isz : Nat → Nat) (inm : Nat → UInt8) (hip : (aip, zIn g 16 ipl) ∈ T) (hix : (aix, zIn g 16 ist) ∈ T) (hiz : (aiz, zIn g 16 (nN isz)) ∈ T) (him : (aim, zIn g 4096 (nB inm)) ∈ T) (v2 : sz ≤ 65536) (k1 : nk ≤ 1500) (k2 : ∀ j, j < nk → kn j ≤ 100000 ∧ ks j < 65536 ∧ kp j < 65536 ∧ kk j < 65536) (x1 : ni ≤ 12) (x2 : ∀ j, j < ni → isz j ≤ 256) (x3 : bg ≤ 40000)  : Met l y_Mod_check (zw y_Mod_check b_Mod_check 1 (some .int)) (zR 5 113 0 0) (zP g [.ref o] ((o, zo 11 [.int (nI ts), .ref ta, .int (nI ne), .ref ans, .ref anm, .ref anu, .ref asa, .ref apl, .ref akd, .int (nI nk), .ref akn, .ref aks, .ref akp, .ref akk, .int (nI bg), .int (nI sz), .int (nI hd), .ref alg, .int (nI ni), .ref aip, .ref aix, .ref aiz, .ref aim, .ref aod, .int (nI av), .int (nI hv), .int (nI lf), .int (nI sn), .int (nI pv)]) :: T)) (zQi g (fun r w => r = iI (cntM f sz bg (knM kn ks kp kk nk) (mdM ipl ist isz inm) ni) ∧ ∃ av2 hv2 lf2 sn2 : Nat, w = (o, zo 11 [.int (nI ts), .ref ta, .int (nI ne), .ref ans, .ref anm, .ref anu, .ref asa, .ref apl, .ref akd, .int (nI nk), .ref akn, .ref aks, .ref akp, .ref akk, .int (nI bg), .int (nI sz), .int (nI hd), .ref alg, .int (nI ni), .ref aip, .ref aix, .ref aiz, .ref aim, .ref aod, .int (nI av2), .int (nI hv2), .int (nI lf2), .int (nI sn2), .int (nI pv)]) :: T)) 0 0 (zA g) := by
  refine zMet (by decide) (Nat.le_of_ble_eq_true rfl) ?_
  intro p e s m below meth c ls C hr hlk hnm hP hD hl
  have hx := C.1.1
  have hb := C.1.2.1
  have hS : va_S (zA g) s.heap s.heap [] := va_S.rf
  have hl : lv_has ls 1 [(0, .ref o)] := hl
  refine lv_aload_n hx hb d_Mod_check_0 rfl (lv_at hl 0 rfl) ?_
  refine z_ki (z_runV (np := 0) C (c_Mod_count l g T o ts ta ne ans anm anu asa apl akd nk akn aks akp akk bg sz hd alg ni aip aix aiz aim aod av hv lf sn pv f hlg kn ks kp kk hkn hks hkp hkk ipl ist isz inm hip hix hiz him v2 k1 k2 x1 x2 x3) hP hD hS List.mem_cons_self (show classes[11]? = some (R_Mod, F_Mod, 29) from rfl) k_924 k_12 k_921 k_923 ks_Mod_count ⟨by decide, by decide, by decide⟩ ⟨Nat.le_of_ble_eq_true rfl, Nat.le_of_ble_eq_true rfl⟩ rfl hl.1 rfl (Nat.le_of_ble_eq_true rfl) d_Mod_check_1 ⟨by show _ ≤ 0; omega, by show _ ≤ 0; omega⟩) hS (fun r_1 w H locs hw hP hD hS => ?_)
  obtain ⟨rfl, av, hv, lf, sn, hw⟩ := hw
  rw [hw] at hP hD
  have cb := cnt_bd f sz bg ni (knM kn ks kp kk nk) (mdM ipl ist isz inm)
  exact z_iret C hr hlk hP hD hS (by omega) (by omega) ⟨rfl, _, _, _, _, rfl⟩ d_Mod_check_4
set_option maxHeartbeats 4000000 in
set_option maxRecDepth 100000 in
theorem c_Mod_entry_b1 (l : Launch) (g : zT) (T : va_W) (o ts ta ne ans anm anu asa apl akd nk akn aks akp akk bg sz hd alg ni aip aix aiz aim aod av hv lf sn pv : Nat) (ho : (o, zo 11 [.int (nI ts), .ref ta, .int (nI ne), .ref ans, .ref anm, .ref anu, .ref asa, .ref apl, .ref akd, .int (nI nk), .ref akn, .ref aks, .ref akp, .ref akk, .int (nI bg), .int (nI sz), .int (nI hd), .ref alg, .int (nI ni), .ref aip, .ref aix, .ref aiz, .ref aim, .ref aod, .int (nI av), .int (nI hv), .int (nI lf), .int (nI sn), .int (nI pv)]) ∈ T) (a b : Int32) (hr9 : ¬ (0 ≤ b.toInt ∧ b.toInt ≤ 4)) : Met l y_Mod_entry (zw y_Mod_entry b_Mod_entry 4 (some .int)) (zR 5 113 0 0) (zP g [.ref o, .int a, .int b] (T)) (zQi g (fun r w => r = iI (-1) ∧ w = T)) 0 0 (zA g) := by
  refine zMet (by decide) (Nat.le_of_ble_eq_true rfl) ?_
  intro p e s m below meth c ls C hr hlk hnm hP hD hl
  have hx := C.1.1
  have hb := C.1.2.1
  have hS : va_S (zA g) s.heap s.heap [] := va_S.rf
  have hl : lv_has ls 4 [(0, .ref o), (1, .int a), (2, .int b)] := hl
  have r1 := zi_rg a
  have r2 := zi_rg b
  refine lv_iload_n hx hb d_Mod_entry_0 rfl (lv_at hl 2 rfl) ?_
  refine lv_if_lt (tgt := 9) hx hb d_Mod_entry_1 (by decide) (fun c_1 => ?_) (fun c_1 => ?_)
  · skip
    have c_1 : b.toInt < 0 := (zi_lt (a := b.toInt) (b := 0) (iI_of _) (nI_iI _) (by omega) (by omega) (by omega) (by omega)).mp c_1
    refine lv_iconst (v := iI (-1)) hx hb d_Mod_entry_9 (by decide) ?_
    exact z_iret C hr hlk hP hD hS (by omega) (by omega) ⟨rfl, rfl⟩ d_Mod_entry_10
  · skip
    have c_1 : ¬ b.toInt < 0 := fun q9 => c_1 ((zi_lt (a := b.toInt) (b := 0) (iI_of _) (nI_iI _) (by omega) (by omega) (by omega) (by omega)).mpr q9)
    refine lv_iload_n hx hb d_Mod_entry_4 rfl (lv_at hl 2 rfl) ?_
    refine lv_iconst (v := nI 4) hx hb d_Mod_entry_5 (by decide) ?_
    refine lv_icmp_le (tgt := 11) hx hb d_Mod_entry_6 (by decide) (fun c_6 => ?_) (fun c_6 => ?_)
    · skip
      have c_6 : b.toInt ≤ 4 := (zi_le (a := b.toInt) (b := 4) (iI_of _) (nI_iI _) (by omega) (by omega) (by omega) (by omega)).mp c_6
      exact absurd c_6 (by omega)
    · skip
      have c_6 : ¬ b.toInt ≤ 4 := fun q9 => c_6 ((zi_le (a := b.toInt) (b := 4) (iI_of _) (nI_iI _) (by omega) (by omega) (by omega) (by omega)).mpr q9)
      refine lv_iconst (v := iI (-1)) hx hb d_Mod_entry_9 (by decide) ?_
      exact z_iret C hr hlk hP hD hS (by omega) (by omega) ⟨rfl, rfl⟩ d_Mod_entry_10
set_option maxHeartbeats 4000000 in
set_option maxRecDepth 100000 in
theorem c_Mod_entry_b2 (l : Launch) (g : zT) (T : va_W) (o ts ta ne ans anm anu asa apl akd nk akn aks akp akk bg sz hd alg ni aip aix aiz aim aod av hv lf sn pv : Nat) (ho : (o, zo 11 [.int (nI ts), .ref ta, .int (nI ne), .ref ans, .ref anm, .ref anu, .ref asa, .ref apl, .ref akd, .int (nI nk), .ref akn, .ref aks, .ref akp, .ref akk, .int (nI bg), .int (nI sz), .int (nI hd), .ref alg, .int (nI ni), .ref aip, .ref aix, .ref aiz, .ref aim, .ref aod, .int (nI av), .int (nI hv), .int (nI lf), .int (nI sn), .int (nI pv)]) ∈ T) (a b : Int32) (hr9 : 0 ≤ b.toInt ∧ b.toInt ≤ 4) (hr8 : a.toInt < 0) : Met l y_Mod_entry (zw y_Mod_entry b_Mod_entry 4 (some .int)) (zR 5 113 0 0) (zP g [.ref o, .int a, .int b] (T)) (zQi g (fun r w => r = iI (-2) ∧ w = T)) 0 0 (zA g) := by
  refine zMet (by decide) (Nat.le_of_ble_eq_true rfl) ?_
  intro p e s m below meth c ls C hr hlk hnm hP hD hl
  have hx := C.1.1
  have hb := C.1.2.1
  have hS : va_S (zA g) s.heap s.heap [] := va_S.rf
  have hl : lv_has ls 4 [(0, .ref o), (1, .int a), (2, .int b)] := hl
  have r1 := zi_rg a
  have r2 := zi_rg b
  refine lv_iload_n hx hb d_Mod_entry_0 rfl (lv_at hl 2 rfl) ?_
  refine lv_if_lt (tgt := 9) hx hb d_Mod_entry_1 (by decide) (fun c_1 => ?_) (fun c_1 => ?_)
  · skip
    have c_1 : b.toInt < 0 := (zi_lt (a := b.toInt) (b := 0) (iI_of _) (nI_iI _) (by omega) (by omega) (by omega) (by omega)).mp c_1
    exact absurd c_1 (by omega)
  · skip
    have c_1 : ¬ b.toInt < 0 := fun q9 => c_1 ((zi_lt (a := b.toInt) (b := 0) (iI_of _) (nI_iI _) (by omega) (by omega) (by omega) (by omega)).mpr q9)
    refine lv_iload_n hx hb d_Mod_entry_4 rfl (lv_at hl 2 rfl) ?_
    refine lv_iconst (v := nI 4) hx hb d_Mod_entry_5 (by decide) ?_
    refine lv_icmp_le (tgt := 11) hx hb d_Mod_entry_6 (by decide) (fun c_6 => ?_) (fun c_6 => ?_)
    · skip
      have c_6 : b.toInt ≤ 4 := (zi_le (a := b.toInt) (b := 4) (iI_of _) (nI_iI _) (by omega) (by omega) (by omega) (by omega)).mp c_6
      refine lv_iload_n hx hb d_Mod_entry_11 rfl (lv_at hl 1 rfl) ?_
      refine lv_if_lt (tgt := 23) hx hb d_Mod_entry_12 (by decide) (fun c_12 => ?_) (fun c_12 => ?_)
      · skip
        have c_12 : a.toInt < 0 := (zi_lt (a := a.toInt) (b := 0) (iI_of _) (nI_iI _) (by omega) (by omega) (by omega) (by omega)).mp c_12
        refine lv_bipush (v := iI (-2)) hx hb d_Mod_entry_23 (by decide) ?_
        exact z_iret C hr hlk hP hD hS (by omega) (by omega) ⟨rfl, rfl⟩ d_Mod_entry_25
      · skip
        have c_12 : ¬ a.toInt < 0 := fun q9 => c_12 ((zi_lt (a := a.toInt) (b := 0) (iI_of _) (nI_iI _) (by omega) (by omega) (by omega) (by omega)).mpr q9)
        exact absurd c_12 (by omega)
    · skip
      have c_6 : ¬ b.toInt ≤ 4 := fun q9 => c_6 ((zi_le (a := b.toInt) (b := 4) (iI_of _) (nI_iI _) (by omega) (by omega) (by omega) (by omega)).mpr q9)
      exact absurd c_6 (by omega)
set_option maxHeartbeats 4000000 in
set_option maxRecDepth 100000 in
theorem c_Mod_entry_n (l : Launch) (g : zT) (T : va_W) (o ts ta ne ans anm anu asa apl akd nk akn aks akp akk bg sz hd alg ni aip aix aiz aim aod av hv lf sn pv : Nat) (f : Nat → UInt8) (hlg : (alg, zBy g 65536 f) ∈ T) (kn ks kp kk : Nat → Nat) (hkn : (akn, zIn g 1500 (nN kn)) ∈ T) (hks : (aks, zIn g 1500 (nN ks)) ∈ T) (hkp : (akp, zIn g 1500 (nN kp)) ∈ T) (hkk : (akk, zIn g 1500 (nN kk)) ∈ T) (ipl ist : Nat → Int32) (isz : Nat → Nat) (inm : Nat → UInt8) (hip : (aip, zIn g 16 ipl) ∈ T) (hix : (aix, zIn g 16 ist) ∈ T) (hiz : (aiz, zIn g 16 (nN isz)) ∈ T) (him : (aim, zIn g 4096 (nB inm)) ∈ T) (v2 : sz ≤ 65536) (k1 : nk ≤ 1500) (k2 : ∀ j, j < nk → kn j ≤ 100000 ∧ ks j < 65536 ∧ kp j < 65536 ∧ kk j < 65536) (x1 : ni ≤ 12) (x2 : ∀ j, j < ni → isz j ≤ 256) (x3 : bg ≤ 40000) (i : Nat) (b : Int32) (v3 : i < 2 ^ 31) (hr9 : 0 ≤ b.toInt ∧ b.toInt ≤ 4) (hr8 : ¬ (i : Int) < cntM f sz bg (knM kn ks kp kk nk) (mdM ipl ist isz inm) ni) : Met l y_Mod_entry (zw y_Mod_entry b_Mod_entry 4 (some .int)) (zR 5 113 0 0) (zP g [.ref o, .int (nI i), .int b] ((o, zo 11 [.int (nI ts), .ref ta, .int (nI ne), .ref ans, .ref anm, .ref anu, .ref asa, .ref apl, .ref akd, .int (nI nk), .ref akn, .ref aks, .ref akp, .ref akk, .int (nI bg), .int (nI sz), .int (nI hd), .ref alg, .int (nI ni), .ref aip, .ref aix, .ref aiz, .ref aim, .ref aod, .int (nI av), .int (nI hv), .int (nI lf), .int (nI sn), .int (nI pv)]) :: T)) (zQi g (fun r w => r = iI (-2) ∧ ∃ av2 hv2 lf2 sn2 : Nat, w = (o, zo 11 [.int (nI ts), .ref ta, .int (nI ne), .ref ans, .ref anm, .ref anu, .ref asa, .ref apl, .ref akd, .int (nI nk), .ref akn, .ref aks, .ref akp, .ref akk, .int (nI bg), .int (nI sz), .int (nI hd), .ref alg, .int (nI ni), .ref aip, .ref aix, .ref aiz, .ref aim, .ref aod, .int (nI av2), .int (nI hv2), .int (nI lf2), .int (nI sn2), .int (nI pv)]) :: T)) 0 0 (zA g) := by
  refine zMet (by decide) (Nat.le_of_ble_eq_true rfl) ?_
  intro p e s m below meth c ls C hr hlk hnm hP hD hl
  have hx := C.1.1
  have hb := C.1.2.1
  have hS : va_S (zA g) s.heap s.heap [] := va_S.rf
  have hl : lv_has ls 4 [(0, .ref o), (1, .int (nI i)), (2, .int b)] := hl
  have r2 := zi_rg b
  refine lv_iload_n hx hb d_Mod_entry_0 rfl (lv_at hl 2 rfl) ?_
  refine lv_if_lt (tgt := 9) hx hb d_Mod_entry_1 (by decide) (fun c_1 => ?_) (fun c_1 => ?_)
  · skip
    have c_1 : b.toInt < 0 := (zi_lt (a := b.toInt) (b := 0) (iI_of _) (nI_iI _) (by omega) (by omega) (by omega) (by omega)).mp c_1
    exact absurd c_1 (by omega)
  · skip
    have c_1 : ¬ b.toInt < 0 := fun q9 => c_1 ((zi_lt (a := b.toInt) (b := 0) (iI_of _) (nI_iI _) (by omega) (by omega) (by omega) (by omega)).mpr q9)
    refine lv_iload_n hx hb d_Mod_entry_4 rfl (lv_at hl 2 rfl) ?_
    refine lv_iconst (v := nI 4) hx hb d_Mod_entry_5 (by decide) ?_
    refine lv_icmp_le (tgt := 11) hx hb d_Mod_entry_6 (by decide) (fun c_6 => ?_) (fun c_6 => ?_)
    · skip
      have c_6 : b.toInt ≤ 4 := (zi_le (a := b.toInt) (b := 4) (iI_of _) (nI_iI _) (by omega) (by omega) (by omega) (by omega)).mp c_6
      refine lv_iload_n hx hb d_Mod_entry_11 rfl (lv_at hl 1 rfl) ?_
      refine lv_if_lt (tgt := 23) hx hb d_Mod_entry_12 (by decide) (fun c_12 => ?_) (fun c_12 => ?_)
      · skip
        have c_12 : i < 0 := (nI_ltI (a := i) (b := 0) (by omega) (by decide)).mp c_12
        exact absurd c_12 (by omega)
      · skip
        have c_12 : ¬ i < 0 := fun q9 => c_12 ((nI_ltI (a := i) (b := 0) (by omega) (by decide)).mpr q9)
        refine lv_iload_n hx hb d_Mod_entry_15 rfl (lv_at hl 1 rfl) ?_
        refine lv_aload_n hx hb d_Mod_entry_16 rfl (lv_at hl 0 rfl) ?_
        refine z_ki (z_runV (np := 0) C (c_Mod_count l g T o ts ta ne ans anm anu asa apl akd nk akn aks akp akk bg sz hd alg ni aip aix aiz aim aod av hv lf sn pv f hlg kn ks kp kk hkn hks hkp hkk ipl ist isz inm hip hix hiz him v2 k1 k2 x1 x2 x3) hP hD hS List.mem_cons_self (show classes[11]? = some (R_Mod, F_Mod, 29) from rfl) k_924 k_12 k_921 k_923 ks_Mod_count ⟨by decide, by decide, by decide⟩ ⟨Nat.le_of_ble_eq_true rfl, Nat.le_of_ble_eq_true rfl⟩ rfl hl.1 rfl (Nat.le_of_ble_eq_true rfl) d_Mod_entry_17 ⟨by show _ ≤ 0; omega, by show _ ≤ 0; omega⟩) hS (fun r_17 w H locs hw hP hD hS => ?_)
        obtain ⟨rfl, av, hv, lf, sn, hw⟩ := hw
        rw [hw] at hP hD
        have cb := cnt_bd f sz bg ni (knM kn ks kp kk nk) (mdM ipl ist isz inm)
        refine lv_icmp_lt (tgt := 26) hx hb d_Mod_entry_20 (by decide) (fun c_20 => ?_) (fun c_20 => ?_)
        · skip
          have c_20 : (i : Int) < (cntM f sz bg (knM kn ks kp kk nk) (mdM ipl ist isz inm) ni) := (zi_lt (a := (i : Int)) (b := cntM f sz bg (knM kn ks kp kk nk) (mdM ipl ist isz inm) ni) (nI_iI _) rfl (by omega) (by omega) (by omega) (by omega)).mp c_20
          exact absurd c_20 (by omega)
        · skip
          have c_20 : ¬ (i : Int) < (cntM f sz bg (knM kn ks kp kk nk) (mdM ipl ist isz inm) ni) := fun q9 => c_20 ((zi_lt (a := (i : Int)) (b := cntM f sz bg (knM kn ks kp kk nk) (mdM ipl ist isz inm) ni) (nI_iI _) rfl (by omega) (by omega) (by omega) (by omega)).mpr q9)
          refine lv_bipush (v := iI (-2)) hx hb d_Mod_entry_23 (by decide) ?_
          exact z_iret C hr hlk hP hD hS (by omega) (by omega) ⟨rfl, _, _, _, _, rfl⟩ d_Mod_entry_25
    · skip
      have c_6 : ¬ b.toInt ≤ 4 := fun q9 => c_6 ((zi_le (a := b.toInt) (b := 4) (iI_of _) (nI_iI _) (by omega) (by omega) (by omega) (by omega)).mpr q9)
      exact absurd c_6 (by omega)
set_option maxHeartbeats 4000000 in
set_option maxRecDepth 100000 in
theorem c_Mod_entry_g (l : Launch) (g : zT) (T : va_W) (o ts ta ne ans anm anu asa apl akd nk akn aks akp akk bg sz hd alg ni aip aix aiz aim aod av hv lf sn pv : Nat) (f : Nat → UInt8) (hlg : (alg, zBy g 65536 f) ∈ T) (kn ks kp kk : Nat → Nat) (hkn : (akn, zIn g 1500 (nN kn)) ∈ T) (hks : (aks, zIn g 1500 (nN ks)) ∈ T) (hkp : (akp, zIn g 1500 (nN kp)) ∈ T) (hkk : (akk, zIn g 1500 (nN kk)) ∈ T) (ipl ist : Nat → Int32) (isz : Nat → Nat) (inm : Nat → UInt8) (hip : (aip, zIn g 16 ipl) ∈ T) (hix : (aix, zIn g 16 ist) ∈ T) (hiz : (aiz, zIn g 16 (nN isz)) ∈ T) (him : (aim, zIn g 4096 (nB inm)) ∈ T) (v2 : sz ≤ 65536) (k1 : nk ≤ 1500) (k2 : ∀ j, j < nk → kn j ≤ 100000 ∧ ks j < 65536 ∧ kp j < 65536 ∧ kk j < 65536) (x1 : ni ≤ 12) (x2 : ∀ j, j < ni → isz j ≤ 256) (x3 : bg ≤ 40000) (i : Nat) (b : Int32) (en3 lf3 ha3 hn3 st3_ at3 : Nat) (v3 : i < 2 ^ 20) (hr9 : 0 ≤ b.toInt ∧ b.toInt ≤ 4) (hr8 : (i : Int) < cntM f sz bg (knM kn ks kp kk nk) (mdM ipl ist isz inm) ni) (hp9 : pIt f sz 0 (i + 1) = some (en3, lf3, ha3, hn3, st3_, at3)) : Met l y_Mod_entry (zw y_Mod_entry b_Mod_entry 4 (some .int)) (zR 5 113 0 0) (zP g [.ref o, .int (nI i), .int b] ((o, zo 11 [.int (nI ts), .ref ta, .int (nI ne), .ref ans, .ref anm, .ref anu, .ref asa, .ref apl, .ref akd, .int (nI nk), .ref akn, .ref aks, .ref akp, .ref akk, .int (nI bg), .int (nI sz), .int (nI hd), .ref alg, .int (nI ni), .ref aip, .ref aix, .ref aiz, .ref aim, .ref aod, .int (nI av), .int (nI hv), .int (nI lf), .int (nI sn), .int (nI pv)]) :: T)) (zQi g (fun r w => r = (if b = nI 0 then iI ((hn3 : Int) + s16 (U2 f sz (at3 + 2))) else if b = nI 1 then nI (U2 f sz (at3 + 4)) else if b = nI 2 then nI (U2 f sz at3) else if b = nI 3 then nI st3_ else nI (U2 f sz (at3 + 6) + 1)) ∧ ∃ av2 hv2 lf2 sn2 : Nat, w = (o, zo 11 [.int (nI ts), .ref ta, .int (nI ne), .ref ans, .ref anm, .ref anu, .ref asa, .ref apl, .ref akd, .int (nI nk), .ref akn, .ref aks, .ref akp, .ref akk, .int (nI bg), .int (nI sz), .int (nI hd), .ref alg, .int (nI ni), .ref aip, .ref aix, .ref aiz, .ref aim, .ref aod, .int (nI av2), .int (nI hv2), .int (nI lf2), .int (nI sn2), .int (nI pv)]) :: T)) 0 0 (zA g) := by
  refine zMet (by decide) (Nat.le_of_ble_eq_true rfl) ?_
  intro p e s m below meth c ls C hr hlk hnm hP hD hl
  have hx := C.1.1
  have hb := C.1.2.1
  have hS : va_S (zA g) s.heap s.heap [] := va_S.rf
  have hl : lv_has ls 4 [(0, .ref o), (1, .int (nI i)), (2, .int b)] := hl
  have r2 := zi_rg b
  have L_54 : ∀ (lf sn : Nat) (_ : ha3 + 12 ≤ sz) (_ : at3 + 9 + U2 f sz (at3 + 6) ≤ sz) (_ : hn3 = U4 f sz (ha3 + 8)) (_ : st3_ = U4 f sz (ha3 + 4)) (H : Heap) (locs : List Loc), va_P g.1 classes ((o, zo 11 [.int (nI ts), .ref ta, .int (nI ne), .ref ans, .ref anm, .ref anu, .ref asa, .ref apl, .ref akd, .int (nI nk), .ref akn, .ref aks, .ref akp, .ref akk, .int (nI bg), .int (nI sz), .int (nI hd), .ref alg, .int (nI ni), .ref aip, .ref aix, .ref aiz, .ref aim, .ref aod, .int (nI at3), .int (nI ha3), .int (nI lf), .int (nI sn), .int (nI pv)]) :: T) H → va_D (zA g) ((o, zo 11 [.int (nI ts), .ref ta, .int (nI ne), .ref ans, .ref anm, .ref anu, .ref asa, .ref apl, .ref akd, .int (nI nk), .ref akn, .ref aks, .ref akp, .ref akk, .int (nI bg), .int (nI sz), .int (nI hd), .ref alg, .int (nI ni), .ref aip, .ref aix, .ref aiz, .ref aim, .ref aod, .int (nI at3), .int (nI ha3), .int (nI lf), .int (nI sn), .int (nI pv)]) :: T) → va_S (zA g) s.heap H locs → ∀ ls : Array Slot, lv_has ls 4 [(0, .ref o), (1, .int (nI i)), (2, .int b)] → W p l e (zR 5 113 0 0) s m [.ref o, .int (nI i), .int b].toArray below meth c H locs 0 0 (MQ below (zQi g (fun r w => r = (if b = nI 0 then iI ((hn3 : Int) + s16 (U2 f sz (at3 + 2))) else if b = nI 1 then nI (U2 f sz (at3 + 4)) else if b = nI 2 then nI (U2 f sz at3) else if b = nI 3 then nI st3_ else nI (U2 f sz (at3 + 6) + 1)) ∧ ∃ av2 hv2 lf2 sn2 : Nat, w = (o, zo 11 [.int (nI ts), .ref ta, .int (nI ne), .ref ans, .ref anm, .ref anu, .ref asa, .ref apl, .ref akd, .int (nI nk), .ref akn, .ref aks, .ref akp, .ref akk, .int (nI bg), .int (nI sz), .int (nI hd), .ref alg, .int (nI ni), .ref aip, .ref aix, .ref aiz, .ref aim, .ref aod, .int (nI av2), .int (nI hv2), .int (nI lf2), .int (nI sn2), .int (nI pv)]) :: T)) [.ref o, .int (nI i), .int b].toArray s 0 0 (zA g)) (F0 m 54 ls []) := by
    intro lf sn y1 y2 y3 y4 H locs hP hD hS ls hl
    refine lv_iload_n hx hb d_Mod_entry_54 rfl (lv_at hl 2 rfl) ?_
    by_cases sw_0 : b = nI 0
    · skip
      refine z_topi (y := nI 0) sw_0 ?_
      refine lv_tableIn (off := 29) (tgt := 84) hx hb d_Mod_entry_55 (by decide) (by decide) (by decide) (by decide) ?_
      refine lv_aload_n hx hb d_Mod_entry_84 rfl (lv_at hl 0 rfl) ?_
      refine z_kl (z_runV (np := 0) C (c_Mod_numberHere l g ((o, zo 11 [.int (nI ts), .ref ta, .int (nI ne), .ref ans, .ref anm, .ref anu, .ref asa, .ref apl, .ref akd, .int (nI nk), .ref akn, .ref aks, .ref akp, .ref akk, .int (nI bg), .int (nI sz), .int (nI hd), .ref alg, .int (nI ni), .ref aip, .ref aix, .ref aiz, .ref aim, .ref aod, .int (nI at3), .int (nI ha3), .int (nI lf), .int (nI sn), .int (nI pv)]) :: T) o ts ta ne ans anm anu asa apl akd nk akn aks akp akk bg sz hd alg ni aip aix aiz aim aod at3 ha3 lf sn pv List.mem_cons_self f (List.mem_cons_of_mem _ hlg) (by omega) (by omega) (by omega)) hP hD hS List.mem_cons_self (show classes[11]? = some (R_Mod, F_Mod, 29) from rfl) k_952 k_12 k_949 k_951 ks_Mod_numberHere ⟨by decide, by decide, by decide⟩ ⟨Nat.le_of_ble_eq_true rfl, Nat.le_of_ble_eq_true rfl⟩ rfl hl.1 rfl (Nat.le_of_ble_eq_true rfl) d_Mod_entry_85 ⟨by show _ ≤ 0; omega, by show _ ≤ 0; omega⟩) hS (fun r_85 w H locs hw hP hD hS => ?_)
      obtain ⟨rfl, hw⟩ := hw
      rw [hw] at hP hD
      refine lv_l2i (v := iI ((U4 f sz (ha3 + 8) : Int) + s16 (U2 f sz (at3 + 2)))) hx hb d_Mod_entry_88 (lI_i _) ?_
      exact z_iret C hr hlk hP hD hS (by omega) (by omega) ⟨by rw [if_pos sw_0, y3], _, _, _, _, rfl⟩ d_Mod_entry_89
    by_cases sw_1 : b = nI 1
    · skip
      refine z_topi (y := nI 1) sw_1 ?_
      refine lv_tableIn (off := 35) (tgt := 90) hx hb d_Mod_entry_55 (by decide) (by decide) (by decide) (by decide) ?_
      refine lv_aload_n hx hb d_Mod_entry_90 rfl (lv_at hl 0 rfl) ?_
      refine lv_aload_n hx hb d_Mod_entry_91 rfl (lv_at hl 0 rfl) ?_
      refine z_get C hP List.mem_cons_self q_Mod 24 (by decide) k_752 (fun _ h9 => h9) rfl d_Mod_entry_92 ?_
      refine lv_iconst (v := nI 4) hx hb d_Mod_entry_95 (by decide) ?_
      refine z_iadd (v := nI (at3 + 4)) C d_Mod_entry_96 (nI_add _ _) ?_
      refine z_ki (z_runV (np := 1) C (c_Mod_u2 l g ((o, zo 11 [.int (nI ts), .ref ta, .int (nI ne), .ref ans, .ref anm, .ref anu, .ref asa, .ref apl, .ref akd, .int (nI nk), .ref akn, .ref aks, .ref akp, .ref akk, .int (nI bg), .int (nI sz), .int (nI hd), .ref alg, .int (nI ni), .ref aip, .ref aix, .ref aiz, .ref aim, .ref aod, .int (nI at3), .int (nI ha3), .int (nI lf), .int (nI sn), .int (nI pv)]) :: T) o ts ta ne ans anm anu asa apl akd nk akn aks akp akk bg sz hd alg ni aip aix aiz aim aod at3 ha3 lf sn pv List.mem_cons_self f (List.mem_cons_of_mem _ hlg) (at3 + 4) sz (by omega) (by omega)) hP hD hS List.mem_cons_self (show classes[11]? = some (R_Mod, F_Mod, 29) from rfl) k_932 k_12 k_929 k_931 ks_Mod_u2 ⟨by decide, by decide, by decide⟩ ⟨Nat.le_of_ble_eq_true rfl, Nat.le_of_ble_eq_true rfl⟩ rfl hl.1 rfl (Nat.le_of_ble_eq_true rfl) d_Mod_entry_97 ⟨by show _ ≤ 0; omega, by show _ ≤ 0; omega⟩) hS (fun r_97 w H locs hw hP hD hS => ?_)
      obtain ⟨rfl, hw⟩ := hw
      rw [hw] at hP hD
      have u2_423 := U2_lt f sz (at3 + 4)
      exact z_iret C hr hlk hP hD hS (by omega) (by omega) ⟨by rw [if_neg sw_0, if_pos sw_1], _, _, _, _, rfl⟩ d_Mod_entry_100
    by_cases sw_2 : b = nI 2
    · skip
      refine z_topi (y := nI 2) sw_2 ?_
      refine lv_tableIn (off := 46) (tgt := 101) hx hb d_Mod_entry_55 (by decide) (by decide) (by decide) (by decide) ?_
      refine lv_aload_n hx hb d_Mod_entry_101 rfl (lv_at hl 0 rfl) ?_
      refine lv_aload_n hx hb d_Mod_entry_102 rfl (lv_at hl 0 rfl) ?_
      refine z_get C hP List.mem_cons_self q_Mod 24 (by decide) k_752 (fun _ h9 => h9) rfl d_Mod_entry_103 ?_
      refine z_ki (z_runV (np := 1) C (c_Mod_u2 l g ((o, zo 11 [.int (nI ts), .ref ta, .int (nI ne), .ref ans, .ref anm, .ref anu, .ref asa, .ref apl, .ref akd, .int (nI nk), .ref akn, .ref aks, .ref akp, .ref akk, .int (nI bg), .int (nI sz), .int (nI hd), .ref alg, .int (nI ni), .ref aip, .ref aix, .ref aiz, .ref aim, .ref aod, .int (nI at3), .int (nI ha3), .int (nI lf), .int (nI sn), .int (nI pv)]) :: T) o ts ta ne ans anm anu asa apl akd nk akn aks akp akk bg sz hd alg ni aip aix aiz aim aod at3 ha3 lf sn pv List.mem_cons_self f (List.mem_cons_of_mem _ hlg) (at3) sz (by omega) (by omega)) hP hD hS List.mem_cons_self (show classes[11]? = some (R_Mod, F_Mod, 29) from rfl) k_932 k_12 k_929 k_931 ks_Mod_u2 ⟨by decide, by decide, by decide⟩ ⟨Nat.le_of_ble_eq_true rfl, Nat.le_of_ble_eq_true rfl⟩ rfl hl.1 rfl (Nat.le_of_ble_eq_true rfl) d_Mod_entry_106 ⟨by show _ ≤ 0; omega, by show _ ≤ 0; omega⟩) hS (fun r_106 w H locs hw hP hD hS => ?_)
      obtain ⟨rfl, hw⟩ := hw
      rw [hw] at hP hD
      have u2_264 := U2_lt f sz (at3)
      exact z_iret C hr hlk hP hD hS (by omega) (by omega) ⟨by rw [if_neg sw_0, if_neg sw_1, if_pos sw_2], _, _, _, _, rfl⟩ d_Mod_entry_109
    by_cases sw_3 : b = nI 3
    · skip
      refine z_topi (y := nI 3) sw_3 ?_
      refine lv_tableIn (off := 55) (tgt := 110) hx hb d_Mod_entry_55 (by decide) (by decide) (by decide) (by decide) ?_
      refine lv_aload_n hx hb d_Mod_entry_110 rfl (lv_at hl 0 rfl) ?_
      refine lv_aload_n hx hb d_Mod_entry_111 rfl (lv_at hl 0 rfl) ?_
      refine z_get C hP List.mem_cons_self q_Mod 25 (by decide) k_753 (fun _ h9 => h9) rfl d_Mod_entry_112 ?_
      refine lv_iconst (v := nI 4) hx hb d_Mod_entry_115 (by decide) ?_
      refine z_iadd (v := nI (ha3 + 4)) C d_Mod_entry_116 (nI_add _ _) ?_
      refine z_kl (z_runV (np := 1) C (c_Mod_u4 l g ((o, zo 11 [.int (nI ts), .ref ta, .int (nI ne), .ref ans, .ref anm, .ref anu, .ref asa, .ref apl, .ref akd, .int (nI nk), .ref akn, .ref aks, .ref akp, .ref akk, .int (nI bg), .int (nI sz), .int (nI hd), .ref alg, .int (nI ni), .ref aip, .ref aix, .ref aiz, .ref aim, .ref aod, .int (nI at3), .int (nI ha3), .int (nI lf), .int (nI sn), .int (nI pv)]) :: T) o ts ta ne ans anm anu asa apl akd nk akn aks akp akk bg sz hd alg ni aip aix aiz aim aod at3 ha3 lf sn pv List.mem_cons_self f (List.mem_cons_of_mem _ hlg) (ha3 + 4) sz (by omega) (by omega)) hP hD hS List.mem_cons_self (show classes[11]? = some (R_Mod, F_Mod, 29) from rfl) k_936 k_12 k_933 k_935 ks_Mod_u4 ⟨by decide, by decide, by decide⟩ ⟨Nat.le_of_ble_eq_true rfl, Nat.le_of_ble_eq_true rfl⟩ rfl hl.1 rfl (Nat.le_of_ble_eq_true rfl) d_Mod_entry_117 ⟨by show _ ≤ 0; omega, by show _ ≤ 0; omega⟩) hS (fun r_117 w H locs hw hP hD hS => ?_)
      obtain ⟨rfl, hw⟩ := hw
      rw [hw] at hP hD
      have u4_411 := U4_lt f sz (ha3 + 4)
      refine lv_l2i (v := nI (U4 f sz (ha3 + 4))) hx hb d_Mod_entry_120 (lN_i _) ?_
      exact z_iret C hr hlk hP hD hS (by omega) (by omega) ⟨by rw [if_neg sw_0, if_neg sw_1, if_neg sw_2, if_pos sw_3, y4], _, _, _, _, rfl⟩ d_Mod_entry_121
    have sx_0 : ¬ (b).toInt = 0 := fun q9 => sw_0 (by rw [iI_of (b), q9]; rfl)
    have sx_1 : ¬ (b).toInt = 1 := fun q9 => sw_1 (by rw [iI_of (b), q9]; rfl)
    have sx_2 : ¬ (b).toInt = 2 := fun q9 => sw_2 (by rw [iI_of (b), q9]; rfl)
    have sx_3 : ¬ (b).toInt = 3 := fun q9 => sw_3 (by rw [iI_of (b), q9]; rfl)
    refine lv_tableOut (tgt := 122) hx hb d_Mod_entry_55 (by omega) (by decide) ?_
    refine lv_aload_n hx hb d_Mod_entry_122 rfl (lv_at hl 0 rfl) ?_
    refine z_ki (z_runV (np := 0) C (c_Mod_sizeHere l g ((o, zo 11 [.int (nI ts), .ref ta, .int (nI ne), .ref ans, .ref anm, .ref anu, .ref asa, .ref apl, .ref akd, .int (nI nk), .ref akn, .ref aks, .ref akp, .ref akk, .int (nI bg), .int (nI sz), .int (nI hd), .ref alg, .int (nI ni), .ref aip, .ref aix, .ref aiz, .ref aim, .ref aod, .int (nI at3), .int (nI ha3), .int (nI lf), .int (nI sn), .int (nI pv)]) :: T) o ts ta ne ans anm anu asa apl akd nk akn aks akp akk bg sz hd alg ni aip aix aiz aim aod at3 ha3 lf sn pv List.mem_cons_self f (List.mem_cons_of_mem _ hlg) (by omega) (by omega)) hP hD hS List.mem_cons_self (show classes[11]? = some (R_Mod, F_Mod, 29) from rfl) k_944 k_12 k_941 k_943 ks_Mod_sizeHere ⟨by decide, by decide, by decide⟩ ⟨Nat.le_of_ble_eq_true rfl, Nat.le_of_ble_eq_true rfl⟩ rfl hl.1 rfl (Nat.le_of_ble_eq_true rfl) d_Mod_entry_123 ⟨by show _ ≤ 0; omega, by show _ ≤ 0; omega⟩) hS (fun r_123 w H locs hw hP hD hS => ?_)
    obtain ⟨rfl, hw⟩ := hw
    rw [hw] at hP hD
    exact z_iret C hr hlk hP hD hS (by omega) (by omega) ⟨by rw [if_neg sw_0, if_neg sw_1, if_neg sw_2, if_neg sw_3], _, _, _, _, rfl⟩ d_Mod_entry_126
  have L_37 : ∀ (nu : Nat) (en2 hn2 st2 av hv lf sn : Nat) (_ : en2 = av + 9 + U2 f sz (av + 6)) (_ : en2 ≤ sz) (_ : hv + 21 ≤ en2) (_ : lf ≤ 256) (_ : sn ≤ en2) (_ : hn2 = U4 f sz (hv + 8)) (_ : st2 = U4 f sz (hv + 4)) (_ : pIt f sz 0 sn = some (en2, lf, hv, hn2, st2, av)) (_ : 1 ≤ sn) (_ : sn ≤ i + 1) (_ : i + 1 - sn < nu) (H : Heap) (locs : List Loc), va_P g.1 classes ((o, zo 11 [.int (nI ts), .ref ta, .int (nI ne), .ref ans, .ref anm, .ref anu, .ref asa, .ref apl, .ref akd, .int (nI nk), .ref akn, .ref aks, .ref akp, .ref akk, .int (nI bg), .int (nI sz), .int (nI hd), .ref alg, .int (nI ni), .ref aip, .ref aix, .ref aiz, .ref aim, .ref aod, .int (nI av), .int (nI hv), .int (nI lf), .int (nI sn), .int (nI pv)]) :: T) H → va_D (zA g) ((o, zo 11 [.int (nI ts), .ref ta, .int (nI ne), .ref ans, .ref anm, .ref anu, .ref asa, .ref apl, .ref akd, .int (nI nk), .ref akn, .ref aks, .ref akp, .ref akk, .int (nI bg), .int (nI sz), .int (nI hd), .ref alg, .int (nI ni), .ref aip, .ref aix, .ref aiz, .ref aim, .ref aod, .int (nI av), .int (nI hv), .int (nI lf), .int (nI sn), .int (nI pv)]) :: T) → va_S (zA g) s.heap H locs → ∀ ls : Array Slot, lv_has ls 4 [(0, .ref o), (1, .int (nI i)), (2, .int b)] → W p l e (zR 5 113 0 0) s m [.ref o, .int (nI i), .int b].toArray below meth c H locs 0 0 (MQ below (zQi g (fun r w => r = (if b = nI 0 then iI ((hn3 : Int) + s16 (U2 f sz (at3 + 2))) else if b = nI 1 then nI (U2 f sz (at3 + 4)) else if b = nI 2 then nI (U2 f sz at3) else if b = nI 3 then nI st3_ else nI (U2 f sz (at3 + 6) + 1)) ∧ ∃ av2 hv2 lf2 sn2 : Nat, w = (o, zo 11 [.int (nI ts), .ref ta, .int (nI ne), .ref ans, .ref anm, .ref anu, .ref asa, .ref apl, .ref akd, .int (nI nk), .ref akn, .ref aks, .ref akp, .ref akk, .int (nI bg), .int (nI sz), .int (nI hd), .ref alg, .int (nI ni), .ref aip, .ref aix, .ref aiz, .ref aim, .ref aod, .int (nI av2), .int (nI hv2), .int (nI lf2), .int (nI sn2), .int (nI pv)]) :: T)) [.ref o, .int (nI i), .int b].toArray s 0 0 (zA g)) (F0 m 37 ls []) := by
    intro nu
    induction nu with
    | zero => intros; omega
    | succ nu ih =>
      intro en2 hn2 st2 av hv lf sn e1 e2 e3 e4 e5 e6 e7 hp e8 e9 hmu H locs hP hD hS ls hl
      refine lv_aload_n hx hb d_Mod_entry_37 rfl (lv_at hl 0 rfl) ?_
      refine z_get C hP List.mem_cons_self q_Mod 27 (by decide) k_755 (fun _ h9 => h9) rfl d_Mod_entry_38 ?_
      refine lv_iload_n hx hb d_Mod_entry_41 rfl (lv_at hl 1 rfl) ?_
      refine lv_icmp_gt (tgt := 54) hx hb d_Mod_entry_42 (by decide) (fun c_42 => ?_) (fun c_42 => ?_)
      · skip
        have c_42 : i < sn := (nI_ltI (a := i) (b := sn) (by omega) (by omega)).mp c_42
        have q9 := hp.symm.trans ((by rw [show sn = i + 1 by omega] : pIt f sz 0 sn = pIt f sz 0 (i + 1)).trans hp9)
        cases q9
        exact L_54 _ _ (by omega) (by omega) e6 e7 _ _ hP hD hS ls (lv_sub hl [0, 1, 2] rfl)
      · skip
        have c_42 : ¬ i < sn := fun q9 => c_42 ((nI_ltI (a := i) (b := sn) (by omega) (by omega)).mpr q9)
        refine lv_aload_n hx hb d_Mod_entry_45 rfl (lv_at hl 0 rfl) ?_
        refine lv_iconst (v := nI 0) hx hb d_Mod_entry_46 (by decide) ?_
        refine z_ki (z_runV (np := 1) C (c_Mod_step_f l g T o ts ta ne ans anm anu asa apl akd nk akn aks akp akk bg sz hd alg ni aip aix aiz aim aod av hv lf sn pv f hlg hn2 st2 (by omega) (by omega) (by omega) (by omega)) hP hD hS List.mem_cons_self (show classes[11]? = some (R_Mod, F_Mod, 29) from rfl) k_928 k_12 k_925 k_927 ks_Mod_step ⟨by decide, by decide, by decide⟩ ⟨Nat.le_of_ble_eq_true rfl, Nat.le_of_ble_eq_true rfl⟩ rfl hl.1 rfl (Nat.le_of_ble_eq_true rfl) d_Mod_entry_47 ⟨by show _ ≤ 0; omega, by show _ ≤ 0; omega⟩) hS (fun r_47 w H locs hw hP hD hS => ?_)
        have hp0 : pIt f sz 0 (sn + 1) = stepP f sz (av + 9 + U2 f sz (av + 6)) lf hv hn2 st2 := pIt_s (e1 ▸ hp)
        have hnn : pIt f sz 0 (sn + 1) ≠ none := pIt_le (show sn + 1 ≤ i + 1 by omega) (by rw [hp9]; exact fun q8 => nomatch q8)
        rcases st3 f sz (av + 9 + U2 f sz (av + 6)) lf hv hn2 st2 with hend | ⟨hne, hst⟩ | ⟨hne, en4, lf4, ha4, hn4, st4, at4, hst⟩
        · skip
          exact absurd (hp0.trans (stepP_end hend)) hnn
        · skip
          exact absurd (hp0.trans hst) hnn
        · skip
          obtain ⟨rfl, hw2⟩ := (hw.2 hne).2 _ _ _ _ _ _ hst
          rw [hw2] at hP hD
          obtain ⟨p1, p2, p3, p4, p5, p6, p7⟩ := step_inv hst (Or.inr ⟨by omega, e6, e7⟩) (by omega)
          refine lv_istore_n (lv' := [(3, .int (nI 1)), (0, .ref o), (1, .int (nI i)), (2, .int b)]) hx hb d_Mod_entry_50 rfl hl (by decide) rfl (fun ls hl => ?_)
          refine lv_goto (tgt := 32) hx hb d_Mod_entry_51 (by decide) ?_
          refine lv_iload_n hx hb d_Mod_entry_32 rfl (lv_at hl 0 rfl) ?_
          refine lv_iconst (v := nI 1) hx hb d_Mod_entry_33 (by decide) ?_
          refine lv_icmp_ne (tgt := 54) hx hb d_Mod_entry_34 (by decide) (fun c_34 => ?_) (fun c_34 => ?_)
          · skip
            have c_34 : ¬ 1 = 1 := fun q9 => c_34 ((nI_eq (a := 1) (b := 1) (by decide) (by decide)).mpr q9)
            exact absurd c_34 (by omega)
          · skip
            have c_34 : 1 = 1 := (nI_eq (a := 1) (b := 1) (by decide) (by decide)).mp c_34
            exact ih en4 hn4 st4 at4 ha4 lf4 _ p1 p2 p3 p6 (by omega) p4 p5 (hp0.trans hst) (by omega) (by omega) (by omega) _ _ hP hD hS ls (lv_sub hl [1, 2, 3] rfl)
  refine lv_iload_n hx hb d_Mod_entry_0 rfl (lv_at hl 2 rfl) ?_
  refine lv_if_lt (tgt := 9) hx hb d_Mod_entry_1 (by decide) (fun c_1 => ?_) (fun c_1 => ?_)
  · skip
    have c_1 : b.toInt < 0 := (zi_lt (a := b.toInt) (b := 0) (iI_of _) (nI_iI _) (by omega) (by omega) (by omega) (by omega)).mp c_1
    exact absurd c_1 (by omega)
  · skip
    have c_1 : ¬ b.toInt < 0 := fun q9 => c_1 ((zi_lt (a := b.toInt) (b := 0) (iI_of _) (nI_iI _) (by omega) (by omega) (by omega) (by omega)).mpr q9)
    refine lv_iload_n hx hb d_Mod_entry_4 rfl (lv_at hl 2 rfl) ?_
    refine lv_iconst (v := nI 4) hx hb d_Mod_entry_5 (by decide) ?_
    refine lv_icmp_le (tgt := 11) hx hb d_Mod_entry_6 (by decide) (fun c_6 => ?_) (fun c_6 => ?_)
    · skip
      have c_6 : b.toInt ≤ 4 := (zi_le (a := b.toInt) (b := 4) (iI_of _) (nI_iI _) (by omega) (by omega) (by omega) (by omega)).mp c_6
      refine lv_iload_n hx hb d_Mod_entry_11 rfl (lv_at hl 1 rfl) ?_
      refine lv_if_lt (tgt := 23) hx hb d_Mod_entry_12 (by decide) (fun c_12 => ?_) (fun c_12 => ?_)
      · skip
        have c_12 : i < 0 := (nI_ltI (a := i) (b := 0) (by omega) (by decide)).mp c_12
        exact absurd c_12 (by omega)
      · skip
        have c_12 : ¬ i < 0 := fun q9 => c_12 ((nI_ltI (a := i) (b := 0) (by omega) (by decide)).mpr q9)
        refine lv_iload_n hx hb d_Mod_entry_15 rfl (lv_at hl 1 rfl) ?_
        refine lv_aload_n hx hb d_Mod_entry_16 rfl (lv_at hl 0 rfl) ?_
        refine z_ki (z_runV (np := 0) C (c_Mod_count l g T o ts ta ne ans anm anu asa apl akd nk akn aks akp akk bg sz hd alg ni aip aix aiz aim aod av hv lf sn pv f hlg kn ks kp kk hkn hks hkp hkk ipl ist isz inm hip hix hiz him v2 k1 k2 x1 x2 x3) hP hD hS List.mem_cons_self (show classes[11]? = some (R_Mod, F_Mod, 29) from rfl) k_924 k_12 k_921 k_923 ks_Mod_count ⟨by decide, by decide, by decide⟩ ⟨Nat.le_of_ble_eq_true rfl, Nat.le_of_ble_eq_true rfl⟩ rfl hl.1 rfl (Nat.le_of_ble_eq_true rfl) d_Mod_entry_17 ⟨by show _ ≤ 0; omega, by show _ ≤ 0; omega⟩) hS (fun r_17 w H locs hw hP hD hS => ?_)
        obtain ⟨rfl, av, hv, lf, sn, hw⟩ := hw
        rw [hw] at hP hD
        have cb := cnt_bd f sz bg ni (knM kn ks kp kk nk) (mdM ipl ist isz inm)
        refine lv_icmp_lt (tgt := 26) hx hb d_Mod_entry_20 (by decide) (fun c_20 => ?_) (fun c_20 => ?_)
        · skip
          have c_20 : (i : Int) < (cntM f sz bg (knM kn ks kp kk nk) (mdM ipl ist isz inm) ni) := (zi_lt (a := (i : Int)) (b := cntM f sz bg (knM kn ks kp kk nk) (mdM ipl ist isz inm) ni) (nI_iI _) rfl (by omega) (by omega) (by omega) (by omega)).mp c_20
          refine lv_aload_n hx hb d_Mod_entry_26 rfl (lv_at hl 0 rfl) ?_
          refine lv_iconst (v := nI 1) hx hb d_Mod_entry_27 (by decide) ?_
          refine z_ki (z_runV (np := 1) C (c_Mod_step_t l g T o ts ta ne ans anm anu asa apl akd nk akn aks akp akk bg sz hd alg ni aip aix aiz aim aod av hv lf sn pv f hlg 0 0 (by omega)) hP hD hS List.mem_cons_self (show classes[11]? = some (R_Mod, F_Mod, 29) from rfl) k_928 k_12 k_925 k_927 ks_Mod_step ⟨by decide, by decide, by decide⟩ ⟨Nat.le_of_ble_eq_true rfl, Nat.le_of_ble_eq_true rfl⟩ rfl hl.1 rfl (Nat.le_of_ble_eq_true rfl) d_Mod_entry_28 ⟨by show _ ≤ 0; omega, by show _ ≤ 0; omega⟩) hS (fun r_28 w H locs hw hP hD hS => ?_)
          have hp0 : pIt f sz 0 (0 + 1) = stepP f sz 0 0 0 0 0 := pIt_s (show pIt f sz 0 0 = some (0, 0, 0, 0, 0, 0) from rfl)
          have hnn : pIt f sz 0 (0 + 1) ≠ none := pIt_le (show 0 + 1 ≤ i + 1 by omega) (by rw [hp9]; exact fun q8 => nomatch q8)
          rcases st3 f sz 0 0 0 0 0 with hend | ⟨hne, hst⟩ | ⟨hne, en4, lf4, ha4, hn4, st4, at4, hst⟩
          · skip
            exact absurd (hp0.trans (stepP_end hend)) hnn
          · skip
            exact absurd (hp0.trans hst) hnn
          · skip
            obtain ⟨rfl, hw2⟩ := (hw.2 hne).2 _ _ _ _ _ _ hst
            rw [hw2] at hP hD
            obtain ⟨p1, p2, p3, p4, p5, p6, p7⟩ := step_inv hst (Or.inl rfl) (Nat.zero_le _)
            refine lv_istore_n (lv' := [(3, .int (nI 1)), (0, .ref o), (1, .int (nI i)), (2, .int b)]) hx hb d_Mod_entry_31 rfl hl (by decide) rfl (fun ls hl => ?_)
            refine lv_iload_n hx hb d_Mod_entry_32 rfl (lv_at hl 0 rfl) ?_
            refine lv_iconst (v := nI 1) hx hb d_Mod_entry_33 (by decide) ?_
            refine lv_icmp_ne (tgt := 54) hx hb d_Mod_entry_34 (by decide) (fun c_34 => ?_) (fun c_34 => ?_)
            · skip
              have c_34 : ¬ 1 = 1 := fun q9 => c_34 ((nI_eq (a := 1) (b := 1) (by decide) (by decide)).mpr q9)
              exact absurd c_34 (by omega)
            · skip
              have c_34 : 1 = 1 := (nI_eq (a := 1) (b := 1) (by decide) (by decide)).mp c_34
              exact L_37 _ en4 hn4 st4 at4 ha4 lf4 _ p1 p2 p3 p6 (by omega) p4 p5 (hp0.trans hst) (by omega) (by omega) (Nat.lt_succ_self _) _ _ hP hD hS ls (lv_sub hl [1, 2, 3] rfl)
        · skip
          have c_20 : ¬ (i : Int) < (cntM f sz bg (knM kn ks kp kk nk) (mdM ipl ist isz inm) ni) := fun q9 => c_20 ((zi_lt (a := (i : Int)) (b := cntM f sz bg (knM kn ks kp kk nk) (mdM ipl ist isz inm) ni) (nI_iI _) rfl (by omega) (by omega) (by omega) (by omega)).mpr q9)
          exact absurd c_20 (by omega)
    · skip
      have c_6 : ¬ b.toInt ≤ 4 := fun q9 => c_6 ((zi_le (a := b.toInt) (b := 4) (iI_of _) (nI_iI _) (by omega) (by omega) (by omega) (by omega)).mpr q9)
      exact absurd c_6 (by omega)
set_option maxHeartbeats 4000000 in
set_option maxRecDepth 100000 in
theorem c_Mod_find_n (l : Launch) (g : zT) (T : va_W) (o ts ta ne ans anm anu asa apl akd nk akn aks akp akk bg sz hd alg ni aip aix aiz aim aod av hv lf sn pv : Nat) (f : Nat → UInt8) (hlg : (alg, zBy g 65536 f) ∈ T) (kn ks kp kk : Nat → Nat) (hkn : (akn, zIn g 1500 (nN kn)) ∈ T) (hks : (aks, zIn g 1500 (nN ks)) ∈ T) (hkp : (akp, zIn g 1500 (nN kp)) ∈ T) (hkk : (akk, zIn g 1500 (nN kk)) ∈ T) (ipl ist : Nat → Int32) (isz : Nat → Nat) (inm : Nat → UInt8) (hip : (aip, zIn g 16 ipl) ∈ T) (hix : (aix, zIn g 16 ist) ∈ T) (hiz : (aiz, zIn g 16 (nN isz)) ∈ T) (him : (aim, zIn g 4096 (nB inm)) ∈ T) (v2 : sz ≤ 65536) (k1 : nk ≤ 1500) (k2 : ∀ j, j < nk → kn j ≤ 100000 ∧ ks j < 65536 ∧ kp j < 65536 ∧ kk j < 65536) (x1 : ni ≤ 12) (x2 : ∀ j, j < ni → isz j ≤ 256) (x3 : bg ≤ 40000) (hev : cntM f sz bg (knM kn ks kp kk nk) (mdM ipl ist isz inm) ni = -2) : Met l y_Mod_find (zw y_Mod_find b_Mod_find 5 (some .int)) (zR 5 113 0 0) (zP g [.ref o] ((o, zo 11 [.int (nI ts), .ref ta, .int (nI ne), .ref ans, .ref anm, .ref anu, .ref asa, .ref apl, .ref akd, .int (nI nk), .ref akn, .ref aks, .ref akp, .ref akk, .int (nI bg), .int (nI sz), .int (nI hd), .ref alg, .int (nI ni), .ref aip, .ref aix, .ref aiz, .ref aim, .ref aod, .int (nI av), .int (nI hv), .int (nI lf), .int (nI sn), .int (nI pv)]) :: T)) (zQi g (fun r w => r = iI (-2) ∧ ∃ av2 hv2 lf2 sn2 : Nat, w = (o, zo 11 [.int (nI 0), .ref ta, .int (nI ne), .ref ans, .ref anm, .ref anu, .ref asa, .ref apl, .ref akd, .int (nI nk), .ref akn, .ref aks, .ref akp, .ref akk, .int (nI bg), .int (nI sz), .int (nI hd), .ref alg, .int (nI ni), .ref aip, .ref aix, .ref aiz, .ref aim, .ref aod, .int (nI av2), .int (nI hv2), .int (nI lf2), .int (nI sn2), .int (nI 0)]) :: T)) 0 0 (zA g) := by
  refine zMet (by decide) (Nat.le_of_ble_eq_true rfl) ?_
  intro p e s m below meth c ls C hr hlk hnm hP hD hl
  have hx := C.1.1
  have hb := C.1.2.1
  have hS : va_S (zA g) s.heap s.heap [] := va_S.rf
  have hl : lv_has ls 5 [(0, .ref o)] := hl
  refine lv_aload_n hx hb d_Mod_find_0 rfl (lv_at hl 0 rfl) ?_
  refine z_ki (z_runV (np := 0) C (c_Mod_use l g T o ts ta ne ans anm anu asa apl akd nk akn aks akp akk bg sz hd alg ni aip aix aiz aim aod av hv lf sn pv) hP hD hS List.mem_cons_self (show classes[11]? = some (R_Mod, F_Mod, 29) from rfl) k_829 k_12 k_826 k_828 ks_Mod_use ⟨by decide, by decide, by decide⟩ ⟨Nat.le_of_ble_eq_true rfl, Nat.le_of_ble_eq_true rfl⟩ rfl hl.1 rfl (Nat.le_of_ble_eq_true rfl) d_Mod_find_1 ⟨by show _ ≤ 0; omega, by show _ ≤ 0; omega⟩) hS (fun r_1 w H locs hw hP hD hS => ?_)
  obtain ⟨rfl, hw⟩ := hw
  rw [hw] at hP hD
  refine lv_istore_n (lv' := [(1, .int (nI ts)), (0, .ref o)]) hx hb d_Mod_find_4 rfl hl (by decide) rfl (fun ls hl => ?_)
  refine lv_aload_n hx hb d_Mod_find_5 rfl (lv_at hl 1 rfl) ?_
  refine lv_iconst (v := nI 0) hx hb d_Mod_find_6 (by decide) ?_
  refine z_put C hP hD hS 0 rfl q_Mod 28 (by decide) k_756 (fun _ h9 => h9) rfl rfl rfl (Nat.le_of_ble_eq_true rfl) d_Mod_find_7 (ws' := (o, zo 11 [.int (nI 0), .ref ta, .int (nI ne), .ref ans, .ref anm, .ref anu, .ref asa, .ref apl, .ref akd, .int (nI nk), .ref akn, .ref aks, .ref akp, .ref akk, .int (nI bg), .int (nI sz), .int (nI hd), .ref alg, .int (nI ni), .ref aip, .ref aix, .ref aiz, .ref aim, .ref aod, .int (nI av), .int (nI hv), .int (nI lf), .int (nI sn), .int (nI 0)]) :: T) rfl (fun H locs hP hD hS => ?_)
  refine lv_aload_n hx hb d_Mod_find_10 rfl (lv_at hl 1 rfl) ?_
  refine z_ki (z_runV (np := 0) C (c_Mod_count l g T o 0 ta ne ans anm anu asa apl akd nk akn aks akp akk bg sz hd alg ni aip aix aiz aim aod av hv lf sn 0 f hlg kn ks kp kk hkn hks hkp hkk ipl ist isz inm hip hix hiz him v2 k1 k2 x1 x2 x3) hP hD hS List.mem_cons_self (show classes[11]? = some (R_Mod, F_Mod, 29) from rfl) k_924 k_12 k_921 k_923 ks_Mod_count ⟨by decide, by decide, by decide⟩ ⟨Nat.le_of_ble_eq_true rfl, Nat.le_of_ble_eq_true rfl⟩ rfl hl.1 rfl (Nat.le_of_ble_eq_true rfl) d_Mod_find_11 ⟨by show _ ≤ 0; omega, by show _ ≤ 0; omega⟩) hS (fun r_11 w H locs hw hP hD hS => ?_)
  obtain ⟨rfl, av, hv, lf, sn, hw⟩ := hw
  rw [hw] at hP hD
  have cb := cnt_bd f sz bg ni (knM kn ks kp kk nk) (mdM ipl ist isz inm)
  refine lv_if_ge (tgt := 20) hx hb d_Mod_find_14 (by decide) (fun c_14 => ?_) (fun c_14 => ?_)
  · skip
    have c_14 : 0 ≤ (cntM f sz bg (knM kn ks kp kk nk) (mdM ipl ist isz inm) ni) := (zi_le (a := 0) (b := cntM f sz bg (knM kn ks kp kk nk) (mdM ipl ist isz inm) ni) (nI_iI _) rfl (by omega) (by omega) (by omega) (by omega)).mp c_14
    exact absurd c_14 (by omega)
  · skip
    have c_14 : ¬ 0 ≤ (cntM f sz bg (knM kn ks kp kk nk) (mdM ipl ist isz inm) ni) := fun q9 => c_14 ((zi_le (a := 0) (b := cntM f sz bg (knM kn ks kp kk nk) (mdM ipl ist isz inm) ni) (nI_iI _) rfl (by omega) (by omega) (by omega) (by omega)).mpr q9)
    refine lv_bipush (v := iI (-2)) hx hb d_Mod_find_17 (by decide) ?_
    exact z_iret C hr hlk hP hD hS (by omega) (by omega) ⟨rfl, _, _, _, _, rfl⟩ d_Mod_find_19
set_option maxHeartbeats 4000000 in
set_option maxRecDepth 100000 in
theorem c_Mod_find_g (l : Launch) (g : zT) (T : va_W) (o ts ta ne ans anm anu asa apl akd nk akn aks akp akk bg sz hd alg ni aip aix aiz aim aod av hv lf sn pv : Nat) (tb : Nat → UInt8) (hta : (ta, zIn g 300 (nB tb)) ∈ T) (f : Nat → UInt8) (hlg : (alg, zBy g 65536 f) ∈ T) (kn ks kp kk : Nat → Nat) (hkn : (akn, zIn g 1500 (nN kn)) ∈ T) (hks : (aks, zIn g 1500 (nN ks)) ∈ T) (hkp : (akp, zIn g 1500 (nN kp)) ∈ T) (hkk : (akk, zIn g 1500 (nN kk)) ∈ T) (ipl ist : Nat → Int32) (isz : Nat → Nat) (inm : Nat → UInt8) (hip : (aip, zIn g 16 ipl) ∈ T) (hix : (aix, zIn g 16 ist) ∈ T) (hiz : (aiz, zIn g 16 (nN isz)) ∈ T) (him : (aim, zIn g 4096 (nB inm)) ∈ T) (v2 : sz ≤ 65536) (k1 : nk ≤ 1500) (k2 : ∀ j, j < nk → kn j ≤ 100000 ∧ ks j < 65536 ∧ kp j < 65536 ∧ kk j < 65536) (x1 : ni ≤ 12) (x2 : ∀ j, j < ni → isz j ≤ 256) (x3 : bg ≤ 40000) (v5 : ts ≤ 300) (c9 pp : Nat) (hev : cntM f sz bg (knM kn ks kp kk nk) (mdM ipl ist isz inm) ni = (c9 : Int)) (hlo9 : lookF (mdM ipl ist isz inm) (zl tb 0 ts) ni = nI pp) (w3 : pp ≤ sz) : Met l y_Mod_find (zw y_Mod_find b_Mod_find 5 (some .int)) (zR 5 113 0 0) (zP g [.ref o] ((o, zo 11 [.int (nI ts), .ref ta, .int (nI ne), .ref ans, .ref anm, .ref anu, .ref asa, .ref apl, .ref akd, .int (nI nk), .ref akn, .ref aks, .ref akp, .ref akk, .int (nI bg), .int (nI sz), .int (nI hd), .ref alg, .int (nI ni), .ref aip, .ref aix, .ref aiz, .ref aim, .ref aod, .int (nI av), .int (nI hv), .int (nI lf), .int (nI sn), .int (nI pv)]) :: T)) (zQi g (fun r w => r = (fnM f sz (zl tb 0 ts) pp (sz + 1) 0 0 0 0 0 0).1 ∧ ∃ av2 hv2 lf2 sn2 : Nat, w = (o, zo 11 [.int (nI 0), .ref ta, .int (nI ne), .ref ans, .ref anm, .ref anu, .ref asa, .ref apl, .ref akd, .int (nI nk), .ref akn, .ref aks, .ref akp, .ref akk, .int (nI bg), .int (nI sz), .int (nI hd), .ref alg, .int (nI ni), .ref aip, .ref aix, .ref aiz, .ref aim, .ref aod, .int (nI av2), .int (nI hv2), .int (nI lf2), .int (nI sn2), .int (nI ((fnM f sz (zl tb 0 ts) pp (sz + 1) 0 0 0 0 0 0).2))]) :: T)) 0 0 (zA g) := by
  refine zMet (by decide) (Nat.le_of_ble_eq_true rfl) ?_
  intro p e s m below meth c ls C hr hlk hnm hP hD hl
  have hx := C.1.1
  have hb := C.1.2.1
  have hS : va_S (zA g) s.heap s.heap [] := va_S.rf
  have hl : lv_has ls 5 [(0, .ref o)] := hl
  have L_124 : ∀ (av hv lf sn pv : Nat) (_ : fnM f sz (zl tb 0 ts) pp (sz + 1) 0 0 0 0 0 0 = (iI (-2), pv)) (H : Heap) (locs : List Loc), va_P g.1 classes ((o, zo 11 [.int (nI 0), .ref ta, .int (nI ne), .ref ans, .ref anm, .ref anu, .ref asa, .ref apl, .ref akd, .int (nI nk), .ref akn, .ref aks, .ref akp, .ref akk, .int (nI bg), .int (nI sz), .int (nI hd), .ref alg, .int (nI ni), .ref aip, .ref aix, .ref aiz, .ref aim, .ref aod, .int (nI av), .int (nI hv), .int (nI lf), .int (nI sn), .int (nI pv)]) :: T) H → va_D (zA g) ((o, zo 11 [.int (nI 0), .ref ta, .int (nI ne), .ref ans, .ref anm, .ref anu, .ref asa, .ref apl, .ref akd, .int (nI nk), .ref akn, .ref aks, .ref akp, .ref akk, .int (nI bg), .int (nI sz), .int (nI hd), .ref alg, .int (nI ni), .ref aip, .ref aix, .ref aiz, .ref aim, .ref aod, .int (nI av), .int (nI hv), .int (nI lf), .int (nI sn), .int (nI pv)]) :: T) → va_S (zA g) s.heap H locs → ∀ ls : Array Slot, lv_has ls 5 [(0, .ref o)] → W p l e (zR 5 113 0 0) s m [.ref o].toArray below meth c H locs 0 0 (MQ below (zQi g (fun r w => r = (fnM f sz (zl tb 0 ts) pp (sz + 1) 0 0 0 0 0 0).1 ∧ ∃ av2 hv2 lf2 sn2 : Nat, w = (o, zo 11 [.int (nI 0), .ref ta, .int (nI ne), .ref ans, .ref anm, .ref anu, .ref asa, .ref apl, .ref akd, .int (nI nk), .ref akn, .ref aks, .ref akp, .ref akk, .int (nI bg), .int (nI sz), .int (nI hd), .ref alg, .int (nI ni), .ref aip, .ref aix, .ref aiz, .ref aim, .ref aod, .int (nI av2), .int (nI hv2), .int (nI lf2), .int (nI sn2), .int (nI ((fnM f sz (zl tb 0 ts) pp (sz + 1) 0 0 0 0 0 0).2))]) :: T)) [.ref o].toArray s 0 0 (zA g)) (F0 m 124 ls []) := by
    intro av hv lf sn pv hT H locs hP hD hS ls hl
    refine lv_bipush (v := iI (-2)) hx hb d_Mod_find_124 (by decide) ?_
    exact z_iret C hr hlk hP hD hS (by omega) (by omega) ⟨by rw [hT], _, _, _, _, by rw [hT]⟩ d_Mod_find_126
  have L_69 : ∀ (nu : Nat) (fu av hv lf sn pv en2 hn2 st2 : Nat) (_ : en2 = av + 9 + U2 f sz (av + 6)) (_ : en2 ≤ sz) (_ : hv + 21 ≤ en2) (_ : lf ≤ 256) (_ : sn ≤ en2) (_ : hn2 = U4 f sz (hv + 8)) (_ : st2 = U4 f sz (hv + 4)) (_ : sz < fu + en2) (_ : pv ≤ en2) (_ : fnM f sz (zl tb 0 ts) pp (sz + 1) 0 0 0 0 0 0 = if pp ≤ hv then (if cmpB (zl tb 0 ts) (nmA f sz av) = 0 then (iI ((hn2 : Int) + s16 (U2 f sz (av + 2))), pv + 1) else if cmpB (zl tb 0 ts) (nmA f sz av) < 0 then (iI (-2), pv + 1) else fnM f sz (zl tb 0 ts) pp fu en2 lf hv hn2 st2 (pv + 1)) else fnM f sz (zl tb 0 ts) pp fu en2 lf hv hn2 st2 pv) (_ : sz - en2 < nu) (H : Heap) (locs : List Loc), va_P g.1 classes ((o, zo 11 [.int (nI 0), .ref ta, .int (nI ne), .ref ans, .ref anm, .ref anu, .ref asa, .ref apl, .ref akd, .int (nI nk), .ref akn, .ref aks, .ref akp, .ref akk, .int (nI bg), .int (nI sz), .int (nI hd), .ref alg, .int (nI ni), .ref aip, .ref aix, .ref aiz, .ref aim, .ref aod, .int (nI av), .int (nI hv), .int (nI lf), .int (nI sn), .int (nI pv)]) :: T) H → va_D (zA g) ((o, zo 11 [.int (nI 0), .ref ta, .int (nI ne), .ref ans, .ref anm, .ref anu, .ref asa, .ref apl, .ref akd, .int (nI nk), .ref akn, .ref aks, .ref akp, .ref akk, .int (nI bg), .int (nI sz), .int (nI hd), .ref alg, .int (nI ni), .ref aip, .ref aix, .ref aiz, .ref aim, .ref aod, .int (nI av), .int (nI hv), .int (nI lf), .int (nI sn), .int (nI pv)]) :: T) → va_S (zA g) s.heap H locs → ∀ ls : Array Slot, lv_has ls 5 [(0, .ref o), (1, .int (nI ts)), (2, .int (nI pp))] → W p l e (zR 5 113 0 0) s m [.ref o].toArray below meth c H locs 0 0 (MQ below (zQi g (fun r w => r = (fnM f sz (zl tb 0 ts) pp (sz + 1) 0 0 0 0 0 0).1 ∧ ∃ av2 hv2 lf2 sn2 : Nat, w = (o, zo 11 [.int (nI 0), .ref ta, .int (nI ne), .ref ans, .ref anm, .ref anu, .ref asa, .ref apl, .ref akd, .int (nI nk), .ref akn, .ref aks, .ref akp, .ref akk, .int (nI bg), .int (nI sz), .int (nI hd), .ref alg, .int (nI ni), .ref aip, .ref aix, .ref aiz, .ref aim, .ref aod, .int (nI av2), .int (nI hv2), .int (nI lf2), .int (nI sn2), .int (nI ((fnM f sz (zl tb 0 ts) pp (sz + 1) 0 0 0 0 0 0).2))]) :: T)) [.ref o].toArray s 0 0 (zA g)) (F0 m 69 ls []) := by
    intro nu
    induction nu with
    | zero => intros; omega
    | succ nu ih =>
      intro fu av hv lf sn pv en2 hn2 st2 e1 e2 e3 e4 e5 e6 e7 e8 e9 hT hmu H locs hP hD hS ls hl
      obtain ⟨fu, rfl⟩ : ∃ q9, fu = q9 + 1 := ⟨fu - 1, by omega⟩
      have L_115 : ∀ (pv : Nat) (_ : pv ≤ en2 + 1) (_ : fnM f sz (zl tb 0 ts) pp (sz + 1) 0 0 0 0 0 0 = fnM f sz (zl tb 0 ts) pp (fu + 1) en2 lf hv hn2 st2 pv) (H : Heap) (locs : List Loc), va_P g.1 classes ((o, zo 11 [.int (nI 0), .ref ta, .int (nI ne), .ref ans, .ref anm, .ref anu, .ref asa, .ref apl, .ref akd, .int (nI nk), .ref akn, .ref aks, .ref akp, .ref akk, .int (nI bg), .int (nI sz), .int (nI hd), .ref alg, .int (nI ni), .ref aip, .ref aix, .ref aiz, .ref aim, .ref aod, .int (nI av), .int (nI hv), .int (nI lf), .int (nI sn), .int (nI pv)]) :: T) H → va_D (zA g) ((o, zo 11 [.int (nI 0), .ref ta, .int (nI ne), .ref ans, .ref anm, .ref anu, .ref asa, .ref apl, .ref akd, .int (nI nk), .ref akn, .ref aks, .ref akp, .ref akk, .int (nI bg), .int (nI sz), .int (nI hd), .ref alg, .int (nI ni), .ref aip, .ref aix, .ref aiz, .ref aim, .ref aod, .int (nI av), .int (nI hv), .int (nI lf), .int (nI sn), .int (nI pv)]) :: T) → va_S (zA g) s.heap H locs → ∀ ls : Array Slot, lv_has ls 5 [(0, .ref o), (1, .int (nI ts)), (2, .int (nI pp))] → W p l e (zR 5 113 0 0) s m [.ref o].toArray below meth c H locs 0 0 (MQ below (zQi g (fun r w => r = (fnM f sz (zl tb 0 ts) pp (sz + 1) 0 0 0 0 0 0).1 ∧ ∃ av2 hv2 lf2 sn2 : Nat, w = (o, zo 11 [.int (nI 0), .ref ta, .int (nI ne), .ref ans, .ref anm, .ref anu, .ref asa, .ref apl, .ref akd, .int (nI nk), .ref akn, .ref aks, .ref akp, .ref akk, .int (nI bg), .int (nI sz), .int (nI hd), .ref alg, .int (nI ni), .ref aip, .ref aix, .ref aiz, .ref aim, .ref aod, .int (nI av2), .int (nI hv2), .int (nI lf2), .int (nI sn2), .int (nI ((fnM f sz (zl tb 0 ts) pp (sz + 1) 0 0 0 0 0 0).2))]) :: T)) [.ref o].toArray s 0 0 (zA g)) (F0 m 115 ls []) := by
        intro pv f1 hT2 H locs hP hD hS ls hl
        refine lv_aload_n hx hb d_Mod_find_115 rfl (lv_at hl 0 rfl) ?_
        refine lv_iconst (v := nI 0) hx hb d_Mod_find_116 (by decide) ?_
        refine z_ki (z_runV (np := 1) C (c_Mod_step_f l g T o 0 ta ne ans anm anu asa apl akd nk akn aks akp akk bg sz hd alg ni aip aix aiz aim aod av hv lf sn pv f hlg hn2 st2 (by omega) (by omega) (by omega) (by omega)) hP hD hS List.mem_cons_self (show classes[11]? = some (R_Mod, F_Mod, 29) from rfl) k_928 k_12 k_925 k_927 ks_Mod_step ⟨by decide, by decide, by decide⟩ ⟨Nat.le_of_ble_eq_true rfl, Nat.le_of_ble_eq_true rfl⟩ rfl hl.1 rfl (Nat.le_of_ble_eq_true rfl) d_Mod_find_117 ⟨by show _ ≤ 0; omega, by show _ ≤ 0; omega⟩) hS (fun r_117 w H locs hw hP hD hS => ?_)
        rcases st3 f sz (av + 9 + U2 f sz (av + 6)) lf hv hn2 st2 with hend | ⟨hne, hst⟩ | ⟨hne, en3, lf3, ha3, hn3, st3_, at3, hst⟩
        · skip
          obtain ⟨rfl, hw2⟩ := hw.1 hend
          rw [hw2] at hP hD
          refine lv_istore_n (lv' := [(3, .int (nI 0)), (0, .ref o), (1, .int (nI ts)), (2, .int (nI pp))]) hx hb d_Mod_find_120 rfl hl (by decide) rfl (fun ls hl => ?_)
          refine lv_goto (tgt := 64) hx hb d_Mod_find_121 (by decide) ?_
          refine lv_iload_n hx hb d_Mod_find_64 rfl (lv_at hl 0 rfl) ?_
          refine lv_iconst (v := nI 1) hx hb d_Mod_find_65 (by decide) ?_
          refine lv_icmp_ne (tgt := 124) hx hb d_Mod_find_66 (by decide) (fun c_66 => ?_) (fun c_66 => ?_)
          · skip
            have c_66 : ¬ 0 = 1 := fun q9 => c_66 ((nI_eq (a := 0) (b := 1) (by decide) (by decide)).mpr q9)
            exact L_124 _ _ _ _ pv (by first | (rw [fm_n (show stepP f sz en2 lf hv hn2 st2 = none by rw [e1]; exact stepP_end hend)] at hT2; exact hT2) | (rw [fm_n (show stepP f sz en2 lf hv hn2 st2 = none by rw [e1]; exact hst)] at hT2; exact hT2)) _ _ hP hD hS ls (lv_sub hl [1] rfl)
          · skip
            have c_66 : 0 = 1 := (nI_eq (a := 0) (b := 1) (by decide) (by decide)).mp c_66
            exact absurd c_66 (by omega)
        · skip
          obtain ⟨rfl, hv9, lf9, hw2⟩ := (hw.2 hne).1 hst
          rw [hw2] at hP hD
          refine lv_istore_n (lv' := [(3, .int (iI (-1))), (0, .ref o), (1, .int (nI ts)), (2, .int (nI pp))]) hx hb d_Mod_find_120 rfl hl (by decide) rfl (fun ls hl => ?_)
          refine lv_goto (tgt := 64) hx hb d_Mod_find_121 (by decide) ?_
          refine lv_iload_n hx hb d_Mod_find_64 rfl (lv_at hl 0 rfl) ?_
          refine lv_iconst (v := nI 1) hx hb d_Mod_find_65 (by decide) ?_
          refine lv_icmp_ne (tgt := 124) hx hb d_Mod_find_66 (by decide) (fun c_66 => ?_) (fun c_66 => ?_)
          · skip
            exact L_124 _ _ _ _ pv (by first | (rw [fm_n (show stepP f sz en2 lf hv hn2 st2 = none by rw [e1]; exact stepP_end hend)] at hT2; exact hT2) | (rw [fm_n (show stepP f sz en2 lf hv hn2 st2 = none by rw [e1]; exact hst)] at hT2; exact hT2)) _ _ hP hD hS ls (lv_sub hl [1] rfl)
          · skip
            exact absurd c_66 (by decide)
        · skip
          obtain ⟨rfl, hw2⟩ := (hw.2 hne).2 _ _ _ _ _ _ hst
          rw [hw2] at hP hD
          obtain ⟨p1, p2, p3, p4, p5, p6, p7⟩ := step_inv hst (Or.inr ⟨by omega, e6, e7⟩) (by omega)
          refine lv_istore_n (lv' := [(3, .int (nI 1)), (0, .ref o), (1, .int (nI ts)), (2, .int (nI pp))]) hx hb d_Mod_find_120 rfl hl (by decide) rfl (fun ls hl => ?_)
          refine lv_goto (tgt := 64) hx hb d_Mod_find_121 (by decide) ?_
          refine lv_iload_n hx hb d_Mod_find_64 rfl (lv_at hl 0 rfl) ?_
          refine lv_iconst (v := nI 1) hx hb d_Mod_find_65 (by decide) ?_
          refine lv_icmp_ne (tgt := 124) hx hb d_Mod_find_66 (by decide) (fun c_66 => ?_) (fun c_66 => ?_)
          · skip
            have c_66 : ¬ 1 = 1 := fun q9 => c_66 ((nI_eq (a := 1) (b := 1) (by decide) (by decide)).mpr q9)
            exact absurd c_66 (by omega)
          · skip
            have c_66 : 1 = 1 := (nI_eq (a := 1) (b := 1) (by decide) (by decide)).mp c_66
            exact ih fu at3 ha3 lf3 _ pv en3 hn3 st3_ p1 p2 p3 p6 (by omega) p4 p5 (by omega) (by omega) (by rw [fm_s (show stepP f sz en2 lf hv hn2 st2 = some (en3, lf3, ha3, hn3, st3_, at3) by rw [e1]; exact hst)] at hT2; exact hT2) (by omega) _ _ hP hD hS ls (lv_sub hl [1, 2, 3] rfl)
      refine lv_aload_n hx hb d_Mod_find_69 rfl (lv_at hl 0 rfl) ?_
      refine z_get C hP List.mem_cons_self q_Mod 25 (by decide) k_753 (fun _ h9 => h9) rfl d_Mod_find_70 ?_
      refine lv_iload_n hx hb d_Mod_find_73 rfl (lv_at hl 2 rfl) ?_
      refine lv_icmp_lt (tgt := 115) hx hb d_Mod_find_74 (by decide) (fun c_74 => ?_) (fun c_74 => ?_)
      · skip
        have c_74 : hv < pp := (nI_ltI (a := hv) (b := pp) (by omega) (by omega)).mp c_74
        exact L_115 pv (by omega) (hT.trans (if_neg (by omega))) _ _ hP hD hS ls (lv_sub hl [0, 1, 2] rfl)
      · skip
        have c_74 : ¬ hv < pp := fun q9 => c_74 ((nI_ltI (a := hv) (b := pp) (by omega) (by omega)).mpr q9)
        refine lv_aload_n hx hb d_Mod_find_77 rfl (lv_at hl 0 rfl) ?_
        refine lv_dup hx hb d_Mod_find_78 rfl ?_
        refine z_get C hP List.mem_cons_self q_Mod 28 (by decide) k_756 (fun _ h9 => h9) rfl d_Mod_find_79 ?_
        refine lv_iconst (v := nI 1) hx hb d_Mod_find_82 (by decide) ?_
        refine z_iadd (v := nI (pv + 1)) C d_Mod_find_83 (nI_add _ _) ?_
        refine z_put C hP hD hS 0 rfl q_Mod 28 (by decide) k_756 (fun _ h9 => h9) rfl rfl rfl (Nat.le_of_ble_eq_true rfl) d_Mod_find_84 (ws' := (o, zo 11 [.int (nI 0), .ref ta, .int (nI ne), .ref ans, .ref anm, .ref anu, .ref asa, .ref apl, .ref akd, .int (nI nk), .ref akn, .ref aks, .ref akp, .ref akk, .int (nI bg), .int (nI sz), .int (nI hd), .ref alg, .int (nI ni), .ref aip, .ref aix, .ref aiz, .ref aim, .ref aod, .int (nI av), .int (nI hv), .int (nI lf), .int (nI sn), .int (nI (pv + 1))]) :: T) rfl (fun H locs hP hD hS => ?_)
        refine lv_aload_n hx hb d_Mod_find_87 rfl (lv_at hl 0 rfl) ?_
        refine lv_iload_n hx hb d_Mod_find_88 rfl (lv_at hl 1 rfl) ?_
        refine z_ki (z_runV (np := 1) C (c_Mod_orderHere l g ((o, zo 11 [.int (nI 0), .ref ta, .int (nI ne), .ref ans, .ref anm, .ref anu, .ref asa, .ref apl, .ref akd, .int (nI nk), .ref akn, .ref aks, .ref akp, .ref akk, .int (nI bg), .int (nI sz), .int (nI hd), .ref alg, .int (nI ni), .ref aip, .ref aix, .ref aiz, .ref aim, .ref aod, .int (nI av), .int (nI hv), .int (nI lf), .int (nI sn), .int (nI (pv + 1))]) :: T) o 0 ta ne ans anm anu asa apl akd nk akn aks akp akk bg sz hd alg ni aip aix aiz aim aod av hv lf sn (pv + 1) List.mem_cons_self tb (List.mem_cons_of_mem _ hta) f (List.mem_cons_of_mem _ hlg) ts (by omega) v2 v5) hP hD hS List.mem_cons_self (show classes[11]? = some (R_Mod, F_Mod, 29) from rfl) k_980 k_12 k_977 k_979 ks_Mod_orderHere ⟨by decide, by decide, by decide⟩ ⟨Nat.le_of_ble_eq_true rfl, Nat.le_of_ble_eq_true rfl⟩ rfl hl.1 rfl (Nat.le_of_ble_eq_true rfl) d_Mod_find_89 ⟨by show _ ≤ 0; omega, by show _ ≤ 0; omega⟩) hS (fun r_89 w H locs hw hP hD hS => ?_)
        obtain ⟨rfl, hw⟩ := hw
        rw [hw] at hP hD
        have rg := cmpB_rg (xs := zl tb 0 ts) (ys := nmA f sz av) (by rw [zl_len]; omega) (by unfold nmA; rw [zl_len]; have := U2_lt f sz (av + 6); omega)
        refine lv_istore (lv' := [(4, .int (iI (cmpB (zl tb 0 ts) (nmA f sz av)))), (0, .ref o), (1, .int (nI ts)), (2, .int (nI pp))]) hx hb d_Mod_find_92 hl (by decide) rfl (fun ls hl => ?_)
        refine lv_iload hx hb d_Mod_find_94 (lv_at hl 0 rfl) ?_
        refine lv_if_gt (tgt := 115) hx hb d_Mod_find_96 (by decide) (fun c_96 => ?_) (fun c_96 => ?_)
        · skip
          have c_96 : 0 < (cmpB (zl tb 0 ts) (nmA f sz av)) := (zi_lt (a := 0) (b := cmpB (zl tb 0 ts) (nmA f sz av)) (nI_iI _) rfl (by omega) (by omega) (by omega) (by omega)).mp c_96
          exact L_115 (pv + 1) (by omega) (hT.trans ((if_pos (by omega)).trans ((if_neg (by omega)).trans (if_neg (by omega))))) _ _ hP hD hS ls (lv_sub hl [1, 2, 3] rfl)
        · skip
          have c_96 : ¬ 0 < (cmpB (zl tb 0 ts) (nmA f sz av)) := fun q9 => c_96 ((zi_lt (a := 0) (b := cmpB (zl tb 0 ts) (nmA f sz av)) (nI_iI _) rfl (by omega) (by omega) (by omega) (by omega)).mpr q9)
          refine lv_iload hx hb d_Mod_find_99 (lv_at hl 0 rfl) ?_
          refine lv_if_ne (tgt := 112) hx hb d_Mod_find_101 (by decide) (fun c_101 => ?_) (fun c_101 => ?_)
          · skip
            have c_101 : ¬ (cmpB (zl tb 0 ts) (nmA f sz av)) = 0 := fun q9 => c_101 ((zi_eq (a := cmpB (zl tb 0 ts) (nmA f sz av)) (b := 0) rfl (nI_iI _) (by omega) (by omega) (by omega) (by omega)).mpr q9)
            refine lv_bipush (v := iI (-2)) hx hb d_Mod_find_112 (by decide) ?_
            exact z_iret C hr hlk hP hD hS (by omega) (by omega) ⟨by rw [hT, if_pos (by omega), if_neg c_101, if_pos (by omega)], _, _, _, _, by rw [hT, if_pos (by omega), if_neg c_101, if_pos (by omega)]⟩ d_Mod_find_114
          · skip
            have c_101 : (cmpB (zl tb 0 ts) (nmA f sz av)) = 0 := (zi_eq (a := cmpB (zl tb 0 ts) (nmA f sz av)) (b := 0) rfl (nI_iI _) (by omega) (by omega) (by omega) (by omega)).mp c_101
            refine lv_aload_n hx hb d_Mod_find_104 rfl (lv_at hl 1 rfl) ?_
            refine z_kl (z_runV (np := 0) C (c_Mod_numberHere l g ((o, zo 11 [.int (nI 0), .ref ta, .int (nI ne), .ref ans, .ref anm, .ref anu, .ref asa, .ref apl, .ref akd, .int (nI nk), .ref akn, .ref aks, .ref akp, .ref akk, .int (nI bg), .int (nI sz), .int (nI hd), .ref alg, .int (nI ni), .ref aip, .ref aix, .ref aiz, .ref aim, .ref aod, .int (nI av), .int (nI hv), .int (nI lf), .int (nI sn), .int (nI (pv + 1))]) :: T) o 0 ta ne ans anm anu asa apl akd nk akn aks akp akk bg sz hd alg ni aip aix aiz aim aod av hv lf sn (pv + 1) List.mem_cons_self f (List.mem_cons_of_mem _ hlg) (by omega) (by omega) (by omega)) hP hD hS List.mem_cons_self (show classes[11]? = some (R_Mod, F_Mod, 29) from rfl) k_952 k_12 k_949 k_951 ks_Mod_numberHere ⟨by decide, by decide, by decide⟩ ⟨Nat.le_of_ble_eq_true rfl, Nat.le_of_ble_eq_true rfl⟩ rfl hl.1 rfl (Nat.le_of_ble_eq_true rfl) d_Mod_find_105 ⟨by show _ ≤ 0; omega, by show _ ≤ 0; omega⟩) hS (fun r_105 w H locs hw hP hD hS => ?_)
            obtain ⟨rfl, hw⟩ := hw
            rw [hw] at hP hD
            refine lv_l2i (v := iI ((U4 f sz (hv + 8) : Int) + s16 (U2 f sz (av + 2)))) hx hb d_Mod_find_108 (lI_i _) ?_
            refine lv_goto (tgt := 114) hx hb d_Mod_find_109 (by decide) ?_
            exact z_iret C hr hlk hP hD hS (by omega) (by omega) ⟨by rw [hT, if_pos (by omega), if_pos c_101, e6], _, _, _, _, by rw [hT, if_pos (by omega), if_pos c_101]⟩ d_Mod_find_114
  have L_58 : ∀ (av hv lf sn : Nat) (H : Heap) (locs : List Loc), va_P g.1 classes ((o, zo 11 [.int (nI 0), .ref ta, .int (nI ne), .ref ans, .ref anm, .ref anu, .ref asa, .ref apl, .ref akd, .int (nI nk), .ref akn, .ref aks, .ref akp, .ref akk, .int (nI bg), .int (nI sz), .int (nI hd), .ref alg, .int (nI ni), .ref aip, .ref aix, .ref aiz, .ref aim, .ref aod, .int (nI av), .int (nI hv), .int (nI lf), .int (nI sn), .int (nI 0)]) :: T) H → va_D (zA g) ((o, zo 11 [.int (nI 0), .ref ta, .int (nI ne), .ref ans, .ref anm, .ref anu, .ref asa, .ref apl, .ref akd, .int (nI nk), .ref akn, .ref aks, .ref akp, .ref akk, .int (nI bg), .int (nI sz), .int (nI hd), .ref alg, .int (nI ni), .ref aip, .ref aix, .ref aiz, .ref aim, .ref aod, .int (nI av), .int (nI hv), .int (nI lf), .int (nI sn), .int (nI 0)]) :: T) → va_S (zA g) s.heap H locs → ∀ ls : Array Slot, lv_has ls 5 [(0, .ref o), (1, .int (nI ts)), (2, .int (nI pp))] → W p l e (zR 5 113 0 0) s m [.ref o].toArray below meth c H locs 0 0 (MQ below (zQi g (fun r w => r = (fnM f sz (zl tb 0 ts) pp (sz + 1) 0 0 0 0 0 0).1 ∧ ∃ av2 hv2 lf2 sn2 : Nat, w = (o, zo 11 [.int (nI 0), .ref ta, .int (nI ne), .ref ans, .ref anm, .ref anu, .ref asa, .ref apl, .ref akd, .int (nI nk), .ref akn, .ref aks, .ref akp, .ref akk, .int (nI bg), .int (nI sz), .int (nI hd), .ref alg, .int (nI ni), .ref aip, .ref aix, .ref aiz, .ref aim, .ref aod, .int (nI av2), .int (nI hv2), .int (nI lf2), .int (nI sn2), .int (nI ((fnM f sz (zl tb 0 ts) pp (sz + 1) 0 0 0 0 0 0).2))]) :: T)) [.ref o].toArray s 0 0 (zA g)) (F0 m 58 ls []) := by
    intro av hv lf sn H locs hP hD hS ls hl
    refine lv_aload_n hx hb d_Mod_find_58 rfl (lv_at hl 0 rfl) ?_
    refine lv_iconst (v := nI 1) hx hb d_Mod_find_59 (by decide) ?_
    refine z_ki (z_runV (np := 1) C (c_Mod_step_t l g T o 0 ta ne ans anm anu asa apl akd nk akn aks akp akk bg sz hd alg ni aip aix aiz aim aod av hv lf sn 0 f hlg 0 0 (by omega)) hP hD hS List.mem_cons_self (show classes[11]? = some (R_Mod, F_Mod, 29) from rfl) k_928 k_12 k_925 k_927 ks_Mod_step ⟨by decide, by decide, by decide⟩ ⟨Nat.le_of_ble_eq_true rfl, Nat.le_of_ble_eq_true rfl⟩ rfl hl.1 rfl (Nat.le_of_ble_eq_true rfl) d_Mod_find_60 ⟨by show _ ≤ 0; omega, by show _ ≤ 0; omega⟩) hS (fun r_60 w H locs hw hP hD hS => ?_)
    rcases st3 f sz 0 0 0 0 0 with hend | ⟨hne, hst⟩ | ⟨hne, en3, lf3, ha3, hn3, st3_, at3, hst⟩
    · skip
      obtain ⟨rfl, hw2⟩ := hw.1 hend
      rw [hw2] at hP hD
      refine lv_istore_n (lv' := [(3, .int (nI 0)), (0, .ref o), (1, .int (nI ts)), (2, .int (nI pp))]) hx hb d_Mod_find_63 rfl hl (by decide) rfl (fun ls hl => ?_)
      refine lv_iload_n hx hb d_Mod_find_64 rfl (lv_at hl 0 rfl) ?_
      refine lv_iconst (v := nI 1) hx hb d_Mod_find_65 (by decide) ?_
      refine lv_icmp_ne (tgt := 124) hx hb d_Mod_find_66 (by decide) (fun c_66 => ?_) (fun c_66 => ?_)
      · skip
        have c_66 : ¬ 0 = 1 := fun q9 => c_66 ((nI_eq (a := 0) (b := 1) (by decide) (by decide)).mpr q9)
        exact L_124 _ _ _ _ 0 (by first | exact fm_n (stepP_end hend) | exact fm_n hst) _ _ hP hD hS ls (lv_sub hl [1] rfl)
      · skip
        have c_66 : 0 = 1 := (nI_eq (a := 0) (b := 1) (by decide) (by decide)).mp c_66
        exact absurd c_66 (by omega)
    · skip
      obtain ⟨rfl, hv9, lf9, hw2⟩ := (hw.2 hne).1 hst
      rw [hw2] at hP hD
      refine lv_istore_n (lv' := [(3, .int (iI (-1))), (0, .ref o), (1, .int (nI ts)), (2, .int (nI pp))]) hx hb d_Mod_find_63 rfl hl (by decide) rfl (fun ls hl => ?_)
      refine lv_iload_n hx hb d_Mod_find_64 rfl (lv_at hl 0 rfl) ?_
      refine lv_iconst (v := nI 1) hx hb d_Mod_find_65 (by decide) ?_
      refine lv_icmp_ne (tgt := 124) hx hb d_Mod_find_66 (by decide) (fun c_66 => ?_) (fun c_66 => ?_)
      · skip
        exact L_124 _ _ _ _ 0 (by first | exact fm_n (stepP_end hend) | exact fm_n hst) _ _ hP hD hS ls (lv_sub hl [1] rfl)
      · skip
        exact absurd c_66 (by decide)
    · skip
      obtain ⟨rfl, hw2⟩ := (hw.2 hne).2 _ _ _ _ _ _ hst
      rw [hw2] at hP hD
      obtain ⟨p1, p2, p3, p4, p5, p6, p7⟩ := step_inv hst (Or.inl rfl) (Nat.zero_le _)
      refine lv_istore_n (lv' := [(3, .int (nI 1)), (0, .ref o), (1, .int (nI ts)), (2, .int (nI pp))]) hx hb d_Mod_find_63 rfl hl (by decide) rfl (fun ls hl => ?_)
      refine lv_iload_n hx hb d_Mod_find_64 rfl (lv_at hl 0 rfl) ?_
      refine lv_iconst (v := nI 1) hx hb d_Mod_find_65 (by decide) ?_
      refine lv_icmp_ne (tgt := 124) hx hb d_Mod_find_66 (by decide) (fun c_66 => ?_) (fun c_66 => ?_)
      · skip
        have c_66 : ¬ 1 = 1 := fun q9 => c_66 ((nI_eq (a := 1) (b := 1) (by decide) (by decide)).mpr q9)
        exact absurd c_66 (by omega)
      · skip
        have c_66 : 1 = 1 := (nI_eq (a := 1) (b := 1) (by decide) (by decide)).mp c_66
        exact L_69 _ sz at3 ha3 lf3 _ 0 en3 hn3 st3_ p1 p2 p3 p6 (by omega) p4 p5 (by omega) (by omega) (fm_s hst) (Nat.lt_succ_self _) _ _ hP hD hS ls (lv_sub hl [1, 2, 3] rfl)
  have L_24 : ∀ (nu : Nat) (i av hv lf sn : Nat) (_ : i ≤ ni) (_ : ni - i < nu) (H : Heap) (locs : List Loc), va_P g.1 classes ((o, zo 11 [.int (nI 0), .ref ta, .int (nI ne), .ref ans, .ref anm, .ref anu, .ref asa, .ref apl, .ref akd, .int (nI nk), .ref akn, .ref aks, .ref akp, .ref akk, .int (nI bg), .int (nI sz), .int (nI hd), .ref alg, .int (nI ni), .ref aip, .ref aix, .ref aiz, .ref aim, .ref aod, .int (nI av), .int (nI hv), .int (nI lf), .int (nI sn), .int (nI 0)]) :: T) H → va_D (zA g) ((o, zo 11 [.int (nI 0), .ref ta, .int (nI ne), .ref ans, .ref anm, .ref anu, .ref asa, .ref apl, .ref akd, .int (nI nk), .ref akn, .ref aks, .ref akp, .ref akk, .int (nI bg), .int (nI sz), .int (nI hd), .ref alg, .int (nI ni), .ref aip, .ref aix, .ref aiz, .ref aim, .ref aod, .int (nI av), .int (nI hv), .int (nI lf), .int (nI sn), .int (nI 0)]) :: T) → va_S (zA g) s.heap H locs → ∀ ls : Array Slot, lv_has ls 5 [(0, .ref o), (1, .int (nI ts)), (2, .int (lookF (mdM ipl ist isz inm) (zl tb 0 ts) i)), (3, .int (nI i))] → W p l e (zR 5 113 0 0) s m [.ref o].toArray below meth c H locs 0 0 (MQ below (zQi g (fun r w => r = (fnM f sz (zl tb 0 ts) pp (sz + 1) 0 0 0 0 0 0).1 ∧ ∃ av2 hv2 lf2 sn2 : Nat, w = (o, zo 11 [.int (nI 0), .ref ta, .int (nI ne), .ref ans, .ref anm, .ref anu, .ref asa, .ref apl, .ref akd, .int (nI nk), .ref akn, .ref aks, .ref akp, .ref akk, .int (nI bg), .int (nI sz), .int (nI hd), .ref alg, .int (nI ni), .ref aip, .ref aix, .ref aiz, .ref aim, .ref aod, .int (nI av2), .int (nI hv2), .int (nI lf2), .int (nI sn2), .int (nI ((fnM f sz (zl tb 0 ts) pp (sz + 1) 0 0 0 0 0 0).2))]) :: T)) [.ref o].toArray s 0 0 (zA g)) (F0 m 24 ls []) := by
    intro nu
    induction nu with
    | zero => intros; omega
    | succ nu ih =>
      intro i av hv lf sn g1 hmu H locs hP hD hS ls hl
      have L_51 : ∀ (_ : i < ni) (H : Heap) (locs : List Loc), va_P g.1 classes ((o, zo 11 [.int (nI 0), .ref ta, .int (nI ne), .ref ans, .ref anm, .ref anu, .ref asa, .ref apl, .ref akd, .int (nI nk), .ref akn, .ref aks, .ref akp, .ref akk, .int (nI bg), .int (nI sz), .int (nI hd), .ref alg, .int (nI ni), .ref aip, .ref aix, .ref aiz, .ref aim, .ref aod, .int (nI av), .int (nI hv), .int (nI lf), .int (nI sn), .int (nI 0)]) :: T) H → va_D (zA g) ((o, zo 11 [.int (nI 0), .ref ta, .int (nI ne), .ref ans, .ref anm, .ref anu, .ref asa, .ref apl, .ref akd, .int (nI nk), .ref akn, .ref aks, .ref akp, .ref akk, .int (nI bg), .int (nI sz), .int (nI hd), .ref alg, .int (nI ni), .ref aip, .ref aix, .ref aiz, .ref aim, .ref aod, .int (nI av), .int (nI hv), .int (nI lf), .int (nI sn), .int (nI 0)]) :: T) → va_S (zA g) s.heap H locs → ∀ ls : Array Slot, lv_has ls 5 [(0, .ref o), (1, .int (nI ts)), (3, .int (nI i))] → W p l e (zR 5 113 0 0) s m [.ref o].toArray below meth c H locs 0 0 (MQ below (zQi g (fun r w => r = (fnM f sz (zl tb 0 ts) pp (sz + 1) 0 0 0 0 0 0).1 ∧ ∃ av2 hv2 lf2 sn2 : Nat, w = (o, zo 11 [.int (nI 0), .ref ta, .int (nI ne), .ref ans, .ref anm, .ref anu, .ref asa, .ref apl, .ref akd, .int (nI nk), .ref akn, .ref aks, .ref akp, .ref akk, .int (nI bg), .int (nI sz), .int (nI hd), .ref alg, .int (nI ni), .ref aip, .ref aix, .ref aiz, .ref aim, .ref aod, .int (nI av2), .int (nI hv2), .int (nI lf2), .int (nI sn2), .int (nI ((fnM f sz (zl tb 0 ts) pp (sz + 1) 0 0 0 0 0 0).2))]) :: T)) [.ref o].toArray s 0 0 (zA g)) (F0 m 51 ls [.int (lookF (mdM ipl ist isz inm) (zl tb 0 ts) (i + 1))]) := by
        intro g2 H locs hP hD hS ls hl
        refine lv_istore_n (lv' := [(2, .int (lookF (mdM ipl ist isz inm) (zl tb 0 ts) (i + 1))), (0, .ref o), (1, .int (nI ts)), (3, .int (nI i))]) hx hb d_Mod_find_51 rfl hl (by decide) rfl (fun ls hl => ?_)
        refine lv_iinc (v := nI (i + 1)) (lv' := [(3, .int (nI (i + 1))), (2, .int (lookF (mdM ipl ist isz inm) (zl tb 0 ts) (i + 1))), (0, .ref o), (1, .int (nI ts))]) hx hb d_Mod_find_52 hl (k := 3) rfl (by rw [show Int32.ofInt 1 = nI 1 by decide]; exact nI_add _ _) (by decide) rfl (fun ls hl => ?_)
        refine lv_goto (tgt := 24) hx hb d_Mod_find_55 (by decide) ?_
        exact ih (i + 1) _ _ _ _ (by omega) (by omega) _ _ hP hD hS ls (lv_sub hl [2, 3, 1, 0] rfl)
      refine lv_iload_n hx hb d_Mod_find_24 rfl (lv_at hl 3 rfl) ?_
      refine lv_aload_n hx hb d_Mod_find_25 rfl (lv_at hl 0 rfl) ?_
      refine z_get C hP List.mem_cons_self q_Mod 18 (by decide) k_746 (fun _ h9 => h9) rfl d_Mod_find_26 ?_
      refine lv_icmp_ge (tgt := 58) hx hb d_Mod_find_29 (by decide) (fun c_29 => ?_) (fun c_29 => ?_)
      · skip
        have c_29 : ni ≤ i := (nI_leI (a := ni) (b := i) (by omega) (by omega)).mp c_29
        have e_l : lookF (mdM ipl ist isz inm) (zl tb 0 ts) i = nI pp := by rw [show i = ni by omega]; exact hlo9
        rw [e_l] at hl
        exact L_58 _ _ _ _ _ _ hP hD hS ls (lv_sub hl [0, 1, 2] rfl)
      · skip
        have c_29 : ¬ ni ≤ i := fun q9 => c_29 ((nI_leI (a := ni) (b := i) (by omega) (by omega)).mpr q9)
        refine lv_aload_n hx hb d_Mod_find_32 rfl (lv_at hl 0 rfl) ?_
        refine lv_iload_n hx hb d_Mod_find_33 rfl (lv_at hl 1 rfl) ?_
        refine lv_iload_n hx hb d_Mod_find_34 rfl (lv_at hl 3 rfl) ?_
        refine z_ki (z_runV (np := 2) C (c_Mod_orderOfIndex l g ((o, zo 11 [.int (nI 0), .ref ta, .int (nI ne), .ref ans, .ref anm, .ref anu, .ref asa, .ref apl, .ref akd, .int (nI nk), .ref akn, .ref aks, .ref akp, .ref akk, .int (nI bg), .int (nI sz), .int (nI hd), .ref alg, .int (nI ni), .ref aip, .ref aix, .ref aiz, .ref aim, .ref aod, .int (nI av), .int (nI hv), .int (nI lf), .int (nI sn), .int (nI 0)]) :: T) o 0 ta ne ans anm anu asa apl akd nk akn aks akp akk bg sz hd alg ni aip aix aiz aim aod av hv lf sn 0 List.mem_cons_self tb (List.mem_cons_of_mem _ hta) isz (List.mem_cons_of_mem _ hiz) inm (List.mem_cons_of_mem _ him) ts i v5 (by omega) (x2 i (by omega))) hP hD hS List.mem_cons_self (show classes[11]? = some (R_Mod, F_Mod, 29) from rfl) k_976 k_12 k_973 k_975 ks_Mod_orderOfIndex ⟨by decide, by decide, by decide⟩ ⟨Nat.le_of_ble_eq_true rfl, Nat.le_of_ble_eq_true rfl⟩ rfl hl.1 rfl (Nat.le_of_ble_eq_true rfl) d_Mod_find_35 ⟨by show _ ≤ 0; omega, by show _ ≤ 0; omega⟩) hS (fun r_35 w H locs hw hP hD hS => ?_)
        obtain ⟨rfl, hw⟩ := hw
        rw [hw] at hP hD
        have rg := cmpB_rg (xs := zl tb 0 ts) (ys := zl inm (256 * i) (isz i)) (by rw [zl_len]; omega) (by rw [zl_len]; have := x2 i (by omega); omega)
        have an := cmpB_anti (zl tb 0 ts) (zl inm (256 * i) (isz i))
        refine lv_if_lt (tgt := 50) hx hb d_Mod_find_38 (by decide) (fun c_38 => ?_) (fun c_38 => ?_)
        · skip
          have c_38 : (cmpB (zl tb 0 ts) (zl inm (256 * i) (isz i))) < 0 := (zi_lt (a := cmpB (zl tb 0 ts) (zl inm (256 * i) (isz i))) (b := 0) rfl (nI_iI _) (by omega) (by omega) (by omega) (by omega)).mp c_38
          refine lv_iload_n hx hb d_Mod_find_50 rfl (lv_at hl 2 rfl) ?_
          refine z_topi (y := lookF (mdM ipl ist isz inm) (zl tb 0 ts) (i + 1)) (show lookF (mdM ipl ist isz inm) (zl tb 0 ts) i = if cmpB (zl inm (256 * i) (isz i)) (zl tb 0 ts) ≤ 0 then ipl i else lookF (mdM ipl ist isz inm) (zl tb 0 ts) i by rw [if_neg (by omega)]) ?_
          exact L_51 (by omega) _ _ hP hD hS ls (lv_sub hl [0, 1, 3] rfl)
        · skip
          have c_38 : ¬ (cmpB (zl tb 0 ts) (zl inm (256 * i) (isz i))) < 0 := fun q9 => c_38 ((zi_lt (a := cmpB (zl tb 0 ts) (zl inm (256 * i) (isz i))) (b := 0) rfl (nI_iI _) (by omega) (by omega) (by omega) (by omega)).mpr q9)
          refine lv_aload_n hx hb d_Mod_find_41 rfl (lv_at hl 0 rfl) ?_
          refine z_get C hP List.mem_cons_self q_Mod 19 (by decide) k_747 (fun _ h9 => h9) rfl d_Mod_find_42 ?_
          refine lv_iload_n hx hb d_Mod_find_45 rfl (lv_at hl 3 rfl) ?_
          refine z_iald C hP (List.mem_cons_of_mem _ hip) i (by omega) (by omega) d_Mod_find_46 ?_
          refine lv_goto (tgt := 51) hx hb d_Mod_find_47 (by decide) ?_
          refine z_topi (y := lookF (mdM ipl ist isz inm) (zl tb 0 ts) (i + 1)) (show ipl i = if cmpB (zl inm (256 * i) (isz i)) (zl tb 0 ts) ≤ 0 then ipl i else lookF (mdM ipl ist isz inm) (zl tb 0 ts) i by rw [if_pos (by omega)]) ?_
          exact L_51 (by omega) _ _ hP hD hS ls (lv_sub hl [0, 1, 3] rfl)
  refine lv_aload_n hx hb d_Mod_find_0 rfl (lv_at hl 0 rfl) ?_
  refine z_ki (z_runV (np := 0) C (c_Mod_use l g T o ts ta ne ans anm anu asa apl akd nk akn aks akp akk bg sz hd alg ni aip aix aiz aim aod av hv lf sn pv) hP hD hS List.mem_cons_self (show classes[11]? = some (R_Mod, F_Mod, 29) from rfl) k_829 k_12 k_826 k_828 ks_Mod_use ⟨by decide, by decide, by decide⟩ ⟨Nat.le_of_ble_eq_true rfl, Nat.le_of_ble_eq_true rfl⟩ rfl hl.1 rfl (Nat.le_of_ble_eq_true rfl) d_Mod_find_1 ⟨by show _ ≤ 0; omega, by show _ ≤ 0; omega⟩) hS (fun r_1 w H locs hw hP hD hS => ?_)
  obtain ⟨rfl, hw⟩ := hw
  rw [hw] at hP hD
  refine lv_istore_n (lv' := [(1, .int (nI ts)), (0, .ref o)]) hx hb d_Mod_find_4 rfl hl (by decide) rfl (fun ls hl => ?_)
  refine lv_aload_n hx hb d_Mod_find_5 rfl (lv_at hl 1 rfl) ?_
  refine lv_iconst (v := nI 0) hx hb d_Mod_find_6 (by decide) ?_
  refine z_put C hP hD hS 0 rfl q_Mod 28 (by decide) k_756 (fun _ h9 => h9) rfl rfl rfl (Nat.le_of_ble_eq_true rfl) d_Mod_find_7 (ws' := (o, zo 11 [.int (nI 0), .ref ta, .int (nI ne), .ref ans, .ref anm, .ref anu, .ref asa, .ref apl, .ref akd, .int (nI nk), .ref akn, .ref aks, .ref akp, .ref akk, .int (nI bg), .int (nI sz), .int (nI hd), .ref alg, .int (nI ni), .ref aip, .ref aix, .ref aiz, .ref aim, .ref aod, .int (nI av), .int (nI hv), .int (nI lf), .int (nI sn), .int (nI 0)]) :: T) rfl (fun H locs hP hD hS => ?_)
  refine lv_aload_n hx hb d_Mod_find_10 rfl (lv_at hl 1 rfl) ?_
  refine z_ki (z_runV (np := 0) C (c_Mod_count l g T o 0 ta ne ans anm anu asa apl akd nk akn aks akp akk bg sz hd alg ni aip aix aiz aim aod av hv lf sn 0 f hlg kn ks kp kk hkn hks hkp hkk ipl ist isz inm hip hix hiz him v2 k1 k2 x1 x2 x3) hP hD hS List.mem_cons_self (show classes[11]? = some (R_Mod, F_Mod, 29) from rfl) k_924 k_12 k_921 k_923 ks_Mod_count ⟨by decide, by decide, by decide⟩ ⟨Nat.le_of_ble_eq_true rfl, Nat.le_of_ble_eq_true rfl⟩ rfl hl.1 rfl (Nat.le_of_ble_eq_true rfl) d_Mod_find_11 ⟨by show _ ≤ 0; omega, by show _ ≤ 0; omega⟩) hS (fun r_11 w H locs hw hP hD hS => ?_)
  obtain ⟨rfl, av, hv, lf, sn, hw⟩ := hw
  rw [hw] at hP hD
  have cb := cnt_bd f sz bg ni (knM kn ks kp kk nk) (mdM ipl ist isz inm)
  refine lv_if_ge (tgt := 20) hx hb d_Mod_find_14 (by decide) (fun c_14 => ?_) (fun c_14 => ?_)
  · skip
    have c_14 : 0 ≤ (cntM f sz bg (knM kn ks kp kk nk) (mdM ipl ist isz inm) ni) := (zi_le (a := 0) (b := cntM f sz bg (knM kn ks kp kk nk) (mdM ipl ist isz inm) ni) (nI_iI _) rfl (by omega) (by omega) (by omega) (by omega)).mp c_14
    refine lv_iconst (v := nI 0) hx hb d_Mod_find_20 (by decide) ?_
    refine lv_istore_n (lv' := [(2, .int (nI 0)), (1, .int (nI ts)), (0, .ref o)]) hx hb d_Mod_find_21 rfl hl (by decide) rfl (fun ls hl => ?_)
    refine lv_iconst (v := nI 0) hx hb d_Mod_find_22 (by decide) ?_
    refine lv_istore_n (lv' := [(3, .int (nI 0)), (2, .int (nI 0)), (1, .int (nI ts)), (0, .ref o)]) hx hb d_Mod_find_23 rfl hl (by decide) rfl (fun ls hl => ?_)
    exact L_24 _ 0 _ _ _ _ (Nat.zero_le _) (Nat.lt_succ_self _) _ _ hP hD hS ls (lv_sub hl [3, 2, 1, 0] rfl)
  · skip
    have c_14 : ¬ 0 ≤ (cntM f sz bg (knM kn ks kp kk nk) (mdM ipl ist isz inm) ni) := fun q9 => c_14 ((zi_le (a := 0) (b := cntM f sz bg (knM kn ks kp kk nk) (mdM ipl ist isz inm) ni) (nI_iI _) rfl (by omega) (by omega) (by omega) (by omega)).mpr q9)
    exact absurd c_14 (by omega)
