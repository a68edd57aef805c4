set_option maxHeartbeats 4000000 in
set_option maxRecDepth 100000 in
/-- the calls one by one -/
theorem law_loop {p : Program} {l : Launch} {e : Env} {s : State} {m : MethodId} {below : List Frame} {meth : Method} {c : Code} {b L : Nat} {xs : Nat → Int32} {g : zT} (hL : L ≤ 2560) (C : zC g p m c code 4 s #[Value.ref b] "ListingRowLaw") (hr : meth.sig.returnType = ret) (hlocks : meth.locks = false) (hXs : va_X b L xs s s.heap) (hbl : b < s.heap.size) (hgs : g.2.2.1 = s.heap.size) (ro o : Nat) :
    ∀ (nu n : Nat) (tpe : List UInt8) (es kl : List zE) (rf : Nat → UInt8) (len hd bg : Nat) (ml : List zM) (pv : Nat) (T0 : va_W) (Wf Mf : va_W → va_W) (_ : L + 5 - 5 * n < nu) (_ : 5 * n ≤ L + 4) (_ : okA tpe es kl len bg ml n) (_ : RowC g ro tpe es kl rf len hd bg ml pv T0 Wf) (_ : ModC g o tpe es kl rf len hd bg ml pv n Mf) (H : Heap) (locs : List Loc), va_P g.1 classes (Wf (Mf T0)) H → va_D (zA g) (Wf (Mf T0)) → va_S (zA g) s.heap H locs → ∀ ls : Array Slot, lv_has ls 4 [(3, .int (nI (5 * n))), (2, .ref o), (1, .ref ro), (0, .ref b)] → W p l e room_1 s m #[Value.ref b] below meth c H locs (60 + 30 * n) (300000 + 2000 * n) (lw_Z below #[Value.ref b] s) (F0 m 18 ls []) := by
  have hx := C.1.1
  have hb := C.1.2.1
  have hg := g01 C.2
  have hbA : ¬ zA g b := by show ¬ g.2.2.1 ≤ b; omega
  intro nu
  induction nu with
  | zero => intros; omega
  | succ nu ih =>
    intro n tpe es kl rf len hd bg ml pv T0 Wf Mf hmu hn5 hA hR hM H locs hP hD hS ls hl
    have NX : 5 * n + 5 ≤ L → ∀ (tpe : List UInt8) (es kl : List zE) (rf : Nat → UInt8) (len hd bg : Nat) (ml : List zM) (pv : Nat) (T0 : va_W) (Wf Mf : va_W → va_W) (_ : okA tpe es kl len bg ml (n + 1)) (_ : RowC g ro tpe es kl rf len hd bg ml pv T0 Wf) (_ : ModC g o tpe es kl rf len hd bg ml pv (n + 1) Mf) (H : Heap) (locs : List Loc), va_P g.1 classes (Mf (Wf T0)) H → va_D (zA g) (Mf (Wf T0)) → va_S (zA g) s.heap H locs → ∀ ls : Array Slot, lv_has ls 4 [(3, .int (nI (5 * n))), (2, .ref o), (1, .ref ro), (0, .ref b)] → W p l e room_1 s m #[Value.ref b] below meth c H locs (60 + 30 * n + 30) (300000 + 2000 * n + 2000) (lw_Z below #[Value.ref b] s) (F0 m 524 ls []) := by
      intro h5 tpe es kl rf len hd bg ml pv T0 Wf Mf hA hR hM H locs hP hD hS ls hl
      refine lv_iinc (v := nI (5 * (n + 1))) (lv' := [(3, .int (nI (5 * (n + 1)))), (2, .ref o), (1, .ref ro), (0, .ref b)]) hx hb d_Law_law_524 hl (k := 0) rfl (by rw [show Int32.ofInt 5 = nI 5 by decide, nI_add]; congr 1) (by decide) rfl (fun ls hl => ?_)
      refine lv_goto (tgt := 18) hx hb d_Law_law_527 (by decide) ?_
      refine W.widen (k := 60 + 30 * (n + 1)) (n := 300000 + 2000 * (n + 1)) (by omega) (by omega) ?_
      exact ih (n + 1) tpe es kl rf len hd bg ml pv T0 Wf Mf (by omega) (by omega) hA hR hM _ _ (z_Pq (frt_back (RowC_frt hR) (ModC_frt hM) T0) hP) (z_Dq (frt_back (RowC_frt hR) (ModC_frt hM) T0) hD) hS ls hl
    refine lv_iload_n hx hb d_Law_law_18 rfl (lv_at hl 0 rfl) ?_
    refine lv_aload_n hx hb d_Law_law_19 rfl (lv_at hl 3 rfl) ?_
    refine va_slen hx hb hXs hbl hbA hS d_Law_law_20 ?_
    refine z_topi (y := nI L) rfl ?_
    refine lv_iconst (v := nI 5) hx hb d_Law_law_21 (by decide) ?_
    refine z_isub (v := iI ((L : Int) - 5)) C d_Law_law_22 (nI_sub L 5) ?_
    refine lv_icmp_gt (tgt := 530) hx hb d_Law_law_23 (by decide) (fun c_23 => ?_) (fun c_23 => ?_)
    · refine lv_iconst (v := 1) hx hb d_Law_law_530 (by decide) ?_
      refine va_forget (fun q hq => by have := hS.2.2 q hq; show s.heap.size ≤ q.base; rw [← hgs]; exact this) ?_
      refine W.widen (k := 600000) (n := 7302250) (by omega) (by omega) ?_
      exact lw_ret hx hb hr hlocks d_Law_law_531
    · have h5 : 5 * n + 5 ≤ L := by
        have q9 : ¬ (L : Int) - 5 < ((5 * n : Nat) : Int) := fun q8 => c_23 ((zi_lt (a := (L : Int) - 5) (b := ((5 * n : Nat) : Int)) rfl (nI_iI _) (by omega) (by omega) (by omega) (by omega)).mpr q8)
        omega
      have hX0 : ∀ q ∈ T0, q ∈ Mf T0 := (ModC_frt hM).mem
      have xs_at : ∀ j, j < L → xs ((nI j).toNatClampNeg) = xs j := fun j hj => by rw [nI_clamp (by omega)]
      refine lv_aload_n hx hb d_Law_law_26 rfl (lv_at hl 3 rfl) ?_
      refine lv_iload_n hx hb d_Law_law_27 rfl (lv_at hl 0 rfl) ?_
      refine va_sld hx hb hXs hbl hbA hS (vp_in_nI (show 5 * n < L by omega) (by omega)) d_Law_law_28 ?_
      refine lv_bipush (v := nI 15) hx hb d_Law_law_29 (by decide) ?_
      obtain ⟨sw, hsw⟩ : ∃ q9, q9 = xs ((nI (5 * n)).toNatClampNeg) &&& nI 15 := ⟨_, rfl⟩
      refine z_iand (v := sw) C d_Law_law_31 hsw.symm ?_
      by_cases sw_0 : sw = nI 0
      · refine z_topi (y := nI 0) sw_0 ?_
        refine lv_tableIn (off := 76) (tgt := 108) hx hb d_Law_law_32 (by decide) (by decide) (by decide) (by decide) ?_
        refine lv_aload_n hx hb d_Law_law_108 rfl (lv_at hl 2 rfl) ?_
        refine lv_aload_n hx hb d_Law_law_109 rfl (lv_at hl 3 rfl) ?_
        refine lv_iload_n hx hb d_Law_law_110 rfl (lv_at hl 0 rfl) ?_
        refine lv_iconst (v := nI 1) hx hb d_Law_law_111 (by decide) ?_
        refine z_iadd (v := nI ((5 * n) + 1)) C d_Law_law_112 (nI_add _ _) ?_
        refine va_sld hx hb hXs hbl hbA hS (vp_in_nI (show (5 * n) + 1 < L by omega) (by omega)) d_Law_law_113 ?_
        refine z_topi (y := xs ((5 * n) + 1)) (xs_at _ (by omega)) ?_
        refine lv_i2l (v := (xs ((5 * n) + 1)).toInt64) hx hb d_Law_law_114 rfl ?_
        refine lv_bipush (v := nI 32) hx hb d_Law_law_115 (by decide) ?_
        refine lv_lshl (v := ((xs ((5 * n) + 1)).toInt64) <<< ((nI 32).toInt64 &&& 63)) hx hb d_Law_law_117 rfl ?_
        refine lv_aload_n hx hb d_Law_law_118 rfl (lv_at hl 3 rfl) ?_
        refine lv_iload_n hx hb d_Law_law_119 rfl (lv_at hl 0 rfl) ?_
        refine lv_iconst (v := nI 2) hx hb d_Law_law_120 (by decide) ?_
        refine z_iadd (v := nI ((5 * n) + 2)) C d_Law_law_121 (nI_add _ _) ?_
        refine va_sld hx hb hXs hbl hbA hS (vp_in_nI (show (5 * n) + 2 < L by omega) (by omega)) d_Law_law_122 ?_
        refine z_topi (y := xs ((5 * n) + 2)) (xs_at _ (by omega)) ?_
        refine lv_i2l (v := (xs ((5 * n) + 2)).toInt64) hx hb d_Law_law_123 rfl ?_
        refine lv_ldc2 hx hb C.1.2.2.2.1 (C.ts k_985 rfl) d_Law_law_124 ?_
        refine z_land (v := ((xs ((5 * n) + 2)).toInt64) &&& 4294967295) C d_Law_law_127 rfl ?_
        refine z_lor (v := (((xs ((5 * n) + 1)).toInt64) <<< ((nI 32).toInt64 &&& 63)) ||| (((xs ((5 * n) + 2)).toInt64) &&& 4294967295)) C d_Law_law_128 rfl ?_
        refine lv_aload_n hx hb d_Law_law_129 rfl (lv_at hl 3 rfl) ?_
        refine lv_iload_n hx hb d_Law_law_130 rfl (lv_at hl 0 rfl) ?_
        refine lv_iconst (v := nI 3) hx hb d_Law_law_131 (by decide) ?_
        refine z_iadd (v := nI ((5 * n) + 3)) C d_Law_law_132 (nI_add _ _) ?_
        refine va_sld hx hb hXs hbl hbA hS (vp_in_nI (show (5 * n) + 3 < L by omega) (by omega)) d_Law_law_133 ?_
        refine z_topi (y := xs ((5 * n) + 3)) (xs_at _ (by omega)) ?_
        refine kr_feed C hl hS (by omega) (by omega) hX0 hP hD hR hA (by omega) (((xs (5 * n + 1)).toInt64 <<< ((nI 32).toInt64 &&& 63) ||| (xs (5 * n + 2)).toInt64 &&& 4294967295)) (xs (5 * n + 3)) (fun r1 Wf2 Nw H locs hpost hP hD hS => ?_)
        rcases hpost with ⟨hr9, rfl, hR2⟩ | ⟨n9, ha9, h1, h2, rfl, hR2⟩
        · skip
          have hP := z_Pq (frt_step (RowC_frt hR2) (ModC_frt hM) Nw T0) hP
          have hD := z_Dq (frt_step (RowC_frt hR2) (ModC_frt hM) Nw T0) hD
          refine lv_aload_n hx hb d_Law_law_137 rfl (lv_at hl 1 rfl) ?_
          refine lv_aload_n hx hb d_Law_law_138 rfl (lv_at hl 3 rfl) ?_
          refine lv_iload_n hx hb d_Law_law_139 rfl (lv_at hl 0 rfl) ?_
          refine lv_iconst (v := nI 1) hx hb d_Law_law_140 (by decide) ?_
          refine z_iadd (v := nI ((5 * n) + 1)) C d_Law_law_141 (nI_add _ _) ?_
          refine va_sld hx hb hXs hbl hbA hS (vp_in_nI (show (5 * n) + 1 < L by omega) (by omega)) d_Law_law_142 ?_
          refine z_topi (y := xs ((5 * n) + 1)) (xs_at _ (by omega)) ?_
          refine lv_i2l (v := (xs ((5 * n) + 1)).toInt64) hx hb d_Law_law_143 rfl ?_
          refine lv_bipush (v := nI 32) hx hb d_Law_law_144 (by decide) ?_
          refine lv_lshl (v := ((xs ((5 * n) + 1)).toInt64) <<< ((nI 32).toInt64 &&& 63)) hx hb d_Law_law_146 rfl ?_
          refine lv_aload_n hx hb d_Law_law_147 rfl (lv_at hl 3 rfl) ?_
          refine lv_iload_n hx hb d_Law_law_148 rfl (lv_at hl 0 rfl) ?_
          refine lv_iconst (v := nI 2) hx hb d_Law_law_149 (by decide) ?_
          refine z_iadd (v := nI ((5 * n) + 2)) C d_Law_law_150 (nI_add _ _) ?_
          refine va_sld hx hb hXs hbl hbA hS (vp_in_nI (show (5 * n) + 2 < L by omega) (by omega)) d_Law_law_151 ?_
          refine z_topi (y := xs ((5 * n) + 2)) (xs_at _ (by omega)) ?_
          refine lv_i2l (v := (xs ((5 * n) + 2)).toInt64) hx hb d_Law_law_152 rfl ?_
          refine lv_ldc2 hx hb C.1.2.2.2.1 (C.ts k_985 rfl) d_Law_law_153 ?_
          refine z_land (v := ((xs ((5 * n) + 2)).toInt64) &&& 4294967295) C d_Law_law_156 rfl ?_
          refine z_lor (v := (((xs ((5 * n) + 1)).toInt64) <<< ((nI 32).toInt64 &&& 63)) ||| (((xs ((5 * n) + 2)).toInt64) &&& 4294967295)) C d_Law_law_157 rfl ?_
          refine lv_aload_n hx hb d_Law_law_158 rfl (lv_at hl 3 rfl) ?_
          refine lv_iload_n hx hb d_Law_law_159 rfl (lv_at hl 0 rfl) ?_
          refine lv_iconst (v := nI 3) hx hb d_Law_law_160 (by decide) ?_
          refine z_iadd (v := nI ((5 * n) + 3)) C d_Law_law_161 (nI_add _ _) ?_
          refine va_sld hx hb hXs hbl hbA hS (vp_in_nI (show (5 * n) + 3 < L by omega) (by omega)) d_Law_law_162 ?_
          refine z_topi (y := xs ((5 * n) + 3)) (xs_at _ (by omega)) ?_
          refine km_feed_b _ C hl hS (by omega) (by omega) hP hD hM hA (by omega) ((xs (5 * n + 1)).toInt64 <<< ((nI 32).toInt64 &&& 63) ||| (xs (5 * n + 2)).toInt64 &&& 4294967295) (xs (5 * n + 3)) hr9 (fun Mf2 H locs hM2 hP hD hS => ?_)
          refine lv_icmp_eq (tgt := 524) hx hb d_Law_law_166 (by decide) (fun _ => ?_) (fun q9 => absurd rfl q9)
          exact NX h5 _ _ _ _ _ _ _ _ _ (Nw ++ T0) Wf2 Mf2 hA.up hR2 hM2 _ _ hP hD hS ls hl
        · skip
          have hP := z_Pq (frt_step (RowC_frt hR2) (ModC_frt hM) Nw T0) hP
          have hD := z_Dq (frt_step (RowC_frt hR2) (ModC_frt hM) Nw T0) hD
          refine lv_aload_n hx hb d_Law_law_137 rfl (lv_at hl 1 rfl) ?_
          refine lv_aload_n hx hb d_Law_law_138 rfl (lv_at hl 3 rfl) ?_
          refine lv_iload_n hx hb d_Law_law_139 rfl (lv_at hl 0 rfl) ?_
          refine lv_iconst (v := nI 1) hx hb d_Law_law_140 (by decide) ?_
          refine z_iadd (v := nI ((5 * n) + 1)) C d_Law_law_141 (nI_add _ _) ?_
          refine va_sld hx hb hXs hbl hbA hS (vp_in_nI (show (5 * n) + 1 < L by omega) (by omega)) d_Law_law_142 ?_
          refine z_topi (y := xs ((5 * n) + 1)) (xs_at _ (by omega)) ?_
          refine lv_i2l (v := (xs ((5 * n) + 1)).toInt64) hx hb d_Law_law_143 rfl ?_
          refine lv_bipush (v := nI 32) hx hb d_Law_law_144 (by decide) ?_
          refine lv_lshl (v := ((xs ((5 * n) + 1)).toInt64) <<< ((nI 32).toInt64 &&& 63)) hx hb d_Law_law_146 rfl ?_
          refine lv_aload_n hx hb d_Law_law_147 rfl (lv_at hl 3 rfl) ?_
          refine lv_iload_n hx hb d_Law_law_148 rfl (lv_at hl 0 rfl) ?_
          refine lv_iconst (v := nI 2) hx hb d_Law_law_149 (by decide) ?_
          refine z_iadd (v := nI ((5 * n) + 2)) C d_Law_law_150 (nI_add _ _) ?_
          refine va_sld hx hb hXs hbl hbA hS (vp_in_nI (show (5 * n) + 2 < L by omega) (by omega)) d_Law_law_151 ?_
          refine z_topi (y := xs ((5 * n) + 2)) (xs_at _ (by omega)) ?_
          refine lv_i2l (v := (xs ((5 * n) + 2)).toInt64) hx hb d_Law_law_152 rfl ?_
          refine lv_ldc2 hx hb C.1.2.2.2.1 (C.ts k_985 rfl) d_Law_law_153 ?_
          refine z_land (v := ((xs ((5 * n) + 2)).toInt64) &&& 4294967295) C d_Law_law_156 rfl ?_
          refine z_lor (v := (((xs ((5 * n) + 1)).toInt64) <<< ((nI 32).toInt64 &&& 63)) ||| (((xs ((5 * n) + 2)).toInt64) &&& 4294967295)) C d_Law_law_157 rfl ?_
          refine lv_aload_n hx hb d_Law_law_158 rfl (lv_at hl 3 rfl) ?_
          refine lv_iload_n hx hb d_Law_law_159 rfl (lv_at hl 0 rfl) ?_
          refine lv_iconst (v := nI 3) hx hb d_Law_law_160 (by decide) ?_
          refine z_iadd (v := nI ((5 * n) + 3)) C d_Law_law_161 (nI_add _ _) ?_
          refine va_sld hx hb hXs hbl hbA hS (vp_in_nI (show (5 * n) + 3 < L by omega) (by omega)) d_Law_law_162 ?_
          refine z_topi (y := xs ((5 * n) + 3)) (xs_at _ (by omega)) ?_
          rw [ha9]
          refine km_feed_g _ C hl hS (by omega) (by omega) hP hD hM hA (by omega) ((xs (5 * n + 1)).toInt64 <<< ((nI 32).toInt64 &&& 63) ||| (xs (5 * n + 2)).toInt64 &&& 4294967295) n9 h1 h2 (fun Mf2 H locs hM2 hP hD hS => ?_)
          refine lv_icmp_eq (tgt := 524) hx hb d_Law_law_166 (by decide) (fun _ => ?_) (fun q9 => absurd rfl q9)
          exact NX h5 _ _ _ _ _ _ _ _ _ (Nw ++ T0) Wf2 Mf2 (hA.fedT h2) hR2 hM2 _ _ hP hD hS ls hl
      by_cases sw_1 : sw = nI 1
      · refine z_topi (y := nI 1) sw_1 ?_
        refine lv_tableIn (off := 139) (tgt := 171) hx hb d_Law_law_32 (by decide) (by decide) (by decide) (by decide) ?_
        refine lv_aload_n hx hb d_Law_law_171 rfl (lv_at hl 2 rfl) ?_
        refine lv_aload_n hx hb d_Law_law_172 rfl (lv_at hl 3 rfl) ?_
        refine lv_iload_n hx hb d_Law_law_173 rfl (lv_at hl 0 rfl) ?_
        refine lv_iconst (v := nI 1) hx hb d_Law_law_174 (by decide) ?_
        refine z_iadd (v := nI ((5 * n) + 1)) C d_Law_law_175 (nI_add _ _) ?_
        refine va_sld hx hb hXs hbl hbA hS (vp_in_nI (show (5 * n) + 1 < L by omega) (by omega)) d_Law_law_176 ?_
        refine z_topi (y := xs ((5 * n) + 1)) (xs_at _ (by omega)) ?_
        refine lv_aload_n hx hb d_Law_law_177 rfl (lv_at hl 3 rfl) ?_
        refine lv_iload_n hx hb d_Law_law_178 rfl (lv_at hl 0 rfl) ?_
        refine lv_iconst (v := nI 2) hx hb d_Law_law_179 (by decide) ?_
        refine z_iadd (v := nI ((5 * n) + 2)) C d_Law_law_180 (nI_add _ _) ?_
        refine va_sld hx hb hXs hbl hbA hS (vp_in_nI (show (5 * n) + 2 < L by omega) (by omega)) d_Law_law_181 ?_
        refine z_topi (y := xs ((5 * n) + 2)) (xs_at _ (by omega)) ?_
        refine lv_aload_n hx hb d_Law_law_182 rfl (lv_at hl 3 rfl) ?_
        refine lv_iload_n hx hb d_Law_law_183 rfl (lv_at hl 0 rfl) ?_
        refine lv_iconst (v := nI 3) hx hb d_Law_law_184 (by decide) ?_
        refine z_iadd (v := nI ((5 * n) + 3)) C d_Law_law_185 (nI_add _ _) ?_
        refine va_sld hx hb hXs hbl hbA hS (vp_in_nI (show (5 * n) + 3 < L by omega) (by omega)) d_Law_law_186 ?_
        refine z_topi (y := xs ((5 * n) + 3)) (xs_at _ (by omega)) ?_
        refine lv_aload_n hx hb d_Law_law_187 rfl (lv_at hl 3 rfl) ?_
        refine lv_iload_n hx hb d_Law_law_188 rfl (lv_at hl 0 rfl) ?_
        refine lv_iconst (v := nI 4) hx hb d_Law_law_189 (by decide) ?_
        refine z_iadd (v := nI ((5 * n) + 4)) C d_Law_law_190 (nI_add _ _) ?_
        refine va_sld hx hb hXs hbl hbA hS (vp_in_nI (show (5 * n) + 4 < L by omega) (by omega)) d_Law_law_191 ?_
        refine z_topi (y := xs ((5 * n) + 4)) (xs_at _ (by omega)) ?_
        refine kr_add C hl hS (by omega) (by omega) hX0 hP hD hR hA (by omega) (xs (5 * n + 1)) (xs (5 * n + 2)) (xs (5 * n + 3)) (xs (5 * n + 4)) (fun r1 Wf2 Nw H locs hpost hP hD hS => ?_)
        rcases hpost with ⟨hb9, rfl, hR2⟩ | ⟨hn9, hca, hye, rfl, hR2⟩ | ⟨k0, n0, s0, p0, q0, kl2, hn9, ⟨ha1, ha2, ha3, ha4⟩, hc8, ⟨P1, P2, P3, P4⟩, hkk, rfl, hR2⟩
        · skip
          have hP := z_Pq (frt_step (RowC_frt hR2) (ModC_frt hM) Nw T0) hP
          have hD := z_Dq (frt_step (RowC_frt hR2) (ModC_frt hM) Nw T0) hD
          refine lv_aload_n hx hb d_Law_law_195 rfl (lv_at hl 1 rfl) ?_
          refine lv_aload_n hx hb d_Law_law_196 rfl (lv_at hl 3 rfl) ?_
          refine lv_iload_n hx hb d_Law_law_197 rfl (lv_at hl 0 rfl) ?_
          refine lv_iconst (v := nI 1) hx hb d_Law_law_198 (by decide) ?_
          refine z_iadd (v := nI ((5 * n) + 1)) C d_Law_law_199 (nI_add _ _) ?_
          refine va_sld hx hb hXs hbl hbA hS (vp_in_nI (show (5 * n) + 1 < L by omega) (by omega)) d_Law_law_200 ?_
          refine z_topi (y := xs ((5 * n) + 1)) (xs_at _ (by omega)) ?_
          refine lv_aload_n hx hb d_Law_law_201 rfl (lv_at hl 3 rfl) ?_
          refine lv_iload_n hx hb d_Law_law_202 rfl (lv_at hl 0 rfl) ?_
          refine lv_iconst (v := nI 2) hx hb d_Law_law_203 (by decide) ?_
          refine z_iadd (v := nI ((5 * n) + 2)) C d_Law_law_204 (nI_add _ _) ?_
          refine va_sld hx hb hXs hbl hbA hS (vp_in_nI (show (5 * n) + 2 < L by omega) (by omega)) d_Law_law_205 ?_
          refine z_topi (y := xs ((5 * n) + 2)) (xs_at _ (by omega)) ?_
          refine lv_aload_n hx hb d_Law_law_206 rfl (lv_at hl 3 rfl) ?_
          refine lv_iload_n hx hb d_Law_law_207 rfl (lv_at hl 0 rfl) ?_
          refine lv_iconst (v := nI 3) hx hb d_Law_law_208 (by decide) ?_
          refine z_iadd (v := nI ((5 * n) + 3)) C d_Law_law_209 (nI_add _ _) ?_
          refine va_sld hx hb hXs hbl hbA hS (vp_in_nI (show (5 * n) + 3 < L by omega) (by omega)) d_Law_law_210 ?_
          refine z_topi (y := xs ((5 * n) + 3)) (xs_at _ (by omega)) ?_
          refine lv_aload_n hx hb d_Law_law_211 rfl (lv_at hl 3 rfl) ?_
          refine lv_iload_n hx hb d_Law_law_212 rfl (lv_at hl 0 rfl) ?_
          refine lv_iconst (v := nI 4) hx hb d_Law_law_213 (by decide) ?_
          refine z_iadd (v := nI ((5 * n) + 4)) C d_Law_law_214 (nI_add _ _) ?_
          refine va_sld hx hb hXs hbl hbA hS (vp_in_nI (show (5 * n) + 4 < L by omega) (by omega)) d_Law_law_215 ?_
          refine z_topi (y := xs ((5 * n) + 4)) (xs_at _ (by omega)) ?_
          refine km_add_b _ C hl hS (by omega) (by omega) hP hD hM hA (by omega) (xs (5 * n + 1)) (xs (5 * n + 2)) (xs (5 * n + 3)) (xs (5 * n + 4)) hb9 (fun Mf2 H locs hM2 hP hD hS => ?_)
          refine lv_icmp_eq (tgt := 524) hx hb d_Law_law_219 (by decide) (fun _ => ?_) (fun q9 => absurd rfl q9)
          exact NX h5 _ _ _ _ _ _ _ _ _ (Nw ++ T0) Wf2 Mf2 hA.t0 hR2 hM2 _ _ hP hD hS ls hl
        · skip
          have hP := z_Pq (frt_step (RowC_frt hR2) (ModC_frt hM) Nw T0) hP
          have hD := z_Dq (frt_step (RowC_frt hR2) (ModC_frt hM) Nw T0) hD
          refine lv_aload_n hx hb d_Law_law_195 rfl (lv_at hl 1 rfl) ?_
          refine lv_aload_n hx hb d_Law_law_196 rfl (lv_at hl 3 rfl) ?_
          refine lv_iload_n hx hb d_Law_law_197 rfl (lv_at hl 0 rfl) ?_
          refine lv_iconst (v := nI 1) hx hb d_Law_law_198 (by decide) ?_
          refine z_iadd (v := nI ((5 * n) + 1)) C d_Law_law_199 (nI_add _ _) ?_
          refine va_sld hx hb hXs hbl hbA hS (vp_in_nI (show (5 * n) + 1 < L by omega) (by omega)) d_Law_law_200 ?_
          refine z_topi (y := xs ((5 * n) + 1)) (xs_at _ (by omega)) ?_
          refine lv_aload_n hx hb d_Law_law_201 rfl (lv_at hl 3 rfl) ?_
          refine lv_iload_n hx hb d_Law_law_202 rfl (lv_at hl 0 rfl) ?_
          refine lv_iconst (v := nI 2) hx hb d_Law_law_203 (by decide) ?_
          refine z_iadd (v := nI ((5 * n) + 2)) C d_Law_law_204 (nI_add _ _) ?_
          refine va_sld hx hb hXs hbl hbA hS (vp_in_nI (show (5 * n) + 2 < L by omega) (by omega)) d_Law_law_205 ?_
          refine z_topi (y := xs ((5 * n) + 2)) (xs_at _ (by omega)) ?_
          refine lv_aload_n hx hb d_Law_law_206 rfl (lv_at hl 3 rfl) ?_
          refine lv_iload_n hx hb d_Law_law_207 rfl (lv_at hl 0 rfl) ?_
          refine lv_iconst (v := nI 3) hx hb d_Law_law_208 (by decide) ?_
          refine z_iadd (v := nI ((5 * n) + 3)) C d_Law_law_209 (nI_add _ _) ?_
          refine va_sld hx hb hXs hbl hbA hS (vp_in_nI (show (5 * n) + 3 < L by omega) (by omega)) d_Law_law_210 ?_
          refine z_topi (y := xs ((5 * n) + 3)) (xs_at _ (by omega)) ?_
          refine lv_aload_n hx hb d_Law_law_211 rfl (lv_at hl 3 rfl) ?_
          refine lv_iload_n hx hb d_Law_law_212 rfl (lv_at hl 0 rfl) ?_
          refine lv_iconst (v := nI 4) hx hb d_Law_law_213 (by decide) ?_
          refine z_iadd (v := nI ((5 * n) + 4)) C d_Law_law_214 (nI_add _ _) ?_
          refine va_sld hx hb hXs hbl hbA hS (vp_in_nI (show (5 * n) + 4 < L by omega) (by omega)) d_Law_law_215 ?_
          refine z_topi (y := xs ((5 * n) + 4)) (xs_at _ (by omega)) ?_
          refine km_add_t _ C hl hS (by omega) (by omega) hP hD hM hA (by omega) (xs (5 * n + 1)) (xs (5 * n + 2)) (xs (5 * n + 3)) (xs (5 * n + 4)) hn9 hca hye (fun Mf2 H locs hM2 hP hD hS => ?_)
          refine lv_icmp_eq (tgt := 524) hx hb d_Law_law_219 (by decide) (fun _ => ?_) (fun q9 => absurd rfl q9)
          exact NX h5 _ _ _ _ _ _ _ _ _ (Nw ++ T0) Wf2 Mf2 hA.t0 hR2 hM2 _ _ hP hD hS ls hl
        · skip
          have hP := z_Pq (frt_step (RowC_frt hR2) (ModC_frt hM) Nw T0) hP
          have hD := z_Dq (frt_step (RowC_frt hR2) (ModC_frt hM) Nw T0) hD
          have oy9 : okE (tpe, n0, s0, p0, q0) := by have q9 := hn9; unfold isNm at q9; have q9 := of_decide_eq_true q9; exact ⟨q9.1, q9.2.1, by show 1 ≤ n0; omega, by show n0 ≤ 100000; omega, by show s0 ≤ 65535; omega, by show p0 ≤ 8191; omega, by show 1 ≤ q0; omega, by show q0 ≤ 7; omega⟩
          refine lv_aload_n hx hb d_Law_law_195 rfl (lv_at hl 1 rfl) ?_
          refine lv_aload_n hx hb d_Law_law_196 rfl (lv_at hl 3 rfl) ?_
          refine lv_iload_n hx hb d_Law_law_197 rfl (lv_at hl 0 rfl) ?_
          refine lv_iconst (v := nI 1) hx hb d_Law_law_198 (by decide) ?_
          refine z_iadd (v := nI ((5 * n) + 1)) C d_Law_law_199 (nI_add _ _) ?_
          refine va_sld hx hb hXs hbl hbA hS (vp_in_nI (show (5 * n) + 1 < L by omega) (by omega)) d_Law_law_200 ?_
          refine z_topi (y := xs ((5 * n) + 1)) (xs_at _ (by omega)) ?_
          refine lv_aload_n hx hb d_Law_law_201 rfl (lv_at hl 3 rfl) ?_
          refine lv_iload_n hx hb d_Law_law_202 rfl (lv_at hl 0 rfl) ?_
          refine lv_iconst (v := nI 2) hx hb d_Law_law_203 (by decide) ?_
          refine z_iadd (v := nI ((5 * n) + 2)) C d_Law_law_204 (nI_add _ _) ?_
          refine va_sld hx hb hXs hbl hbA hS (vp_in_nI (show (5 * n) + 2 < L by omega) (by omega)) d_Law_law_205 ?_
          refine z_topi (y := xs ((5 * n) + 2)) (xs_at _ (by omega)) ?_
          refine lv_aload_n hx hb d_Law_law_206 rfl (lv_at hl 3 rfl) ?_
          refine lv_iload_n hx hb d_Law_law_207 rfl (lv_at hl 0 rfl) ?_
          refine lv_iconst (v := nI 3) hx hb d_Law_law_208 (by decide) ?_
          refine z_iadd (v := nI ((5 * n) + 3)) C d_Law_law_209 (nI_add _ _) ?_
          refine va_sld hx hb hXs hbl hbA hS (vp_in_nI (show (5 * n) + 3 < L by omega) (by omega)) d_Law_law_210 ?_
          refine z_topi (y := xs ((5 * n) + 3)) (xs_at _ (by omega)) ?_
          refine lv_aload_n hx hb d_Law_law_211 rfl (lv_at hl 3 rfl) ?_
          refine lv_iload_n hx hb d_Law_law_212 rfl (lv_at hl 0 rfl) ?_
          refine lv_iconst (v := nI 4) hx hb d_Law_law_213 (by decide) ?_
          refine z_iadd (v := nI ((5 * n) + 4)) C d_Law_law_214 (nI_add _ _) ?_
          refine va_sld hx hb hXs hbl hbA hS (vp_in_nI (show (5 * n) + 4 < L by omega) (by omega)) d_Law_law_215 ?_
          refine z_topi (y := xs ((5 * n) + 4)) (xs_at _ (by omega)) ?_
          rw [ha1]
          rw [ha2]
          rw [ha3]
          rw [ha4]
          refine km_add_g _ C hl hS (by omega) (by omega) hP hD hM hA (by omega) k0 n0 s0 p0 q0 kl2 hn9 hc8 P1 (fun q9 => P4 ((pos_eq hA.2.1 P2 P3).mpr q9)) hkk (fun Mf2 H locs hM2 hP hD hS => ?_)
          refine lv_icmp_eq (tgt := 524) hx hb d_Law_law_219 (by decide) (fun _ => ?_) (fun q9 => absurd rfl q9)
          exact NX h5 _ _ _ _ _ _ _ _ _ (Nw ++ T0) Wf2 Mf2 (okA.added hA P1 P2 P3 P4 rfl oy9 hkk).1 hR2 hM2 _ _ hP hD hS ls hl
      by_cases sw_2 : sw = nI 2
      · refine z_topi (y := nI 2) sw_2 ?_
        refine lv_tableIn (off := 192) (tgt := 224) hx hb d_Law_law_32 (by decide) (by decide) (by decide) (by decide) ?_
        refine lv_aload_n hx hb d_Law_law_224 rfl (lv_at hl 2 rfl) ?_
        refine kr_drop C hl hS (by omega) (by omega) hX0 hP hD hR hA (by omega)  (fun r1 Wf2 Nw H locs hpost hP hD hS => ?_)
        rcases hpost with ⟨hn9, rfl, hR2⟩ | ⟨hn9, hno, rfl, hR2⟩ | ⟨k0, hn9, hk, hk2, rfl, hR2⟩
        · skip
          have hP := z_Pq (frt_step (RowC_frt hR2) (ModC_frt hM) Nw T0) hP
          have hD := z_Dq (frt_step (RowC_frt hR2) (ModC_frt hM) Nw T0) hD
          refine lv_aload_n hx hb d_Law_law_228 rfl (lv_at hl 1 rfl) ?_
          refine km_drop_b _ C hl hS (by omega) (by omega) hP hD hM hA (by omega) hn9 (fun Mf2 H locs hM2 hP hD hS => ?_)
          refine lv_icmp_eq (tgt := 524) hx hb d_Law_law_232 (by decide) (fun _ => ?_) (fun q9 => absurd rfl q9)
          exact NX h5 _ _ _ _ _ _ _ _ _ (Nw ++ T0) Wf2 Mf2 hA.t0 hR2 hM2 _ _ hP hD hS ls hl
        · skip
          have hP := z_Pq (frt_step (RowC_frt hR2) (ModC_frt hM) Nw T0) hP
          have hD := z_Dq (frt_step (RowC_frt hR2) (ModC_frt hM) Nw T0) hD
          refine lv_aload_n hx hb d_Law_law_228 rfl (lv_at hl 1 rfl) ?_
          refine km_drop_n _ C hl hS (by omega) (by omega) hP hD hM hA (by omega) hn9 hno (fun Mf2 H locs hM2 hP hD hS => ?_)
          refine lv_icmp_eq (tgt := 524) hx hb d_Law_law_232 (by decide) (fun _ => ?_) (fun q9 => absurd rfl q9)
          exact NX h5 _ _ _ _ _ _ _ _ _ (Nw ++ T0) Wf2 Mf2 hA.t0 hR2 hM2 _ _ hP hD hS ls hl
        · skip
          have hP := z_Pq (frt_step (RowC_frt hR2) (ModC_frt hM) Nw T0) hP
          have hD := z_Dq (frt_step (RowC_frt hR2) (ModC_frt hM) Nw T0) hD
          refine lv_aload_n hx hb d_Law_law_228 rfl (lv_at hl 1 rfl) ?_
          refine km_drop_g _ C hl hS (by omega) (by omega) hP hD hM hA (by omega) k0 hn9 hk hk2 (fun Mf2 H locs hM2 hP hD hS => ?_)
          refine lv_icmp_eq (tgt := 524) hx hb d_Law_law_232 (by decide) (fun _ => ?_) (fun q9 => absurd rfl q9)
          exact NX h5 _ _ _ _ _ _ _ _ _ (Nw ++ T0) Wf2 Mf2 hA.dropped hR2 hM2 _ _ hP hD hS ls hl
      by_cases sw_3 : sw = nI 3
      · refine z_topi (y := nI 3) sw_3 ?_
        refine lv_tableIn (off := 205) (tgt := 237) hx hb d_Law_law_32 (by decide) (by decide) (by decide) (by decide) ?_
        refine lv_aload_n hx hb d_Law_law_237 rfl (lv_at hl 2 rfl) ?_
        refine kr_clear C hl hS (by omega) (by omega) hX0 hP hD hR hA (by omega)  (fun r1 Wf2 Nw H locs hpost hP hD hS => ?_)
        obtain ⟨rfl, hR2⟩ := hpost
        have hP := z_Pq (frt_step (RowC_frt hR2) (ModC_frt hM) Nw T0) hP
        have hD := z_Dq (frt_step (RowC_frt hR2) (ModC_frt hM) Nw T0) hD
        refine lv_aload_n hx hb d_Law_law_241 rfl (lv_at hl 1 rfl) ?_
        refine km_clear _ C hl hS (by omega) (by omega) hP hD hM hA (by omega)  (fun Mf2 H locs hM2 hP hD hS => ?_)
        refine lv_icmp_eq (tgt := 524) hx hb d_Law_law_245 (by decide) (fun _ => ?_) (fun q9 => absurd rfl q9)
        exact NX h5 _ _ _ _ _ _ _ _ _ (Nw ++ T0) Wf2 Mf2 hA.cleared hR2 hM2 _ _ hP hD hS ls hl
      by_cases sw_4 : sw = nI 4
      · refine z_topi (y := nI 4) sw_4 ?_
        refine lv_tableIn (off := 218) (tgt := 250) hx hb d_Law_law_32 (by decide) (by decide) (by decide) (by decide) ?_
        refine lv_aload_n hx hb d_Law_law_250 rfl (lv_at hl 2 rfl) ?_
        refine lv_aload_n hx hb d_Law_law_251 rfl (lv_at hl 3 rfl) ?_
        refine lv_iload_n hx hb d_Law_law_252 rfl (lv_at hl 0 rfl) ?_
        refine lv_iconst (v := nI 1) hx hb d_Law_law_253 (by decide) ?_
        refine z_iadd (v := nI ((5 * n) + 1)) C d_Law_law_254 (nI_add _ _) ?_
        refine va_sld hx hb hXs hbl hbA hS (vp_in_nI (show (5 * n) + 1 < L by omega) (by omega)) d_Law_law_255 ?_
        refine z_topi (y := xs ((5 * n) + 1)) (xs_at _ (by omega)) ?_
        refine kr_make C hl hS (by omega) (by omega) hX0 hP hD hR hA (by omega) (ModC_sm hM hg) (xs (5 * n + 1)) (fun r1 Wf2 Nw H locs hpost hP hD hS => ?_)
        rcases hpost with ⟨hr9, rfl, hR2⟩ | ⟨b9, ha9, hb9, rfl, hR2⟩
        · skip
          have hP := z_Pq (frt_step (RowC_frt hR2) (ModC_frt hM) Nw T0) hP
          have hD := z_Dq (frt_step (RowC_frt hR2) (ModC_frt hM) Nw T0) hD
          refine lv_aload_n hx hb d_Law_law_259 rfl (lv_at hl 1 rfl) ?_
          refine lv_aload_n hx hb d_Law_law_260 rfl (lv_at hl 3 rfl) ?_
          refine lv_iload_n hx hb d_Law_law_261 rfl (lv_at hl 0 rfl) ?_
          refine lv_iconst (v := nI 1) hx hb d_Law_law_262 (by decide) ?_
          refine z_iadd (v := nI ((5 * n) + 1)) C d_Law_law_263 (nI_add _ _) ?_
          refine va_sld hx hb hXs hbl hbA hS (vp_in_nI (show (5 * n) + 1 < L by omega) (by omega)) d_Law_law_264 ?_
          refine z_topi (y := xs ((5 * n) + 1)) (xs_at _ (by omega)) ?_
          refine km_make_b _ C hl hS (by omega) (by omega) hP hD hM hA (by omega) (xs (5 * n + 1)) hr9 (fun Mf2 H locs hM2 hP hD hS => ?_)
          refine lv_icmp_eq (tgt := 524) hx hb d_Law_law_268 (by decide) (fun _ => ?_) (fun q9 => absurd rfl q9)
          exact NX h5 _ _ _ _ _ _ _ _ _ (Nw ++ T0) Wf2 Mf2 hA.up hR2 hM2 _ _ hP hD hS ls hl
        · skip
          have hP := z_Pq (frt_step (RowC_frt hR2) (ModC_frt hM) Nw T0) hP
          have hD := z_Dq (frt_step (RowC_frt hR2) (ModC_frt hM) Nw T0) hD
          refine lv_aload_n hx hb d_Law_law_259 rfl (lv_at hl 1 rfl) ?_
          refine lv_aload_n hx hb d_Law_law_260 rfl (lv_at hl 3 rfl) ?_
          refine lv_iload_n hx hb d_Law_law_261 rfl (lv_at hl 0 rfl) ?_
          refine lv_iconst (v := nI 1) hx hb d_Law_law_262 (by decide) ?_
          refine z_iadd (v := nI ((5 * n) + 1)) C d_Law_law_263 (nI_add _ _) ?_
          refine va_sld hx hb hXs hbl hbA hS (vp_in_nI (show (5 * n) + 1 < L by omega) (by omega)) d_Law_law_264 ?_
          refine z_topi (y := xs ((5 * n) + 1)) (xs_at _ (by omega)) ?_
          rw [ha9]
          refine km_make_g _ C hl hS (by omega) (by omega) hP hD hM hA (by omega) b9 hb9 (fun Mf2 H locs hM2 hP hD hS => ?_)
          refine lv_icmp_eq (tgt := 524) hx hb d_Law_law_268 (by decide) (fun _ => ?_) (fun q9 => absurd rfl q9)
          exact NX h5 _ _ _ _ _ _ _ _ _ (Nw ++ T0) Wf2 Mf2 (hA.made (by omega) hb9) hR2 hM2 _ _ hP hD hS ls hl
      by_cases sw_5 : sw = nI 5
      · refine z_topi (y := nI 5) sw_5 ?_
        refine lv_tableIn (off := 241) (tgt := 273) hx hb d_Law_law_32 (by decide) (by decide) (by decide) (by decide) ?_
        refine lv_aload_n hx hb d_Law_law_273 rfl (lv_at hl 2 rfl) ?_
        refine lv_aload_n hx hb d_Law_law_274 rfl (lv_at hl 3 rfl) ?_
        refine lv_iload_n hx hb d_Law_law_275 rfl (lv_at hl 0 rfl) ?_
        refine lv_iconst (v := nI 1) hx hb d_Law_law_276 (by decide) ?_
        refine z_iadd (v := nI ((5 * n) + 1)) C d_Law_law_277 (nI_add _ _) ?_
        refine va_sld hx hb hXs hbl hbA hS (vp_in_nI (show (5 * n) + 1 < L by omega) (by omega)) d_Law_law_278 ?_
        refine z_topi (y := xs ((5 * n) + 1)) (xs_at _ (by omega)) ?_
        refine kr_size C hl hS (by omega) (by omega) hX0 hP hD hR hA (by omega) (xs (5 * n + 1)) (fun r1 Wf2 Nw H locs hpost hP hD hS => ?_)
        obtain ⟨rfl, hR2⟩ := hpost
        have hP := z_Pq (frt_step (RowC_frt hR2) (ModC_frt hM) Nw T0) hP
        have hD := z_Dq (frt_step (RowC_frt hR2) (ModC_frt hM) Nw T0) hD
        refine lv_aload_n hx hb d_Law_law_282 rfl (lv_at hl 1 rfl) ?_
        refine lv_aload_n hx hb d_Law_law_283 rfl (lv_at hl 3 rfl) ?_
        refine lv_iload_n hx hb d_Law_law_284 rfl (lv_at hl 0 rfl) ?_
        refine lv_iconst (v := nI 1) hx hb d_Law_law_285 (by decide) ?_
        refine z_iadd (v := nI ((5 * n) + 1)) C d_Law_law_286 (nI_add _ _) ?_
        refine va_sld hx hb hXs hbl hbA hS (vp_in_nI (show (5 * n) + 1 < L by omega) (by omega)) d_Law_law_287 ?_
        refine z_topi (y := xs ((5 * n) + 1)) (xs_at _ (by omega)) ?_
        refine km_size _ C hl hS (by omega) (by omega) hP hD hM hA (by omega) (xs (5 * n + 1)) (fun Mf2 H locs hM2 hP hD hS => ?_)
        refine lv_icmp_eq (tgt := 524) hx hb d_Law_law_291 (by decide) (fun _ => ?_) (fun q9 => absurd rfl q9)
        exact NX h5 _ _ _ _ _ _ _ _ _ (Nw ++ T0) Wf2 Mf2 hA.up hR2 hM2 _ _ hP hD hS ls hl
      by_cases sw_6 : sw = nI 6
      · refine z_topi (y := nI 6) sw_6 ?_
        refine lv_tableIn (off := 264) (tgt := 296) hx hb d_Law_law_32 (by decide) (by decide) (by decide) (by decide) ?_
        refine lv_aload_n hx hb d_Law_law_296 rfl (lv_at hl 2 rfl) ?_
        refine lv_aload_n hx hb d_Law_law_297 rfl (lv_at hl 3 rfl) ?_
        refine lv_iload_n hx hb d_Law_law_298 rfl (lv_at hl 0 rfl) ?_
        refine lv_iconst (v := nI 1) hx hb d_Law_law_299 (by decide) ?_
        refine z_iadd (v := nI ((5 * n) + 1)) C d_Law_law_300 (nI_add _ _) ?_
        refine va_sld hx hb hXs hbl hbA hS (vp_in_nI (show (5 * n) + 1 < L by omega) (by omega)) d_Law_law_301 ?_
        refine z_topi (y := xs ((5 * n) + 1)) (xs_at _ (by omega)) ?_
        refine kr_bytes C hl hS (by omega) (by omega) hX0 hP hD hR hA (by omega) (xs (5 * n + 1)) (fun r1 Wf2 Nw H locs hpost hP hD hS => ?_)
        obtain ⟨hr9, hR2⟩ := hpost
        have hP := z_Pq (frt_step (RowC_frt hR2) (ModC_frt hM) Nw T0) hP
        have hD := z_Dq (frt_step (RowC_frt hR2) (ModC_frt hM) Nw T0) hD
        refine lv_aload_n hx hb d_Law_law_305 rfl (lv_at hl 1 rfl) ?_
        refine lv_aload_n hx hb d_Law_law_306 rfl (lv_at hl 3 rfl) ?_
        refine lv_iload_n hx hb d_Law_law_307 rfl (lv_at hl 0 rfl) ?_
        refine lv_iconst (v := nI 1) hx hb d_Law_law_308 (by decide) ?_
        refine z_iadd (v := nI ((5 * n) + 1)) C d_Law_law_309 (nI_add _ _) ?_
        refine va_sld hx hb hXs hbl hbA hS (vp_in_nI (show (5 * n) + 1 < L by omega) (by omega)) d_Law_law_310 ?_
        refine z_topi (y := xs ((5 * n) + 1)) (xs_at _ (by omega)) ?_
        refine km_bytes _ C hl hS (by omega) (by omega) hP hD hM hA (by omega) (xs (5 * n + 1)) hr9 (fun Mf2 H locs hM2 hP hD hS => ?_)
        refine W.lcmp hx hb d_Law_law_314 ?_
        refine lv_if_eq (tgt := 524) hx hb d_Law_law_315 (by decide) (fun _ => ?_) (fun q9 => absurd (zc_eq.mpr rfl) q9)
        exact NX h5 _ _ _ _ _ _ _ _ _ (Nw ++ T0) Wf2 Mf2 hA.up hR2 hM2 _ _ hP hD hS ls hl
      by_cases sw_7 : sw = nI 7
      · refine z_topi (y := nI 7) sw_7 ?_
        refine lv_tableIn (off := 288) (tgt := 320) hx hb d_Law_law_32 (by decide) (by decide) (by decide) (by decide) ?_
        refine lv_aload_n hx hb d_Law_law_320 rfl (lv_at hl 2 rfl) ?_
        refine lv_aload_n hx hb d_Law_law_321 rfl (lv_at hl 3 rfl) ?_
        refine lv_iload_n hx hb d_Law_law_322 rfl (lv_at hl 0 rfl) ?_
        refine lv_iconst (v := nI 1) hx hb d_Law_law_323 (by decide) ?_
        refine z_iadd (v := nI ((5 * n) + 1)) C d_Law_law_324 (nI_add _ _) ?_
        refine va_sld hx hb hXs hbl hbA hS (vp_in_nI (show (5 * n) + 1 < L by omega) (by omega)) d_Law_law_325 ?_
        refine z_topi (y := xs ((5 * n) + 1)) (xs_at _ (by omega)) ?_
        refine lv_aload_n hx hb d_Law_law_326 rfl (lv_at hl 3 rfl) ?_
        refine lv_iload_n hx hb d_Law_law_327 rfl (lv_at hl 0 rfl) ?_
        refine lv_iconst (v := nI 2) hx hb d_Law_law_328 (by decide) ?_
        refine z_iadd (v := nI ((5 * n) + 2)) C d_Law_law_329 (nI_add _ _) ?_
        refine va_sld hx hb hXs hbl hbA hS (vp_in_nI (show (5 * n) + 2 < L by omega) (by omega)) d_Law_law_330 ?_
        refine z_topi (y := xs ((5 * n) + 2)) (xs_at _ (by omega)) ?_
        refine kr_index C hl hS (by omega) (by omega) hX0 hP hD hR hA (by omega) (xs (5 * n + 1)) (xs (5 * n + 2)) (fun r1 Wf2 Nw H locs hpost hP hD hS => ?_)
        obtain ⟨hpost, hR2⟩ := hpost
        rcases hpost with ⟨hr9, rfl⟩ | ⟨hr9, hr8, rfl⟩ | ⟨n9, ha9, hr8, hr9, rfl⟩
        · skip
          have hP := z_Pq (frt_step (RowC_frt hR2) (ModC_frt hM) Nw T0) hP
          have hD := z_Dq (frt_step (RowC_frt hR2) (ModC_frt hM) Nw T0) hD
          refine lv_aload_n hx hb d_Law_law_334 rfl (lv_at hl 1 rfl) ?_
          refine lv_aload_n hx hb d_Law_law_335 rfl (lv_at hl 3 rfl) ?_
          refine lv_iload_n hx hb d_Law_law_336 rfl (lv_at hl 0 rfl) ?_
          refine lv_iconst (v := nI 1) hx hb d_Law_law_337 (by decide) ?_
          refine z_iadd (v := nI ((5 * n) + 1)) C d_Law_law_338 (nI_add _ _) ?_
          refine va_sld hx hb hXs hbl hbA hS (vp_in_nI (show (5 * n) + 1 < L by omega) (by omega)) d_Law_law_339 ?_
          refine z_topi (y := xs ((5 * n) + 1)) (xs_at _ (by omega)) ?_
          refine lv_aload_n hx hb d_Law_law_340 rfl (lv_at hl 3 rfl) ?_
          refine lv_iload_n hx hb d_Law_law_341 rfl (lv_at hl 0 rfl) ?_
          refine lv_iconst (v := nI 2) hx hb d_Law_law_342 (by decide) ?_
          refine z_iadd (v := nI ((5 * n) + 2)) C d_Law_law_343 (nI_add _ _) ?_
          refine va_sld hx hb hXs hbl hbA hS (vp_in_nI (show (5 * n) + 2 < L by omega) (by omega)) d_Law_law_344 ?_
          refine z_topi (y := xs ((5 * n) + 2)) (xs_at _ (by omega)) ?_
          refine km_index_b1 _ C hl hS (by omega) (by omega) hP hD hM hA (by omega) (xs (5 * n + 1)) (xs (5 * n + 2)) hr9 (fun Mf2 H locs hM2 hP hD hS => ?_)
          refine lv_icmp_eq (tgt := 524) hx hb d_Law_law_348 (by decide) (fun _ => ?_) (fun q9 => absurd rfl q9)
          exact NX h5 _ _ _ _ _ _ _ _ _ (Nw ++ T0) Wf2 Mf2 hA.up hR2 hM2 _ _ hP hD hS ls hl
        · skip
          have hP := z_Pq (frt_step (RowC_frt hR2) (ModC_frt hM) Nw T0) hP
          have hD := z_Dq (frt_step (RowC_frt hR2) (ModC_frt hM) Nw T0) hD
          refine lv_aload_n hx hb d_Law_law_334 rfl (lv_at hl 1 rfl) ?_
          refine lv_aload_n hx hb d_Law_law_335 rfl (lv_at hl 3 rfl) ?_
          refine lv_iload_n hx hb d_Law_law_336 rfl (lv_at hl 0 rfl) ?_
          refine lv_iconst (v := nI 1) hx hb d_Law_law_337 (by decide) ?_
          refine z_iadd (v := nI ((5 * n) + 1)) C d_Law_law_338 (nI_add _ _) ?_
          refine va_sld hx hb hXs hbl hbA hS (vp_in_nI (show (5 * n) + 1 < L by omega) (by omega)) d_Law_law_339 ?_
          refine z_topi (y := xs ((5 * n) + 1)) (xs_at _ (by omega)) ?_
          refine lv_aload_n hx hb d_Law_law_340 rfl (lv_at hl 3 rfl) ?_
          refine lv_iload_n hx hb d_Law_law_341 rfl (lv_at hl 0 rfl) ?_
          refine lv_iconst (v := nI 2) hx hb d_Law_law_342 (by decide) ?_
          refine z_iadd (v := nI ((5 * n) + 2)) C d_Law_law_343 (nI_add _ _) ?_
          refine va_sld hx hb hXs hbl hbA hS (vp_in_nI (show (5 * n) + 2 < L by omega) (by omega)) d_Law_law_344 ?_
          refine z_topi (y := xs ((5 * n) + 2)) (xs_at _ (by omega)) ?_
          refine km_index_b2 _ C hl hS (by omega) (by omega) hP hD hM hA (by omega) (xs (5 * n + 1)) (xs (5 * n + 2)) hr9 hr8 (fun Mf2 H locs hM2 hP hD hS => ?_)
          refine lv_icmp_eq (tgt := 524) hx hb d_Law_law_348 (by decide) (fun _ => ?_) (fun q9 => absurd rfl q9)
          exact NX h5 _ _ _ _ _ _ _ _ _ (Nw ++ T0) Wf2 Mf2 hA.up hR2 hM2 _ _ hP hD hS ls hl
        · skip
          have hP := z_Pq (frt_step (RowC_frt hR2) (ModC_frt hM) Nw T0) hP
          have hD := z_Dq (frt_step (RowC_frt hR2) (ModC_frt hM) Nw T0) hD
          refine lv_aload_n hx hb d_Law_law_334 rfl (lv_at hl 1 rfl) ?_
          refine lv_aload_n hx hb d_Law_law_335 rfl (lv_at hl 3 rfl) ?_
          refine lv_iload_n hx hb d_Law_law_336 rfl (lv_at hl 0 rfl) ?_
          refine lv_iconst (v := nI 1) hx hb d_Law_law_337 (by decide) ?_
          refine z_iadd (v := nI ((5 * n) + 1)) C d_Law_law_338 (nI_add _ _) ?_
          refine va_sld hx hb hXs hbl hbA hS (vp_in_nI (show (5 * n) + 1 < L by omega) (by omega)) d_Law_law_339 ?_
          refine z_topi (y := xs ((5 * n) + 1)) (xs_at _ (by omega)) ?_
          refine lv_aload_n hx hb d_Law_law_340 rfl (lv_at hl 3 rfl) ?_
          refine lv_iload_n hx hb d_Law_law_341 rfl (lv_at hl 0 rfl) ?_
          refine lv_iconst (v := nI 2) hx hb d_Law_law_342 (by decide) ?_
          refine z_iadd (v := nI ((5 * n) + 2)) C d_Law_law_343 (nI_add _ _) ?_
          refine va_sld hx hb hXs hbl hbA hS (vp_in_nI (show (5 * n) + 2 < L by omega) (by omega)) d_Law_law_344 ?_
          refine z_topi (y := xs ((5 * n) + 2)) (xs_at _ (by omega)) ?_
          rw [ha9]
          refine km_index_g _ C hl hS (by omega) (by omega) hP hD hM hA (by omega) n9 (xs (5 * n + 2)) hr8 hr9 (fun Mf2 H locs hM2 hP hD hS => ?_)
          refine lv_icmp_eq (tgt := 524) hx hb d_Law_law_348 (by decide) (fun _ => ?_) (fun q9 => absurd rfl q9)
          exact NX h5 _ _ _ _ _ _ _ _ _ (Nw ++ T0) Wf2 Mf2 hA.up hR2 hM2 _ _ hP hD hS ls hl
      by_cases sw_8 : sw = nI 8
      · refine z_topi (y := nI 8) sw_8 ?_
        refine lv_tableIn (off := 321) (tgt := 353) hx hb d_Law_law_32 (by decide) (by decide) (by decide) (by decide) ?_
        refine lv_aload_n hx hb d_Law_law_353 rfl (lv_at hl 2 rfl) ?_
        refine lv_aload_n hx hb d_Law_law_354 rfl (lv_at hl 3 rfl) ?_
        refine lv_iload_n hx hb d_Law_law_355 rfl (lv_at hl 0 rfl) ?_
        refine lv_iconst (v := nI 1) hx hb d_Law_law_356 (by decide) ?_
        refine z_iadd (v := nI ((5 * n) + 1)) C d_Law_law_357 (nI_add _ _) ?_
        refine va_sld hx hb hXs hbl hbA hS (vp_in_nI (show (5 * n) + 1 < L by omega) (by omega)) d_Law_law_358 ?_
        refine z_topi (y := xs ((5 * n) + 1)) (xs_at _ (by omega)) ?_
        refine lv_aload_n hx hb d_Law_law_359 rfl (lv_at hl 3 rfl) ?_
        refine lv_iload_n hx hb d_Law_law_360 rfl (lv_at hl 0 rfl) ?_
        refine lv_iconst (v := nI 2) hx hb d_Law_law_361 (by decide) ?_
        refine z_iadd (v := nI ((5 * n) + 2)) C d_Law_law_362 (nI_add _ _) ?_
        refine va_sld hx hb hXs hbl hbA hS (vp_in_nI (show (5 * n) + 2 < L by omega) (by omega)) d_Law_law_363 ?_
        refine z_topi (y := xs ((5 * n) + 2)) (xs_at _ (by omega)) ?_
        refine kr_patch C hl hS (by omega) (by omega) hX0 hP hD hR hA (by omega) (xs (5 * n + 1)) (xs (5 * n + 2)) (fun r1 Wf2 Nw H locs hpost hP hD hS => ?_)
        rcases hpost with ⟨hr9, rfl, hR2⟩ | ⟨n9, ha9, hr9, rfl, hR2⟩
        · skip
          have hP := z_Pq (frt_step (RowC_frt hR2) (ModC_frt hM) Nw T0) hP
          have hD := z_Dq (frt_step (RowC_frt hR2) (ModC_frt hM) Nw T0) hD
          refine lv_aload_n hx hb d_Law_law_367 rfl (lv_at hl 1 rfl) ?_
          refine lv_aload_n hx hb d_Law_law_368 rfl (lv_at hl 3 rfl) ?_
          refine lv_iload_n hx hb d_Law_law_369 rfl (lv_at hl 0 rfl) ?_
          refine lv_iconst (v := nI 1) hx hb d_Law_law_370 (by decide) ?_
          refine z_iadd (v := nI ((5 * n) + 1)) C d_Law_law_371 (nI_add _ _) ?_
          refine va_sld hx hb hXs hbl hbA hS (vp_in_nI (show (5 * n) + 1 < L by omega) (by omega)) d_Law_law_372 ?_
          refine z_topi (y := xs ((5 * n) + 1)) (xs_at _ (by omega)) ?_
          refine lv_aload_n hx hb d_Law_law_373 rfl (lv_at hl 3 rfl) ?_
          refine lv_iload_n hx hb d_Law_law_374 rfl (lv_at hl 0 rfl) ?_
          refine lv_iconst (v := nI 2) hx hb d_Law_law_375 (by decide) ?_
          refine z_iadd (v := nI ((5 * n) + 2)) C d_Law_law_376 (nI_add _ _) ?_
          refine va_sld hx hb hXs hbl hbA hS (vp_in_nI (show (5 * n) + 2 < L by omega) (by omega)) d_Law_law_377 ?_
          refine z_topi (y := xs ((5 * n) + 2)) (xs_at _ (by omega)) ?_
          refine km_patch_b _ C hl hS (by omega) (by omega) hP hD hM hA (by omega) (xs (5 * n + 1)) (xs (5 * n + 2)) hr9 (fun Mf2 H locs hM2 hP hD hS => ?_)
          refine lv_icmp_eq (tgt := 524) hx hb d_Law_law_381 (by decide) (fun _ => ?_) (fun q9 => absurd rfl q9)
          exact NX h5 _ _ _ _ _ _ _ _ _ (Nw ++ T0) Wf2 Mf2 hA.up hR2 hM2 _ _ hP hD hS ls hl
        · skip
          have hP := z_Pq (frt_step (RowC_frt hR2) (ModC_frt hM) Nw T0) hP
          have hD := z_Dq (frt_step (RowC_frt hR2) (ModC_frt hM) Nw T0) hD
          refine lv_aload_n hx hb d_Law_law_367 rfl (lv_at hl 1 rfl) ?_
          refine lv_aload_n hx hb d_Law_law_368 rfl (lv_at hl 3 rfl) ?_
          refine lv_iload_n hx hb d_Law_law_369 rfl (lv_at hl 0 rfl) ?_
          refine lv_iconst (v := nI 1) hx hb d_Law_law_370 (by decide) ?_
          refine z_iadd (v := nI ((5 * n) + 1)) C d_Law_law_371 (nI_add _ _) ?_
          refine va_sld hx hb hXs hbl hbA hS (vp_in_nI (show (5 * n) + 1 < L by omega) (by omega)) d_Law_law_372 ?_
          refine z_topi (y := xs ((5 * n) + 1)) (xs_at _ (by omega)) ?_
          refine lv_aload_n hx hb d_Law_law_373 rfl (lv_at hl 3 rfl) ?_
          refine lv_iload_n hx hb d_Law_law_374 rfl (lv_at hl 0 rfl) ?_
          refine lv_iconst (v := nI 2) hx hb d_Law_law_375 (by decide) ?_
          refine z_iadd (v := nI ((5 * n) + 2)) C d_Law_law_376 (nI_add _ _) ?_
          refine va_sld hx hb hXs hbl hbA hS (vp_in_nI (show (5 * n) + 2 < L by omega) (by omega)) d_Law_law_377 ?_
          refine z_topi (y := xs ((5 * n) + 2)) (xs_at _ (by omega)) ?_
          rw [ha9]
          refine km_patch_g _ C hl hS (by omega) (by omega) hP hD hM hA (by omega) n9 (xs (5 * n + 2)) hr9 (fun Mf2 H locs hM2 hP hD hS => ?_)
          refine lv_icmp_eq (tgt := 524) hx hb d_Law_law_381 (by decide) (fun _ => ?_) (fun q9 => absurd rfl q9)
          exact NX h5 _ _ _ _ _ _ _ _ _ (Nw ++ T0) Wf2 Mf2 hA.up hR2 hM2 _ _ hP hD hS ls hl
      by_cases sw_9 : sw = nI 9
      · refine z_topi (y := nI 9) sw_9 ?_
        refine lv_tableIn (off := 354) (tgt := 386) hx hb d_Law_law_32 (by decide) (by decide) (by decide) (by decide) ?_
        refine lv_aload_n hx hb d_Law_law_386 rfl (lv_at hl 2 rfl) ?_
        refine lv_aload_n hx hb d_Law_law_387 rfl (lv_at hl 3 rfl) ?_
        refine lv_iload_n hx hb d_Law_law_388 rfl (lv_at hl 0 rfl) ?_
        refine lv_iconst (v := nI 1) hx hb d_Law_law_389 (by decide) ?_
        refine z_iadd (v := nI ((5 * n) + 1)) C d_Law_law_390 (nI_add _ _) ?_
        refine va_sld hx hb hXs hbl hbA hS (vp_in_nI (show (5 * n) + 1 < L by omega) (by omega)) d_Law_law_391 ?_
        refine z_topi (y := xs ((5 * n) + 1)) (xs_at _ (by omega)) ?_
        refine kr_cut C hl hS (by omega) (by omega) hX0 hP hD hR hA (by omega) (xs (5 * n + 1)) (fun r1 Wf2 Nw H locs hpost hP hD hS => ?_)
        rcases hpost with ⟨hr9, rfl, hR2⟩ | ⟨n9, ha9, hr9, rfl, hR2⟩
        · skip
          have hP := z_Pq (frt_step (RowC_frt hR2) (ModC_frt hM) Nw T0) hP
          have hD := z_Dq (frt_step (RowC_frt hR2) (ModC_frt hM) Nw T0) hD
          refine lv_aload_n hx hb d_Law_law_395 rfl (lv_at hl 1 rfl) ?_
          refine lv_aload_n hx hb d_Law_law_396 rfl (lv_at hl 3 rfl) ?_
          refine lv_iload_n hx hb d_Law_law_397 rfl (lv_at hl 0 rfl) ?_
          refine lv_iconst (v := nI 1) hx hb d_Law_law_398 (by decide) ?_
          refine z_iadd (v := nI ((5 * n) + 1)) C d_Law_law_399 (nI_add _ _) ?_
          refine va_sld hx hb hXs hbl hbA hS (vp_in_nI (show (5 * n) + 1 < L by omega) (by omega)) d_Law_law_400 ?_
          refine z_topi (y := xs ((5 * n) + 1)) (xs_at _ (by omega)) ?_
          refine km_cut_b _ C hl hS (by omega) (by omega) hP hD hM hA (by omega) (xs (5 * n + 1)) hr9 (fun Mf2 H locs hM2 hP hD hS => ?_)
          refine lv_icmp_eq (tgt := 524) hx hb d_Law_law_404 (by decide) (fun _ => ?_) (fun q9 => absurd rfl q9)
          exact NX h5 _ _ _ _ _ _ _ _ _ (Nw ++ T0) Wf2 Mf2 hA.up hR2 hM2 _ _ hP hD hS ls hl
        · skip
          have hP := z_Pq (frt_step (RowC_frt hR2) (ModC_frt hM) Nw T0) hP
          have hD := z_Dq (frt_step (RowC_frt hR2) (ModC_frt hM) Nw T0) hD
          refine lv_aload_n hx hb d_Law_law_395 rfl (lv_at hl 1 rfl) ?_
          refine lv_aload_n hx hb d_Law_law_396 rfl (lv_at hl 3 rfl) ?_
          refine lv_iload_n hx hb d_Law_law_397 rfl (lv_at hl 0 rfl) ?_
          refine lv_iconst (v := nI 1) hx hb d_Law_law_398 (by decide) ?_
          refine z_iadd (v := nI ((5 * n) + 1)) C d_Law_law_399 (nI_add _ _) ?_
          refine va_sld hx hb hXs hbl hbA hS (vp_in_nI (show (5 * n) + 1 < L by omega) (by omega)) d_Law_law_400 ?_
          refine z_topi (y := xs ((5 * n) + 1)) (xs_at _ (by omega)) ?_
          rw [ha9]
          refine km_cut_g _ C hl hS (by omega) (by omega) hP hD hM hA (by omega) n9 hr9 (fun Mf2 H locs hM2 hP hD hS => ?_)
          refine lv_icmp_eq (tgt := 524) hx hb d_Law_law_404 (by decide) (fun _ => ?_) (fun q9 => absurd rfl q9)
          exact NX h5 _ _ _ _ _ _ _ _ _ (Nw ++ T0) Wf2 Mf2 (hA.lst (Nat.le_trans hr9 hA.2.2.2.2.2.1) hA.2.2.2.2.2.2.1 hA.2.2.2.2.2.2.2.1 hA.2.2.2.2.2.2.2.2.1) hR2 hM2 _ _ hP hD hS ls hl
      by_cases sw_10 : sw = nI 10
      · refine z_topi (y := nI 10) sw_10 ?_
        refine lv_tableIn (off := 377) (tgt := 409) hx hb d_Law_law_32 (by decide) (by decide) (by decide) (by decide) ?_
        refine lv_aload_n hx hb d_Law_law_409 rfl (lv_at hl 2 rfl) ?_
        refine lv_aload_n hx hb d_Law_law_410 rfl (lv_at hl 3 rfl) ?_
        refine lv_iload_n hx hb d_Law_law_411 rfl (lv_at hl 0 rfl) ?_
        refine lv_iconst (v := nI 1) hx hb d_Law_law_412 (by decide) ?_
        refine z_iadd (v := nI ((5 * n) + 1)) C d_Law_law_413 (nI_add _ _) ?_
        refine va_sld hx hb hXs hbl hbA hS (vp_in_nI (show (5 * n) + 1 < L by omega) (by omega)) d_Law_law_414 ?_
        refine z_topi (y := xs ((5 * n) + 1)) (xs_at _ (by omega)) ?_
        refine lv_aload_n hx hb d_Law_law_415 rfl (lv_at hl 3 rfl) ?_
        refine lv_iload_n hx hb d_Law_law_416 rfl (lv_at hl 0 rfl) ?_
        refine lv_iconst (v := nI 2) hx hb d_Law_law_417 (by decide) ?_
        refine z_iadd (v := nI ((5 * n) + 2)) C d_Law_law_418 (nI_add _ _) ?_
        refine va_sld hx hb hXs hbl hbA hS (vp_in_nI (show (5 * n) + 2 < L by omega) (by omega)) d_Law_law_419 ?_
        refine z_topi (y := xs ((5 * n) + 2)) (xs_at _ (by omega)) ?_
        refine lv_aload_n hx hb d_Law_law_420 rfl (lv_at hl 3 rfl) ?_
        refine lv_iload_n hx hb d_Law_law_421 rfl (lv_at hl 0 rfl) ?_
        refine lv_iconst (v := nI 3) hx hb d_Law_law_422 (by decide) ?_
        refine z_iadd (v := nI ((5 * n) + 3)) C d_Law_law_423 (nI_add _ _) ?_
        refine va_sld hx hb hXs hbl hbA hS (vp_in_nI (show (5 * n) + 3 < L by omega) (by omega)) d_Law_law_424 ?_
        refine z_topi (y := xs ((5 * n) + 3)) (xs_at _ (by omega)) ?_
        refine kr_set C hl hS (by omega) (by omega) hX0 hP hD hR hA (by omega) (xs (5 * n + 1)) (xs (5 * n + 2)) (xs (5 * n + 3)) (fun r1 Wf2 Nw H locs hpost hP hD hS => ?_)
        rcases hpost with ⟨hr9, rfl, hR2⟩ | ⟨hr9, hr8, rfl, hR2⟩ | ⟨n9, ha9, hr8, hr9, rfl, hR2⟩
        · skip
          have hP := z_Pq (frt_step (RowC_frt hR2) (ModC_frt hM) Nw T0) hP
          have hD := z_Dq (frt_step (RowC_frt hR2) (ModC_frt hM) Nw T0) hD
          refine lv_aload_n hx hb d_Law_law_428 rfl (lv_at hl 1 rfl) ?_
          refine lv_aload_n hx hb d_Law_law_429 rfl (lv_at hl 3 rfl) ?_
          refine lv_iload_n hx hb d_Law_law_430 rfl (lv_at hl 0 rfl) ?_
          refine lv_iconst (v := nI 1) hx hb d_Law_law_431 (by decide) ?_
          refine z_iadd (v := nI ((5 * n) + 1)) C d_Law_law_432 (nI_add _ _) ?_
          refine va_sld hx hb hXs hbl hbA hS (vp_in_nI (show (5 * n) + 1 < L by omega) (by omega)) d_Law_law_433 ?_
          refine z_topi (y := xs ((5 * n) + 1)) (xs_at _ (by omega)) ?_
          refine lv_aload_n hx hb d_Law_law_434 rfl (lv_at hl 3 rfl) ?_
          refine lv_iload_n hx hb d_Law_law_435 rfl (lv_at hl 0 rfl) ?_
          refine lv_iconst (v := nI 2) hx hb d_Law_law_436 (by decide) ?_
          refine z_iadd (v := nI ((5 * n) + 2)) C d_Law_law_437 (nI_add _ _) ?_
          refine va_sld hx hb hXs hbl hbA hS (vp_in_nI (show (5 * n) + 2 < L by omega) (by omega)) d_Law_law_438 ?_
          refine z_topi (y := xs ((5 * n) + 2)) (xs_at _ (by omega)) ?_
          refine lv_aload_n hx hb d_Law_law_439 rfl (lv_at hl 3 rfl) ?_
          refine lv_iload_n hx hb d_Law_law_440 rfl (lv_at hl 0 rfl) ?_
          refine lv_iconst (v := nI 3) hx hb d_Law_law_441 (by decide) ?_
          refine z_iadd (v := nI ((5 * n) + 3)) C d_Law_law_442 (nI_add _ _) ?_
          refine va_sld hx hb hXs hbl hbA hS (vp_in_nI (show (5 * n) + 3 < L by omega) (by omega)) d_Law_law_443 ?_
          refine z_topi (y := xs ((5 * n) + 3)) (xs_at _ (by omega)) ?_
          refine km_set_b1 _ C hl hS (by omega) (by omega) hP hD hM hA (by omega) (xs (5 * n + 1)) (xs (5 * n + 2)) (xs (5 * n + 3)) hr9 (fun Mf2 H locs hM2 hP hD hS => ?_)
          refine lv_icmp_eq (tgt := 524) hx hb d_Law_law_447 (by decide) (fun _ => ?_) (fun q9 => absurd rfl q9)
          exact NX h5 _ _ _ _ _ _ _ _ _ (Nw ++ T0) Wf2 Mf2 hA.t0 hR2 hM2 _ _ hP hD hS ls hl
        · skip
          have hP := z_Pq (frt_step (RowC_frt hR2) (ModC_frt hM) Nw T0) hP
          have hD := z_Dq (frt_step (RowC_frt hR2) (ModC_frt hM) Nw T0) hD
          refine lv_aload_n hx hb d_Law_law_428 rfl (lv_at hl 1 rfl) ?_
          refine lv_aload_n hx hb d_Law_law_429 rfl (lv_at hl 3 rfl) ?_
          refine lv_iload_n hx hb d_Law_law_430 rfl (lv_at hl 0 rfl) ?_
          refine lv_iconst (v := nI 1) hx hb d_Law_law_431 (by decide) ?_
          refine z_iadd (v := nI ((5 * n) + 1)) C d_Law_law_432 (nI_add _ _) ?_
          refine va_sld hx hb hXs hbl hbA hS (vp_in_nI (show (5 * n) + 1 < L by omega) (by omega)) d_Law_law_433 ?_
          refine z_topi (y := xs ((5 * n) + 1)) (xs_at _ (by omega)) ?_
          refine lv_aload_n hx hb d_Law_law_434 rfl (lv_at hl 3 rfl) ?_
          refine lv_iload_n hx hb d_Law_law_435 rfl (lv_at hl 0 rfl) ?_
          refine lv_iconst (v := nI 2) hx hb d_Law_law_436 (by decide) ?_
          refine z_iadd (v := nI ((5 * n) + 2)) C d_Law_law_437 (nI_add _ _) ?_
          refine va_sld hx hb hXs hbl hbA hS (vp_in_nI (show (5 * n) + 2 < L by omega) (by omega)) d_Law_law_438 ?_
          refine z_topi (y := xs ((5 * n) + 2)) (xs_at _ (by omega)) ?_
          refine lv_aload_n hx hb d_Law_law_439 rfl (lv_at hl 3 rfl) ?_
          refine lv_iload_n hx hb d_Law_law_440 rfl (lv_at hl 0 rfl) ?_
          refine lv_iconst (v := nI 3) hx hb d_Law_law_441 (by decide) ?_
          refine z_iadd (v := nI ((5 * n) + 3)) C d_Law_law_442 (nI_add _ _) ?_
          refine va_sld hx hb hXs hbl hbA hS (vp_in_nI (show (5 * n) + 3 < L by omega) (by omega)) d_Law_law_443 ?_
          refine z_topi (y := xs ((5 * n) + 3)) (xs_at _ (by omega)) ?_
          refine km_set_b2 _ C hl hS (by omega) (by omega) hP hD hM hA (by omega) (xs (5 * n + 1)) (xs (5 * n + 2)) (xs (5 * n + 3)) hr9 hr8 (fun Mf2 H locs hM2 hP hD hS => ?_)
          refine lv_icmp_eq (tgt := 524) hx hb d_Law_law_447 (by decide) (fun _ => ?_) (fun q9 => absurd rfl q9)
          exact NX h5 _ _ _ _ _ _ _ _ _ (Nw ++ T0) Wf2 Mf2 hA.t0 hR2 hM2 _ _ hP hD hS ls hl
        · skip
          have hP := z_Pq (frt_step (RowC_frt hR2) (ModC_frt hM) Nw T0) hP
          have hD := z_Dq (frt_step (RowC_frt hR2) (ModC_frt hM) Nw T0) hD
          refine lv_aload_n hx hb d_Law_law_428 rfl (lv_at hl 1 rfl) ?_
          refine lv_aload_n hx hb d_Law_law_429 rfl (lv_at hl 3 rfl) ?_
          refine lv_iload_n hx hb d_Law_law_430 rfl (lv_at hl 0 rfl) ?_
          refine lv_iconst (v := nI 1) hx hb d_Law_law_431 (by decide) ?_
          refine z_iadd (v := nI ((5 * n) + 1)) C d_Law_law_432 (nI_add _ _) ?_
          refine va_sld hx hb hXs hbl hbA hS (vp_in_nI (show (5 * n) + 1 < L by omega) (by omega)) d_Law_law_433 ?_
          refine z_topi (y := xs ((5 * n) + 1)) (xs_at _ (by omega)) ?_
          refine lv_aload_n hx hb d_Law_law_434 rfl (lv_at hl 3 rfl) ?_
          refine lv_iload_n hx hb d_Law_law_435 rfl (lv_at hl 0 rfl) ?_
          refine lv_iconst (v := nI 2) hx hb d_Law_law_436 (by decide) ?_
          refine z_iadd (v := nI ((5 * n) + 2)) C d_Law_law_437 (nI_add _ _) ?_
          refine va_sld hx hb hXs hbl hbA hS (vp_in_nI (show (5 * n) + 2 < L by omega) (by omega)) d_Law_law_438 ?_
          refine z_topi (y := xs ((5 * n) + 2)) (xs_at _ (by omega)) ?_
          refine lv_aload_n hx hb d_Law_law_439 rfl (lv_at hl 3 rfl) ?_
          refine lv_iload_n hx hb d_Law_law_440 rfl (lv_at hl 0 rfl) ?_
          refine lv_iconst (v := nI 3) hx hb d_Law_law_441 (by decide) ?_
          refine z_iadd (v := nI ((5 * n) + 3)) C d_Law_law_442 (nI_add _ _) ?_
          refine va_sld hx hb hXs hbl hbA hS (vp_in_nI (show (5 * n) + 3 < L by omega) (by omega)) d_Law_law_443 ?_
          refine z_topi (y := xs ((5 * n) + 3)) (xs_at _ (by omega)) ?_
          rw [ha9]
          refine km_set_g _ C hl hS (by omega) (by omega) hP hD hM hA (by omega) n9 (xs (5 * n + 2)) (xs (5 * n + 3)) hr8 hr9 (fun Mf2 H locs hM2 hP hD hS => ?_)
          refine lv_icmp_eq (tgt := 524) hx hb d_Law_law_447 (by decide) (fun _ => ?_) (fun q9 => absurd rfl q9)
          exact NX h5 _ _ _ _ _ _ _ _ _ (Nw ++ T0) Wf2 Mf2 (hA.setM hr9.2) hR2 hM2 _ _ hP hD hS ls hl
      by_cases sw_11 : sw = nI 11
      · refine z_topi (y := nI 11) sw_11 ?_
        refine lv_tableIn (off := 420) (tgt := 452) hx hb d_Law_law_32 (by decide) (by decide) (by decide) (by decide) ?_
        refine lv_aload_n hx hb d_Law_law_452 rfl (lv_at hl 2 rfl) ?_
        refine kr_check C hl hS (by omega) (by omega) hX0 hP hD hR hA (by omega)  (fun r1 Wf2 Nw H locs hpost hP hD hS => ?_)
        obtain ⟨rfl, hR2⟩ := hpost
        have hP := z_Pq (frt_step (RowC_frt hR2) (ModC_frt hM) Nw T0) hP
        have hD := z_Dq (frt_step (RowC_frt hR2) (ModC_frt hM) Nw T0) hD
        refine lv_aload_n hx hb d_Law_law_456 rfl (lv_at hl 1 rfl) ?_
        refine km_check _ C hl hS (by omega) (by omega) hP hD hM hA (by omega)  (fun Mf2 H locs hM2 hP hD hS => ?_)
        refine lv_icmp_eq (tgt := 524) hx hb d_Law_law_460 (by decide) (fun _ => ?_) (fun q9 => absurd rfl q9)
        exact NX h5 _ _ _ _ _ _ _ _ _ (Nw ++ T0) Wf2 Mf2 hA.up hR2 hM2 _ _ hP hD hS ls hl
      by_cases sw_12 : sw = nI 12
      · refine z_topi (y := nI 12) sw_12 ?_
        refine lv_tableIn (off := 433) (tgt := 465) hx hb d_Law_law_32 (by decide) (by decide) (by decide) (by decide) ?_
        refine lv_aload_n hx hb d_Law_law_465 rfl (lv_at hl 2 rfl) ?_
        refine lv_aload_n hx hb d_Law_law_466 rfl (lv_at hl 3 rfl) ?_
        refine lv_iload_n hx hb d_Law_law_467 rfl (lv_at hl 0 rfl) ?_
        refine lv_iconst (v := nI 1) hx hb d_Law_law_468 (by decide) ?_
        refine z_iadd (v := nI ((5 * n) + 1)) C d_Law_law_469 (nI_add _ _) ?_
        refine va_sld hx hb hXs hbl hbA hS (vp_in_nI (show (5 * n) + 1 < L by omega) (by omega)) d_Law_law_470 ?_
        refine z_topi (y := xs ((5 * n) + 1)) (xs_at _ (by omega)) ?_
        refine lv_aload_n hx hb d_Law_law_471 rfl (lv_at hl 3 rfl) ?_
        refine lv_iload_n hx hb d_Law_law_472 rfl (lv_at hl 0 rfl) ?_
        refine lv_iconst (v := nI 2) hx hb d_Law_law_473 (by decide) ?_
        refine z_iadd (v := nI ((5 * n) + 2)) C d_Law_law_474 (nI_add _ _) ?_
        refine va_sld hx hb hXs hbl hbA hS (vp_in_nI (show (5 * n) + 2 < L by omega) (by omega)) d_Law_law_475 ?_
        refine z_topi (y := xs ((5 * n) + 2)) (xs_at _ (by omega)) ?_
        refine kr_entry C hl hS (by omega) (by omega) hX0 hP hD hR hA (by omega) (xs (5 * n + 1)) (xs (5 * n + 2)) (fun r1 Wf2 Nw H locs hpost hP hD hS => ?_)
        obtain ⟨hpost, hR2⟩ := hpost
        rcases hpost with ⟨hr9, rfl⟩ | ⟨hr9, hr8, rfl⟩ | ⟨n9, ha9, hi9, hr9, hr8, rfl⟩ | ⟨n9, en3, lf3, ha3, hn3, st3, at3, ha9, hi9, hr9, hr8, hp9, rfl⟩
        · skip
          have hP := z_Pq (frt_step (RowC_frt hR2) (ModC_frt hM) Nw T0) hP
          have hD := z_Dq (frt_step (RowC_frt hR2) (ModC_frt hM) Nw T0) hD
          refine lv_aload_n hx hb d_Law_law_479 rfl (lv_at hl 1 rfl) ?_
          refine lv_aload_n hx hb d_Law_law_480 rfl (lv_at hl 3 rfl) ?_
          refine lv_iload_n hx hb d_Law_law_481 rfl (lv_at hl 0 rfl) ?_
          refine lv_iconst (v := nI 1) hx hb d_Law_law_482 (by decide) ?_
          refine z_iadd (v := nI ((5 * n) + 1)) C d_Law_law_483 (nI_add _ _) ?_
          refine va_sld hx hb hXs hbl hbA hS (vp_in_nI (show (5 * n) + 1 < L by omega) (by omega)) d_Law_law_484 ?_
          refine z_topi (y := xs ((5 * n) + 1)) (xs_at _ (by omega)) ?_
          refine lv_aload_n hx hb d_Law_law_485 rfl (lv_at hl 3 rfl) ?_
          refine lv_iload_n hx hb d_Law_law_486 rfl (lv_at hl 0 rfl) ?_
          refine lv_iconst (v := nI 2) hx hb d_Law_law_487 (by decide) ?_
          refine z_iadd (v := nI ((5 * n) + 2)) C d_Law_law_488 (nI_add _ _) ?_
          refine va_sld hx hb hXs hbl hbA hS (vp_in_nI (show (5 * n) + 2 < L by omega) (by omega)) d_Law_law_489 ?_
          refine z_topi (y := xs ((5 * n) + 2)) (xs_at _ (by omega)) ?_
          refine km_entry_b1 _ C hl hS (by omega) (by omega) hP hD hM hA (by omega) (xs (5 * n + 1)) (xs (5 * n + 2)) hr9 (fun Mf2 H locs hM2 hP hD hS => ?_)
          refine lv_icmp_eq (tgt := 524) hx hb d_Law_law_493 (by decide) (fun _ => ?_) (fun q9 => absurd rfl q9)
          exact NX h5 _ _ _ _ _ _ _ _ _ (Nw ++ T0) Wf2 Mf2 hA.up hR2 hM2 _ _ hP hD hS ls hl
        · skip
          have hP := z_Pq (frt_step (RowC_frt hR2) (ModC_frt hM) Nw T0) hP
          have hD := z_Dq (frt_step (RowC_frt hR2) (ModC_frt hM) Nw T0) hD
          refine lv_aload_n hx hb d_Law_law_479 rfl (lv_at hl 1 rfl) ?_
          refine lv_aload_n hx hb d_Law_law_480 rfl (lv_at hl 3 rfl) ?_
          refine lv_iload_n hx hb d_Law_law_481 rfl (lv_at hl 0 rfl) ?_
          refine lv_iconst (v := nI 1) hx hb d_Law_law_482 (by decide) ?_
          refine z_iadd (v := nI ((5 * n) + 1)) C d_Law_law_483 (nI_add _ _) ?_
          refine va_sld hx hb hXs hbl hbA hS (vp_in_nI (show (5 * n) + 1 < L by omega) (by omega)) d_Law_law_484 ?_
          refine z_topi (y := xs ((5 * n) + 1)) (xs_at _ (by omega)) ?_
          refine lv_aload_n hx hb d_Law_law_485 rfl (lv_at hl 3 rfl) ?_
          refine lv_iload_n hx hb d_Law_law_486 rfl (lv_at hl 0 rfl) ?_
          refine lv_iconst (v := nI 2) hx hb d_Law_law_487 (by decide) ?_
          refine z_iadd (v := nI ((5 * n) + 2)) C d_Law_law_488 (nI_add _ _) ?_
          refine va_sld hx hb hXs hbl hbA hS (vp_in_nI (show (5 * n) + 2 < L by omega) (by omega)) d_Law_law_489 ?_
          refine z_topi (y := xs ((5 * n) + 2)) (xs_at _ (by omega)) ?_
          refine km_entry_b2 _ C hl hS (by omega) (by omega) hP hD hM hA (by omega) (xs (5 * n + 1)) (xs (5 * n + 2)) hr9 hr8 (fun Mf2 H locs hM2 hP hD hS => ?_)
          refine lv_icmp_eq (tgt := 524) hx hb d_Law_law_493 (by decide) (fun _ => ?_) (fun q9 => absurd rfl q9)
          exact NX h5 _ _ _ _ _ _ _ _ _ (Nw ++ T0) Wf2 Mf2 hA.up hR2 hM2 _ _ hP hD hS ls hl
        · skip
          have hP := z_Pq (frt_step (RowC_frt hR2) (ModC_frt hM) Nw T0) hP
          have hD := z_Dq (frt_step (RowC_frt hR2) (ModC_frt hM) Nw T0) hD
          refine lv_aload_n hx hb d_Law_law_479 rfl (lv_at hl 1 rfl) ?_
          refine lv_aload_n hx hb d_Law_law_480 rfl (lv_at hl 3 rfl) ?_
          refine lv_iload_n hx hb d_Law_law_481 rfl (lv_at hl 0 rfl) ?_
          refine lv_iconst (v := nI 1) hx hb d_Law_law_482 (by decide) ?_
          refine z_iadd (v := nI ((5 * n) + 1)) C d_Law_law_483 (nI_add _ _) ?_
          refine va_sld hx hb hXs hbl hbA hS (vp_in_nI (show (5 * n) + 1 < L by omega) (by omega)) d_Law_law_484 ?_
          refine z_topi (y := xs ((5 * n) + 1)) (xs_at _ (by omega)) ?_
          refine lv_aload_n hx hb d_Law_law_485 rfl (lv_at hl 3 rfl) ?_
          refine lv_iload_n hx hb d_Law_law_486 rfl (lv_at hl 0 rfl) ?_
          refine lv_iconst (v := nI 2) hx hb d_Law_law_487 (by decide) ?_
          refine z_iadd (v := nI ((5 * n) + 2)) C d_Law_law_488 (nI_add _ _) ?_
          refine va_sld hx hb hXs hbl hbA hS (vp_in_nI (show (5 * n) + 2 < L by omega) (by omega)) d_Law_law_489 ?_
          refine z_topi (y := xs ((5 * n) + 2)) (xs_at _ (by omega)) ?_
          rw [ha9]
          refine km_entry_n _ C hl hS (by omega) (by omega) hP hD hM hA (by omega) n9 (xs (5 * n + 2)) hi9 hr9 hr8 (fun Mf2 H locs hM2 hP hD hS => ?_)
          refine lv_icmp_eq (tgt := 524) hx hb d_Law_law_493 (by decide) (fun _ => ?_) (fun q9 => absurd rfl q9)
          exact NX h5 _ _ _ _ _ _ _ _ _ (Nw ++ T0) Wf2 Mf2 hA.up hR2 hM2 _ _ hP hD hS ls hl
        · skip
          have hP := z_Pq (frt_step (RowC_frt hR2) (ModC_frt hM) Nw T0) hP
          have hD := z_Dq (frt_step (RowC_frt hR2) (ModC_frt hM) Nw T0) hD
          refine lv_aload_n hx hb d_Law_law_479 rfl (lv_at hl 1 rfl) ?_
          refine lv_aload_n hx hb d_Law_law_480 rfl (lv_at hl 3 rfl) ?_
          refine lv_iload_n hx hb d_Law_law_481 rfl (lv_at hl 0 rfl) ?_
          refine lv_iconst (v := nI 1) hx hb d_Law_law_482 (by decide) ?_
          refine z_iadd (v := nI ((5 * n) + 1)) C d_Law_law_483 (nI_add _ _) ?_
          refine va_sld hx hb hXs hbl hbA hS (vp_in_nI (show (5 * n) + 1 < L by omega) (by omega)) d_Law_law_484 ?_
          refine z_topi (y := xs ((5 * n) + 1)) (xs_at _ (by omega)) ?_
          refine lv_aload_n hx hb d_Law_law_485 rfl (lv_at hl 3 rfl) ?_
          refine lv_iload_n hx hb d_Law_law_486 rfl (lv_at hl 0 rfl) ?_
          refine lv_iconst (v := nI 2) hx hb d_Law_law_487 (by decide) ?_
          refine z_iadd (v := nI ((5 * n) + 2)) C d_Law_law_488 (nI_add _ _) ?_
          refine va_sld hx hb hXs hbl hbA hS (vp_in_nI (show (5 * n) + 2 < L by omega) (by omega)) d_Law_law_489 ?_
          refine z_topi (y := xs ((5 * n) + 2)) (xs_at _ (by omega)) ?_
          rw [ha9]
          refine km_entry_g _ C hl hS (by omega) (by omega) hP hD hM hA (by omega) n9 en3 lf3 ha3 hn3 st3 at3 (xs (5 * n + 2)) hi9 hr9 hr8 hp9 (fun Mf2 H locs hM2 hP hD hS => ?_)
          refine lv_icmp_eq (tgt := 524) hx hb d_Law_law_493 (by decide) (fun _ => ?_) (fun q9 => absurd rfl q9)
          exact NX h5 _ _ _ _ _ _ _ _ _ (Nw ++ T0) Wf2 Mf2 hA.up hR2 hM2 _ _ hP hD hS ls hl
      by_cases sw_13 : sw = nI 13
      · refine z_topi (y := nI 13) sw_13 ?_
        refine lv_tableIn (off := 466) (tgt := 498) hx hb d_Law_law_32 (by decide) (by decide) (by decide) (by decide) ?_
        refine lv_aload_n hx hb d_Law_law_498 rfl (lv_at hl 2 rfl) ?_
        refine kr_find C hl hS (by omega) (by omega) hX0 hP hD hR hA (by omega)  (fun r1 Wf2 Nw H locs hpost hP hD hS => ?_)
        rcases hpost with ⟨hV, rfl, hR2⟩ | ⟨c9, pp, hV, hlo, hpp, rfl, hR2⟩
        · skip
          have hP := z_Pq (frt_step (RowC_frt hR2) (ModC_frt hM) Nw T0) hP
          have hD := z_Dq (frt_step (RowC_frt hR2) (ModC_frt hM) Nw T0) hD
          refine lv_aload_n hx hb d_Law_law_502 rfl (lv_at hl 1 rfl) ?_
          refine km_find_n _ C hl hS (by omega) (by omega) hP hD hM hA (by omega) hV (fun Mf2 H locs hM2 hP hD hS => ?_)
          refine lv_icmp_eq (tgt := 524) hx hb d_Law_law_506 (by decide) (fun _ => ?_) (fun q9 => absurd rfl q9)
          exact NX h5 _ _ _ _ _ _ _ _ _ (Nw ++ T0) Wf2 Mf2 hA.t0 hR2 hM2 _ _ hP hD hS ls hl
        · skip
          have hP := z_Pq (frt_step (RowC_frt hR2) (ModC_frt hM) Nw T0) hP
          have hD := z_Dq (frt_step (RowC_frt hR2) (ModC_frt hM) Nw T0) hD
          refine lv_aload_n hx hb d_Law_law_502 rfl (lv_at hl 1 rfl) ?_
          refine km_find_g _ C hl hS (by omega) (by omega) hP hD hM hA (by omega) c9 pp hV hlo hpp (fun Mf2 H locs hM2 hP hD hS => ?_)
          refine lv_icmp_eq (tgt := 524) hx hb d_Law_law_506 (by decide) (fun _ => ?_) (fun q9 => absurd rfl q9)
          exact NX h5 _ _ _ _ _ _ _ _ _ (Nw ++ T0) Wf2 Mf2 hA.t0 hR2 hM2 _ _ hP hD hS ls hl
      by_cases sw_14 : sw = nI 14
      · refine z_topi (y := nI 14) sw_14 ?_
        refine lv_tableIn (off := 479) (tgt := 511) hx hb d_Law_law_32 (by decide) (by decide) (by decide) (by decide) ?_
        refine lv_aload_n hx hb d_Law_law_511 rfl (lv_at hl 2 rfl) ?_
        refine kr_passed C hl hS (by omega) (by omega) hX0 hP hD hR hA (by omega)  (fun r1 Wf2 Nw H locs hpost hP hD hS => ?_)
        obtain ⟨rfl, hR2⟩ := hpost
        have hP := z_Pq (frt_step (RowC_frt hR2) (ModC_frt hM) Nw T0) hP
        have hD := z_Dq (frt_step (RowC_frt hR2) (ModC_frt hM) Nw T0) hD
        refine lv_aload_n hx hb d_Law_law_515 rfl (lv_at hl 1 rfl) ?_
        refine km_passed _ C hl hS (by omega) (by omega) hP hD hM hA (by omega)  (fun Mf2 H locs hM2 hP hD hS => ?_)
        refine lv_icmp_eq (tgt := 524) hx hb d_Law_law_519 (by decide) (fun _ => ?_) (fun q9 => absurd rfl q9)
        exact NX h5 _ _ _ _ _ _ _ _ _ (Nw ++ T0) Wf2 Mf2 hA.up hR2 hM2 _ _ hP hD hS ls hl
      have sx_0 : ¬ sw.toInt = 0 := fun q9 => sw_0 (by rw [iI_of sw, q9]; rfl)
      have sx_1 : ¬ sw.toInt = 1 := fun q9 => sw_1 (by rw [iI_of sw, q9]; rfl)
      have sx_2 : ¬ sw.toInt = 2 := fun q9 => sw_2 (by rw [iI_of sw, q9]; rfl)
      have sx_3 : ¬ sw.toInt = 3 := fun q9 => sw_3 (by rw [iI_of sw, q9]; rfl)
      have sx_4 : ¬ sw.toInt = 4 := fun q9 => sw_4 (by rw [iI_of sw, q9]; rfl)
      have sx_5 : ¬ sw.toInt = 5 := fun q9 => sw_5 (by rw [iI_of sw, q9]; rfl)
      have sx_6 : ¬ sw.toInt = 6 := fun q9 => sw_6 (by rw [iI_of sw, q9]; rfl)
      have sx_7 : ¬ sw.toInt = 7 := fun q9 => sw_7 (by rw [iI_of sw, q9]; rfl)
      have sx_8 : ¬ sw.toInt = 8 := fun q9 => sw_8 (by rw [iI_of sw, q9]; rfl)
      have sx_9 : ¬ sw.toInt = 9 := fun q9 => sw_9 (by rw [iI_of sw, q9]; rfl)
      have sx_10 : ¬ sw.toInt = 10 := fun q9 => sw_10 (by rw [iI_of sw, q9]; rfl)
      have sx_11 : ¬ sw.toInt = 11 := fun q9 => sw_11 (by rw [iI_of sw, q9]; rfl)
      have sx_12 : ¬ sw.toInt = 12 := fun q9 => sw_12 (by rw [iI_of sw, q9]; rfl)
      have sx_13 : ¬ sw.toInt = 13 := fun q9 => sw_13 (by rw [iI_of sw, q9]; rfl)
      have sx_14 : ¬ sw.toInt = 14 := fun q9 => sw_14 (by rw [iI_of sw, q9]; rfl)
      refine lv_tableOut (tgt := 524) hx hb d_Law_law_32 (by omega) (by decide) ?_
      refine W.widen (k := 60 + 30 * n + 30) (n := 300000 + 2000 * n + 2000) (by omega) (by omega) ?_
      exact NX h5 _ _ _ _ _ _ _ _ _ T0 Wf Mf hA.up hR (ModC_up hM) _ _ (z_Pq (frt_back (ModC_frt hM) (RowC_frt hR) T0) hP) (z_Dq (frt_back (ModC_frt hM) (RowC_frt hR) T0) hD) hS ls hl
