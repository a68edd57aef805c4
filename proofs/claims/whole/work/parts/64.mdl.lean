/-! the reference's rows, behind each call -/
theorem zl_wr {f : Nat → UInt8} {a : Nat} {bs : List UInt8} : zl (wr f a bs) 0 (a + bs.length) = zl f 0 a ++ bs := by
  apply List.ext_getElem?
  intro i
  by_cases h : i < a
  · rw [List.getElem?_append_left (by rw [zl_len]; exact h), zl_at (show i < a + bs.length by omega), zl_at h, wr_out (Or.inl (by omega))]
  · rw [List.getElem?_append_right (by rw [zl_len]; omega), zl_len]
    by_cases h2 : i < a + bs.length
    · rw [zl_at h2, Nat.zero_add, wr_in (by omega) h2, List.getD_eq_getElem?_getD, List.getElem?_eq_getElem (show i - a < bs.length by omega)]
      rfl
    · rw [List.getElem?_eq_none (by rw [zl_len]; omega), List.getElem?_eq_none (by omega)]
theorem md_ok_ {nmb : Nat → UInt8} {nsz num sta pla kin : Nat → Nat} {es : List zE} (hp : ((List.range es.length).map (mdE nmb nsz num sta pla kin)).Perm es) (hO : ∀ k ∈ es, okE k) : ∀ j, j < es.length → okE (mdE nmb nsz num sta pla kin j) := fun j hj => hO _ (hp.mem_iff.mp (List.mem_map.mpr ⟨j, List.mem_range.mpr hj, rfl⟩))
theorem nsz_le {nmb : Nat → UInt8} {nsz num sta pla kin : Nat → Nat} {es : List zE} (hp : ((List.range es.length).map (mdE nmb nsz num sta pla kin)).Perm es) (hO : ∀ k ∈ es, okE k) : ∀ j, j < es.length → nsz j ≤ 256 := fun j hj => by
  have h := (md_ok_ hp hO j hj).2.1
  rwa [show (mdE nmb nsz num sta pla kin j).1.length = nsz j from zl_len _ _ _] at h
theorem kn_bd {kl : List zE} {kn ks kp kk : Nat → Nat} {nk : Nat} (h : relK kl kn ks kp kk nk) (hb : ∀ k ∈ kl, 1 ≤ k.2.1 ∧ k.2.1 ≤ 100000 ∧ k.2.2.1 < 65536 ∧ k.2.2.2.1 < 65536 ∧ k.2.2.2.2 < 65536) : ∀ j, j < nk → kn j ≤ 100000 ∧ ks j < 65536 ∧ kp j < 65536 ∧ kk j < 65536 := by
  intro j hj
  obtain ⟨k, hk, hq⟩ := (h.1 (kn j, ks j, kp j, kk j)).mp ⟨j, hj, rfl⟩
  have := (hb k hk).2
  rw [hq] at this
  exact this
theorem isz_bd {ipl ist : Nat → Int32} {isz : Nat → Nat} {inm : Nat → UInt8} {ni : Nat} {ml : List zM} (h : ml = (List.range ni).map (mdM ipl ist isz inm)) (hb : ∀ k ∈ ml, k.2.2.length ≤ 256) : ∀ j, j < ni → isz j ≤ 256 := by
  intro j hj
  have := hb (mdM ipl ist isz inm j) (by rw [h]; exact List.mem_map.mpr ⟨j, List.mem_range.mpr hj, rfl⟩)
  rwa [show (mdM ipl ist isz inm j).2.2.length = isz j from zl_len _ _ _] at this
theorem mm_eq {mf : Nat → zM} {ni : Nat} {ml : List zM} (h : ml = (List.range ni).map mf) : ∀ j, j < ni → mf j = mfl ml j := fun j hj => by rw [h, mfl_map hj]
theorem cnt_md {f : Nat → UInt8} {len bg ni nk : Nat} {kl : List zE} {kn ks kp kk : Nat → Nat} {mf : Nat → zM} {ml : List zM} (hK : relK kl kn ks kp kk nk) (h : ml = (List.range ni).map mf) : cntM f len bg (knM kn ks kp kk nk) mf ni = cntM f len bg (knB kl) (mfl ml) ml.length := by
  rw [knM_eq hK, cnt_congr (mm_eq h), mkL_inr h]
theorem look_md {mf : Nat → zM} {ni : Nat} {ml : List zM} {key : List UInt8} (h : ml = (List.range ni).map mf) : lookF mf key ni = lookF (mfl ml) key ml.length := by
  rw [look_congr (mm_eq h), mkL_inr h]
theorem addK_md {kl kl2 : List zE} {kn ks kp kk : Nat → Nat} {nk : Nat} {y : zE} (h : relK kl kn ks kp kk nk) (hs : srtK kl) (ha : addK kl kl2 y) : (lastE (ofK kn (y.2.1 : Int)) nk = -2 ∧ relK kl2 (upN kn nk y.2.1) (upN ks nk y.2.2.1) (upN kp nk y.2.2.2.1) (upN kk nk y.2.2.2.2) (nk + 1)) ∨ (∃ k, k < nk ∧ lastE (ofK kn (y.2.1 : Int)) nk = (k : Int) ∧ relK kl2 (upN kn k y.2.1) (upN ks k y.2.2.1) (upN kp k y.2.2.2.1) (upN kk k y.2.2.2.2) nk) := by
  obtain ⟨i, hi, h1, h2, h3⟩ := ha
  rcases lastE_c (ofK kn (y.2.1 : Int)) nk with ⟨e, hno⟩ | ⟨k, k1, k2, k3⟩
  · refine Or.inl ⟨e, ?_⟩
    have hne : ∀ j, j < nk → kn j ≠ y.2.1 := fun j hj q => by
      have := of_decide_eq_false (hno j hj)
      exact this (by omega)
    rcases h3 with ⟨a, b, rfl⟩ | ⟨a, rfl⟩
    · exfalso
      obtain ⟨k, hk, hq⟩ := (h.1 (efl kl i).2).mpr ⟨_, efl_mem a, rfl⟩
      have : kn k = (efl kl i).2.1 := by rw [← hq]
      exact hne k hk (by omega)
    · refine relK_ins h hi hne (fun j hj => ?_) ?_
      · exact ⟨upN_n (by omega), upN_n (by omega), upN_n (by omega), upN_n (by omega)⟩
      · rw [upN_s, upN_s, upN_s, upN_s]
  · have k2 : kn k = y.2.1 := by
      have := of_decide_eq_true k2
      omega
    refine Or.inr ⟨k, k1, k3, ?_⟩
    have hset : relK (kl.set i y) (upN kn k y.2.1) (upN ks k y.2.2.1) (upN kp k y.2.2.2.1) (upN kk k y.2.2.2.2) nk ∨ ¬ (i < kl.length ∧ (efl kl i).2.1 = y.2.1) := by
      by_cases q : i < kl.length ∧ (efl kl i).2.1 = y.2.1
      · refine Or.inl (relK_set h hs (efl_at q.1) q.2 k1 k2 (fun j hj => ⟨upN_n hj, upN_n hj, upN_n hj, upN_n hj⟩) ?_)
        rw [upN_s, upN_s, upN_s, upN_s]
      · exact Or.inr q
    rcases h3 with ⟨a, b, rfl⟩ | ⟨a, rfl⟩
    · rcases hset with z | z
      · exact z
      · exact absurd ⟨a, b⟩ z
    · exfalso
      obtain ⟨x, hx, hq⟩ := (h.1 (kn k, ks k, kp k, kk k)).mp ⟨k, k1, rfl⟩
      obtain ⟨j, hj⟩ := List.getElem?_of_mem hx
      obtain ⟨hl, he⟩ := srt_efl hj
      have hxn : x.2.1 = y.2.1 := by rw [hq]; exact k2
      have hij : ¬ j < i := fun z => by
        have := h1 j z
        rw [he] at this
        omega
      have := addK_new (kl' := kl) hs hi h2 a j x (by omega) hj
      omega
theorem add_md {nmb tb : Nat → UInt8} {nsz num sta pla kin : Nat → Nat} {es : List zE} {k0 n0 s0 p0 q0 ts : Nat} {tpe : List UInt8} (hp : ((List.range es.length).map (mdE nmb nsz num sta pla kin)).Perm es) (hO : ∀ k ∈ es, okE k) (hk : k0 ≤ es.length) (ht : zl tb 0 ts = tpe) : ((List.range (es.length + 1)).map (mdE (wr nmb (256 * es.length) (zl tb 0 ts)) (upN nsz es.length ts) (upN num es.length n0) (upN sta es.length s0) (upN pla es.length p0) (upN kin es.length q0))).Perm (es.insertIdx k0 (tpe, n0, s0, p0, q0)) := by
  refine prm_add hp (fun j hj => ?_) ?_ hk
  · have h1 := nsz_le hp hO j hj
    unfold mdE nmE
    rw [upN_n (by omega), upN_n (by omega), upN_n (by omega), upN_n (by omega), upN_n (by omega)]
    congr 1
    rw [zl_ext]
    exact ⟨rfl, fun i hi => wr_out (Or.inl (by omega))⟩
  · unfold mdE nmE
    rw [upN_s, upN_s, upN_s, upN_s, upN_s]
    congr 1
    rw [← ht, zl_ext]
    refine ⟨rfl, fun i hi => ?_⟩
    rw [wr_in (by omega) (by rw [zl_len]; omega), show 256 * es.length + i - 256 * es.length = i by omega, List.getD_eq_getElem?_getD, zl_at hi]
    rfl
theorem drop_md {nmb tb : Nat → UInt8} {nsz num sta pla kin : Nat → Nat} {es : List zE} {k0 e0 : Nat} {tpe : List UInt8} (hs : srtE es) (hp : ((List.range es.length).map (mdE nmb nsz num sta pla kin)).Perm es) (hO : ∀ k ∈ es, okE k) (hk : k0 < es.length) (hk2 : (efl es k0).1 = tpe) (he : e0 < es.length) (he2 : (mdE nmb nsz num sta pla kin e0).1 = tpe) : ((List.range (es.eraseIdx k0).length).map (mdE (wr nmb (256 * e0) (zl nmb (256 * (es.length - 1)) 256)) (upN nsz e0 (nsz (es.length - 1))) (upN num e0 (num (es.length - 1))) (upN sta e0 (sta (es.length - 1))) (upN pla e0 (pla (es.length - 1))) (upN kin e0 (kin (es.length - 1))))).Perm (es.eraseIdx k0) := by
  obtain ⟨n, hn⟩ : ∃ n, es.length = n + 1 := ⟨es.length - 1, by omega⟩
  have hmem : mdE nmb nsz num sta pla kin e0 ∈ es := hp.mem_iff.mp (List.mem_map.mpr ⟨e0, List.mem_range.mpr he, rfl⟩)
  obtain ⟨i, hi⟩ := List.getElem?_of_mem hmem
  have hik : i = k0 := srt_inj hs hi (efl_at hk) (by rw [he2, hk2])
  subst hik
  rw [List.length_eraseIdx_of_lt hk, hn, Nat.add_sub_cancel]
  rw [hn] at hp
  have hb : ∀ j, j < n + 1 → nsz j ≤ 256 := fun j hj => by
    have := nsz_le (es := es) (by rw [hn]; exact hp) hO j (by omega)
    exact this
  refine prm_del hs hp (by omega) hi (fun j hj hje => ?_) (fun hlt => ?_)
  · have h1 := hb j (by omega)
    unfold mdE nmE
    rw [upN_n hje, upN_n hje, upN_n hje, upN_n hje, upN_n hje]
    congr 1
    rw [zl_ext]
    refine ⟨rfl, fun i hi => wr_out ?_⟩
    rw [zl_len]
    rcases Nat.lt_or_gt_of_ne hje with z | z
    · left; omega
    · right; omega
  · have h1 := hb n (by omega)
    unfold mdE nmE
    rw [upN_s, upN_s, upN_s, upN_s, upN_s]
    congr 1
    rw [zl_ext]
    refine ⟨rfl, fun i hi => ?_⟩
    rw [wr_in (by omega) (by rw [zl_len]; omega), show 256 * e0 + i - 256 * e0 = i by omega, List.getD_eq_getElem?_getD, zl_at (by omega)]
    rfl
theorem set_md {ipl ist : Nat → Int32} {isz : Nat → Nat} {inm : Nat → UInt8} {ni n : Nat} {ml : List zM} {x y : Int32} {tpe : List UInt8} {ts : Nat} (h : ml = (List.range ni).map (mdM ipl ist isz inm)) (hb : ∀ k ∈ ml, k.2.2.length ≤ 256) (hn : n < ni) (ht : tpe.length = ts) (ht2 : ts ≤ 256) : ml.set n (x, y, tpe) = (List.range ni).map (mdM (upd ipl n x) (upd ist n y) (upN isz n ts) (wr inm (256 * n) tpe)) := by
  have hl := mkL_inr h
  have hib := isz_bd h hb
  apply List.ext_getElem?
  intro j
  by_cases hj : j < ni
  · rw [List.getElem?_map, List.getElem?_range hj]
    show _ = some (mdM (upd ipl n x) (upd ist n y) (upN isz n ts) (wr inm (256 * n) tpe) j)
    by_cases q : j = n
    · subst q
      rw [List.getElem?_set_self (by omega)]
      unfold mdM upd upN
      rw [if_pos rfl, if_pos rfl, if_pos rfl]
      have : tpe = zl (wr inm (256 * j) tpe) (256 * j) ts := by
        subst ht
        apply List.ext_getElem?
        intro i
        by_cases hi : i < tpe.length
        · rw [zl_at hi, wr_in (by omega) (by omega), show 256 * j + i - 256 * j = i by omega, List.getD_eq_getElem?_getD, List.getElem?_eq_getElem hi]
          rfl
        · rw [List.getElem?_eq_none (by omega), List.getElem?_eq_none (by rw [zl_len]; omega)]
      rw [← this]
    · rw [List.getElem?_set_ne (fun z => q z.symm), h, List.getElem?_map, List.getElem?_range hj]
      have h3 := hib j hj
      show some (mdM ipl ist isz inm j) = _
      unfold mdM upd upN
      rw [if_neg q, if_neg q, if_neg q]
      congr 3
      rw [zl_ext]
      refine ⟨rfl, fun i hi => ?_⟩
      rw [wr_out]
      rcases Nat.lt_or_gt_of_ne q with z | z
      · left; omega
      · right; omega
  · rw [List.getElem?_eq_none (by rw [List.length_set]; omega), List.getElem?_eq_none (by simpa using hj)]
theorem bV_z {f : Nat → UInt8} {len i : Nat} (h : len < 8 * i + 1) (n : Nat) : bV f len i n = 0 := by
  induction n with
  | zero => rfl
  | succ n ih =>
    show (bV f len i n) <<< ((nI 8).toInt64 &&& 63) ||| lN (bz f len (8 * i + (7 - n))) = 0
    rw [ih]
    unfold bz
    rw [if_neg (by omega)]
    decide
