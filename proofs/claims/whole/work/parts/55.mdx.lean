/-! rows that are written to -/
theorem fed_s (f : Nat → UInt8) (a k z : Nat) (h : Nat → UInt8) (hz : z = a + k) : uB (wr f a ((List.range k).map h)) z (h k) = wr f a ((List.range (k + 1)).map h) := by
  rw [wr_1, wr_wr f a _ _ (by rw [List.length_map, List.length_range, hz]), List.range_succ, List.map_append]
  rfl
theorem zlw_s (f h : Nat → UInt8) (a c k z : Nat) (u : UInt8) (hz : z = a + k) (hu : u = h (c + k)) : uB (wr f a (zl h c k)) z u = wr f a (zl h c (k + 1)) := by
  rw [wr_1, wr_wr f a _ _ (by rw [zl_len, hz]), zl_e, hu]
theorem cpw_s (f : Nat → UInt8) (a c k z y : Nat) (hz : z = a + k) (hy : y = c + k) (hac : a ≤ c) : uB (wr f a (zl f c k)) z ((wr f a (zl f c k)) y) = wr f a (zl f c (k + 1)) := by
  rw [wr_out (j := y) (Or.inr (by rw [zl_len]; omega)), hy]
  exact zlw_s f f a c k z _ hz rfl
theorem wr_n (f : Nat → UInt8) (a : Nat) : wr f a [] = f := wr_0 f a
theorem clF_eq {b : Nat} {ef : Nat → zE} {k i fr hd : Nat} {h : Nat → UInt8} (hi : i = k - (layN b ef k).2.2.2.2.1) (hfr : fr = (layN b ef k).2.2.1) (hh : hd = hdN b ef k) : (if 0 < hd then uB h fr (zu (nI (k - i - 1))) else h) = clF b ef k h := by
  unfold clF
  rw [hh]
  by_cases z : k = 0
  · subst z
    rw [if_pos rfl, if_neg (show ¬ 0 < hdN b ef 0 from Nat.lt_irrefl 0)]
  · rw [if_pos (hdN_pos.mpr (by omega)), if_neg z, hfr]
    obtain ⟨j1, j2, -⟩ := lay_hd (b := b) (ef := ef) (show 0 < k by omega)
    rw [show k - i = (layN b ef k).2.2.2.2.1 by omega]
theorem mkL_s1 {b : Nat} {ef : Nat → zE} {k : Nat} (h : fitB b ef k = true ∨ (b + (layN b ef k).2.1) / 8192 = (b + (layN b ef k).2.2.1) / 8192) : mkL b ef (k + 1) = mkL b ef k := if_pos h
theorem mkL_s3 {b : Nat} {ef : Nat → zE} {k : Nat} (h : fitB b ef k = false) (h2 : ¬ (b + (layN b ef k).2.1) / 8192 = (b + (layN b ef k).2.2.1) / 8192) : mkL b ef (k + 1) = mkL b ef k ++ [(nI (layN b ef k).2.1, nI (8194 * ((b + (layN b ef k).2.1) / 8192)), (ef k).1)] := if_neg (by rw [h]; exact fun z => z.elim (fun q => nomatch q) h2)
theorem mdM_up {ipl ist : Nat → Int32} {isz : Nat → Nat} {inm : Nat → UInt8} {nx : Nat} {x y : Int32} {nm : List UInt8} {ln : Nat} (hl : nm.length = ln) (h2 : ∀ j, j < nx → isz j ≤ 256) : (List.range nx).map (mdM ipl ist isz inm) ++ [(x, y, nm)] = (List.range (nx + 1)).map (mdM (upd ipl nx x) (upd ist nx y) (upN isz nx ln) (wr inm (256 * nx) nm)) := by
  rw [List.range_succ, List.map_append]
  congr 1
  · apply List.map_congr_left
    intro j hj
    have hj := List.mem_range.mp hj
    have h3 := h2 j hj
    unfold mdM upd upN
    rw [if_neg (by omega), if_neg (by omega), if_neg (by omega)]
    congr 2
    rw [zl_ext]
    refine ⟨rfl, fun i hi => ?_⟩
    rw [wr_out (Or.inl (by omega))]
  · show [(x, y, nm)] = [mdM (upd ipl nx x) (upd ist nx y) (upN isz nx ln) (wr inm (256 * nx) nm) nx]
    unfold mdM upd upN
    rw [if_pos rfl, if_pos rfl, if_pos rfl]
    have : nm = zl (wr inm (256 * nx) nm) (256 * nx) ln := by
      subst hl
      apply List.ext_getElem?
      intro i
      by_cases hi : i < nm.length
      · rw [zl_at hi, wr_in (by omega) (by omega), show 256 * nx + i - 256 * nx = i by omega, List.getD_eq_getElem?_getD, List.getElem?_eq_getElem hi]
        rfl
      · rw [List.getElem?_eq_none (by omega), List.getElem?_eq_none (by rw [zl_len]; omega)]
    rw [← this]
theorem mkL_inr {nx : Nat} {mf : Nat → zM} {ml : List zM} (h : ml = (List.range nx).map mf) : ml.length = nx := by rw [h]; simp
/-- the state behind entry k, as the reference keeps it -/
theorem lay_fit {b : Nat} {ef : Nat → zE} {k i : Nat} (h : fitB b ef k = true) (hi : i = k - (layN b ef k).2.2.2.2.1) : 0 < k ∧ i = k + 1 - (layN b ef (k + 1)).2.2.2.2.1 ∧ (layN b ef k).2.2.1 = (layN b ef (k + 1)).2.2.1 ∧ (layN b ef k).2.2.2.1 = (ef i).2.1 ∧ (layN b ef (k + 1)).2.1 = (layN b ef k).2.1 + (8 + (ef k).1.length) ∧ hdN b ef (k + 1) = hdN b ef k := by
  have hk : 0 < k := by
    rcases Nat.eq_zero_or_pos k with z | z
    · subst z; rw [fit_0] at h; cases h
    · exact z
  rcases @layN_s b ef k with ⟨h1, h2⟩ | ⟨h1, h2⟩
  · obtain ⟨j1, j2, j3, j4, j5, j6⟩ := lay_hd (b := b) (ef := ef) hk
    rw [h2]
    refine ⟨hk, ?_, rfl, by rw [j5, ← hi], rfl, if_pos h⟩
    show i = k + 1 - ((layN b ef k).2.2.2.2.1 + 1)
    omega
  · exact absurd h h1
theorem lay_new {b : Nat} {ef : Nat → zE} {k : Nat} (h : fitB b ef k = false) : k = k + 1 - (layN b ef (k + 1)).2.2.2.2.1 ∧ (layN b ef k).2.1 = (layN b ef (k + 1)).2.2.1 ∧ (layN b ef (k + 1)).2.1 = (layN b ef k).2.1 + 12 + (8 + (ef k).1.length) ∧ hdN b ef (k + 1) = hdN b ef k + 1 := by
  rcases @layN_s b ef k with ⟨h1, h2⟩ | ⟨h1, h2⟩
  · rw [h] at h1; cases h1
  · rw [h2]
    refine ⟨rfl, rfl, rfl, if_neg h1⟩
theorem md_fit {b : Nat} {ef : Nat → zE} {f : Nat → UInt8} {k : Nat} (h : fitB b ef k = true) : mdF b ef f (k + 1) = wr (mdF b ef f k) (layN b ef k).2.1 (entB (ef k).2.2.2.1 (nI (ef k).2.1 - nI (layN b ef k).2.2.2.1) (ef k).2.2.2.2 (ef k).1) := if_pos h
theorem md_new {b : Nat} {ef : Nat → zE} {f : Nat → UInt8} {k : Nat} (h : fitB b ef k = false) : mdF b ef f (k + 1) = wr (wr (clF b ef k (mdF b ef f k)) (layN b ef k).2.1 (le4 (nI 0) ++ le4 (nI (ef k).2.2.1) ++ le4 (nI (ef k).2.1))) ((layN b ef k).2.1 + 12) (entB (ef k).2.2.2.1 (nI (ef k).2.1 - nI (ef k).2.1) (ef k).2.2.2.2 (ef k).1) := if_neg (by rw [h]; decide)
theorem put3 (f : Nat → UInt8) (a : Nat) (x y z : Int32) : wr (wr (wr f a (btL x 4)) (a + 4) (btL y 4)) (a + 4 + 4) (btL z 4) = wr f a (le4 x ++ le4 y ++ le4 z) := by
  rw [wr_wr f a (btL x 4) (btL y 4) (by rw [btL_len]), wr_wr f a (btL x 4 ++ btL y 4) (btL z 4) (by rw [List.length_append, btL_len, btL_len])]
  rfl
theorem put8 (f : Nat → UInt8) (a : Nat) (x y z u : Int32) : wr (wr (wr (wr f a (btL x 2)) (a + 2) (btL y 2)) (a + 2 + 2) (btL z 2)) (a + 2 + 2 + 2) (btL u 2) = wr f a (le2 x ++ le2 y ++ le2 z ++ le2 u) := by
  rw [wr_wr f a (btL x 2) (btL y 2) (by rw [btL_len]), wr_wr f a (btL x 2 ++ btL y 2) (btL z 2) (by rw [List.length_append, btL_len, btL_len]), wr_wr f a (btL x 2 ++ btL y 2 ++ btL z 2) (btL u 2) (by rw [List.length_append, List.length_append, btL_len, btL_len, btL_len])]
  rfl
theorem putN (f h : Nat → UInt8) (a c j z : Nat) (H : List UInt8) (u : UInt8) (hz : z = a + H.length + j) (hu : u = h (c + j)) : wr (wr f a (H ++ zl h c j)) z (btL (nI u.toNat) 1) = wr f a (H ++ zl h c (j + 1)) := by
  rw [btL_1, wr_wr f a _ _ (by rw [List.length_append, zl_len]; omega), zl_e, hu, List.append_assoc]
