/-! the check in passes: entries first, then each index on its own -/
def entQ (f : Nat → UInt8) (len : Nat) (kq : Int → Nat → Nat → Nat → Bool) (last : List UInt8) (hn st i : Nat) : Bool := isNm (nmA f len i) && decide (0 < cmpB (nmA f len i) last) && kq ((hn : Int) + s16 (U2 f len (i + 2))) st (U2 f len i) (U2 f len (i + 4))
def mcC (f : Nat → UInt8) (len : Nat) (kq : Int → Nat → Nat → Nat → Bool) : Nat → Nat → Nat → Nat → Nat → Nat → Nat → List UInt8 → Int
  | 0, _, _, _, _, _, _, _ => -2
  | fu + 1, i, en, lf, ha, hn, st, last =>
    if lf = 0 ∧ en = len then (i : Int)
    else match stepP f len en lf ha hn st with
      | none => -2
      | some (en2, lf2, ha2, hn2, st2, at2) =>
        if entQ f len kq last hn2 st2 at2 = true then mcC f len kq fu (i + 1) en2 lf2 ha2 hn2 st2 (nmA f len at2) else -2
def ixC (f : Nat → UInt8) (len : Nat) (P : Nat → Nat → Bool) : Nat → Nat → Nat → Nat → Nat → Nat → Bool
  | 0, _, _, _, _, _ => false
  | fu + 1, en, lf, ha, hn, st =>
    if lf = 0 ∧ en = len then false
    else match stepP f len en lf ha hn st with
      | none => false
      | some (en2, lf2, ha2, hn2, st2, at2) => (decide (0 < ha2 ∧ at2 = ha2 + 12) && P ha2 at2) || ixC f len P fu en2 lf2 ha2 hn2 st2
/-- index j fits a header and its first entry -/
def ixP (f : Nat → UInt8) (len bg : Nat) (mf : Nat → zM) (j ha i : Nat) : Bool := decide ((mf j).1 = nI ha ∧ (mf j).2.1 = nI (8194 * ((bg + ha) / 8192)) ∧ nmA f len i = (mf j).2.2)
section MC
variable {f : Nat → UInt8} {len bg : Nat} {kq : Int → Nat → Nat → Nat → Bool} {P : Nat → Nat → Bool} {fu i en lf ha hn st en2 lf2 ha2 hn2 st2 at2 : Nat} {last : List UInt8}
theorem mc_end (h : lf = 0 ∧ en = len) : mcC f len kq (fu + 1) i en lf ha hn st last = (i : Int) := by
  show (if lf = 0 ∧ en = len then _ else _) = _
  rw [if_pos h]
theorem mc_none (h : ¬ (lf = 0 ∧ en = len)) (hs : stepP f len en lf ha hn st = none) : mcC f len kq (fu + 1) i en lf ha hn st last = -2 := by
  unfold mcC
  rw [if_neg h, hs]
theorem mc_some (h : ¬ (lf = 0 ∧ en = len)) (hs : stepP f len en lf ha hn st = some (en2, lf2, ha2, hn2, st2, at2)) : mcC f len kq (fu + 1) i en lf ha hn st last = if entQ f len kq last hn2 st2 at2 = true then mcC f len kq fu (i + 1) en2 lf2 ha2 hn2 st2 (nmA f len at2) else -2 := by
  conv => lhs; unfold mcC
  rw [if_neg h, hs]
theorem ix_end (h : lf = 0 ∧ en = len) : ixC f len P (fu + 1) en lf ha hn st = false := by
  show (if lf = 0 ∧ en = len then _ else _) = _
  rw [if_pos h]
theorem ix_none (h : ¬ (lf = 0 ∧ en = len)) (hs : stepP f len en lf ha hn st = none) : ixC f len P (fu + 1) en lf ha hn st = false := by
  unfold ixC
  rw [if_neg h, hs]
theorem ix_some (h : ¬ (lf = 0 ∧ en = len)) (hs : stepP f len en lf ha hn st = some (en2, lf2, ha2, hn2, st2, at2)) : ixC f len P (fu + 1) en lf ha hn st = ((decide (0 < ha2 ∧ at2 = ha2 + 12) && P ha2 at2) || ixC f len P fu en2 lf2 ha2 hn2 st2) := by
  conv => lhs; unfold ixC
  rw [if_neg h, hs]
/-- what a step does to places -/
theorem stepP_pl (h : stepP f len en lf ha hn st = some (en2, lf2, ha2, hn2, st2, at2)) (h1 : lf = 0 ∨ ha + 21 ≤ en) : en2 = at2 + 9 + U2 f len (at2 + 6) ∧ en2 ≤ len ∧ (ha2 + 21 ≤ en2) ∧ ((lf = 0 ∧ ha2 = en ∧ at2 = ha2 + 12) ∨ (lf ≠ 0 ∧ ha2 = ha ∧ at2 = en ∧ ¬ at2 = ha2 + 12)) := by
  unfold stepP at h
  split at h
  · split at h
    · cases h; rename_i q _; refine ⟨rfl, by omega, by omega, Or.inl ⟨q, rfl, rfl⟩⟩
    · cases h
  · split at h
    · cases h; rename_i q _; refine ⟨rfl, by omega, by omega, Or.inr ⟨q, rfl, rfl, by omega⟩⟩
    · cases h
theorem ix_far (h1 : lf = 0 ∨ ha + 21 ≤ en) (h : ixC f len P fu en lf ha hn st = true) : ∃ p a, en ≤ p ∧ p ≤ len ∧ P p a = true := by
  induction fu generalizing en lf ha hn st with
  | zero => cases h
  | succ fu ih =>
    by_cases q : lf = 0 ∧ en = len
    · rw [ix_end q] at h; cases h
    · rcases hs : stepP f len en lf ha hn st with _ | ⟨en2, lf2, ha2, hn2, st2, at2⟩
      · rw [ix_none q hs] at h; cases h
      · rw [ix_some q hs] at h
        obtain ⟨e1, e2, e3, e4⟩ := stepP_pl hs h1
        rcases Bool.or_eq_true_iff.mp h with z | z
        · obtain ⟨z1, z2⟩ := Bool.and_eq_true_iff.mp z
          have z1 := of_decide_eq_true z1
          refine ⟨ha2, at2, by omega, by omega, z2⟩
        · obtain ⟨p, a, p1, p2, p3⟩ := ih (Or.inr e3) z
          exact ⟨p, a, by omega, p2, p3⟩
/-- indexes from met on fit headers from here on, in rising order -/
def ixR (f : Nat → UInt8) (len bg : Nat) (mf : Nat → zM) (mn fu en lf ha hn st met : Nat) : Prop := ∀ j, met ≤ j → j < mn → ixC f len (ixP f len bg mf j) fu en lf ha hn st = true ∧ (met < j → (mf (j - 1)).1 < (mf j).1)
theorem mc_rg : mcC f len kq fu i en lf ha hn st last = -2 ∨ ∃ c : Nat, mcC f len kq fu i en lf ha hn st last = (c : Int) ∧ i ≤ c ∧ c ≤ i + fu := by
  induction fu generalizing i en lf ha hn st last with
  | zero => exact Or.inl rfl
  | succ fu ih =>
    by_cases q : lf = 0 ∧ en = len
    · rw [mc_end q]; exact Or.inr ⟨i, rfl, Nat.le_refl _, by omega⟩
    · rcases hs : stepP f len en lf ha hn st with _ | ⟨en2, lf2, ha2, hn2, st2, at2⟩
      · exact Or.inl (mc_none q hs)
      · rw [mc_some q hs]
        split
        · rcases ih (i := i + 1) (en := en2) (lf := lf2) (ha := ha2) (hn := hn2) (st := st2) (last := nmA f len at2) with z | ⟨c, z1, z2, z3⟩
          · exact Or.inl z
          · exact Or.inr ⟨c, z1, by omega, by omega⟩
        · exact Or.inl rfl
theorem chk_all {kl : List zE} {mf : Nat → zM} {mn met : Nat} (hl : len < 2 ^ 30) (h1 : lf = 0 ∨ ha + 21 ≤ en) (hm : met ≤ mn) :
    (chkC f len bg kl mf mn fu i en lf ha hn st last met = -2 ∨ (chkC f len bg kl mf mn fu i en lf ha hn st last met = mcC f len (knB kl) fu i en lf ha hn st last ∧ ixR f len bg mf mn fu en lf ha hn st met)) ∧
    (mcC f len (knB kl) fu i en lf ha hn st last ≠ -2 → ixR f len bg mf mn fu en lf ha hn st met → chkC f len bg kl mf mn fu i en lf ha hn st last met = mcC f len (knB kl) fu i en lf ha hn st last) := by
  induction fu generalizing i en lf ha hn st last met with
  | zero => exact ⟨Or.inl rfl, fun h => absurd rfl h⟩
  | succ fu ih =>
    by_cases q : lf = 0 ∧ en = len
    · rw [mc_end q, chk_end q]
      by_cases hmn : met = mn
      · rw [if_pos hmn]
        exact ⟨Or.inr ⟨rfl, fun j h1 h2 => by omega⟩, fun _ _ => rfl⟩
      · rw [if_neg hmn]
        refine ⟨Or.inl rfl, fun _ hR => ?_⟩
        have := (hR met (Nat.le_refl _) (by omega)).1
        rw [ix_end q] at this
        cases this
    · rcases hs : stepP f len en lf ha hn st with _ | ⟨en2, lf2, ha2, hn2, st2, at2⟩
      · rw [mc_none q hs, chk_none q hs]
        exact ⟨Or.inl rfl, fun h => absurd rfl h⟩
      · obtain ⟨e1, e2, e3, e4⟩ := stepP_pl hs h1
        rw [mc_some q hs]
        by_cases he : entR f len kl last hn2 st2 at2 = true
        · rw [if_pos (show entQ f len (knB kl) last hn2 st2 at2 = true from he)]
          -- a match later on lies behind
          have far : ∀ j, ixC f len (ixP f len bg mf j) fu en2 lf2 ha2 hn2 st2 = true → ∃ p, en2 ≤ p ∧ p ≤ len ∧ (mf j).1 = nI p := by
            intro j hj
            obtain ⟨p, a, p1, p2, p3⟩ := ix_far (Or.inr e3) hj
            exact ⟨p, p1, p2, (of_decide_eq_true p3).1⟩
          -- no header of a piece's beginning here
          have plain : ¬ (0 < ha2 ∧ at2 = ha2 + 12) → ∀ j, ixC f len (ixP f len bg mf j) (fu + 1) en lf ha hn st = ixC f len (ixP f len bg mf j) fu en2 lf2 ha2 hn2 st2 := by
            intro hz j
            rw [ix_some q hs, decide_eq_false hz, Bool.false_and, Bool.false_or]
          have one : ∀ j, ixP f len bg mf j ha2 at2 = false → ixC f len (ixP f len bg mf j) (fu + 1) en lf ha hn st = ixC f len (ixP f len bg mf j) fu en2 lf2 ha2 hn2 st2 := by
            intro j hj
            rw [ix_some q hs, hj, Bool.and_false, Bool.false_or]
          have on : ∀ j, ixC f len (ixP f len bg mf j) fu en2 lf2 ha2 hn2 st2 = true → ixC f len (ixP f len bg mf j) (fu + 1) en lf ha hn st = true := by
            intro j hj
            rw [ix_some q hs, hj, Bool.or_true]
          by_cases hf : lf = 0 ∧ 0 < ha2
          · have hfa : 0 < ha2 ∧ at2 = ha2 + 12 := by omega
            by_cases hd : met < mn ∧ (mf met).1 = nI ha2
            · by_cases hx : (mf met).2.1 = nI (8194 * ((bg + ha2) / 8192)) ∧ nmA f len at2 = (mf met).2.2
              · have hmk : mkAt f len bg mf mn met ha2 at2 = some (met + 1) := by unfold mkAt; rw [if_pos hd, if_pos hx]
                rw [chk_mk1 q hs he hf hmk]
                obtain ⟨i1, i2⟩ := ih (i := i + 1) (en := en2) (lf := lf2) (ha := ha2) (hn := hn2) (st := st2) (last := nmA f len at2) (met := met + 1) (Or.inr e3) (by omega)
                constructor
                · rcases i1 with z | ⟨z1, z2⟩
                  · exact Or.inl z
                  · refine Or.inr ⟨z1, fun j j1 j2 => ?_⟩
                    by_cases hj : j = met
                    · subst hj
                      refine ⟨?_, fun z => by omega⟩
                      rw [ix_some q hs, decide_eq_true hfa, show ixP f len bg mf j ha2 at2 = true from decide_eq_true ⟨hd.2, hx⟩]
                      rfl
                    · obtain ⟨y1, y2⟩ := z2 j (by omega) j2
                      refine ⟨on j y1, fun _ => ?_⟩
                      by_cases hj2 : met + 1 < j
                      · exact y2 hj2
                      · obtain ⟨p, p1, p2, p3⟩ := far j y1
                        rw [show j - 1 = met by omega, hd.2, p3]
                        exact (nI_ltI (by omega) (by omega)).mpr (by omega)
                · intro hc hR
                  refine i2 hc (fun j j1 j2 => ?_)
                  have lt : ∀ d, met + d < mn → 0 < d → (nI ha2).toInt < ((mf (met + d)).1).toInt := by
                    intro d
                    induction d with
                    | zero => intro _ h; omega
                    | succ d ihd =>
                      intro hdn _
                      have t := (hR (met + (d + 1)) (by omega) hdn).2 (by omega)
                      rw [show met + (d + 1) - 1 = met + d by omega, Int32.lt_iff_toInt_lt] at t
                      by_cases hd0 : d = 0
                      · subst hd0
                        rw [Nat.add_zero, hd.2] at t
                        exact t
                      · have := ihd (by omega) (by omega)
                        omega
                  have lj := lt (j - met) (by omega) (by omega)
                  rw [show met + (j - met) = j by omega] at lj
                  have ne : ixP f len bg mf j ha2 at2 = false := decide_eq_false (fun z => by rw [z.1] at lj; omega)
                  obtain ⟨y1, y2⟩ := hR j (by omega) j2
                  rw [one j ne] at y1
                  exact ⟨y1, fun _ => y2 (by omega)⟩
              · have hmk : mkAt f len bg mf mn met ha2 at2 = none := by unfold mkAt; rw [if_pos hd, if_neg hx]
                rw [chk_mk0 q hs he hf hmk]
                refine ⟨Or.inl rfl, fun _ hR => ?_⟩
                have y1 := (hR met (Nat.le_refl _) hd.1).1
                rw [one met (decide_eq_false (fun z => hx z.2))] at y1
                obtain ⟨p, p1, p2, p3⟩ := far met y1
                rw [hd.2] at p3
                have := (nI_eq (by omega) (by omega)).mp p3
                omega
            · have hmk : mkAt f len bg mf mn met ha2 at2 = some met := by unfold mkAt; rw [if_neg hd]
              rw [chk_mk1 q hs he hf hmk]
              obtain ⟨i1, i2⟩ := ih (i := i + 1) (en := en2) (lf := lf2) (ha := ha2) (hn := hn2) (st := st2) (last := nmA f len at2) (met := met) (Or.inr e3) hm
              constructor
              · rcases i1 with z | ⟨z1, z2⟩
                · exact Or.inl z
                · refine Or.inr ⟨z1, fun j j1 j2 => ?_⟩
                  obtain ⟨y1, y2⟩ := z2 j j1 j2
                  exact ⟨on j y1, y2⟩
              · intro hc hR
                refine i2 hc ?_
                have first : met < mn → ixC f len (ixP f len bg mf met) fu en2 lf2 ha2 hn2 st2 = true := by
                  intro hlt
                  have y1 := (hR met (Nat.le_refl _) hlt).1
                  rwa [one met (decide_eq_false (fun z => hd ⟨hlt, z.1⟩))] at y1
                have lt : ∀ d, met + d < mn → (nI ha2).toInt < ((mf (met + d)).1).toInt := by
                  intro d
                  induction d with
                  | zero =>
                    intro hdn
                    obtain ⟨p, p1, p2, p3⟩ := far met (first (by omega))
                    rw [Nat.add_zero, p3, ← Int32.lt_iff_toInt_lt]
                    exact (nI_ltI (by omega) (by omega)).mpr (by omega)
                  | succ d ihd =>
                    intro hdn
                    have t := (hR (met + (d + 1)) (by omega) hdn).2 (by omega)
                    rw [show met + (d + 1) - 1 = met + d by omega, Int32.lt_iff_toInt_lt] at t
                    have := ihd (by omega)
                    omega
                intro j j1 j2
                have lj := lt (j - met) (by omega)
                rw [show met + (j - met) = j by omega] at lj
                have ne : ixP f len bg mf j ha2 at2 = false := decide_eq_false (fun z => by rw [z.1] at lj; omega)
                obtain ⟨y1, y2⟩ := hR j j1 j2
                rw [one j ne] at y1
                exact ⟨y1, y2⟩
          · rw [chk_go q hs he hf]
            obtain ⟨i1, i2⟩ := ih (i := i + 1) (en := en2) (lf := lf2) (ha := ha2) (hn := hn2) (st := st2) (last := nmA f len at2) (met := met) (Or.inr e3) hm
            have hz : ¬ (0 < ha2 ∧ at2 = ha2 + 12) := by omega
            have eq : ixR f len bg mf mn (fu + 1) en lf ha hn st met ↔ ixR f len bg mf mn fu en2 lf2 ha2 hn2 st2 met := by
              unfold ixR
              constructor
              · intro hR j j1 j2
                have := hR j j1 j2
                rwa [plain hz j] at this
              · intro hR j j1 j2
                have := hR j j1 j2
                rwa [← plain hz j] at this
            rw [eq]
            exact ⟨i1, i2⟩
        · rw [if_neg (show ¬ entQ f len (knB kl) last hn2 st2 at2 = true from he), chk_bad q hs (by simpa using he)]
          exact ⟨Or.inl rfl, fun h => absurd rfl h⟩
end MC
/-- the reference's answer -/
def cntM (f : Nat → UInt8) (len bg : Nat) (kq : Int → Nat → Nat → Nat → Bool) (mf : Nat → zM) (mn : Nat) : Int :=
  if mcC f len kq (len + 1) 0 0 0 0 0 0 [] ≠ -2 ∧ (List.range mn).all (fun j => ixC f len (ixP f len bg mf j) (len + 1) 0 0 0 0 0 && (decide (j = 0) || decide ((mf (j - 1)).1 < (mf j).1))) = true then mcC f len kq (len + 1) 0 0 0 0 0 0 [] else -2
theorem ixR_all {f : Nat → UInt8} {len bg mn : Nat} {mf : Nat → zM} : (List.range mn).all (fun j => ixC f len (ixP f len bg mf j) (len + 1) 0 0 0 0 0 && (decide (j = 0) || decide ((mf (j - 1)).1 < (mf j).1))) = true ↔ ixR f len bg mf mn (len + 1) 0 0 0 0 0 0 := by
  rw [List.all_eq_true]
  constructor
  · intro h j _ hj
    have := h j (List.mem_range.mpr hj)
    obtain ⟨a, b⟩ := Bool.and_eq_true_iff.mp this
    refine ⟨a, fun h0 => ?_⟩
    rcases Bool.or_eq_true_iff.mp b with c | c
    · have := of_decide_eq_true c; omega
    · exact of_decide_eq_true c
  · intro h j hj
    obtain ⟨a, b⟩ := h j (Nat.zero_le _) (List.mem_range.mp hj)
    rw [a, Bool.true_and]
    by_cases h0 : j = 0
    · rw [decide_eq_true h0]; rfl
    · rw [decide_eq_true (b (by omega)), Bool.or_true]
theorem cnt_eq {f : Nat → UInt8} {len bg mn : Nat} {kl : List zE} {mf : Nat → zM} (hl : len < 2 ^ 30) : cntM f len bg (knB kl) mf mn = chkC f len bg kl mf mn (len + 1) 0 0 0 0 0 0 [] 0 := by
  obtain ⟨h1, h2⟩ := chk_all (f := f) (len := len) (bg := bg) (kl := kl) (mf := mf) (mn := mn) (fu := len + 1) (i := 0) (en := 0) (lf := 0) (ha := 0) (hn := 0) (st := 0) (last := []) (met := 0) hl (Or.inl rfl) (Nat.zero_le _)
  unfold cntM
  by_cases h : mcC f len (knB kl) (len + 1) 0 0 0 0 0 0 [] ≠ -2 ∧ (List.range mn).all (fun j => ixC f len (ixP f len bg mf j) (len + 1) 0 0 0 0 0 && (decide (j = 0) || decide ((mf (j - 1)).1 < (mf j).1))) = true
  · rw [if_pos h]
    exact (h2 h.1 (ixR_all.mp h.2)).symm
  · rw [if_neg h]
    rcases h1 with z | ⟨z1, z2⟩
    · exact z.symm
    · by_cases hc : mcC f len (knB kl) (len + 1) 0 0 0 0 0 0 [] = -2
      · rw [z1, hc]
      · exact absurd ⟨hc, ixR_all.mpr z2⟩ h
