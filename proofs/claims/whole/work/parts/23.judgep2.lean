section CHK
variable {f : Nat → UInt8} {len bg : Nat} {kl : List zE} {mf : Nat → zM} {mn fu i en lf ha hn st met en2 lf2 ha2 hn2 st2 at2 met2 : Nat} {last : List UInt8}
theorem stepP_some (h : stepP f len en lf ha hn st = some (en2, lf2, ha2, hn2, st2, at2)) (h1 : lf ≤ 256) (h2 : lf = 0 ∨ (ha ≤ len ∧ hn < 4294967296 ∧ st < 4294967296)) : en2 ≤ len ∧ lf2 ≤ 256 ∧ ha2 ≤ len ∧ hn2 < 4294967296 ∧ st2 < 4294967296 ∧ en2 = at2 + 9 + U2 f len (at2 + 6) ∧ en ≤ at2 := by
  have a1 := U4_lt f len (en + 8)
  have a2 := U4_lt f len (en + 4)
  unfold stepP at h
  split at h
  · split at h
    · cases h; omega
    · cases h
  · split at h
    · cases h; omega
    · cases h
theorem stepP_0 : stepP f len en 0 ha hn st = stepP f len en 0 0 0 0 := rfl
theorem chk_end (h : lf = 0 ∧ en = len) : chkC f len bg kl mf mn (fu + 1) i en lf ha hn st last met = if met = mn then (i : Int) else -2 := by
  show (if lf = 0 ∧ en = len then _ else _) = _
  rw [if_pos h]
theorem chk_none (h : ¬ (lf = 0 ∧ en = len)) (hs : stepP f len en lf ha hn st = none) : chkC f len bg kl mf mn (fu + 1) i en lf ha hn st last met = -2 := by
  unfold chkC
  rw [if_neg h, hs]
theorem chk_bad (h : ¬ (lf = 0 ∧ en = len)) (hs : stepP f len en lf ha hn st = some (en2, lf2, ha2, hn2, st2, at2)) (he : entR f len kl last hn2 st2 at2 = false) : chkC f len bg kl mf mn (fu + 1) i en lf ha hn st last met = -2 := by
  unfold chkC
  rw [if_neg h, hs]
  show (if entR f len kl last hn2 st2 at2 = true then _ else _) = _
  rw [if_neg (by rw [he]; decide)]
theorem chk_mk0 (h : ¬ (lf = 0 ∧ en = len)) (hs : stepP f len en lf ha hn st = some (en2, lf2, ha2, hn2, st2, at2)) (he : entR f len kl last hn2 st2 at2 = true) (hf : lf = 0 ∧ 0 < ha2) (hm : mkAt f len bg mf mn met ha2 at2 = none) : chkC f len bg kl mf mn (fu + 1) i en lf ha hn st last met = -2 := by
  unfold chkC
  rw [if_neg h, hs]
  show (if entR f len kl last hn2 st2 at2 = true then _ else _) = _
  rw [if_pos he, if_pos hf, hm]
theorem chk_mk1 (h : ¬ (lf = 0 ∧ en = len)) (hs : stepP f len en lf ha hn st = some (en2, lf2, ha2, hn2, st2, at2)) (he : entR f len kl last hn2 st2 at2 = true) (hf : lf = 0 ∧ 0 < ha2) (hm : mkAt f len bg mf mn met ha2 at2 = some met2) : chkC f len bg kl mf mn (fu + 1) i en lf ha hn st last met = chkC f len bg kl mf mn fu (i + 1) en2 lf2 ha2 hn2 st2 (nmA f len at2) met2 := by
  conv => lhs; unfold chkC
  rw [if_neg h, hs]
  show (if entR f len kl last hn2 st2 at2 = true then _ else _) = _
  rw [if_pos he, if_pos hf, hm]
theorem chk_go (h : ¬ (lf = 0 ∧ en = len)) (hs : stepP f len en lf ha hn st = some (en2, lf2, ha2, hn2, st2, at2)) (he : entR f len kl last hn2 st2 at2 = true) (hf : ¬ (lf = 0 ∧ 0 < ha2)) : chkC f len bg kl mf mn (fu + 1) i en lf ha hn st last met = chkC f len bg kl mf mn fu (i + 1) en2 lf2 ha2 hn2 st2 (nmA f len at2) met := by
  conv => lhs; unfold chkC
  rw [if_neg h, hs]
  show (if entR f len kl last hn2 st2 at2 = true then _ else _) = _
  rw [if_pos he, if_neg hf]
theorem chk_ir : chkC f len bg kl mf mn fu i en 0 ha hn st last met = chkC f len bg kl mf mn fu i en 0 0 0 0 last met := by
  cases fu with
  | zero => rfl
  | succ fu => rfl
theorem mk_of {b : Bool} {nm : List UInt8} (hn9 : nm = nmA f len at2) (h : if met < mn ∧ (mf met).1 = nI ha2 then (b = decide ((mf met).2.1 = nI (8194 * ((bg + ha2) / 8192)) ∧ nm = (mf met).2.2) ∧ met2 = met + 1) else (b = true ∧ met2 = met)) : mkAt f len bg mf mn met ha2 at2 = if b = true then some met2 else none := by
  subst hn9
  unfold mkAt
  split at h
  · obtain ⟨rfl, rfl⟩ := h
    rename_i q
    rw [if_pos q]
    split
    · rename_i q2; rw [if_pos (decide_eq_true q2)]
    · rename_i q2; rw [if_neg (by rw [decide_eq_false q2]; decide)]
  · obtain ⟨rfl, rfl⟩ := h
    rename_i q
    rw [if_neg q, if_pos rfl]
end CHK
