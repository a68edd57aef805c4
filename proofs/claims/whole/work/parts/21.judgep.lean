/-! the check, as one pass -/
def knB (kl : List zE) (z : Int) (st pl kd : Nat) : Bool := kl.any (fun e => decide ((e.2.1 : Int) = z ∧ e.2.2.1 = st ∧ e.2.2.2.1 = pl ∧ e.2.2.2.2 = kd))
theorem knB_iff {kl : List zE} {kf : Nat → zE} {n : Nat} (hn : kl.length = n) (hk : ∀ j, j < n → kl[j]? = some (kf j)) {z : Int} {st pl kd : Nat} : knB kl z st pl kd = true ↔ ∃ j, j < n ∧ ((kf j).2.1 : Int) = z ∧ (kf j).2.2.1 = st ∧ (kf j).2.2.2.1 = pl ∧ (kf j).2.2.2.2 = kd := by
  unfold knB
  rw [List.any_eq_true]
  constructor
  · rintro ⟨e, he, hd⟩
    obtain ⟨j, hj⟩ := List.getElem?_of_mem he
    have hl : j < n := by rw [← hn]; exact (List.getElem?_eq_some_iff.mp hj).1
    have e1 := hk j hl
    rw [hj] at e1
    cases e1
    exact ⟨j, hl, of_decide_eq_true hd⟩
  · rintro ⟨j, hj, hd⟩
    exact ⟨kf j, List.mem_of_getElem? (hk j hj), decide_eq_true hd⟩
theorem cmpB_0 : ∀ {xs ys : List UInt8}, cmpB xs ys = 0 ↔ xs = ys
  | [], [] => by simp [cmpB]
  | [], y :: ys => by simp [cmpB]; omega
  | x :: xs, [] => by simp [cmpB]; omega
  | x :: xs, y :: ys => by
    have ih := @cmpB_0 xs ys
    simp only [cmpB]
    by_cases h : x = y
    · rw [if_pos h, ih]
      constructor
      · intro q; rw [h, q]
      · intro q; cases q; rfl
    · rw [if_neg h]
      constructor
      · intro q
        exact absurd (u8_eq.mpr (by omega)) h
      · intro q; cases q; exact absurd rfl h
/-- the name of the entry at a place -/
def nmA (f : Nat → UInt8) (len i : Nat) : List UInt8 := zl f (i + 8) (U2 f len (i + 6) + 1)
/-- an entry's own rightness, behind the last name -/
def entR (f : Nat → UInt8) (len : Nat) (kl : List zE) (last : List UInt8) (hn st i : Nat) : Bool := isNm (nmA f len i) && decide (0 < cmpB (nmA f len i) last) && knB kl ((hn : Int) + s16 (U2 f len (i + 2))) st (U2 f len i) (U2 f len (i + 4))
/-- the index that is due at a header: none of its business, wrong, or met -/
def mkAt (f : Nat → UInt8) (len bg : Nat) (mf : Nat → zM) (mn met ha i : Nat) : Option Nat :=
  if met < mn ∧ (mf met).1 = nI ha then (if (mf met).2.1 = nI (8194 * ((bg + ha) / 8192)) ∧ nmA f len i = (mf met).2.2 then some (met + 1) else none) else some met
def chkC (f : Nat → UInt8) (len bg : Nat) (kl : List zE) (mf : Nat → zM) (mn : Nat) : Nat → Nat → Nat → Nat → Nat → Nat → Nat → List UInt8 → Nat → Int
  | 0, _, _, _, _, _, _, _, _ => -2
  | fu + 1, i, en, lf, ha, hn, st, last, met =>
    if lf = 0 ∧ en = len then (if met = mn then (i : Int) else -2)
    else match stepP f len en lf ha hn st with
      | none => -2
      | some (en2, lf2, ha2, hn2, st2, at2) =>
        if entR f len kl last hn2 st2 at2 = true then
          (if lf = 0 ∧ 0 < ha2 then
            (match mkAt f len bg mf mn met ha2 at2 with
             | none => -2
             | some met2 => chkC f len bg kl mf mn fu (i + 1) en2 lf2 ha2 hn2 st2 (nmA f len at2) met2)
          else chkC f len bg kl mf mn fu (i + 1) en2 lf2 ha2 hn2 st2 (nmA f len at2) met)
        else -2
