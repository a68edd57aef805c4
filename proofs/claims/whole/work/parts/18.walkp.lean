/-! the walk over bytes that may be a listing -/
def s16 (n : Nat) : Int := if n < 32768 then (n : Int) else (n : Int) - 65536
theorem s16_rg {n : Nat} (h : n < 65536) : -32768 ≤ s16 n ∧ s16 n < 32768 := by
  unfold s16
  split <;> omega
theorem nI_s {n : Nat} (h : n < 65536) : (nI n).toInt16.toInt32 = iI (s16 n) := by
  have hr := s16_rg h
  apply Int32.toInt_inj.mp
  rw [Int16.toInt_toInt32, Int32.toInt_toInt16, nI_toInt (by omega), iI_toInt (by omega) (by omega)]
  unfold s16
  show Int.bmod (n : Int) 65536 = _
  rw [Int.bmod_eq_emod]
  by_cases q : n < 32768
  · rw [if_pos q, if_neg (by omega)]
    omega
  · rw [if_neg q, if_pos (by omega)]
    omega
/-- the next entry: behind it, entries left, its header's place, number and start, its own place -/
def stepP (f : Nat → UInt8) (len en lf ha hn st : Nat) : Option (Nat × Nat × Nat × Nat × Nat × Nat) :=
  if lf = 0 then
    if en + 12 ≤ len ∧ U4 f len en < 256 ∧ en + 12 + 8 ≤ len ∧ en + 12 + 9 + U2 f len (en + 12 + 6) ≤ len then some (en + 12 + 9 + U2 f len (en + 12 + 6), U4 f len en, en, U4 f len (en + 8), U4 f len (en + 4), en + 12) else none
  else if en + 8 ≤ len ∧ en + 9 + U2 f len (en + 6) ≤ len then some (en + 9 + U2 f len (en + 6), lf - 1, ha, hn, st, en) else none
