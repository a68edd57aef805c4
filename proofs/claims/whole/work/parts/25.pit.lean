/-- the walk from a header on, step by step -/
def pIt (f : Nat → UInt8) (len e0 : Nat) : Nat → Option (Nat × Nat × Nat × Nat × Nat × Nat)
  | 0 => some (e0, 0, 0, 0, 0, 0)
  | n + 1 => match pIt f len e0 n with
    | none => none
    | some (en, lf, ha, hn, st, _) => stepP f len en lf ha hn st
theorem pIt_s {f : Nat → UInt8} {len e0 n en lf ha hn st at2 : Nat} (h : pIt f len e0 n = some (en, lf, ha, hn, st, at2)) : pIt f len e0 (n + 1) = stepP f len en lf ha hn st := by
  show (match pIt f len e0 n with | none => none | some (en, lf, ha, hn, st, _) => stepP f len en lf ha hn st) = _
  rw [h]
theorem pIt_n {f : Nat → UInt8} {len e0 n : Nat} (h : pIt f len e0 n = none) : pIt f len e0 (n + 1) = none := by
  show (match pIt f len e0 n with | none => none | some (en, lf, ha, hn, st, _) => stepP f len en lf ha hn st) = _
  rw [h]
theorem pIt_le {f : Nat → UInt8} {len e0 n m : Nat} (h : m ≤ n) (hn : pIt f len e0 n ≠ none) : pIt f len e0 m ≠ none := by
  induction n with
  | zero => rw [Nat.le_zero.mp h]; exact hn
  | succ n ih =>
    rcases Nat.lt_or_ge n m with q | q
    · rw [show m = n + 1 by omega]; exact hn
    · exact ih q (fun z => hn (pIt_n z))
