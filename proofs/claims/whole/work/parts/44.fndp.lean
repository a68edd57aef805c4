/-- looking for a name from a header on: the answer, and how many entries were looked at -/
def fndC (f : Nat → UInt8) (len : Nat) (key : List UInt8) : Nat → Nat → Nat → Nat → Nat → Nat → Nat → Int32 × Nat
  | 0, _, _, _, _, _, ps => (iI (-2), ps)
  | fu + 1, en, lf, ha, hn, st, ps =>
    match stepP f len en lf ha hn st with
    | none => (iI (-2), ps)
    | some (en2, lf2, ha2, hn2, st2, at2) =>
      if cmpB (nmA f len at2) key = 0 then (iI ((hn2 : Int) + s16 (U2 f len (at2 + 2))), ps + 1)
      else if 0 < cmpB (nmA f len at2) key then (iI (-2), ps + 1)
      else fndC f len key fu en2 lf2 ha2 hn2 st2 (ps + 1)
theorem fnd_n {f : Nat → UInt8} {len fu en lf ha hn st ps : Nat} {key : List UInt8} (h : stepP f len en lf ha hn st = none) : fndC f len key (fu + 1) en lf ha hn st ps = (iI (-2), ps) := by
  unfold fndC
  rw [h]
theorem fnd_s {f : Nat → UInt8} {len fu en lf ha hn st ps en2 lf2 ha2 hn2 st2 at2 : Nat} {key : List UInt8} (h : stepP f len en lf ha hn st = some (en2, lf2, ha2, hn2, st2, at2)) : fndC f len key (fu + 1) en lf ha hn st ps = if cmpB (nmA f len at2) key = 0 then (iI ((hn2 : Int) + s16 (U2 f len (at2 + 2))), ps + 1) else if 0 < cmpB (nmA f len at2) key then (iI (-2), ps + 1) else fndC f len key fu en2 lf2 ha2 hn2 st2 (ps + 1) := by
  conv => lhs; unfold fndC
  rw [h]
theorem fnd_ir {f : Nat → UInt8} {len fu en ha hn st ps : Nat} {key : List UInt8} : fndC f len key fu en 0 ha hn st ps = fndC f len key fu en 0 0 0 0 ps := by
  cases fu with
  | zero => rfl
  | succ fu => rfl
