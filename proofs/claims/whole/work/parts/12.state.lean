/-! entries: name, number, start, place, kind -/
abbrev zE : Type := List UInt8 × Nat × Nat × Nat × Nat
def isEnt (g : zT) (ws : va_W) (a : Nat) (e : zE) : Prop := ∃ (nm : Nat) (nf : Nat → UInt8), (a, zo 9 [.ref nm, .int (nI e.2.1), .int (nI e.2.2.1), .int (nI e.2.2.2.1), .int (nI e.2.2.2.2)]) ∈ ws ∧ (nm, zBy g e.1.length nf) ∈ ws ∧ zl nf 0 e.1.length = e.1
theorem isEnt.mono {g : zT} {w w' : va_W} {a : Nat} {e : zE} (h : isEnt g w a e) (hs : ∀ q ∈ w, q ∈ w') : isEnt g w' a e := by
  obtain ⟨nm, nf, h1, h2, h3⟩ := h
  exact ⟨nm, nf, hs _ h1, hs _ h2, h3⟩
theorem isEnt.el {g : zT} {w : va_W} {a : Nat} {e : zE} (h : isEnt g w a e) : zel w a := by
  obtain ⟨nm, nf, h1, -⟩ := h
  exact Or.inl ⟨_, h1⟩
theorem cmpB_rg {xs ys : List UInt8} (h1 : xs.length < 2 ^ 20) (h2 : ys.length < 2 ^ 20) : -2147483648 ≤ cmpB xs ys ∧ cmpB xs ys < 2147483648 := by
  have := cmpB_bd xs ys
  omega
