/-! the layout as a fold: header's start, end, header's place, number, entries, entry's place -/
abbrev zS : Type := Nat × Nat × Nat × Nat × Nat × Nat
def layS (b : Nat) (S : zS) (e : zE) : zS :=
  if layF b S.1 S.2.1 S.2.2.1 S.2.2.2.1 S.2.2.2.2.1 e.2.1 e.2.2.1 = true then (S.1, S.2.1 + (8 + e.1.length), S.2.2.1, S.2.2.2.1, S.2.2.2.2.1 + 1, S.2.1)
  else (e.2.2.1, S.2.1 + 12 + (8 + e.1.length), S.2.1, e.2.1, 1, S.2.1 + 12)
def layN (b : Nat) (ef : Nat → zE) : Nat → zS
  | 0 => (0, 0, 0, 0, 0, 0)
  | n + 1 => layS b (layN b ef n) (ef n)
def layR (S S' : zS) : Prop := S = S' ∨ (S.2.1 = S'.2.1 ∧ S.2.2.1 = S'.2.2.1 ∧ S.2.2.2.2.1 = 0 ∧ S'.2.2.2.2.1 = 0)
theorem layF_0 {b hs en ha hn num st : Nat} : layF b hs en ha hn 0 num st = false := decide_eq_false (by omega)
theorem layR_s {b : Nat} {S S' : zS} {e : zE} (h : layR S S') : layS b S e = layS b S' e := by
  rcases h with h | ⟨h1, h2, h3, h4⟩
  · rw [h]
  · unfold layS
    rw [h3, h4, layF_0, layF_0, if_neg (by decide), if_neg (by decide), h1]
theorem layR_e {S S' : zS} (h : layR S S') : S.2.1 = S'.2.1 := by
  rcases h with h | h
  · rw [h]
  · exact h.1
theorem layR_a {S S' : zS} (h : layR S S') : S.2.2.1 = S'.2.2.1 := by
  rcases h with h | h
  · rw [h]
  · exact h.2.1
theorem layR_h {S S' : zS} (h : layR S S') : S.2.2.2.2.1 = S'.2.2.2.2.1 := by
  rcases h with h | h
  · rw [h]
  · rw [h.2.2.1, h.2.2.2]
/-- entries whose numbers are as said -/
def okE (e : zE) : Prop := 1 ≤ e.1.length ∧ e.1.length ≤ 256 ∧ 1 ≤ e.2.1 ∧ e.2.1 ≤ 100000 ∧ e.2.2.1 ≤ 65535 ∧ e.2.2.2.1 ≤ 8191 ∧ 1 ≤ e.2.2.2.2 ∧ e.2.2.2.2 ≤ 7
theorem layN_bd {b : Nat} {ef : Nat → zE} {n : Nat} (h : ∀ j, j < n → okE (ef j)) : (layN b ef n).2.1 ≤ 276 * n ∧ (layN b ef n).2.2.1 ≤ (layN b ef n).2.1 ∧ (layN b ef n).2.2.2.2.1 ≤ n := by
  induction n with
  | zero => exact ⟨Nat.le_refl _, Nat.le_refl _, Nat.le_refl _⟩
  | succ n ih =>
    obtain ⟨i1, i2, i3⟩ := ih (fun j hj => h j (by omega))
    have h1 := h n (Nat.lt_succ_self n)
    unfold okE at h1
    show (layS b (layN b ef n) (ef n)).2.1 ≤ _ ∧ _ ∧ _
    unfold layS
    split
    · refine ⟨?_, ?_, ?_⟩
      · show (layN b ef n).2.1 + (8 + (ef n).1.length) ≤ _; omega
      · show (layS b (layN b ef n) (ef n)).2.2.1 ≤ (layS b (layN b ef n) (ef n)).2.1
        unfold layS
        rename_i q
        rw [if_pos q]
        show (layN b ef n).2.2.1 ≤ (layN b ef n).2.1 + (8 + (ef n).1.length); omega
      · show (layS b (layN b ef n) (ef n)).2.2.2.2.1 ≤ _
        unfold layS
        rename_i q
        rw [if_pos q]
        show (layN b ef n).2.2.2.2.1 + 1 ≤ _; omega
    · refine ⟨?_, ?_, ?_⟩
      · show (layN b ef n).2.1 + 12 + (8 + (ef n).1.length) ≤ _; omega
      · show (layS b (layN b ef n) (ef n)).2.2.1 ≤ (layS b (layN b ef n) (ef n)).2.1
        unfold layS
        rename_i q
        rw [if_neg q]
        show (layN b ef n).2.1 ≤ (layN b ef n).2.1 + 12 + (8 + (ef n).1.length); omega
      · show (layS b (layN b ef n) (ef n)).2.2.2.2.1 ≤ _
        unfold layS
        rename_i q
        rw [if_neg q]
        show 1 ≤ _; omega
