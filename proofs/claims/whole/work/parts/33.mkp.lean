/-! making: the row, the headers, the indexes behind n entries -/
def mkF (b : Nat) (ef : Nat → zE) (rf : Nat → UInt8) : Nat → (Nat → UInt8)
  | 0 => rf
  | n + 1 => wrE b (layN b ef n) (mkF b ef rf n) (ef n)
def fitB (b : Nat) (ef : Nat → zE) (n : Nat) : Bool := layF b (layN b ef n).1 (layN b ef n).2.1 (layN b ef n).2.2.1 (layN b ef n).2.2.2.1 (layN b ef n).2.2.2.2.1 (ef n).2.1 (ef n).2.2.1
def hdN (b : Nat) (ef : Nat → zE) : Nat → Nat
  | 0 => 0
  | n + 1 => if fitB b ef n = true then hdN b ef n else hdN b ef n + 1
def mkL (b : Nat) (ef : Nat → zE) : Nat → List zM
  | 0 => []
  | n + 1 => if fitB b ef n = true ∨ (b + (layN b ef n).2.1) / 8192 = (b + (layN b ef n).2.2.1) / 8192 then mkL b ef n else mkL b ef n ++ [(nI (layN b ef n).2.1, nI (8194 * ((b + (layN b ef n).2.1) / 8192)), (ef n).1)]
theorem layR_F {b : Nat} {S S' : zS} {x y : Nat} (h : layR S S') : layF b S.1 S.2.1 S.2.2.1 S.2.2.2.1 S.2.2.2.2.1 x y = layF b S'.1 S'.2.1 S'.2.2.1 S'.2.2.2.1 S'.2.2.2.2.1 x y := by
  rcases h with h | ⟨h1, h2, h3, h4⟩
  · rw [h]
  · rw [h3, h4, layF_0, layF_0]
theorem wrE_R {b : Nat} {S S' : zS} {f : Nat → UInt8} {e : zE} (h : layR S S') : wrE b S f e = wrE b S' f e := by
  rcases h with h | ⟨h1, h2, h3, h4⟩
  · rw [h]
  · unfold wrE
    rw [h3, h4, layF_0, layF_0, if_neg (by decide), if_neg (by decide), h1]
/-- the addresses of the indexes, and what they are -/
def isMks (g : zT) (w : va_W) (xs : List Nat) (ml : List zM) : Prop := xs.length = ml.length ∧ ∀ (j a : Nat) (m : zM), xs[j]? = some a → ml[j]? = some m → isMark g w a m
theorem isMks_0 {g : zT} {w : va_W} : isMks g w [] [] := ⟨rfl, fun j a m h => by simp at h⟩
theorem isMks.mono {g : zT} {w w' : va_W} {xs : List Nat} {ml : List zM} (h : isMks g w xs ml) (hs : ∀ q ∈ w, q ∈ w') : isMks g w' xs ml := ⟨h.1, fun j a m h1 h2 => (h.2 j a m h1 h2).mono hs⟩
theorem isMks.add {g : zT} {w : va_W} {xs : List Nat} {ml : List zM} {q : Nat} {k : zM} (h : isMks g w xs ml) (hq : isMark g w q k) : isMks g w (xs ++ [q]) (ml ++ [k]) := by
  refine ⟨by simp [h.1], fun j a m h1 h2 => ?_⟩
  by_cases hj : j < xs.length
  · rw [List.getElem?_append_left hj] at h1
    rw [List.getElem?_append_left (by rw [← h.1]; exact hj)] at h2
    exact h.2 j a m h1 h2
  · rw [List.getElem?_append_right (by omega)] at h1
    rw [List.getElem?_append_right (by rw [← h.1]; omega)] at h2
    have e1 : j - xs.length = 0 := by
      have := (List.getElem?_eq_some_iff.mp h1).1
      simp at this
      omega
    have e2 : j - ml.length = 0 := by rw [← h.1]; exact e1
    rw [e1] at h1
    rw [e2] at h2
    cases h1
    cases h2
    exact hq
theorem isMks.el {g : zT} {w : va_W} {xs : List Nat} {ml : List zM} (h : isMks g w xs ml) : ∀ z ∈ xs, zel w z := by
  intro z hz
  obtain ⟨j, hj⟩ := List.getElem?_of_mem hz
  have hl : j < ml.length := by rw [← h.1]; exact (List.getElem?_eq_some_iff.mp hj).1
  exact (h.2 j z ml[j] hj (List.getElem?_eq_getElem hl)).el
theorem layN_mono {b : Nat} {ef : Nat → zE} {i n : Nat} (h : i ≤ n) : (layN b ef i).2.1 ≤ (layN b ef n).2.1 := by
  induction n with
  | zero => rw [Nat.le_zero.mp h]; exact Nat.le_refl _
  | succ n ih =>
    rcases Nat.lt_or_ge n i with q | q
    · rw [show i = n + 1 by omega]; exact Nat.le_refl _
    · refine Nat.le_trans (ih q) ?_
      show _ ≤ (layS b (layN b ef n) (ef n)).2.1
      unfold layS
      split
      · show _ ≤ (layN b ef n).2.1 + _; omega
      · show _ ≤ (layN b ef n).2.1 + 12 + _; omega
theorem layN_s {b : Nat} {ef : Nat → zE} {i : Nat} : fitB b ef i = true ∧ layN b ef (i + 1) = ((layN b ef i).1, (layN b ef i).2.1 + (8 + (ef i).1.length), (layN b ef i).2.2.1, (layN b ef i).2.2.2.1, (layN b ef i).2.2.2.2.1 + 1, (layN b ef i).2.1) ∨ ¬ fitB b ef i = true ∧ layN b ef (i + 1) = ((ef i).2.2.1, (layN b ef i).2.1 + 12 + (8 + (ef i).1.length), (layN b ef i).2.1, (ef i).2.1, 1, (layN b ef i).2.1 + 12) := by
  by_cases h : fitB b ef i = true
  · exact Or.inl ⟨h, if_pos h⟩
  · exact Or.inr ⟨h, if_neg h⟩
/-- indexes are few: each begins a further piece -/
theorem mkL_few {b : Nat} {ef : Nat → zE} {n : Nat} (h : ∀ j, j < n → okE (ef j)) : (mkL b ef n).length ≤ (b + (layN b ef n).2.2.1) / 8192 := by
  induction n with
  | zero => exact Nat.zero_le _
  | succ n ih =>
    have i1 := ih (fun j hj => h j (by omega))
    have i2 := layN_bd (b := b) (fun j hj => h j (Nat.lt_succ_of_lt hj))
    show (if fitB b ef n = true ∨ (b + (layN b ef n).2.1) / 8192 = (b + (layN b ef n).2.2.1) / 8192 then mkL b ef n else mkL b ef n ++ [(nI (layN b ef n).2.1, nI (8194 * ((b + (layN b ef n).2.1) / 8192)), (ef n).1)]).length ≤ _
    rcases @layN_s b ef n with ⟨q1, q2⟩ | ⟨q1, q2⟩
    · rw [if_pos (Or.inl q1), q2]
      exact i1
    · rw [q2]
      show _ ≤ (b + (layN b ef n).2.1) / 8192
      split
      · rename_i q3
        rcases q3 with q3 | q3
        · exact absurd q3 q1
        · omega
      · rename_i q3
        rw [List.length_append]
        show _ + 1 ≤ _
        have q4 : ¬ (b + (layN b ef n).2.1) / 8192 = (b + (layN b ef n).2.2.1) / 8192 := fun z => q3 (Or.inr z)
        have q5 : (b + (layN b ef n).2.2.1) / 8192 ≤ (b + (layN b ef n).2.1) / 8192 := Nat.div_le_div_right (by omega)
        omega
theorem hdN_le {b : Nat} {ef : Nat → zE} {n : Nat} : hdN b ef n ≤ n := by
  induction n with
  | zero => exact Nat.le_refl _
  | succ n ih =>
    show (if fitB b ef n = true then hdN b ef n else hdN b ef n + 1) ≤ _
    split <;> omega
