theorem zi_lt {x y : Int32} {a b : Int} (hx : x = iI a) (hy : y = iI b) (h1 : -2147483648 ≤ a) (h2 : a < 2147483648) (h3 : -2147483648 ≤ b) (h4 : b < 2147483648) : x < y ↔ a < b := by
  subst hx; subst hy; exact iI_lt h1 h2 h3 h4
theorem zi_le {x y : Int32} {a b : Int} (hx : x = iI a) (hy : y = iI b) (h1 : -2147483648 ≤ a) (h2 : a < 2147483648) (h3 : -2147483648 ≤ b) (h4 : b < 2147483648) : x ≤ y ↔ a ≤ b := by
  subst hx; subst hy; exact iI_le h1 h2 h3 h4
theorem zi_eq {x y : Int32} {a b : Int} (hx : x = iI a) (hy : y = iI b) (h1 : -2147483648 ≤ a) (h2 : a < 2147483648) (h3 : -2147483648 ≤ b) (h4 : b < 2147483648) : x = y ↔ a = b := by
  subst hx; subst hy; exact iI_eq h1 h2 h3 h4
theorem zi_rg (x : Int32) : -2147483648 ≤ x.toInt ∧ x.toInt < 2147483648 := by
  have h1 := x.le_toInt
  have h2 := x.toInt_lt
  constructor <;> omega
def bI (b : Bool) : Int32 := if b then nI 1 else nI 0
theorem bI_t {b : Bool} (h : b = true) : nI 1 = bI b := by rw [h]; rfl
theorem bI_f {b : Bool} (h : b = false) : nI 0 = bI b := by rw [h]; rfl
theorem bI_or (b : Bool) : bI b = 0 ∨ bI b = 1 := by cases b; exact Or.inl rfl; exact Or.inr rfl
theorem bI_ne {b : Bool} : ¬ bI b = 0 ↔ b = true := by cases b <;> decide
theorem bI_eq {b : Bool} : bI b = 0 ↔ b = false := by cases b <;> decide
theorem zl_e (f : Nat → UInt8) (a n : Nat) : zl f a (n + 1) = zl f a n ++ [f (a + n)] := by
  unfold zl
  rw [List.range_succ, List.map_append]
  rfl
/-- a name -/
def isNm (xs : List UInt8) : Bool := decide (1 ≤ xs.length ∧ xs.length ≤ 256 ∧ (∀ x ∈ xs, x ≠ 0 ∧ x ≠ 47) ∧ (xs.count 46 < xs.length ∨ 2 < xs.length))
/-- the numbers of an entry are as said -/
def canH (n s p k : Int) : Bool := decide (1 ≤ n ∧ n ≤ 100000 ∧ 0 ≤ s ∧ s ≤ 65535 ∧ 0 ≤ p ∧ p ≤ 8191 ∧ 1 ≤ k ∧ k ≤ 7)
/-- byte i of a long -/
def fB (b : Int64) (i : Nat) : UInt8 := zu ((b >>> ((nI (8 * i)).toInt64 &&& 63)).toInt32)
def layF (b hs en ha hn he num st : Nat) : Bool := decide (0 < he ∧ he < 256 ∧ st = hs ∧ -32768 ≤ (num : Int) - (hn : Int) ∧ (num : Int) - (hn : Int) ≤ 32767 ∧ (b + en) / 8192 = (b + ha) / 8192)
theorem zl_fed {f f2 : Nat → UInt8} {n k : Nat} {h : Nat → UInt8} (h1 : ∀ j, j < n → f2 j = f j) (h2 : ∀ i, i < k → f2 (n + i) = h i) : zl f2 0 (n + k) = zl f 0 n ++ (List.range k).map h := by
  apply List.ext_getElem?
  intro i
  rw [List.getElem?_append]
  simp only [zl, List.getElem?_map, List.length_map, List.length_range]
  by_cases q : i < n
  · rw [if_pos q, List.getElem?_range (by omega), List.getElem?_range q]
    simp [h1 i q]
  · rw [if_neg q]
    by_cases q2 : i < n + k
    · rw [List.getElem?_range q2, List.getElem?_range (by omega)]
      have := h2 (i - n) (by omega)
      rw [show n + (i - n) = i by omega] at this
      simp [this]
    · rw [List.getElem?_eq_none (by simpa using q2), List.getElem?_eq_none (by simp; omega)]
      rfl
theorem sb_eq {u : UInt8} {n : Nat} (hn : n < 128) : sb u = nI n ↔ u = UInt8.ofNat n := by
  have key : ∀ n : Nat, n < 128 → sb (UInt8.ofNat n) = nI n := by decide +kernel
  rw [← key n hn]
  exact ⟨sb_inj, fun h => by rw [h]⟩
