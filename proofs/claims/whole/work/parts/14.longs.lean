/-! longs with a sign -/
def lI (z : Int) : Int64 := Int64.ofInt z
theorem lI_toInt {z : Int} (h1 : -9223372036854775808 ≤ z) (h2 : z < 9223372036854775808) : (lI z).toInt = z := by
  unfold lI
  rw [Int64.toInt_ofInt]
  show z.bmod 18446744073709551616 = z
  exact Int.bmod_eq_of_le (by omega) (by omega)
theorem lN_lI (n : Nat) : lN n = lI (n : Int) := by
  unfold lN lI
  apply Int64.toBitVec_inj.mp
  show BitVec.ofNat 64 n = BitVec.ofInt 64 (n : Int)
  exact (BitVec.ofInt_natCast 64 n).symm
theorem lI_add (a b : Int) : lI a + lI b = lI (a + b) := by
  unfold lI
  rw [Int64.ofInt_add]
theorem zj_lt {x y : Int64} {a b : Int} (hx : x = lI a) (hy : y = lI b) (h1 : -9223372036854775808 ≤ a) (h2 : a < 9223372036854775808) (h3 : -9223372036854775808 ≤ b) (h4 : b < 9223372036854775808) : x < y ↔ a < b := by
  subst hx; subst hy; rw [Int64.lt_iff_toInt_lt, lI_toInt h1 h2, lI_toInt h3 h4]
theorem zj_le {x y : Int64} {a b : Int} (hx : x = lI a) (hy : y = lI b) (h1 : -9223372036854775808 ≤ a) (h2 : a < 9223372036854775808) (h3 : -9223372036854775808 ≤ b) (h4 : b < 9223372036854775808) : x ≤ y ↔ a ≤ b := by
  subst hx; subst hy; rw [Int64.le_iff_toInt_le, lI_toInt h1 h2, lI_toInt h3 h4]
theorem zj_eq {x y : Int64} {a b : Int} (hx : x = lI a) (hy : y = lI b) (h1 : -9223372036854775808 ≤ a) (h2 : a < 9223372036854775808) (h3 : -9223372036854775808 ≤ b) (h4 : b < 9223372036854775808) : x = y ↔ a = b := by
  subst hx; subst hy
  constructor
  · intro h
    have := congrArg Int64.toInt h
    rwa [lI_toInt h1 h2, lI_toInt h3 h4] at this
  · intro h; rw [h]
theorem iI_l {z : Int} (h1 : -2147483648 ≤ z) (h2 : z < 2147483648) : (iI z).toInt64 = lI z := by
  apply Int64.toInt_inj.mp
  rw [Int32.toInt_toInt64, iI_toInt h1 h2, lI_toInt (by omega) (by omega)]
theorem lI_i (z : Int) : (lI z).toInt32 = iI z := by
  unfold lI iI
  rw [Int64.toInt32_ofInt]
theorem zc_cases (x y : Int64) : (y < x ∧ lg_cmp x y = 1) ∨ (x = y ∧ lg_cmp x y = 0) ∨ (x < y ∧ lg_cmp x y = -1) := by
  by_cases h1 : y < x
  · exact Or.inl ⟨h1, by simp [lg_cmp, h1]⟩
  · by_cases h2 : x = y
    · exact Or.inr (Or.inl ⟨h2, by subst h2; simp [lg_cmp]⟩)
    · refine Or.inr (Or.inr ⟨?_, by simp [lg_cmp, h1, h2]⟩)
      have h3 := Int64.not_lt.mp h1
      rw [Int64.lt_iff_toInt_lt]
      rw [Int64.le_iff_toInt_le] at h3
      have : x.toInt ≠ y.toInt := fun z => h2 (Int64.toInt_inj.mp z)
      omega
theorem zc_eq {x y : Int64} : lg_cmp x y = 0 ↔ x = y := by
  rcases zc_cases x y with ⟨h, e⟩ | ⟨h, e⟩ | ⟨h, e⟩ <;> rw [e]
  · exact ⟨fun z => absurd z (by decide), fun z => absurd (z ▸ h) (by rw [Int64.lt_iff_toInt_lt]; omega)⟩
  · exact ⟨fun _ => h, fun _ => rfl⟩
  · exact ⟨fun z => absurd z (by decide), fun z => absurd (z ▸ h) (by rw [Int64.lt_iff_toInt_lt]; omega)⟩
theorem zc_lt {x y : Int64} : lg_cmp x y < 0 ↔ x < y := by
  rcases zc_cases x y with ⟨h, e⟩ | ⟨h, e⟩ | ⟨h, e⟩ <;> rw [e]
  · exact ⟨fun z => absurd z (by decide), fun z => absurd z (by rw [Int64.lt_iff_toInt_lt] at h ⊢; omega)⟩
  · exact ⟨fun z => absurd z (by decide), fun z => absurd z (by rw [h, Int64.lt_iff_toInt_lt]; omega)⟩
  · exact ⟨fun _ => h, fun _ => by decide⟩
theorem zc_le {x y : Int64} : lg_cmp x y ≤ 0 ↔ x ≤ y := by
  rcases zc_cases x y with ⟨h, e⟩ | ⟨h, e⟩ | ⟨h, e⟩ <;> rw [e]
  · exact ⟨fun z => absurd z (by decide), fun z => absurd z (by rw [Int64.lt_iff_toInt_lt] at h; rw [Int64.le_iff_toInt_le]; omega)⟩
  · exact ⟨fun _ => by rw [h, Int64.le_iff_toInt_le]; omega, fun _ => by decide⟩
  · exact ⟨fun _ => by rw [Int64.lt_iff_toInt_lt] at h; rw [Int64.le_iff_toInt_le]; omega, fun _ => by decide⟩
theorem zc_ge {x y : Int64} : 0 ≤ lg_cmp x y ↔ y ≤ x := by
  rcases zc_cases x y with ⟨h, e⟩ | ⟨h, e⟩ | ⟨h, e⟩ <;> rw [e]
  · exact ⟨fun _ => by rw [Int64.lt_iff_toInt_lt] at h; rw [Int64.le_iff_toInt_le]; omega, fun _ => by decide⟩
  · exact ⟨fun _ => by rw [h, Int64.le_iff_toInt_le]; omega, fun _ => by decide⟩
  · exact ⟨fun z => absurd z (by decide), fun z => absurd z (by rw [Int64.lt_iff_toInt_lt] at h; rw [Int64.le_iff_toInt_le]; omega)⟩
theorem zc_gt {x y : Int64} : 0 < lg_cmp x y ↔ y < x := by
  rcases zc_cases x y with ⟨h, e⟩ | ⟨h, e⟩ | ⟨h, e⟩ <;> rw [e]
  · exact ⟨fun _ => h, fun _ => by decide⟩
  · exact ⟨fun z => absurd z (by decide), fun z => absurd z (by rw [h, Int64.lt_iff_toInt_lt]; omega)⟩
  · exact ⟨fun z => absurd z (by decide), fun z => absurd z (by rw [Int64.lt_iff_toInt_lt] at h ⊢; omega)⟩
theorem wA_mem {g : zT} {ed cap : Nat} {f : Nat → Option Nat} {T : va_W} (h : 0 < cap) : (ed, zOb g cap f) ∈ wA g ed cap f ++ T := by
  rw [wA_s h]
  exact List.mem_cons_self
