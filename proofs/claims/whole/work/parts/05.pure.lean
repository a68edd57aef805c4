/-! PURE: numbers with a sign, stretches of bytes, their order -/
def iI (z : Int) : Int32 := Int32.ofInt z
theorem iI_toInt {z : Int} (h1 : -2147483648 ≤ z) (h2 : z < 2147483648) : (iI z).toInt = z := by
  unfold iI
  rw [Int32.toInt_ofInt]
  show z.bmod 4294967296 = z
  exact Int.bmod_eq_of_le (by omega) (by omega)
theorem nI_iI (n : Nat) : nI n = iI (n : Int) := by
  unfold nI iI
  apply Int32.toBitVec_inj.mp
  show BitVec.ofNat 32 n = BitVec.ofInt 32 (n : Int)
  exact (BitVec.ofInt_natCast 32 n).symm
theorem iI_sub (a b : Int) : iI a - iI b = iI (a - b) := by
  unfold iI
  rw [Int32.ofInt_sub]
theorem iI_add (a b : Int) : iI a + iI b = iI (a + b) := by
  unfold iI
  rw [Int32.ofInt_add]
theorem nI_sub (a b : Nat) : nI a - nI b = iI ((a : Int) - b) := by
  rw [nI_iI, nI_iI, iI_sub]
theorem iI_0 : iI 0 = 0 := by decide
theorem iI_eq {a b : Int} (h1 : -2147483648 ≤ a) (h2 : a < 2147483648) (h3 : -2147483648 ≤ b) (h4 : b < 2147483648) : iI a = iI b ↔ a = b := by
  constructor
  · intro h
    have := congrArg Int32.toInt h
    rwa [iI_toInt h1 h2, iI_toInt h3 h4] at this
  · intro h; rw [h]
theorem iI_lt {a b : Int} (h1 : -2147483648 ≤ a) (h2 : a < 2147483648) (h3 : -2147483648 ≤ b) (h4 : b < 2147483648) : iI a < iI b ↔ a < b := by
  rw [Int32.lt_iff_toInt_lt, iI_toInt h1 h2, iI_toInt h3 h4]
theorem iI_le {a b : Int} (h1 : -2147483648 ≤ a) (h2 : a < 2147483648) (h3 : -2147483648 ≤ b) (h4 : b < 2147483648) : iI a ≤ iI b ↔ a ≤ b := by
  rw [Int32.le_iff_toInt_le, iI_toInt h1 h2, iI_toInt h3 h4]
theorem iI_eq0 {a : Int} (h1 : -2147483648 ≤ a) (h2 : a < 2147483648) : iI a = 0 ↔ a = 0 := by
  rw [← iI_0]; exact iI_eq h1 h2 (by decide) (by decide)
theorem iI_lt0 {a : Int} (h1 : -2147483648 ≤ a) (h2 : a < 2147483648) : iI a < 0 ↔ a < 0 := by
  rw [← iI_0]; exact iI_lt h1 h2 (by decide) (by decide)
theorem iI_gt0 {a : Int} (h1 : -2147483648 ≤ a) (h2 : a < 2147483648) : 0 < iI a ↔ 0 < a := by
  rw [← iI_0]; exact iI_lt (by decide) (by decide) h1 h2
theorem iI_le0 {a : Int} (h1 : -2147483648 ≤ a) (h2 : a < 2147483648) : iI a ≤ 0 ↔ a ≤ 0 := by
  rw [← iI_0]; exact iI_le h1 h2 (by decide) (by decide)
theorem iI_ge0 {a : Int} (h1 : -2147483648 ≤ a) (h2 : a < 2147483648) : 0 ≤ iI a ↔ 0 ≤ a := by
  rw [← iI_0]; exact iI_le (by decide) (by decide) h1 h2
theorem iI_of (x : Int32) : x = iI x.toInt := by
  unfold iI
  rw [Int32.ofInt_toInt]
theorem u8_lt (u : UInt8) : u.toNat < 256 := u.toNat_lt
theorem u8_eq {u v : UInt8} : u = v ↔ u.toNat = v.toNat := UInt8.toNat_inj.symm
/-- a stretch of bytes -/
def zl (f : Nat → UInt8) (a n : Nat) : List UInt8 := (List.range n).map (fun i => f (a + i))
theorem zl_len (f : Nat → UInt8) (a n : Nat) : (zl f a n).length = n := by simp [zl]
theorem zl_0 (f : Nat → UInt8) (a : Nat) : zl f a 0 = [] := rfl
theorem zl_s (f : Nat → UInt8) (a n : Nat) : zl f a (n + 1) = f a :: zl f (a + 1) n := by
  unfold zl
  rw [List.range_succ_eq_map, List.map_cons, List.map_map]
  congr 1
  apply List.map_congr_left
  intro i _
  show f (a + (i + 1)) = f (a + 1 + i)
  congr 1
  omega
/-- the order of names: below, at or above 0 -/
def cmpB : List UInt8 → List UInt8 → Int
  | [], ys => -(ys.length : Int)
  | x :: xs, [] => ((x :: xs).length : Int)
  | x :: xs, y :: ys => if x = y then cmpB xs ys else (x.toNat : Int) - (y.toNat : Int)
theorem cmpB_e {xs ys : List UInt8} (h : xs = [] ∨ ys = []) : cmpB xs ys = (xs.length : Int) - (ys.length : Int) := by
  cases xs with
  | nil => simp [cmpB]
  | cons x xs =>
    cases ys with
    | nil => simp [cmpB]
    | cons y ys => rcases h with h | h <;> cases h
theorem cmpB_bd : ∀ xs ys : List UInt8, -(ys.length : Int) - 256 < cmpB xs ys ∧ cmpB xs ys < (xs.length : Int) + 256
  | [], ys => by simp [cmpB]; omega
  | x :: xs, [] => by simp [cmpB]; omega
  | x :: xs, y :: ys => by
    have h := cmpB_bd xs ys
    have h1 := u8_lt x
    have h2 := u8_lt y
    simp only [cmpB, List.length_cons]
    split <;> omega
theorem cmpB_at {f h : Nat → UInt8} {a b n k i : Nat} (hi : i < n) (hj : i < k) : cmpB (zl f (a + i) (n - i)) (zl h (b + i) (k - i)) = if f (a + i) = h (b + i) then cmpB (zl f (a + (i + 1)) (n - (i + 1))) (zl h (b + (i + 1)) (k - (i + 1))) else ((f (a + i)).toNat : Int) - ((h (b + i)).toNat : Int) := by
  obtain ⟨n', e1⟩ : ∃ n', n - i = n' + 1 := ⟨n - i - 1, by omega⟩
  obtain ⟨k', e2⟩ : ∃ k', k - i = k' + 1 := ⟨k - i - 1, by omega⟩
  rw [e1, e2, zl_s, zl_s, show n - (i + 1) = n' by omega, show k - (i + 1) = k' by omega]
  rfl
theorem cmpB_end {f h : Nat → UInt8} {a b n k i : Nat} (hi : n ≤ i ∨ k ≤ i) : cmpB (zl f (a + i) (n - i)) (zl h (b + i) (k - i)) = ((n - i : Nat) : Int) - ((k - i : Nat) : Int) := by
  rw [cmpB_e, zl_len, zl_len]
  rcases hi with hi | hi
  · left; rw [show n - i = 0 by omega]; rfl
  · right; rw [show k - i = 0 by omega]; rfl
