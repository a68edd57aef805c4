/-! the reference's rows as entries, indexes, names -/
def nmE (nmb : Nat → UInt8) (nsz : Nat → Nat) (j : Nat) : List UInt8 := zl nmb (256 * j) (nsz j)
def ofT (tb : Nat → UInt8) (n : Nat) (nmb : Nat → UInt8) (nsz : Nat → Nat) : Nat → Bool := fun j => decide (zl tb 0 n = nmE nmb nsz j)
def mdE (nmb : Nat → UInt8) (nsz num sta pla kin : Nat → Nat) (j : Nat) : zE := (nmE nmb nsz j, num j, sta j, pla j, kin j)
def mdO (nmb : Nat → UInt8) (nsz num sta pla kin od : Nat → Nat) : Nat → zE := fun k => mdE nmb nsz num sta pla kin (od k)
def mdM (ipl ist : Nat → Int32) (isz : Nat → Nat) (inm : Nat → UInt8) : Nat → zM := fun j => (ipl j, ist j, zl inm (256 * j) (isz j))
theorem ordN_s {nm : Nat → List UInt8} {ne e : Nat} {od : Nat → Nat} : ordN nm ne od (e + 1) = upN (ordN nm ne od e) (rkN nm e ne) e := rfl
/-- no byte that a name may not hold -/
def okc (f : Nat → UInt8) (a k : Nat) : Prop := ∀ j, j < k → (f (a + j)).toNat ≠ 0 ∧ (f (a + j)).toNat ≠ 47
def nmQ (f : Nat → UInt8) (a n : Nat) : Prop := 1 ≤ n ∧ n ≤ 256 ∧ ¬ (n < 3 ∧ (f a).toNat = 46 ∧ (f (a + (n - 1))).toNat = 46)
theorem u8_n {u : UInt8} (n : Nat) (hn : n < 256) : u = UInt8.ofNat n ↔ u.toNat = n := by
  rw [u8_eq, UInt8.toNat_ofNat', Nat.mod_eq_of_lt (by simpa using hn)]
theorem zl_at {f : Nat → UInt8} {a n i : Nat} (h : i < n) : (zl f a n)[i]? = some (f (a + i)) := by
  unfold zl
  rw [List.getElem?_map, List.getElem?_range h]
  rfl
theorem zl_ext {f h : Nat → UInt8} {a b n k : Nat} : zl f a n = zl h b k ↔ n = k ∧ ∀ j, j < n → f (a + j) = h (b + j) := by
  constructor
  · intro e
    have el : n = k := by
      have := congrArg List.length e
      rwa [zl_len, zl_len] at this
    subst el
    refine ⟨rfl, fun j hj => ?_⟩
    have := congrArg (fun x => x[j]?) e
    simp only [zl_at hj] at this
    exact Option.some.inj this
  · rintro ⟨rfl, hh⟩
    unfold zl
    apply List.map_congr_left
    intro i hi
    exact hh i (List.mem_range.mp hi)
theorem isNm_iff {f : Nat → UInt8} {a n : Nat} : isNm (zl f a n) = true ↔ nmQ f a n ∧ okc f a n := by
  unfold isNm nmQ okc
  rw [decide_eq_true_iff, zl_len]
  have hall : (∀ x ∈ zl f a n, x ≠ 0 ∧ x ≠ 47) ↔ ∀ j, j < n → (f (a + j)).toNat ≠ 0 ∧ (f (a + j)).toNat ≠ 47 := by
    unfold zl
    simp only [List.mem_map, List.mem_range]
    constructor
    · intro h j hj
      obtain ⟨h1, h2⟩ := h _ ⟨j, hj, rfl⟩
      exact ⟨fun z => h1 ((u8_n 0 (by decide)).mpr z), fun z => h2 ((u8_n 47 (by decide)).mpr z)⟩
    · rintro h x ⟨j, hj, rfl⟩
      obtain ⟨h1, h2⟩ := h j hj
      exact ⟨fun z => h1 ((u8_n 0 (by decide)).mp z), fun z => h2 ((u8_n 47 (by decide)).mp z)⟩
  rw [hall]
  have hcnt : 1 ≤ n → ((zl f a n).count 46 < n ∨ 2 < n ↔ ¬ (n < 3 ∧ (f a).toNat = 46 ∧ (f (a + (n - 1))).toNat = 46)) := by
    intro h1
    by_cases h3 : 2 < n
    · constructor
      · intro _ z; omega
      · intro _; exact Or.inr h3
    · have e46 : ∀ u : UInt8, u.toNat = 46 ↔ u = 46 := fun u => (u8_n 46 (by decide)).symm
      rw [e46, e46]
      rcases (show n = 1 ∨ n = 2 by omega) with z | z
      · subst z
        have : zl f a 1 = [f a] := rfl
        rw [this]
        by_cases q : f a = 46
        · simp [q]
        · simp [q]
      · subst z
        have : zl f a 2 = [f a, f (a + 1)] := rfl
        rw [this]
        by_cases q : f a = 46
        · by_cases q2 : f (a + 1) = 46
          · simp [q, q2]
          · simp [q, q2]
        · by_cases q2 : f (a + 1) = 46
          · simp [q, q2]
          · simp [q, q2]
  constructor
  · rintro ⟨h1, h2, h3, h4⟩
    exact ⟨⟨h1, h2, (hcnt h1).mp h4⟩, h3⟩
  · rintro ⟨⟨h1, h2, h3⟩, h4⟩
    exact ⟨h1, h2, h4, (hcnt h1).mpr h3⟩
theorem okc_0 {f : Nat → UInt8} {a : Nat} : okc f a 0 := fun j hj => absurd hj (Nat.not_lt_zero _)
theorem okc_s {f : Nat → UInt8} {a k : Nat} : okc f a (k + 1) ↔ okc f a k ∧ (f (a + k)).toNat ≠ 0 ∧ (f (a + k)).toNat ≠ 47 := by
  constructor
  · intro h
    exact ⟨fun j hj => h j (by omega), h k (by omega)⟩
  · rintro ⟨h1, h2⟩ j hj
    rcases Nat.lt_succ_iff_lt_or_eq.mp hj with z | z
    · exact h1 j z
    · rw [z]; exact h2
theorem okc_le {f : Nat → UInt8} {a k n : Nat} (h : okc f a n) (hk : k ≤ n) : okc f a k := fun j hj => h j (by omega)
theorem b_eq {b : Bool} {p : Prop} {q : Bool} (h1 : b = true ↔ p) (h2 : q = true ↔ p) : b = q := by
  rw [Bool.eq_iff_iff, h1, h2]
/-- bytes of a number, the lowest first -/
def btL (v : Int32) (n : Nat) : List UInt8 := (List.range n).map (bt v)
theorem btL_len (v : Int32) (n : Nat) : (btL v n).length = n := by simp [btL]
theorem btL_s (v : Int32) (n : Nat) : btL v (n + 1) = btL v n ++ [bt v n] := by
  unfold btL
  rw [List.range_succ, List.map_append]
  rfl
theorem put_s (f : Nat → UInt8) (a k z : Nat) (v : Int32) (hz : z = a + k) : uB (wr f a (btL v k)) z (zu (v >>> (nI (8 * k) &&& 31))) = wr f a (btL v (k + 1)) := by
  rw [wr_1, wr_wr f a (btL v k) _ (by rw [btL_len, hz]), btL_s]
  rfl
theorem btL_2 (v : Int32) : btL v 2 = le2 v := rfl
theorem btL_4 (v : Int32) : btL v 4 = le4 v := rfl
theorem zu_u (u : UInt8) : zu (nI u.toNat) = u := by
  exact z_u8 (Pr := fun u => zu (nI u.toNat) = u) (by decide +kernel) u
theorem btL_1 (u : UInt8) : btL (nI u.toNat) 1 = [u] := by
  show [bt (nI u.toNat) 0] = [u]
  rw [bt_0, zu_u]
theorem fed_b (x : Int64) : (x &&& 255).toInt32 = nI (zu x.toInt32).toNat := by
  rw [← sb_and]
  apply Int32.toBitVec_inj.mp
  apply BitVec.eq_of_getLsbD_eq
  intro i hi
  unfold sb zu
  simp only [Int64.toBitVec_toInt32, Int64.toBitVec_and, Int32.toBitVec_and, BitVec.getLsbD_and]
  simp
  by_cases h8 : i < 8
  · rw [BitVec.getLsbD_signExtend, BitVec.getLsbD_signExtend, BitVec.getLsbD_signExtend]
    simp [hi, h8, show i < 64 by omega]
  · have h255 : ∀ i : Nat, i < 32 → ¬ i < 8 → (255#32).getLsbD i = false := by decide
    rw [h255 i hi h8, Bool.and_false, Bool.and_false]
