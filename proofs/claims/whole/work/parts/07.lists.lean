/-! lists: the addresses that a row of references holds -/
def zL (f : Nat → Option Nat) (xs : List Nat) : Prop := ∀ j, j < xs.length → f j = xs[j]?
theorem zL_0 (f : Nat → Option Nat) : zL f [] := fun _ h => absurd h (Nat.not_lt_zero _)
theorem zL_eq {f f' : Nat → Option Nat} {xs : List Nat} (h : zL f xs) (he : ∀ j, j < xs.length → f' j = f j) : zL f' xs := fun j hj => (he j hj).trans (h j hj)
theorem zL_ins {f f' : Nat → Option Nat} {xs : List Nat} {i y : Nat} (h : zL f xs) (hi : i ≤ xs.length) (h1 : ∀ j, j < i → f' j = f j) (h2 : f' i = some y) (h3 : ∀ j, i < j → j < xs.length + 1 → f' j = f (j - 1)) : zL f' (xs.insertIdx i y) := by
  intro j hj
  rw [List.length_insertIdx_of_le_length hi] at hj
  rcases Nat.lt_trichotomy j i with q | q | q
  · rw [h1 j q, h j (by omega), List.getElem?_insertIdx_of_lt q]
  · subst q
    rw [h2, List.getElem?_insertIdx_self, if_pos hi]
  · rw [h3 j q hj, h (j - 1) (by omega), List.getElem?_insertIdx_of_gt q]
theorem zL_app {f : Nat → Option Nat} {xs : List Nat} {y : Nat} (h : zL f xs) : zL (va_up f xs.length (some y)) (xs ++ [y]) := by
  intro j hj
  rw [List.length_append] at hj
  by_cases q : j = xs.length
  · subst q
    rw [va_up_self, List.getElem?_append_right (Nat.le_refl _), Nat.sub_self]
    rfl
  · have hj2 : j < xs.length := by
      have : j < xs.length + 1 := hj
      omega
    rw [va_up_ne _ _ q, h j hj2, List.getElem?_append_left hj2]
theorem zL_set {f : Nat → Option Nat} {xs : List Nat} {i y : Nat} (h : zL f xs) (hi : i < xs.length) : zL (va_up f i (some y)) (xs.set i y) := by
  intro j hj
  rw [List.length_set] at hj
  by_cases q : j = i
  · subst q
    rw [va_up_self, List.getElem?_set_self hi]
  · rw [va_up_ne _ _ q, h j hj, List.getElem?_set_ne (fun z => q z.symm)]
theorem zL_del {f f' : Nat → Option Nat} {xs : List Nat} {i : Nat} (h : zL f xs) (hi : i < xs.length) (he : ∀ j, j < xs.length - 1 → f' j = if j < i then f j else f (j + 1)) : zL f' (xs.eraseIdx i) := by
  intro j hj
  rw [List.length_eraseIdx_of_lt hi] at hj
  rw [he j hj]
  by_cases q : j < i
  · rw [if_pos q, h j (by omega), List.getElem?_eraseIdx_of_lt q]
  · rw [if_neg q, h (j + 1) (by omega), List.getElem?_eraseIdx_of_ge (by omega)]
theorem zL_get {f : Nat → Option Nat} {xs : List Nat} {i y : Nat} (h : zL f xs) (hy : xs[i]? = some y) : f i = some y := by
  rw [h i (List.getElem?_eq_some_iff.mp hy).1, hy]
theorem zL_mem {f : Nat → Option Nat} {xs : List Nat} {i y : Nat} (h : zL f xs) (hi : i < xs.length) (hy : f i = some y) : y ∈ xs := by
  rw [h i hi] at hy
  exact List.mem_of_getElem? hy
/-- the row of a list, where it has one of its own -/
def wA (g : zT) (ed cap : Nat) (f : Nat → Option Nat) : va_W := if cap = 0 then [] else [(ed, zOb g cap f)]
theorem wA_0 (g : zT) (ed : Nat) (f : Nat → Option Nat) : wA g ed 0 f = [] := rfl
theorem wA_s {g : zT} {ed cap : Nat} {f : Nat → Option Nat} (h : 0 < cap) : wA g ed cap f = [(ed, zOb g cap f)] := if_neg (by omega)
/-- a list behind a method: its object, its row, the rest -/
def zLs (g : zT) (a : Nat) (xs : List Nat) (Bd : Nat) (T w : va_W) : Prop := ∃ (x : Int32) (ed cap : Nat) (f : Nat → Option Nat), w = (a, zo 3 [.int x, .ref ed, .int (nI xs.length)]) :: (wA g ed cap f ++ T) ∧ zL f xs ∧ xs.length ≤ cap ∧ cap ≤ Bd ∧ (cap = 0 → ed = g.2.2.2.1)
theorem z_Dsub {A : Nat → Prop} {ws ws' : va_W} (h : va_D A ws) (hs : ws'.Sublist ws) : va_D A ws' :=
  z_Dp.mpr ⟨(z_Dp.mp h).1.sublist hs, fun q hq => (z_Dp.mp h).2 q (hs.subset hq)⟩
theorem z_Psub {D : va_G} {cl : List vw_C} {ws ws' : va_W} {H : Heap} (h : va_P D cl ws H) (hs : ws'.Sublist ws) : va_P D cl ws' H := z_Ps h fun _ hq => hs.subset hq
theorem zn_max {a b : Nat} (ha : a < 2 ^ 31) (hb : b < 2 ^ 31) : (if nI a < nI b then nI b else nI a) = nI (max a b) := by
  by_cases h : a < b
  · rw [if_pos ((nI_ltI ha hb).mpr h), Nat.max_eq_right (by omega)]
  · rw [if_neg (fun q => h ((nI_ltI ha hb).mp q)), Nat.max_eq_left (by omega)]
theorem z_bk {bs bs' : List va_W} (is : List Nat) (h1 : is.map (fun i => bs[i]?) = bs'.map some) (h2 : is.Perm (List.range is.length)) (h3 : is.length = bs.length) : (zF bs).Perm (zF bs') := z_blk is h1 (by rw [← h3]; exact h2)
