/-! walking, as the reference does it -/
theorem st3 (f : Nat → UInt8) (len en lf ha hn st : Nat) : (lf = 0 ∧ en = len) ∨ (¬ (lf = 0 ∧ en = len) ∧ stepP f len en lf ha hn st = none) ∨ (¬ (lf = 0 ∧ en = len) ∧ ∃ en2 lf2 ha2 hn2 st2 at2, stepP f len en lf ha hn st = some (en2, lf2, ha2, hn2, st2, at2)) := by
  by_cases h : lf = 0 ∧ en = len
  · exact Or.inl h
  · rcases hs : stepP f len en lf ha hn st with _ | ⟨en2, lf2, ha2, hn2, st2, at2⟩
    · exact Or.inr (Or.inl ⟨h, rfl⟩)
    · exact Or.inr (Or.inr ⟨h, en2, lf2, ha2, hn2, st2, at2, rfl⟩)
theorem step_inv {f : Nat → UInt8} {len en lf ha hn st en2 lf2 ha2 hn2 st2 at2 : Nat} (h : stepP f len en lf ha hn st = some (en2, lf2, ha2, hn2, st2, at2)) (h1 : lf = 0 ∨ (ha + 21 ≤ en ∧ hn = U4 f len (ha + 8) ∧ st = U4 f len (ha + 4))) (h2 : lf ≤ 256) : en2 = at2 + 9 + U2 f len (at2 + 6) ∧ en2 ≤ len ∧ ha2 + 21 ≤ en2 ∧ hn2 = U4 f len (ha2 + 8) ∧ st2 = U4 f len (ha2 + 4) ∧ lf2 ≤ 256 ∧ en + 9 ≤ en2 := by
  unfold stepP at h
  split at h
  · split at h
    · cases h; refine ⟨rfl, by omega, by omega, rfl, rfl, by omega, by omega⟩
    · cases h
  · split at h
    · cases h
      rename_i q _
      rcases h1 with z | ⟨z1, z2, z3⟩
      · exact absurd z q
      · refine ⟨rfl, by omega, by omega, z2, z3, by omega, by omega⟩
    · cases h
theorem all_s (p : Nat → Bool) (i : Nat) : (List.range (i + 1)).all p = ((List.range i).all p && p i) := by
  rw [List.range_succ, List.all_append]
  simp
theorem all_le {p : Nat → Bool} {i n : Nat} (h : (List.range i).all p = false) (hi : i ≤ n) : (List.range n).all p = false := by
  rw [Bool.eq_false_iff] at h ⊢
  intro q
  refine h (List.all_eq_true.mpr (fun j hj => ?_))
  exact List.all_eq_true.mp q j (List.mem_range.mpr (by have := List.mem_range.mp hj; omega))
/-- index j is right -/
def ixJ (f : Nat → UInt8) (len bg : Nat) (mf : Nat → zM) (j : Nat) : Bool := ixC f len (ixP f len bg mf j) (len + 1) 0 0 0 0 0 && (decide (j = 0) || decide ((mf (j - 1)).1 < (mf j).1))
theorem cnt_ff {f : Nat → UInt8} {len bg mn : Nat} {kq : Int → Nat → Nat → Nat → Bool} {mf : Nat → zM} (h : mcC f len kq (len + 1) 0 0 0 0 0 0 [] = -2) : cntM f len bg kq mf mn = -2 := if_neg (fun q => q.1 h)
theorem cnt_b {f : Nat → UInt8} {len bg mn : Nat} {kq : Int → Nat → Nat → Nat → Bool} {mf : Nat → zM} {b : Bool} (h : b = (decide (mcC f len kq (len + 1) 0 0 0 0 0 0 [] ≠ -2) && (List.range mn).all (ixJ f len bg mf))) : cntM f len bg kq mf mn = if b = true then mcC f len kq (len + 1) 0 0 0 0 0 0 [] else -2 := by
  unfold cntM
  by_cases hb : b = true
  · rw [if_pos hb]
    rw [hb] at h
    obtain ⟨h1, h2⟩ := Bool.and_eq_true_iff.mp h.symm
    rw [if_pos ⟨of_decide_eq_true h1, h2⟩]
  · rw [if_neg hb]
    refine if_neg (fun q => hb ?_)
    rw [h, decide_eq_true q.1]
    exact q.2
theorem cnt_bd (f : Nat → UInt8) (len bg mn : Nat) (kq : Int → Nat → Nat → Nat → Bool) (mf : Nat → zM) : -2 ≤ cntM f len bg kq mf mn ∧ cntM f len bg kq mf mn ≤ (len : Int) + 1 := by
  rcases cnt_rg f len bg mn kq mf with z | ⟨c, z, hc⟩ <;> rw [z] <;> omega
theorem entQ_t {f : Nat → UInt8} {len : Nat} {kq : Int → Nat → Nat → Nat → Bool} {last : List UInt8} {hn st i : Nat} {b : Bool} (hb : b = (isNm (nmA f len i) && kq ((hn : Int) + s16 (U2 f len (i + 2))) st (U2 f len i) (U2 f len (i + 4)))) (h : b = true) (hl : last = [] ∨ cmpB last (nmA f len i) < 0) : entQ f len kq last hn st i = true := by
  rw [h] at hb
  obtain ⟨h1, h2⟩ := Bool.and_eq_true_iff.mp hb.symm
  unfold entQ
  rw [h1, h2, Bool.true_and, Bool.and_true]
  apply decide_eq_true
  rcases hl with z | z
  · subst z
    unfold nmA
    rw [cmpB_e (Or.inr rfl), zl_len]
    show (0 : Int) < ((_ + 1 : Nat) : Int) - ((0 : Nat) : Int)
    omega
  · rw [cmpB_anti] at z; omega
theorem entQ_f1 {f : Nat → UInt8} {len : Nat} {kq : Int → Nat → Nat → Nat → Bool} {last : List UInt8} {hn st i : Nat} {b : Bool} (hb : b = (isNm (nmA f len i) && kq ((hn : Int) + s16 (U2 f len (i + 2))) st (U2 f len i) (U2 f len (i + 4)))) (h : b = false) : ¬ entQ f len kq last hn st i = true := by
  intro q
  unfold entQ at q
  obtain ⟨q1, q2⟩ := Bool.and_eq_true_iff.mp q
  obtain ⟨q3, q4⟩ := Bool.and_eq_true_iff.mp q1
  rw [h, q3, q2] at hb
  cases hb
theorem entQ_f2 {f : Nat → UInt8} {len : Nat} {kq : Int → Nat → Nat → Nat → Bool} {last : List UInt8} {hn st i : Nat} (h : ¬ cmpB last (nmA f len i) < 0) : ¬ entQ f len kq last hn st i = true := by
  intro q
  unfold entQ at q
  obtain ⟨q1, q2⟩ := Bool.and_eq_true_iff.mp q
  obtain ⟨q3, q4⟩ := Bool.and_eq_true_iff.mp q1
  have q4 := of_decide_eq_true q4
  rw [cmpB_anti] at q4
  omega
