theorem entsAt.del {g : zT} {ws : va_W} {xs : List Nat} {es : List zE} {i : Nat} (h : entsAt g ws xs es) : entsAt g ws (xs.eraseIdx i) (es.eraseIdx i) := by
  refine ⟨by rw [List.length_eraseIdx, List.length_eraseIdx, h.1], fun j a k h1 h2 => ?_⟩
  rw [List.getElem?_eraseIdx] at h1 h2
  by_cases q : j < i
  · rw [if_pos q] at h1 h2
    exact h.2 j a k h1 h2
  · rw [if_neg q] at h1 h2
    exact h.2 (j + 1) a k h1 h2
theorem entsAt.ins {g : zT} {ws : va_W} {xs : List Nat} {es : List zE} {i y : Nat} {k : zE} (h : entsAt g ws xs es) (hy : isEnt g ws y k) (hi : i ≤ xs.length) : entsAt g ws (xs.insertIdx i y) (es.insertIdx i k) := by
  have hi2 : i ≤ es.length := by rw [← h.1]; exact hi
  refine ⟨by rw [List.length_insertIdx_of_le_length hi, List.length_insertIdx_of_le_length hi2, h.1], fun j a q h1 h2 => ?_⟩
  rcases Nat.lt_trichotomy j i with z | z | z
  · rw [List.getElem?_insertIdx_of_lt z] at h1 h2
    exact h.2 j a q h1 h2
  · subst z
    rw [List.getElem?_insertIdx_self, if_pos hi] at h1
    rw [List.getElem?_insertIdx_self, if_pos hi2] at h2
    cases h1
    cases h2
    exact hy
  · rw [List.getElem?_insertIdx_of_gt z] at h1 h2
    exact h.2 (j - 1) a q h1 h2
theorem entsAt.set {g : zT} {ws : va_W} {xs : List Nat} {es : List zE} {n y : Nat} {k : zE} (h : entsAt g ws xs es) (hy : isEnt g ws y k) : entsAt g ws (xs.set n y) (es.set n k) := by
  refine ⟨by rw [List.length_set, List.length_set]; exact h.1, fun j a q h1 h2 => ?_⟩
  by_cases hj : j = n
  · subst hj
    have hl : j < xs.length := by
      have := (List.getElem?_eq_some_iff.mp h1).1
      rwa [List.length_set] at this
    rw [List.getElem?_set_self hl] at h1
    rw [List.getElem?_set_self (by rw [← h.1]; exact hl)] at h2
    cases h1
    cases h2
    exact hy
  · rw [List.getElem?_set_ne (fun q => hj q.symm)] at h1 h2
    exact h.2 j a q h1 h2
theorem srtK_efl {kl : List zE} (h : srtK kl) {i j : Nat} (hij : i < j) (hj : j < kl.length) : (efl kl i).2.1 < (efl kl j).2.1 := by
  have p := List.pairwise_iff_getElem.mp h i j (by omega) hj hij
  have e1 : kl[i]'(by omega) = efl kl i := by
    have := efl_at (show i < kl.length by omega)
    rw [List.getElem?_eq_getElem (by omega)] at this
    exact Option.some.inj this
  have e2 : kl[j] = efl kl j := by
    have := efl_at hj
    rw [List.getElem?_eq_getElem hj] at this
    exact Option.some.inj this
  rwa [e1, e2] at p
/-- cells that an index is made of -/
def smallC (g : zT) (q : Nat × va_E) : Prop := (∃ fs, q.2 = zo 10 fs) ∨ (∃ (n : Nat) (f : Nat → UInt8), n ≤ 256 ∧ q.2 = zBy g n f)
theorem nsm_o {g : zT} {a ci : Nat} {fs : List Value} (h : ci ≠ 10) : ¬ smallC g (a, zo ci fs) := by
  rintro (⟨fs2, q⟩ | ⟨n, f, -, q⟩)
  · have q : (Sum.inr (ci, fs) : va_E) = Sum.inr (10, fs2) := q
    injection q with q
    injection q with q1 q2
    exact h q1
  · have q : (Sum.inr (ci, fs) : va_E) = Sum.inl _ := q
    cases q
theorem nsm_b {g : zT} {a n : Nat} {f : Nat → UInt8} (h : 256 < n) : ¬ smallC g (a, zBy g n f) := by
  rintro (⟨fs2, q⟩ | ⟨n2, f2, h2, q⟩)
  · have q : (Sum.inl (g.2.1 0, n, _) : va_E) = Sum.inr _ := q
    cases q
  · have q : (Sum.inl (g.2.1 0, n, .inl (fun j => sb (f j))) : va_E) = Sum.inl (g.2.1 0, n2, .inl (fun j => sb (f2 j))) := q
    injection q with q
    injection q with q1 q2
    injection q2 with q3 q4
    omega
theorem nsm_i {g : zT} {a n : Nat} {f : Nat → Int32} (h : 256 < n ∨ n < 17 ∧ g.2.1 0 ≠ g.2.1 1) : 256 < n → ¬ smallC g (a, zIn g n f) := by
  intro hn
  rintro (⟨fs2, q⟩ | ⟨n2, f2, h2, q⟩)
  · have q : (Sum.inl (g.2.1 1, n, _) : va_E) = Sum.inr _ := q
    cases q
  · have q : (Sum.inl (g.2.1 1, n, .inl f) : va_E) = Sum.inl (g.2.1 0, n2, .inl (fun j => sb (f2 j))) := q
    injection q with q
    injection q with q1 q2
    injection q2 with q3 q4
    omega
theorem nsm_j {g : zT} {a n : Nat} {f : Nat → Int32} (h : g.2.1 0 ≠ g.2.1 1) : ¬ smallC g (a, zIn g n f) := by
  rintro (⟨fs2, q⟩ | ⟨n2, f2, h2, q⟩)
  · have q : (Sum.inl (g.2.1 1, n, _) : va_E) = Sum.inr _ := q
    cases q
  · have q : (Sum.inl (g.2.1 1, n, .inl f) : va_E) = Sum.inl (g.2.1 0, n2, .inl (fun j => sb (f2 j))) := q
    injection q with q
    injection q with q1 q2
    exact h q1.symm
theorem nsm_a {g : zT} {ed cap : Nat} {f : Nat → Option Nat} : ∀ q ∈ wA g ed cap f, ¬ smallC g q := by
  intro q hq
  unfold wA at hq
  split at hq
  · exact absurd hq List.not_mem_nil
  · rw [List.mem_singleton.mp hq]
    rintro (⟨fs2, q⟩ | ⟨n2, f2, h2, q⟩)
    · have q : (Sum.inl _ : va_E) = Sum.inr _ := q
      cases q
    · have q : (Sum.inl (g.2.1 2, cap, .inr (.inr (.inr (.inr f)))) : va_E) = Sum.inl (g.2.1 0, n2, .inl (fun j => sb (f2 j))) := q
      injection q with q
      injection q with q1 q2
      injection q2 with q3 q4
      cases q4
theorem sm_cons {g : zT} {q k : Nat × va_E} {ws : va_W} (h : smallC g q) (hc : ¬ smallC g k) (hm : q ∈ k :: ws) : q ∈ ws := by
  rcases List.mem_cons.mp hm with z | z
  · rw [z] at h; exact absurd h hc
  · exact z
theorem sm_app {g : zT} {q : Nat × va_E} {B ws : va_W} (h : smallC g q) (hc : ∀ k ∈ B, ¬ smallC g k) (hm : q ∈ B ++ ws) : q ∈ ws := by
  rcases List.mem_append.mp hm with z | z
  · exact absurd h (hc q z)
  · exact z
theorem isMks.to {g : zT} {ws ws' : va_W} {xs : List Nat} {ml : List zM} (h : isMks g ws xs ml) (ht : ∀ q ∈ ws, smallC g q → q ∈ ws') (hb : ∀ k ∈ ml, k.2.2.length ≤ 256) : isMks g ws' xs ml := by
  refine ⟨h.1, fun j a k h1 h2 => ?_⟩
  obtain ⟨nm, nf, q1, q2, q3⟩ := h.2 j a k h1 h2
  exact ⟨nm, nf, ht _ q1 (Or.inl ⟨_, rfl⟩), ht _ q2 (Or.inr ⟨_, _, hb k (List.mem_of_getElem? h2), rfl⟩), q3⟩
