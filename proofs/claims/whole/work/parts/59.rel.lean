/-! one state for both sides -/
theorem cmpB_tr : ∀ {xs ys zs : List UInt8}, cmpB xs ys < 0 → cmpB ys zs < 0 → cmpB xs zs < 0
  | [], [], zs, h1, h2 => by simp [cmpB] at h1
  | [], y :: ys, [], h1, h2 => by simp [cmpB] at h2; omega
  | [], y :: ys, z :: zs, h1, h2 => by simp [cmpB]
  | x :: xs, [], zs, h1, h2 => by simp [cmpB] at h1; omega
  | x :: xs, y :: ys, [], h1, h2 => by simp [cmpB] at h2; omega
  | x :: xs, y :: ys, z :: zs, h1, h2 => by
    have ih := @cmpB_tr xs ys zs
    simp only [cmpB] at h1 h2 ⊢
    by_cases e1 : x = y
    · subst e1
      rw [if_pos rfl] at h1
      by_cases e2 : x = z
      · rw [if_pos e2] at h2 ⊢
        exact ih h1 h2
      · rw [if_neg e2] at h2 ⊢
        exact h2
    · rw [if_neg e1] at h1
      by_cases e2 : y = z
      · subst e2
        rw [if_neg e1]
        exact h1
      · rw [if_neg e2] at h2
        have e3 : x ≠ z := by
          intro e
          subst e
          omega
        rw [if_neg e3]
        omega
def efl (es : List zE) (j : Nat) : zE := es.getD j ([], 0, 0, 0, 0)
def mfl (ml : List zM) (j : Nat) : zM := ml.getD j (0, 0, [])
theorem efl_at {es : List zE} {j : Nat} (h : j < es.length) : es[j]? = some (efl es j) := by
  unfold efl
  rw [List.getD_eq_getElem?_getD, List.getElem?_eq_getElem h]
  rfl
theorem mfl_at {ml : List zM} {j : Nat} (h : j < ml.length) : ml[j]? = some (mfl ml j) := by
  unfold mfl
  rw [List.getD_eq_getElem?_getD, List.getElem?_eq_getElem h]
  rfl
theorem efl_mem {es : List zE} {j : Nat} (h : j < es.length) : efl es j ∈ es := List.mem_of_getElem? (efl_at h)
theorem mfl_mem {ml : List zM} {j : Nat} (h : j < ml.length) : mfl ml j ∈ ml := List.mem_of_getElem? (mfl_at h)
theorem pos_ex {es : List zE} (h : srtE es) (key : List UInt8) : ∃ k0, k0 ≤ es.length ∧ (∀ j, j < k0 → cmpB (efl es j).1 key < 0) ∧ (∀ j, k0 ≤ j → j < es.length → ¬ cmpB (efl es j).1 key < 0) := by
  induction es with
  | nil => exact ⟨0, Nat.le_refl _, fun j hj => absurd hj (Nat.not_lt_zero _), fun j _ hj => absurd hj (Nat.not_lt_zero _)⟩
  | cons x xs ih =>
    obtain ⟨h1, h2⟩ := List.pairwise_cons.mp h
    by_cases hx : cmpB x.1 key < 0
    · obtain ⟨k, a, b, c⟩ := ih h2
      refine ⟨k + 1, by simpa using a, fun j hj => ?_, fun j hj hl => ?_⟩
      · cases j with
        | zero => exact hx
        | succ j => exact b j (by omega)
      · cases j with
        | zero => omega
        | succ j => exact c j (by omega) (by simpa using hl)
    · refine ⟨0, Nat.zero_le _, fun j hj => absurd hj (Nat.not_lt_zero _), fun j _ hl hc => ?_⟩
      cases j with
      | zero => exact hx hc
      | succ j =>
        have hl : j < xs.length := by simpa using hl
        exact hx (cmpB_tr (h1 _ (efl_mem hl)) hc)
theorem pos_eq {es : List zE} (h : srtE es) {key : List UInt8} {k0 : Nat} (h1 : ∀ j, j < k0 → cmpB (efl es j).1 key < 0) (h2 : ∀ j, k0 ≤ j → j < es.length → ¬ cmpB (efl es j).1 key < 0) : (k0 < es.length ∧ cmpB (efl es k0).1 key = 0) ↔ ∃ e ∈ es, e.1 = key := by
  constructor
  · rintro ⟨a, b⟩
    exact ⟨efl es k0, efl_mem a, cmpB_0.mp b⟩
  · rintro ⟨e, he, hk⟩
    obtain ⟨j, hj⟩ := List.getElem?_of_mem he
    have hjl := (List.getElem?_eq_some_iff.mp hj).1
    have e1 : efl es j = e := by
      have := efl_at hjl
      rw [hj] at this
      exact (Option.some.inj this).symm
    have jk : ¬ j < k0 := fun z => by
      have := h1 j z
      rw [e1, hk, cmpB_self] at this
      omega
    by_cases z : j = k0
    · subst z
      exact ⟨hjl, by rw [e1]; exact cmpB_0.mpr hk⟩
    · exfalso
      have hlt : k0 < j := by omega
      have p := List.pairwise_iff_getElem.mp h k0 j (by omega) hjl hlt
      have ek : es[k0]'(by omega) = efl es k0 := by
        have := efl_at (show k0 < es.length by omega)
        rw [List.getElem?_eq_getElem (by omega)] at this
        exact Option.some.inj this
      have ej : es[j] = e := by
        rw [List.getElem?_eq_getElem hjl] at hj
        exact Option.some.inj hj
      rw [ek, ej, hk] at p
      exact h2 k0 (Nat.le_refl _) (by omega) p
/-- what the reference finds of a name -/
theorem of_none {tb nmb : Nat → UInt8} {nsz num sta pla kin : Nat → Nat} {n ne : Nat} {es : List zE} (hp : ((List.range ne).map (mdE nmb nsz num sta pla kin)).Perm es) : (lastE (ofT tb n nmb nsz) ne = -2 ∧ ¬ ∃ e ∈ es, e.1 = zl tb 0 n) ∨ ∃ j, j < ne ∧ lastE (ofT tb n nmb nsz) ne = (j : Int) ∧ (mdE nmb nsz num sta pla kin j).1 = zl tb 0 n ∧ mdE nmb nsz num sta pla kin j ∈ es := by
  rcases lastE_c (ofT tb n nmb nsz) ne with ⟨h1, h2⟩ | ⟨j, h1, h2, h3⟩
  · refine Or.inl ⟨h1, ?_⟩
    rintro ⟨e, he, hk⟩
    obtain ⟨j, hj, hje⟩ := List.mem_map.mp (hp.mem_iff.mpr he)
    have := of_decide_eq_false (h2 j (List.mem_range.mp hj))
    exact this (by rw [← hk, ← hje]; rfl)
  · exact Or.inr ⟨j, h1, h3, (of_decide_eq_true h2).symm, hp.mem_iff.mp (List.mem_map.mpr ⟨j, List.mem_range.mpr h1, rfl⟩)⟩
theorem look_congr {mf mf' : Nat → zM} {key : List UInt8} {n : Nat} (h : ∀ j, j < n → mf j = mf' j) : lookF mf key n = lookF mf' key n := by
  induction n with
  | zero => rfl
  | succ n ih =>
    show (if cmpB (mf n).2.2 key ≤ 0 then (mf n).1 else lookF mf key n) = (if cmpB (mf' n).2.2 key ≤ 0 then (mf' n).1 else lookF mf' key n)
    rw [h n (Nat.lt_succ_self n), ih (fun j hj => h j (by omega))]
theorem cnt_congr {f : Nat → UInt8} {len bg mn : Nat} {kq : Int → Nat → Nat → Nat → Bool} {mf mf' : Nat → zM} (h : ∀ j, j < mn → mf j = mf' j) : cntM f len bg kq mf mn = cntM f len bg kq mf' mn := by
  unfold cntM
  have e : (List.range mn).all (fun j => ixC f len (ixP f len bg mf j) (len + 1) 0 0 0 0 0 && (decide (j = 0) || decide ((mf (j - 1)).1 < (mf j).1))) = (List.range mn).all (fun j => ixC f len (ixP f len bg mf' j) (len + 1) 0 0 0 0 0 && (decide (j = 0) || decide ((mf' (j - 1)).1 < (mf' j).1))) := by
    rw [Bool.eq_iff_iff, List.all_eq_true, List.all_eq_true]
    constructor
    · intro q j hj
      have hj2 := List.mem_range.mp hj
      have q1 := q j hj
      have e1 : ixP f len bg mf' j = ixP f len bg mf j := by funext a b; unfold ixP; rw [h j hj2]
      rw [e1, ← h j hj2, ← h (j - 1) (by omega)]
      exact q1
    · intro q j hj
      have hj2 := List.mem_range.mp hj
      have q1 := q j hj
      have e1 : ixP f len bg mf j = ixP f len bg mf' j := by funext a b; unfold ixP; rw [h j hj2]
      rw [e1, h j hj2, h (j - 1) (by omega)]
      exact q1
  rw [e]
/-- what holds of the state behind n calls -/
def okA (tpe : List UInt8) (es kl : List zE) (len bg : Nat) (ml : List zM) (n : Nat) : Prop :=
  tpe.length ≤ 300 ∧ srtE es ∧ (∀ e ∈ es, okE e) ∧ srtK kl ∧ (∀ e ∈ kl, 1 ≤ e.2.1 ∧ e.2.1 ≤ 100000 ∧ e.2.2.1 < 65536 ∧ e.2.2.2.1 < 65536 ∧ e.2.2.2.2 < 65536) ∧ len ≤ 8192 ∧ bg ≤ 40000 ∧ ml.length ≤ 12 ∧ (∀ k ∈ ml, k.2.2.length ≤ 256) ∧ es.length ≤ n ∧ kl.length ≤ n ∧ sumE es + tpe.length + (if tpe.length = 0 then 0 else 6) ≤ 14 * n
theorem okA.up {tpe : List UInt8} {es kl : List zE} {len bg n : Nat} {ml : List zM} (h : okA tpe es kl len bg ml n) : okA tpe es kl len bg ml (n + 1) := by
  obtain ⟨a1, a2, a3, a4, a5, a6, a7, a8, a9, b1, b2, b3⟩ := h
  exact ⟨a1, a2, a3, a4, a5, a6, a7, a8, a9, by omega, by omega, by omega⟩
theorem okA.t0 {tpe : List UInt8} {es kl : List zE} {len bg n : Nat} {ml : List zM} (h : okA tpe es kl len bg ml n) : okA [] es kl len bg ml (n + 1) := by
  obtain ⟨a1, a2, a3, a4, a5, a6, a7, a8, a9, b1, b2, b3⟩ := h
  refine ⟨by show 0 ≤ 300; omega, a2, a3, a4, a5, a6, a7, a8, a9, by omega, by omega, ?_⟩
  show sumE es + 0 + (if 0 = 0 then 0 else 6) ≤ _
  rw [if_pos rfl]
  omega
theorem okA.fed {tpe fed : List UInt8} {es kl : List zE} {len bg n : Nat} {ml : List zM} (h : okA tpe es kl len bg ml n) (h1 : fed.length ≤ 8) (h2 : tpe.length + fed.length ≤ 300) : okA (tpe ++ fed) es kl len bg ml (n + 1) := by
  obtain ⟨a1, a2, a3, a4, a5, a6, a7, a8, a9, b1, b2, b3⟩ := h
  refine ⟨by rw [List.length_append]; exact h2, a2, a3, a4, a5, a6, a7, a8, a9, by omega, by omega, ?_⟩
  rw [List.length_append]
  by_cases z : tpe.length = 0
  · rw [if_pos z] at b3
    split <;> omega
  · rw [if_neg z] at b3
    split <;> omega
theorem okA.dropped {tpe : List UInt8} {es kl : List zE} {len bg n i : Nat} {ml : List zM} (h : okA tpe es kl len bg ml n) : okA [] (es.eraseIdx i) kl len bg ml (n + 1) := by
  obtain ⟨a1, a2, a3, a4, a5, a6, a7, a8, a9, b1, b2, b3⟩ := h.t0
  have hsub := List.eraseIdx_sublist es i
  refine ⟨a1, srt_del a2, fun e he => a3 e (hsub.subset he), a4, a5, a6, a7, a8, a9, Nat.le_trans hsub.length_le b1, b2, ?_⟩
  have hs : sumE (es.eraseIdx i) ≤ sumE es := by
    rcases hx : es[i]? with _ | x
    · rw [List.eraseIdx_of_length_le (List.getElem?_eq_none_iff.mp hx)]
      exact Nat.le_refl _
    · have := sum_perm (era_perm es i x hx)
      rw [this]
      show _ ≤ ((x :: es.eraseIdx i).map (fun e => 20 + e.1.length)).sum
      rw [List.map_cons, List.sum_cons]
      show sumE (es.eraseIdx i) ≤ _ + sumE (es.eraseIdx i)
      omega
  omega
theorem okA.cleared {tpe : List UInt8} {es kl : List zE} {len bg n : Nat} {ml : List zM} (h : okA tpe es kl len bg ml n) : okA tpe [] kl len bg ml (n + 1) := by
  obtain ⟨a1, a2, a3, a4, a5, a6, a7, a8, a9, b1, b2, b3⟩ := h
  refine ⟨a1, List.Pairwise.nil, fun e he => absurd he List.not_mem_nil, a4, a5, a6, a7, a8, a9, Nat.zero_le _, by omega, ?_⟩
  show 0 + tpe.length + _ ≤ _
  omega
theorem okA.lst {tpe : List UInt8} {es kl : List zE} {len bg n len2 bg2 : Nat} {ml ml2 : List zM} (h : okA tpe es kl len bg ml n) (h1 : len2 ≤ 8192) (h2 : bg2 ≤ 40000) (h3 : ml2.length ≤ 12) (h4 : ∀ k ∈ ml2, k.2.2.length ≤ 256) : okA tpe es kl len2 bg2 ml2 (n + 1) := by
  obtain ⟨a1, a2, a3, a4, a5, a6, a7, a8, a9, b1, b2, b3⟩ := h.up
  exact ⟨a1, a2, a3, a4, a5, h1, h2, h3, h4, b1, b2, b3⟩
/-- an entry more: what becomes of what is known -/
def addK (kl kl' : List zE) (y : zE) : Prop := ∃ i, i ≤ kl.length ∧ (∀ j, j < i → (efl kl j).2.1 < y.2.1) ∧ (∀ j, i ≤ j → j < kl.length → ¬ (efl kl j).2.1 < y.2.1) ∧ ((i < kl.length ∧ (efl kl i).2.1 = y.2.1 ∧ kl' = kl.set i y) ∨ (¬ (i < kl.length ∧ (efl kl i).2.1 = y.2.1) ∧ kl' = kl.insertIdx i y))
theorem srt_efl {es : List zE} {j : Nat} {x : zE} (h : es[j]? = some x) : j < es.length ∧ efl es j = x := by
  have hl := (List.getElem?_eq_some_iff.mp h).1
  refine ⟨hl, ?_⟩
  have := efl_at hl
  rw [h] at this
  exact (Option.some.inj this).symm
theorem addK_new {kl kl' : List zE} {y : zE} {i : Nat} (hs : srtK kl) (hi : i ≤ kl.length) (h2 : ∀ j, i ≤ j → j < kl.length → ¬ (efl kl j).2.1 < y.2.1) (hn : ¬ (i < kl.length ∧ (efl kl i).2.1 = y.2.1)) : ∀ j x, i ≤ j → kl[j]? = some x → y.2.1 < x.2.1 := by
  intro j x hij hx
  obtain ⟨hl, he⟩ := srt_efl hx
  have h3 := h2 j hij hl
  rw [he] at h3
  by_cases z : j = i
  · subst z
    have : ¬ x.2.1 = y.2.1 := fun q => hn ⟨hl, by rw [he]; exact q⟩
    omega
  · have p := List.pairwise_iff_getElem.mp hs i j (by omega) hl (by omega)
    have ej : kl[j] = x := by rw [List.getElem?_eq_getElem hl] at hx; exact Option.some.inj hx
    rw [ej] at p
    have ei : kl[i]'(by omega) = efl kl i := by
      have := efl_at (show i < kl.length by omega)
      rw [List.getElem?_eq_getElem (by omega)] at this
      exact Option.some.inj this
    rw [ei] at p
    have := h2 i (Nat.le_refl _) (by omega)
    omega
theorem addK_ok {kl kl' : List zE} {y : zE} (h : addK kl kl' y) (hs : srtK kl) : srtK kl' ∧ kl'.length ≤ kl.length + 1 ∧ ∀ e ∈ kl', e = y ∨ e ∈ kl := by
  obtain ⟨i, hi, h1, h2, h3⟩ := h
  rcases h3 with ⟨a, b, rfl⟩ | ⟨a, rfl⟩
  · refine ⟨srtK_set hs (efl_at a) b, by rw [List.length_set]; omega, fun e he => ?_⟩
    rcases List.mem_or_eq_of_mem_set he with z | z
    · exact Or.inr z
    · exact Or.inl z
  · refine ⟨srtK_ins hs hi (fun j x hj hx => ?_) (addK_new (kl' := kl) hs hi h2 a), by rw [List.length_insertIdx_of_le_length hi]; omega, fun e he => (List.mem_insertIdx hi).mp he⟩
    obtain ⟨hl, he⟩ := srt_efl hx
    rw [← he]
    exact h1 j hj
theorem okA.added {tpe : List UInt8} {es kl kl' : List zE} {len bg n k0 : Nat} {ml : List zM} {y : zE} (h : okA tpe es kl len bg ml n) (hk : k0 ≤ es.length) (hlo : ∀ j, j < k0 → cmpB (efl es j).1 tpe < 0) (hhi : ∀ j, k0 ≤ j → j < es.length → ¬ cmpB (efl es j).1 tpe < 0) (hno : ¬ (k0 < es.length ∧ cmpB (efl es k0).1 tpe = 0)) (hy1 : y.1 = tpe) (hy2 : okE y) (hK : addK kl kl' y) : okA [] (es.insertIdx k0 y) kl' len bg ml (n + 1) ∧ (es.insertIdx k0 y).Perm (y :: es) := by
  obtain ⟨a1, a2, a3, a4, a5, a6, a7, a8, a9, b1, b2, b3⟩ := h
  have pe := List.perm_insertIdx y es hk
  obtain ⟨c1, c2, c3⟩ := addK_ok hK a4
  have ne0 : tpe.length ≠ 0 := by
    have := hy2.1
    rw [hy1] at this
    omega
  rw [if_neg ne0] at b3
  refine ⟨⟨by show 0 ≤ 300; omega, ?_, fun e he => ?_, c1, fun e he => ?_, a6, a7, a8, a9, ?_, by omega, ?_⟩, pe⟩
  · have hne : ¬ ∃ e ∈ es, e.1 = tpe := fun z => hno ((pos_eq a2 hlo hhi).mpr z)
    refine srt_ins a2 hk (fun j z hj hz => ?_) (fun j z hj hz => ?_)
    · obtain ⟨hl, he⟩ := srt_efl hz
      rw [← he, hy1]
      exact hlo j hj
    · obtain ⟨hl, he⟩ := srt_efl hz
      have := hhi j hj hl
      rw [he] at this
      have h0 : cmpB z.1 tpe ≠ 0 := fun q => hne ⟨z, List.mem_of_getElem? hz, cmpB_0.mp q⟩
      rw [hy1]
      omega
  · rcases (List.mem_insertIdx hk).mp he with z | z
    · rw [z]; exact hy2
    · exact a3 e z
  · rcases c3 e he with z | z
    · rw [z]
      obtain ⟨q1, q2, q3, q4, q5, q6, q7, q8⟩ := hy2
      exact ⟨q3, q4, by omega, by omega, by omega⟩
    · exact a5 e z
  · rw [List.length_insertIdx_of_le_length hk]; omega
  · rw [sum_perm pe]
    have e1 : sumE (y :: es) = (20 + y.1.length) + sumE es := by
      unfold sumE
      rw [List.map_cons, List.sum_cons]
    rw [e1, hy1]
    show _ + 0 + (if 0 = 0 then 0 else 6) ≤ _
    rw [if_pos rfl]
    omega
