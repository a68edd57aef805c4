/-! the reference's rows: what it looks up, and its order -/
def nN (X : Nat → Nat) : Nat → Int32 := fun j => nI (X j)
def nB (X : Nat → UInt8) : Nat → Int32 := fun j => nI (X j).toNat
def upN (X : Nat → Nat) (k v : Nat) : Nat → Nat := fun j => if j = k then v else X j
theorem upN_s {X : Nat → Nat} {k v : Nat} : upN X k v k = v := if_pos rfl
theorem upN_n {X : Nat → Nat} {k v j : Nat} (h : j ≠ k) : upN X k v j = X j := if_neg h
theorem upd_nN (X : Nat → Nat) (k v : Nat) : upd (nN X) k (nI v) = nN (upN X k v) := by
  funext j
  unfold upd nN upN
  split <;> rfl
theorem upd_nB (X : Nat → UInt8) (k : Nat) (u : UInt8) : upd (nB X) k (nI u.toNat) = nB (uB X k u) := by
  funext j
  unfold upd nB uB
  split <;> rfl
/-- the last place below n that fits, or -2 -/
def lastE (q : Nat → Bool) : Nat → Int
  | 0 => -2
  | n + 1 => if q n = true then (n : Int) else lastE q n
theorem lastE_t {q : Nat → Bool} {n : Nat} (h : q n = true) : lastE q (n + 1) = (n : Int) := if_pos h
theorem lastE_f {q : Nat → Bool} {n : Nat} (h : ¬ q n = true) : lastE q (n + 1) = lastE q n := if_neg h
theorem lastE_c (q : Nat → Bool) (n : Nat) : (lastE q n = -2 ∧ ∀ j, j < n → q j = false) ∨ (∃ j, j < n ∧ q j = true ∧ lastE q n = (j : Int)) := by
  induction n with
  | zero => exact Or.inl ⟨rfl, fun j hj => absurd hj (Nat.not_lt_zero _)⟩
  | succ n ih =>
    by_cases h : q n = true
    · exact Or.inr ⟨n, Nat.lt_succ_self n, h, lastE_t h⟩
    · rw [lastE_f h]
      rcases ih with ⟨e, f⟩ | ⟨j, h1, h2, h3⟩
      · refine Or.inl ⟨e, fun j hj => ?_⟩
        rcases Nat.lt_succ_iff_lt_or_eq.mp hj with z | z
        · exact f j z
        · rw [z]; simpa using h
      · exact Or.inr ⟨j, by omega, h2, h3⟩
theorem lastE_rg (q : Nat → Bool) (n : Nat) : -2 ≤ lastE q n ∧ (lastE q n = -2 ∨ (0 ≤ lastE q n ∧ lastE q n < n)) := by
  rcases lastE_c q n with ⟨e, -⟩ | ⟨j, h1, -, h3⟩
  · rw [e]; exact ⟨by decide, Or.inl rfl⟩
  · rw [h3]; omega
theorem cmpB_anti : ∀ xs ys : List UInt8, cmpB xs ys = - cmpB ys xs
  | [], [] => rfl
  | [], y :: ys => by simp [cmpB]
  | x :: xs, [] => by simp [cmpB]
  | x :: xs, y :: ys => by
    have ih := cmpB_anti xs ys
    simp only [cmpB]
    by_cases h : x = y
    · rw [if_pos h, if_pos h.symm, ih]
    · rw [if_neg h, if_neg (fun z => h z.symm)]; omega
theorem cmpB_self (xs : List UInt8) : cmpB xs xs = 0 := cmpB_0.mpr rfl
/-- how many names below m stand before name e -/
def rkN (nm : Nat → List UInt8) (e : Nat) : Nat → Nat
  | 0 => 0
  | m + 1 => if cmpB (nm m) (nm e) < 0 then rkN nm e m + 1 else rkN nm e m
def ordN (nm : Nat → List UInt8) (ne : Nat) (od : Nat → Nat) : Nat → (Nat → Nat)
  | 0 => od
  | e + 1 => upN (ordN nm ne od e) (rkN nm e ne) e
theorem rkN_le (nm : Nat → List UInt8) (e m : Nat) : rkN nm e m ≤ m := by
  induction m with
  | zero => exact Nat.le_refl _
  | succ m ih =>
    show (if cmpB (nm m) (nm e) < 0 then rkN nm e m + 1 else rkN nm e m) ≤ _
    split <;> omega
theorem rkN_lt (nm : Nat → List UInt8) {e m : Nat} (h : e < m) : rkN nm e m < m := by
  induction m with
  | zero => omega
  | succ m ih =>
    show (if cmpB (nm m) (nm e) < 0 then rkN nm e m + 1 else rkN nm e m) < _
    by_cases h1 : e = m
    · subst h1
      rw [cmpB_self, if_neg (by decide)]
      have := rkN_le nm e e
      omega
    · have := ih (by omega)
      split <;> omega
theorem rkN_cnt (me : Nat → zE) (e m : Nat) : rkN (fun k => (me k).1) e m = ((List.range m).map me).countP (fun x => decide (cmpB x.1 (me e).1 < 0)) := by
  induction m with
  | zero => rfl
  | succ m ih =>
    show (if cmpB (me m).1 (me e).1 < 0 then rkN (fun k => (me k).1) e m + 1 else rkN (fun k => (me k).1) e m) = _
    rw [List.range_succ, List.map_append, List.countP_append, ih]
    show _ = _ + List.countP _ [me m]
    by_cases h : cmpB (me m).1 (me e).1 < 0
    · rw [if_pos h]; simp [h]
    · rw [if_neg h]; simp [h]
/-- strictly in order of the names -/
def srtE (es : List zE) : Prop := es.Pairwise (fun a b => cmpB a.1 b.1 < 0)
theorem srt_cnt {es : List zE} (h : srtE es) {r : Nat} {x : zE} (hx : es[r]? = some x) : es.countP (fun y => decide (cmpB y.1 x.1 < 0)) = r := by
  induction es generalizing r with
  | nil => simp at hx
  | cons y ys ih =>
    obtain ⟨h1, h2⟩ := List.pairwise_cons.mp h
    cases r with
    | zero =>
      have e : y = x := by simpa using hx
      subst e
      rw [List.countP_cons, List.countP_eq_zero.mpr]
      · rw [cmpB_self]; rfl
      · intro b hb
        have := h1 b hb
        rw [cmpB_anti] at this
        simp; omega
    | succ r =>
      have hx' : ys[r]? = some x := by simpa using hx
      have hm : x ∈ ys := List.mem_of_getElem? hx'
      rw [List.countP_cons, ih h2 hx', if_pos (decide_eq_true (h1 x hm))]
theorem ord_go (me : Nat → zE) {es : List zE} {ne : Nat} (hs : srtE es) (hp : ((List.range ne).map me).Perm es) {e r : Nat} (hr : es[r]? = some (me e)) : rkN (fun k => (me k).1) e ne = r := by
  rw [rkN_cnt, hp.countP_eq, srt_cnt hs hr]
theorem ordN_ok (me : Nat → zE) (od : Nat → Nat) {es : List zE} {ne : Nat} (hs : srtE es) (hp : ((List.range ne).map me).Perm es) : ∀ r, r < ne → ordN (fun k => (me k).1) ne od ne r < ne ∧ es[r]? = some (me (ordN (fun k => (me k).1) ne od ne r)) := by
  have key : ∀ m, m ≤ ne → ∀ r, (∃ e, e < m ∧ es[r]? = some (me e)) → ordN (fun k => (me k).1) ne od m r < ne ∧ es[r]? = some (me (ordN (fun k => (me k).1) ne od m r)) := by
    intro m
    induction m with
    | zero => intro _ r ⟨e, he, _⟩; omega
    | succ m ih =>
      intro hm r ⟨e, he, hr⟩
      show upN (ordN (fun k => (me k).1) ne od m) (rkN (fun k => (me k).1) m ne) m r < ne ∧ es[r]? = some (me (upN (ordN (fun k => (me k).1) ne od m) (rkN (fun k => (me k).1) m ne) m r))
      have hmem : me m ∈ es := hp.mem_iff.mp (List.mem_map.mpr ⟨m, List.mem_range.mpr (by omega), rfl⟩)
      obtain ⟨r0, hr0⟩ := List.getElem?_of_mem hmem
      have h0 := ord_go me hs hp hr0
      by_cases q : r = rkN (fun k => (me k).1) m ne
      · rw [q, upN_s, h0]; exact ⟨by omega, hr0⟩
      · rw [upN_n q]
        refine ih (by omega) r ⟨e, ?_, hr⟩
        have : e ≠ m := by
          intro z
          subst z
          exact q (ord_go me hs hp hr).symm
        omega
  intro r hr
  have hl : es.length = ne := by rw [← hp.length_eq]; simp
  have hx : es[r]? = some es[r] := List.getElem?_eq_getElem (by omega)
  have hmem : es[r] ∈ (List.range ne).map me := hp.mem_iff.mpr (List.getElem_mem _)
  obtain ⟨e, he, hee⟩ := List.mem_map.mp hmem
  exact key ne (Nat.le_refl _) r ⟨e, List.mem_range.mp he, by rw [hx, hee]⟩
/-- entries that come and go -/
theorem prm_add {me me' : Nat → zE} {es : List zE} {ne k0 : Nat} {x : zE} (hp : ((List.range ne).map me).Perm es) (h1 : ∀ j, j < ne → me' j = me j) (h2 : me' ne = x) (hk : k0 ≤ es.length) : ((List.range (ne + 1)).map me').Perm (es.insertIdx k0 x) := by
  rw [List.range_succ, List.map_append]
  show ((List.range ne).map me' ++ [me' ne]).Perm _
  rw [h2, List.map_congr_left (fun j hj => h1 j (List.mem_range.mp hj))]
  exact (List.perm_append_singleton _ _).trans ((hp.cons x).trans (List.perm_insertIdx x es hk).symm)
theorem srt_ins {es : List zE} {k0 : Nat} {x : zE} (h : srtE es) (hk : k0 ≤ es.length) (h1 : ∀ j y, j < k0 → es[j]? = some y → cmpB y.1 x.1 < 0) (h2 : ∀ j y, k0 ≤ j → es[j]? = some y → 0 < cmpB y.1 x.1) : srtE (es.insertIdx k0 x) := by
  induction es generalizing k0 with
  | nil =>
    have : k0 = 0 := by simpa using hk
    subst this
    simp [srtE]
  | cons y ys ih =>
    obtain ⟨q1, q2⟩ := List.pairwise_cons.mp h
    cases k0 with
    | zero =>
      show srtE (x :: y :: ys)
      refine List.pairwise_cons.mpr ⟨fun b hb => ?_, h⟩
      obtain ⟨j, hj⟩ := List.getElem?_of_mem hb
      have := h2 j b (Nat.zero_le _) hj
      rw [cmpB_anti]; omega
    | succ k0 =>
      rw [List.insertIdx_succ_cons]
      refine List.pairwise_cons.mpr ⟨fun b hb => ?_, ih q2 (by simpa using hk) (fun j z hj hz => h1 (j + 1) z (by omega) (by simpa using hz)) (fun j z hj hz => h2 (j + 1) z (by omega) (by simpa using hz))⟩
      rcases List.mem_insertIdx (by simpa using hk) |>.mp hb with e | e
      · rw [e]; exact h1 0 y (Nat.succ_pos _) rfl
      · exact q1 b e
theorem srt_del {es : List zE} {i : Nat} (h : srtE es) : srtE (es.eraseIdx i) := List.Pairwise.sublist (List.eraseIdx_sublist es i) h
theorem srt_inj {es : List zE} (h : srtE es) {i j : Nat} {x y : zE} (hx : es[i]? = some x) (hy : es[j]? = some y) (he : x.1 = y.1) : i = j := by
  have a := srt_cnt h hx
  have b := srt_cnt h hy
  rw [he] at a
  omega
theorem era_perm {α : Type} : ∀ (xs : List α) (i : Nat) (x : α), xs[i]? = some x → xs.Perm (x :: xs.eraseIdx i)
  | [], i, x, h => by simp at h
  | y :: ys, 0, x, h => by
    have e : y = x := by simpa using h
    subst e
    exact List.Perm.refl _
  | y :: ys, i + 1, x, h => by
    have ih := era_perm ys i x (by simpa using h)
    show (y :: ys).Perm (x :: y :: ys.eraseIdx i)
    exact (ih.cons y).trans (List.Perm.swap _ _ _)
theorem prm_del {me me' : Nat → zE} {es : List zE} {ne i e : Nat} (hs : srtE es) (hp : ((List.range (ne + 1)).map me).Perm es) (he : e < ne + 1) (hi : es[i]? = some (me e)) (h1 : ∀ j, j < ne → j ≠ e → me' j = me j) (h2 : e < ne → me' e = me ne) : ((List.range ne).map me').Perm (es.eraseIdx i) := by
  have p1 : es.Perm (me e :: es.eraseIdx i) := era_perm es i _ hi
  have p2 : ((List.range (ne + 1)).map me).Perm (me e :: (List.range ne).map me') := by
    rw [List.range_succ, List.map_append]
    show ((List.range ne).map me ++ [me ne]).Perm _
    refine (List.perm_append_singleton _ _).trans ?_
    by_cases q : e = ne
    · subst q
      rw [List.map_congr_left (fun j hj => h1 j (List.mem_range.mp hj) (by have := List.mem_range.mp hj; omega))]
    · have hlt : e < ne := by omega
      have s1 : ((List.range ne).map me).Perm (me e :: ((List.range ne).eraseIdx e).map me) := by
        have := era_perm (List.range ne) e e (List.getElem?_range hlt)
        exact this.map me
      have s2 : ((List.range ne).map me').Perm (me ne :: ((List.range ne).eraseIdx e).map me) := by
        have := era_perm (List.range ne) e e (List.getElem?_range hlt)
        have t := this.map me'
        rw [List.map_cons, h2 hlt] at t
        have c : ((List.range ne).eraseIdx e).map me' = ((List.range ne).eraseIdx e).map me := by
          apply List.map_congr_left
          intro j hj
          obtain ⟨q1, q2⟩ := List.mem_eraseIdx_iff_getElem?.mp hj
          have hj2 : j ∈ List.range ne := (List.eraseIdx_sublist _ _).subset hj
          obtain ⟨q3, q4⟩ := q2
          rcases Nat.lt_or_ge q1 ne with z | z
          · rw [List.getElem?_range z] at q4
            have : q1 = j := by simpa using q4
            exact h1 j (List.mem_range.mp hj2) (by omega)
          · rw [List.getElem?_eq_none (by simpa using z)] at q4; simp at q4
        rw [c] at t
        exact t
      exact ((s1.cons (me ne)).trans (List.Perm.swap _ _ _)).trans (s2.symm.cons (me e))
  exact List.Perm.cons_inv ((p2.symm.trans hp).trans p1)
