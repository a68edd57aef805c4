/-! making depends on the entries that are there -/
theorem lay_cg {b : Nat} {ef ef' : Nat → zE} {n : Nat} (h : ∀ j, j < n → ef j = ef' j) : layN b ef n = layN b ef' n := by
  induction n with
  | zero => rfl
  | succ n ih =>
    show layS b (layN b ef n) (ef n) = layS b (layN b ef' n) (ef' n)
    rw [ih (fun j hj => h j (by omega)), h n (Nat.lt_succ_self n)]
theorem fit_cg {b : Nat} {ef ef' : Nat → zE} {n : Nat} (h : ∀ j, j < n + 1 → ef j = ef' j) : fitB b ef n = fitB b ef' n := by
  unfold fitB
  rw [lay_cg (fun j hj => h j (by omega)), h n (Nat.lt_succ_self n)]
theorem mkF_cg {b : Nat} {ef ef' : Nat → zE} {f : Nat → UInt8} {n : Nat} (h : ∀ j, j < n → ef j = ef' j) : mkF b ef f n = mkF b ef' f n := by
  induction n with
  | zero => rfl
  | succ n ih =>
    show wrE b (layN b ef n) (mkF b ef f n) (ef n) = wrE b (layN b ef' n) (mkF b ef' f n) (ef' n)
    rw [ih (fun j hj => h j (by omega)), lay_cg (fun j hj => h j (by omega)), h n (Nat.lt_succ_self n)]
theorem hdN_cg {b : Nat} {ef ef' : Nat → zE} {n : Nat} (h : ∀ j, j < n → ef j = ef' j) : hdN b ef n = hdN b ef' n := by
  induction n with
  | zero => rfl
  | succ n ih =>
    show (if fitB b ef n = true then hdN b ef n else hdN b ef n + 1) = (if fitB b ef' n = true then hdN b ef' n else hdN b ef' n + 1)
    rw [ih (fun j hj => h j (by omega)), fit_cg h]
theorem mkL_cg {b : Nat} {ef ef' : Nat → zE} {n : Nat} (h : ∀ j, j < n → ef j = ef' j) : mkL b ef n = mkL b ef' n := by
  induction n with
  | zero => rfl
  | succ n ih =>
    show (if fitB b ef n = true ∨ (b + (layN b ef n).2.1) / 8192 = (b + (layN b ef n).2.2.1) / 8192 then mkL b ef n else mkL b ef n ++ [(nI (layN b ef n).2.1, nI (8194 * ((b + (layN b ef n).2.1) / 8192)), (ef n).1)]) = (if fitB b ef' n = true ∨ (b + (layN b ef' n).2.1) / 8192 = (b + (layN b ef' n).2.2.1) / 8192 then mkL b ef' n else mkL b ef' n ++ [(nI (layN b ef' n).2.1, nI (8194 * ((b + (layN b ef' n).2.1) / 8192)), (ef' n).1)])
    rw [ih (fun j hj => h j (by omega)), fit_cg h, lay_cg (fun j hj => h j (by omega)), h n (Nat.lt_succ_self n)]
theorem mkL_nm {b : Nat} {ef : Nat → zE} {n : Nat} (h : ∀ j, j < n → (ef j).1.length ≤ 256) : ∀ k ∈ mkL b ef n, k.2.2.length ≤ 256 := by
  induction n with
  | zero => intro k hk; exact absurd hk List.not_mem_nil
  | succ n ih =>
    intro k hk
    have hk : k ∈ (if fitB b ef n = true ∨ (b + (layN b ef n).2.1) / 8192 = (b + (layN b ef n).2.2.1) / 8192 then mkL b ef n else mkL b ef n ++ [(nI (layN b ef n).2.1, nI (8194 * ((b + (layN b ef n).2.1) / 8192)), (ef n).1)]) := hk
    split at hk
    · exact ih (fun j hj => h j (by omega)) k hk
    · rcases List.mem_append.mp hk with z | z
      · exact ih (fun j hj => h j (by omega)) k z
      · rw [List.mem_singleton.mp z]
        exact h n (Nat.lt_succ_self n)
/-- how the reference keeps the entries -/
theorem od_ef {nmb : Nat → UInt8} {nsz num sta pla kin od od2 : Nat → Nat} {es : List zE} (hs : srtE es) (hp : ((List.range es.length).map (mdE nmb nsz num sta pla kin)).Perm es) (h : od2 = ordN (nmE nmb nsz) es.length od es.length) : ∀ j, j < es.length → od2 j < es.length ∧ mdO nmb nsz num sta pla kin od2 j = efl es j := by
  intro j hj
  obtain ⟨h1, h2⟩ := ordN_ok (mdE nmb nsz num sta pla kin) od hs hp j hj
  have e : (fun k => (mdE nmb nsz num sta pla kin k).1) = nmE nmb nsz := rfl
  rw [e, ← h] at h1 h2
  refine ⟨h1, ?_⟩
  rw [efl_at hj] at h2
  exact (Option.some.inj h2).symm
theorem lay_8192 {b : Nat} {tpe : List UInt8} {es kl : List zE} {len bg n : Nat} {ml : List zM} (h : okA tpe es kl len bg ml n) (hn : n ≤ 512) : (layN b (efl es) es.length).2.1 + 12 ≤ 8192 := by
  have h1 := lay_sum (b := b) (ef := efl es) (n := es.length)
  have e : (List.range es.length).map (efl es) = es := by
    apply List.ext_getElem?
    intro i
    by_cases hi : i < es.length
    · rw [List.getElem?_map, List.getElem?_range hi, efl_at hi]
      rfl
    · rw [List.getElem?_eq_none (by simpa using hi), List.getElem?_eq_none (by omega)]
  rw [e] at h1
  have := h.2.2.2.2.2.2.2.2.2.2.2
  omega
theorem a_nat {a : Int32} (h : 0 ≤ a.toInt) : ∃ n : Nat, a = nI n ∧ n < 2 ^ 31 ∧ a.toInt = (n : Int) := by
  have h2 := a.toInt_lt
  refine ⟨a.toInt.toNat, ?_, by omega, by omega⟩
  rw [nI_iI, show ((a.toInt.toNat : Nat) : Int) = a.toInt by omega]
  exact iI_of a
/-- the answers -/
def fdT (tpe : List UInt8) (b : Int64) (n : Nat) : List UInt8 := if tpe.length + n ≤ 300 then tpe ++ (List.range n).map (fB b) else tpe
def fdA (tpe : List UInt8) (n : Nat) : Int32 := if tpe.length + n ≤ 300 then nI (tpe.length + n) else iI (-4)
def szA (len hd mn bg : Nat) (a : Int32) : Int32 := if a = nI 0 then nI len else if a = nI 1 then nI hd else if a = nI 2 then nI mn else if a = nI 3 then nI bg else iI (-1)
def ixA (ml : List zM) (n : Nat) (b : Int32) : Int32 := if b = nI 0 then (mfl ml n).1 else if b = nI 1 then (mfl ml n).2.1 else nI (mfl ml n).2.2.length
theorem mfl_set {ml : List zM} {n j : Nat} {k : zM} (hn : n < ml.length) : mfl (ml.set n k) j = if j = n then k else mfl ml j := by
  unfold mfl
  rw [List.getD_eq_getElem?_getD, List.getD_eq_getElem?_getD]
  by_cases z : j = n
  · subst z
    rw [if_pos rfl, List.getElem?_set_self hn]
    rfl
  · rw [if_neg z, List.getElem?_set_ne (fun q => z q.symm)]
theorem mfl_map {nx j : Nat} {mf : Nat → zM} (h : j < nx) : mfl ((List.range nx).map mf) j = mf j := by
  unfold mfl
  rw [List.getD_eq_getElem?_getD, List.getElem?_map, List.getElem?_range h]
  rfl
