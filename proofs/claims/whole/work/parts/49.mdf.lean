/-! making, as the reference does it: a header's count is written when it is closed -/
def clF (b : Nat) (ef : Nat → zE) (k : Nat) (h : Nat → UInt8) : Nat → UInt8 := if k = 0 then h else uB h (layN b ef k).2.2.1 (zu (nI ((layN b ef k).2.2.2.2.1 - 1)))
def mdF (b : Nat) (ef : Nat → zE) (f : Nat → UInt8) : Nat → (Nat → UInt8)
  | 0 => f
  | k + 1 => if fitB b ef k = true then wr (mdF b ef f k) (layN b ef k).2.1 (entB (ef k).2.2.2.1 (nI (ef k).2.1 - nI (layN b ef k).2.2.2.1) (ef k).2.2.2.2 (ef k).1)
    else wr (wr (clF b ef k (mdF b ef f k)) (layN b ef k).2.1 (le4 (nI 0) ++ le4 (nI (ef k).2.2.1) ++ le4 (nI (ef k).2.1))) ((layN b ef k).2.1 + 12) (entB (ef k).2.2.2.1 (nI (ef k).2.1 - nI (ef k).2.1) (ef k).2.2.2.2 (ef k).1)
theorem lay_hd {b : Nat} {ef : Nat → zE} {k : Nat} (hk : 0 < k) : 1 ≤ (layN b ef k).2.2.2.2.1 ∧ (layN b ef k).2.2.2.2.1 ≤ k ∧ (layN b ef k).2.2.2.2.1 ≤ 256 ∧ (layN b ef k).1 = (ef (k - (layN b ef k).2.2.2.2.1)).2.2.1 ∧ (layN b ef k).2.2.2.1 = (ef (k - (layN b ef k).2.2.2.2.1)).2.1 ∧ (layN b ef k).2.2.1 + 12 ≤ (layN b ef k).2.1 := by
  induction k with
  | zero => omega
  | succ k ih =>
    rcases @layN_s b ef k with ⟨h1, h2⟩ | ⟨h1, h2⟩
    · have h3 := h1
      unfold fitB layF at h3
      have h3 := of_decide_eq_true h3
      have hk0 : 0 < k := by
        rcases Nat.eq_zero_or_pos k with z | z
        · subst z; exact absurd h3.1 (by show ¬ 0 < 0; omega)
        · exact z
      obtain ⟨i1, i2, i3, i4, i5, i6⟩ := ih hk0
      rw [h2]
      refine ⟨by show 1 ≤ _ + 1; omega, by show _ + 1 ≤ k + 1; omega, by show _ + 1 ≤ 256; omega, ?_, ?_, by show (layN b ef k).2.2.1 + 12 ≤ (layN b ef k).2.1 + (8 + (ef k).1.length); omega⟩
      · show (layN b ef k).1 = (ef (k + 1 - ((layN b ef k).2.2.2.2.1 + 1))).2.2.1
        rw [i4, show k + 1 - ((layN b ef k).2.2.2.2.1 + 1) = k - (layN b ef k).2.2.2.2.1 by omega]
      · show (layN b ef k).2.2.2.1 = (ef (k + 1 - ((layN b ef k).2.2.2.2.1 + 1))).2.1
        rw [i5, show k + 1 - ((layN b ef k).2.2.2.2.1 + 1) = k - (layN b ef k).2.2.2.2.1 by omega]
    · rw [h2]
      refine ⟨Nat.le_refl _, by show 1 ≤ k + 1; omega, by show 1 ≤ 256; omega, rfl, rfl, by show (layN b ef k).2.1 + 12 ≤ (layN b ef k).2.1 + 12 + (8 + (ef k).1.length); omega⟩
theorem wr_ext {f f' : Nat → UInt8} {a : Nat} {xs : List UInt8} (h : f = f') : wr f a xs = wr f' a xs := by rw [h]
theorem wr_com (f : Nat → UInt8) {a b : Nat} {xs ys : List UInt8} (h : a + xs.length ≤ b ∨ b + ys.length ≤ a) : wr (wr f a xs) b ys = wr (wr f b ys) a xs := by
  funext j
  unfold wr
  by_cases h1 : a ≤ j ∧ j < a + xs.length
  · rw [if_neg (show ¬ (b ≤ j ∧ j < b + ys.length) by omega), if_pos h1, if_pos h1]
  · rw [if_neg h1, if_neg h1]
theorem wr_id {f : Nat → UInt8} {a : Nat} {xs : List UInt8} (h : ∀ i, i < xs.length → f (a + i) = xs.getD i 0) : wr f a xs = f := by
  funext j
  unfold wr
  split
  · rename_i q
    have := h (j - a) (by omega)
    rw [show a + (j - a) = j by omega] at this
    exact this.symm
  · rfl
theorem wr_rw (f : Nat → UInt8) {a : Nat} {xs ys : List UInt8} (h : xs.length ≤ ys.length) : wr (wr f a xs) a ys = wr f a ys := by
  funext j
  unfold wr
  by_cases h1 : a ≤ j ∧ j < a + ys.length
  · rw [if_pos h1, if_pos h1]
  · rw [if_neg h1, if_neg h1, if_neg (by omega)]
theorem shr_sm {v k : Nat} (hv : v < 256) (hk : 256 ≤ 2 ^ k) (hs : ((nI k &&& 31).toBitVec.smod 32).toNat = k) : zu (nI v >>> (nI k &&& 31)) = 0 := by
  have e : nI v >>> (nI k &&& 31) = 0 := by
    apply Int32.toInt_inj.mp
    rw [pk_shr _ _ k hs, nI_toInt (by omega), Int.shiftRight_eq_div_pow]
    show (v : Int) / ((2 ^ k : Nat) : Int) = 0
    exact Int.ediv_eq_zero_of_lt (by omega) (by omega)
  rw [e]
  rfl
theorem le4_s (v : Nat) (hv : v < 256) : le4 (nI v) = [zu (nI v), 0, 0, 0] := by
  unfold le4
  rw [bt_0]
  show [zu (nI v), zu (nI v >>> (nI 8 &&& 31)), zu (nI v >>> (nI 16 &&& 31)), zu (nI v >>> (nI 24 &&& 31))] = _
  rw [shr_sm hv (k := 8) (by decide) (by decide), shr_sm hv (k := 16) (by decide) (by decide), shr_sm hv (k := 24) (by decide) (by decide)]
theorem zu_0 : zu (nI 0) = 0 := by decide
theorem le4_0 : le4 (nI 0) = [0, 0, 0, 0] := by rw [le4_s 0 (by decide), zu_0]
theorem md_ok {b : Nat} {ef : Nat → zE} {f : Nat → UInt8} {k : Nat} (hk : 0 < k) : mkF b ef f k = uB (mdF b ef f k) (layN b ef k).2.2.1 (zu (nI ((layN b ef k).2.2.2.2.1 - 1))) ∧ (∀ i, i < 3 → mdF b ef f k ((layN b ef k).2.2.1 + 1 + i) = 0) := by
  induction k with
  | zero => omega
  | succ k ih =>
    have hcl : clF b ef k (mdF b ef f k) = mkF b ef f k := by
      unfold clF
      by_cases z : k = 0
      · subst z; rfl
      · rw [if_neg z]; exact (ih (by omega)).1.symm
    by_cases h1 : fitB b ef k = true
    · have h3 := h1
      unfold fitB layF at h3
      have h3 := of_decide_eq_true h3
      have hk0 : 0 < k := by
        rcases Nat.eq_zero_or_pos k with z | z
        · subst z; exact absurd h3.1 (by show ¬ 0 < 0; omega)
        · exact z
      obtain ⟨i1, i2⟩ := ih hk0
      obtain ⟨j1, j2, j3, j4, j5, j6⟩ := lay_hd (b := b) (ef := ef) hk0
      have e1 : layN b ef (k + 1) = ((layN b ef k).1, (layN b ef k).2.1 + (8 + (ef k).1.length), (layN b ef k).2.2.1, (layN b ef k).2.2.2.1, (layN b ef k).2.2.2.2.1 + 1, (layN b ef k).2.1) := if_pos h1
      have e2 : mkF b ef f (k + 1) = wr (wr (mkF b ef f k) (layN b ef k).2.2.1 (le4 (nI ((layN b ef k).2.2.2.2.1 + 1 - 1)))) (layN b ef k).2.1 (entB (ef k).2.2.2.1 (nI (ef k).2.1 - nI (layN b ef k).2.2.2.1) (ef k).2.2.2.2 (ef k).1) := if_pos h1
      have e3 : mdF b ef f (k + 1) = wr (mdF b ef f k) (layN b ef k).2.1 (entB (ef k).2.2.2.1 (nI (ef k).2.1 - nI (layN b ef k).2.2.2.1) (ef k).2.2.2.2 (ef k).1) := if_pos h1
      rw [e1, e2, e3]
      constructor
      · show _ = uB (wr (mdF b ef f k) (layN b ef k).2.1 _) (layN b ef k).2.2.1 (zu (nI ((layN b ef k).2.2.2.2.1 + 1 - 1)))
        rw [wr_1, ← wr_com (mdF b ef f k) (a := (layN b ef k).2.2.1) (xs := [zu (nI ((layN b ef k).2.2.2.2.1 + 1 - 1))]) (Or.inl (by show _ + 1 ≤ _; omega))]
        apply wr_ext
        rw [i1, wr_1, wr_rw _ (show _ ≤ _ from by show 1 ≤ 4; omega), le4_s _ (by omega)]
        show wr (mdF b ef f k) (layN b ef k).2.2.1 ([zu (nI ((layN b ef k).2.2.2.2.1 + 1 - 1))] ++ [0, 0, 0]) = _
        rw [← wr_wr (mdF b ef f k) (layN b ef k).2.2.1 [zu (nI ((layN b ef k).2.2.2.2.1 + 1 - 1))] [0, 0, 0] (b := (layN b ef k).2.2.1 + 1) rfl]
        apply wr_id
        intro i hi
        have hi : i < 3 := hi
        rw [wr_out (Or.inr (by show _ + 1 ≤ _; omega)), i2 i hi]
        rcases (show i = 0 ∨ i = 1 ∨ i = 2 by omega) with z | z | z <;> subst z <;> rfl
      · intro i hi
        show wr _ _ _ ((layN b ef k).2.2.1 + 1 + i) = 0
        rw [wr_out (Or.inl (by omega)), i2 i hi]
    · have e1 : layN b ef (k + 1) = ((ef k).2.2.1, (layN b ef k).2.1 + 12 + (8 + (ef k).1.length), (layN b ef k).2.1, (ef k).2.1, 1, (layN b ef k).2.1 + 12) := if_neg h1
      have e2 : mkF b ef f (k + 1) = wr (wr (wr (wr (mkF b ef f k) ((layN b ef k).2.1 + 4) (le4 (nI (ef k).2.2.1))) ((layN b ef k).2.1 + 8) (le4 (nI (ef k).2.1))) (layN b ef k).2.1 (le4 (nI (1 - 1)))) ((layN b ef k).2.1 + 12) (entB (ef k).2.2.2.1 (nI (ef k).2.1 - nI (ef k).2.1) (ef k).2.2.2.2 (ef k).1) := if_neg h1
      have e3 : mdF b ef f (k + 1) = wr (wr (clF b ef k (mdF b ef f k)) (layN b ef k).2.1 (le4 (nI 0) ++ le4 (nI (ef k).2.2.1) ++ le4 (nI (ef k).2.1))) ((layN b ef k).2.1 + 12) (entB (ef k).2.2.2.1 (nI (ef k).2.1 - nI (ef k).2.1) (ef k).2.2.2.2 (ef k).1) := if_neg h1
      have e4 : wr (wr (wr (mkF b ef f k) ((layN b ef k).2.1 + 4) (le4 (nI (ef k).2.2.1))) ((layN b ef k).2.1 + 8) (le4 (nI (ef k).2.1))) (layN b ef k).2.1 (le4 (nI (1 - 1))) = wr (mkF b ef f k) (layN b ef k).2.1 (le4 (nI 0) ++ le4 (nI (ef k).2.2.1) ++ le4 (nI (ef k).2.1)) := by
        rw [wr_wr (mkF b ef f k) ((layN b ef k).2.1 + 4) (le4 (nI (ef k).2.2.1)) (le4 (nI (ef k).2.1)) (b := (layN b ef k).2.1 + 8) rfl, wr_com (mkF b ef f k) (a := (layN b ef k).2.1 + 4) (b := (layN b ef k).2.1) (ys := le4 (nI (1 - 1))) (Or.inr (Nat.le_refl _)), wr_wr (mkF b ef f k) (layN b ef k).2.1 (le4 (nI (1 - 1))) (le4 (nI (ef k).2.2.1) ++ le4 (nI (ef k).2.1)) (b := (layN b ef k).2.1 + 4) rfl, List.append_assoc]
      have e5 : mdF b ef f (k + 1) = mkF b ef f (k + 1) := by rw [e3, e2, hcl, e4]
      have e6 : ∀ i, i < 4 → mkF b ef f (k + 1) ((layN b ef k).2.1 + i) = 0 := by
        intro i hi
        rw [e2, e4, wr_out (Or.inl (by omega)), wr_in (by omega) (by show _ < _ + 12; omega), le4_0, show (layN b ef k).2.1 + i - (layN b ef k).2.1 = i by omega]
        rcases (show i = 0 ∨ i = 1 ∨ i = 2 ∨ i = 3 by omega) with z | z | z | z <;> subst z <;> rfl
      rw [e5, e1]
      constructor
      · show _ = uB (mkF b ef f (k + 1)) (layN b ef k).2.1 (zu (nI (1 - 1)))
        rw [wr_1, wr_id]
        intro i hi
        have hi : i < 1 := hi
        have := e6 i (by omega)
        rw [show i = 0 by omega] at this ⊢
        rw [this]
        show (0 : UInt8) = zu (nI 0)
        rw [zu_0]
      · intro i hi
        show mkF b ef f (k + 1) ((layN b ef k).2.1 + 1 + i) = 0
        have := e6 (1 + i) (by omega)
        rwa [show (layN b ef k).2.1 + (1 + i) = (layN b ef k).2.1 + 1 + i by omega] at this
theorem md_eq (b : Nat) (ef : Nat → zE) (f : Nat → UInt8) (n : Nat) : clF b ef n (mdF b ef f n) = mkF b ef f n := by
  unfold clF
  by_cases z : n = 0
  · subst z; rfl
  · rw [if_neg z]; exact (md_ok (by omega)).1.symm
theorem hdN_pos {b : Nat} {ef : Nat → zE} {k : Nat} : 0 < hdN b ef k ↔ 0 < k := by
  induction k with
  | zero => exact Iff.rfl
  | succ k ih =>
    show 0 < (if fitB b ef k = true then hdN b ef k else hdN b ef k + 1) ↔ _
    split
    · rename_i h1
      have h3 := h1
      unfold fitB layF at h3
      have h3 := of_decide_eq_true h3
      have hk0 : 0 < k := by
        rcases Nat.eq_zero_or_pos k with z | z
        · subst z; exact absurd h3.1 (by show ¬ 0 < 0; omega)
        · exact z
      have := ih.mpr hk0
      constructor <;> intro _ <;> omega
    · constructor <;> intro _ <;> omega
/-- whether an entry goes under the header that stands, as the reference asks it -/
def tkB (b i fr k to na nb sa sb' : Nat) : Bool := decide (k = i ∨ (k - i < 256 ∧ sa = sb' ∧ -32768 ≤ (nb : Int) - (na : Int) ∧ (nb : Int) - (na : Int) < 32768 ∧ (b + to) / 8192 = (b + fr) / 8192))
theorem tk_fit {b : Nat} {ef : Nat → zE} {k i : Nat} (hk : 0 < k) (hi : i = k - (layN b ef k).2.2.2.2.1) : tkB b i (layN b ef k).2.2.1 k (layN b ef k).2.1 (ef i).2.1 (ef k).2.1 (ef i).2.2.1 (ef k).2.2.1 = fitB b ef k := by
  obtain ⟨j1, j2, j3, j4, j5, j6⟩ := lay_hd (b := b) (ef := ef) hk
  unfold tkB fitB layF
  rw [Bool.eq_iff_iff, decide_eq_true_iff, decide_eq_true_iff, j4, j5, ← hi]
  constructor
  · rintro (h | ⟨h1, h2, h3, h4, h5⟩)
    · omega
    · exact ⟨by omega, by omega, h2.symm, h3, by omega, h5⟩
  · rintro ⟨h1, h2, h3, h4, h5, h6⟩
    exact Or.inr ⟨by omega, h3.symm, h4, by omega, h6⟩
theorem fit_0 {b : Nat} {ef : Nat → zE} : fitB b ef 0 = false := layF_0
/-- how long the row is at most -/
def sumE (es : List zE) : Nat := (es.map (fun e => 20 + e.1.length)).sum
theorem sum_app (xs ys : List zE) : sumE (xs ++ ys) = sumE xs + sumE ys := by
  unfold sumE
  rw [List.map_append, List.sum_append]
theorem sum_perm {xs ys : List zE} (h : xs.Perm ys) : sumE xs = sumE ys := (h.map _).sum_nat
theorem lay_sum {b : Nat} {ef : Nat → zE} {n : Nat} : (layN b ef n).2.1 ≤ sumE ((List.range n).map ef) := by
  induction n with
  | zero => exact Nat.le_refl _
  | succ n ih =>
    rw [List.range_succ, List.map_append, sum_app]
    have e : sumE ([n].map ef) = 20 + (ef n).1.length := by simp [sumE]
    rw [e]
    rcases @layN_s b ef n with ⟨h1, h2⟩ | ⟨h1, h2⟩
    · rw [h2]; show (layN b ef n).2.1 + _ ≤ _; omega
    · rw [h2]; show (layN b ef n).2.1 + 12 + _ ≤ _; omega
/-- known numbers in rising order -/
def srtK (kl : List zE) : Prop := kl.Pairwise (fun a b => a.2.1 < b.2.1)
theorem relK_ins {kl : List zE} {kn ks kp kk kn' ks' kp' kk' : Nat → Nat} {nk i : Nat} {y : zE} (h : relK kl kn ks kp kk nk) (hi : i ≤ kl.length) (hn : ∀ j, j < nk → kn j ≠ y.2.1) (h1 : ∀ j, j < nk → kn' j = kn j ∧ ks' j = ks j ∧ kp' j = kp j ∧ kk' j = kk j) (h2 : (kn' nk, ks' nk, kp' nk, kk' nk) = y.2) : relK (kl.insertIdx i y) kn' ks' kp' kk' (nk + 1) := by
  refine ⟨fun q => ⟨?_, ?_⟩, ?_⟩
  · rintro ⟨k, hk, hq⟩
    by_cases z : k = nk
    · subst z
      exact ⟨y, (List.mem_insertIdx hi).mpr (Or.inl rfl), by rw [← hq, h2]⟩
    · obtain ⟨a1, a2, a3, a4⟩ := h1 k (by omega)
      rw [a1, a2, a3, a4] at hq
      obtain ⟨e, he, hee⟩ := (h.1 q).mp ⟨k, by omega, hq⟩
      exact ⟨e, (List.mem_insertIdx hi).mpr (Or.inr he), hee⟩
  · rintro ⟨e, he, hee⟩
    rcases (List.mem_insertIdx hi).mp he with z | z
    · subst z
      exact ⟨nk, by omega, by rw [h2, hee]⟩
    · obtain ⟨k, hk, hq⟩ := (h.1 q).mpr ⟨e, z, hee⟩
      obtain ⟨a1, a2, a3, a4⟩ := h1 k hk
      exact ⟨k, by omega, by rw [a1, a2, a3, a4, hq]⟩
  · intro a b ha hb hab
    have ey : kn' nk = y.2.1 := by rw [← h2]
    by_cases za : a = nk
    · by_cases zb : b = nk
      · omega
      · subst za
        rw [ey, (h1 b (by omega)).1] at hab
        exact absurd hab.symm (hn b (by omega))
    · by_cases zb : b = nk
      · subst zb
        rw [ey, (h1 a (by omega)).1] at hab
        exact absurd hab (hn a (by omega))
      · rw [(h1 a (by omega)).1, (h1 b (by omega)).1] at hab
        exact h.2 a b (by omega) (by omega) hab
theorem relK_set {kl : List zE} {kn ks kp kk kn' ks' kp' kk' : Nat → Nat} {nk i k : Nat} {x y : zE} (h : relK kl kn ks kp kk nk) (hs : srtK kl) (hi : kl[i]? = some x) (hx : x.2.1 = y.2.1) (hk : k < nk) (hkn : kn k = y.2.1) (h1 : ∀ j, j ≠ k → kn' j = kn j ∧ ks' j = ks j ∧ kp' j = kp j ∧ kk' j = kk j) (h2 : (kn' k, ks' k, kp' k, kk' k) = y.2) : relK (kl.set i y) kn' ks' kp' kk' nk := by
  have hil := (List.getElem?_eq_some_iff.mp hi).1
  have ey : kn' k = y.2.1 := by rw [← h2]
  have uniq : ∀ j z, kl[j]? = some z → z.2.1 = y.2.1 → j = i := by
    intro j z hj hz
    have p := List.pairwise_iff_getElem.mp hs
    obtain ⟨jl, jz⟩ := List.getElem?_eq_some_iff.mp hj
    obtain ⟨il, iz⟩ := List.getElem?_eq_some_iff.mp hi
    rcases Nat.lt_trichotomy j i with t | t | t
    · have := p j i jl il t
      rw [jz, iz] at this; omega
    · exact t
    · have := p i j il jl t
      rw [jz, iz] at this; omega
  refine ⟨fun q => ⟨?_, ?_⟩, ?_⟩
  · rintro ⟨j, hj, hq⟩
    by_cases z : j = k
    · subst z
      exact ⟨y, List.mem_of_getElem? (List.getElem?_set_self hil), by rw [← hq, h2]⟩
    · obtain ⟨a1, a2, a3, a4⟩ := h1 j z
      rw [a1, a2, a3, a4] at hq
      obtain ⟨e, he, hee⟩ := (h.1 q).mp ⟨j, hj, hq⟩
      obtain ⟨r, hr⟩ := List.getElem?_of_mem he
      have hri : r ≠ i := by
        intro z2
        subst z2
        rw [hi] at hr
        cases hr
        have : kn j = kn k := by
          have e1 : kn j = x.2.1 := by rw [hee, ← hq]
          omega
        exact z (h.2 j k hj hk this)
      exact ⟨e, List.mem_of_getElem? (by rw [List.getElem?_set_ne (fun t => hri t.symm), hr]), hee⟩
  · rintro ⟨e, he, hee⟩
    obtain ⟨r, hr⟩ := List.getElem?_of_mem he
    by_cases z : r = i
    · subst z
      rw [List.getElem?_set_self hil] at hr
      cases hr
      exact ⟨k, hk, by rw [h2, hee]⟩
    · rw [List.getElem?_set_ne (fun t => z t.symm)] at hr
      obtain ⟨j, hj, hq⟩ := (h.1 q).mpr ⟨e, List.mem_of_getElem? hr, hee⟩
      have hjk : j ≠ k := by
        intro t
        subst t
        have : e.2.1 = y.2.1 := by rw [hee, ← hq]; exact hkn
        exact z (uniq r e hr this)
      obtain ⟨a1, a2, a3, a4⟩ := h1 j hjk
      exact ⟨j, hj, by rw [a1, a2, a3, a4, hq]⟩
  · intro a b ha hb hab
    by_cases za : a = k
    · by_cases zb : b = k
      · omega
      · subst za
        rw [ey, (h1 b zb).1] at hab
        exact absurd (h.2 b a hb ha (by omega)) zb
    · by_cases zb : b = k
      · subst zb
        rw [ey, (h1 a za).1] at hab
        exact absurd (h.2 a b ha hb (by omega)) za
      · rw [(h1 a za).1, (h1 b zb).1] at hab
        exact h.2 a b ha hb hab
theorem srtK_ins {kl : List zE} {i : Nat} {y : zE} (h : srtK kl) (hi : i ≤ kl.length) (h1 : ∀ j x, j < i → kl[j]? = some x → x.2.1 < y.2.1) (h2 : ∀ j x, i ≤ j → kl[j]? = some x → y.2.1 < x.2.1) : srtK (kl.insertIdx i y) := by
  induction kl generalizing i with
  | nil =>
    have : i = 0 := by simpa using hi
    subst this
    simp [srtK]
  | cons x xs ih =>
    obtain ⟨q1, q2⟩ := List.pairwise_cons.mp h
    cases i with
    | zero =>
      show srtK (y :: x :: xs)
      refine List.pairwise_cons.mpr ⟨fun b hb => ?_, h⟩
      obtain ⟨j, hj⟩ := List.getElem?_of_mem hb
      exact h2 j b (Nat.zero_le _) hj
    | succ i =>
      rw [List.insertIdx_succ_cons]
      refine List.pairwise_cons.mpr ⟨fun b hb => ?_, ih q2 (by simpa using hi) (fun j z hj hz => h1 (j + 1) z (by omega) (by simpa using hz)) (fun j z hj hz => h2 (j + 1) z (by omega) (by simpa using hz))⟩
      rcases List.mem_insertIdx (by simpa using hi) |>.mp hb with e | e
      · rw [e]; exact h1 0 x (Nat.succ_pos _) rfl
      · exact q1 b e
theorem srtK_set {kl : List zE} {i : Nat} {x y : zE} (h : srtK kl) (hi : kl[i]? = some x) (hx : x.2.1 = y.2.1) : srtK (kl.set i y) := by
  obtain ⟨il, iz⟩ := List.getElem?_eq_some_iff.mp hi
  have p := List.pairwise_iff_getElem.mp h
  refine List.pairwise_iff_getElem.mpr (fun a b ha hb hab => ?_)
  have ha' : a < kl.length := by simpa using ha
  have hb' : b < kl.length := by simpa using hb
  have t := p a b ha' hb' hab
  rw [List.getElem_set, List.getElem_set]
  by_cases z1 : i = a
  · rw [if_pos z1, if_neg (by omega)]
    subst z1
    rw [iz] at t; omega
  · rw [if_neg z1]
    by_cases z2 : i = b
    · rw [if_pos z2]
      subst z2
      rw [iz] at t; omega
    · rw [if_neg z2]; exact t
