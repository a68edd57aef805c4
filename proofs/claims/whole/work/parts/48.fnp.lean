/-! finding: the reference walks from the beginning -/
def fnM (f : Nat → UInt8) (len : Nat) (key : List UInt8) (pp : Nat) : Nat → Nat → Nat → Nat → Nat → Nat → Nat → Int32 × Nat
  | 0, _, _, _, _, _, ps => (iI (-2), ps)
  | fu + 1, en, lf, ha, hn, st, ps =>
    match stepP f len en lf ha hn st with
    | none => (iI (-2), ps)
    | some (en2, lf2, ha2, hn2, st2, at2) =>
      if pp ≤ ha2 then
        (if cmpB key (nmA f len at2) = 0 then (iI ((hn2 : Int) + s16 (U2 f len (at2 + 2))), ps + 1)
        else if cmpB key (nmA f len at2) < 0 then (iI (-2), ps + 1)
        else fnM f len key pp fu en2 lf2 ha2 hn2 st2 (ps + 1))
      else fnM f len key pp fu en2 lf2 ha2 hn2 st2 ps
section FN
variable {f : Nat → UInt8} {len bg : Nat} {kq : Int → Nat → Nat → Nat → Bool} {key : List UInt8} {pp F G fu i en lf ha hn st en2 lf2 ha2 hn2 st2 at2 ps : Nat} {last : List UInt8}
theorem fm_n (h : stepP f len en lf ha hn st = none) : fnM f len key pp (fu + 1) en lf ha hn st ps = (iI (-2), ps) := by
  unfold fnM
  rw [h]
theorem fm_s (h : stepP f len en lf ha hn st = some (en2, lf2, ha2, hn2, st2, at2)) : fnM f len key pp (fu + 1) en lf ha hn st ps = if pp ≤ ha2 then (if cmpB key (nmA f len at2) = 0 then (iI ((hn2 : Int) + s16 (U2 f len (at2 + 2))), ps + 1) else if cmpB key (nmA f len at2) < 0 then (iI (-2), ps + 1) else fnM f len key pp fu en2 lf2 ha2 hn2 st2 (ps + 1)) else fnM f len key pp fu en2 lf2 ha2 hn2 st2 ps := by
  conv => lhs; unfold fnM
  rw [h]
theorem stepP_end (h : lf = 0 ∧ en = len) : stepP f len en lf ha hn st = none := by
  unfold stepP
  rw [if_pos h.1, if_neg (by omega)]
theorem fn_1 {c : Nat} (h1 : lf = 0 ∨ ha + 21 ≤ en) (h2 : (lf = 0 → pp ≤ en) ∧ (lf ≠ 0 → pp ≤ ha)) (hc : mcC f len kq F i en lf ha hn st last = (c : Int)) (hG : c ≤ G + i) : fnM f len key pp F en lf ha hn st ps = fndC f len key G en lf ha hn st ps := by
  induction F generalizing G i en lf ha hn st last ps with
  | zero => exact absurd hc (by show ¬ (-2 : Int) = _; omega)
  | succ F ih =>
    by_cases q : lf = 0 ∧ en = len
    · rw [fm_n (stepP_end q)]
      cases G with
      | zero => rfl
      | succ G => rw [fnd_n (stepP_end q)]
    · rcases hs : stepP f len en lf ha hn st with _ | ⟨en2, lf2, ha2, hn2, st2, at2⟩
      · rw [mc_none q hs] at hc; omega
      · rw [mc_some q hs] at hc
        obtain ⟨e1, e2, e3, e4⟩ := stepP_pl hs h1
        split at hc
        · have hr := mc_rg (f := f) (len := len) (kq := kq) (fu := F) (i := i + 1) (en := en2) (lf := lf2) (ha := ha2) (hn := hn2) (st := st2) (last := nmA f len at2)
          rw [hc] at hr
          have hci : i + 1 ≤ c := by
            rcases hr with z | ⟨c', z1, z2, -⟩
            · omega
            · omega
          obtain ⟨g, rfl⟩ : ∃ g, G = g + 1 := ⟨G - 1, by omega⟩
          have hpp : pp ≤ ha2 := by
            rcases e4 with ⟨a, b, -⟩ | ⟨a, b, -⟩
            · have := h2.1 a; omega
            · have := h2.2 a; omega
          rw [fm_s hs, fnd_s hs, if_pos hpp]
          have an := cmpB_anti key (nmA f len at2)
          by_cases k0 : cmpB key (nmA f len at2) = 0
          · rw [if_pos k0, if_pos (show cmpB (nmA f len at2) key = 0 by omega)]
          · rw [if_neg k0, if_neg (show ¬ cmpB (nmA f len at2) key = 0 by omega)]
            by_cases k1 : cmpB key (nmA f len at2) < 0
            · rw [if_pos k1, if_pos (show 0 < cmpB (nmA f len at2) key by omega)]
            · rw [if_neg k1, if_neg (show ¬ 0 < cmpB (nmA f len at2) key by omega)]
              exact ih (Or.inr e3) ⟨fun _ => by omega, fun _ => hpp⟩ hc (by omega)
        · omega
theorem fn_2 {c : Nat} (h1 : lf = 0 ∨ ha + 21 ≤ en) (h2 : lf ≠ 0 → ha < pp) (hx : ixC f len (fun a _ => decide (a = pp)) F en lf ha hn st = true) (hc : mcC f len kq F i en lf ha hn st last = (c : Int)) (hG : c ≤ G + i) : fnM f len key pp F en lf ha hn st ps = fndC f len key G pp 0 0 0 0 ps := by
  induction F generalizing i en lf ha hn st last ps with
  | zero => cases hx
  | succ F ih =>
    by_cases q0 : lf = 0 ∧ en = pp
    · obtain ⟨q1, q2⟩ := q0
      subst q1
      subst q2
      rw [fn_1 (Or.inl rfl) ⟨fun _ => Nat.le_refl _, fun z => absurd rfl z⟩ hc hG, fnd_ir]
    · by_cases q : lf = 0 ∧ en = len
      · rw [ix_end q] at hx; cases hx
      · rcases hs : stepP f len en lf ha hn st with _ | ⟨en2, lf2, ha2, hn2, st2, at2⟩
        · rw [ix_none q hs] at hx; cases hx
        · rw [mc_some q hs] at hc
          rw [ix_some q hs] at hx
          obtain ⟨e1, e2, e3, e4⟩ := stepP_pl hs h1
          have hr : ixC f len (fun a _ => decide (a = pp)) F en2 lf2 ha2 hn2 st2 = true := by
            rcases Bool.or_eq_true_iff.mp hx with z | z
            · obtain ⟨z1, z2⟩ := Bool.and_eq_true_iff.mp z
              have z1 := of_decide_eq_true z1
              have z2 := of_decide_eq_true z2
              exfalso
              rcases e4 with ⟨a, b, -⟩ | ⟨a, b, -, d⟩
              · exact q0 ⟨a, by omega⟩
              · exact d z1.2
            · exact z
          obtain ⟨p, a, p1, p2, p3⟩ := ix_far (Or.inr e3) hr
          have p3 : p = pp := of_decide_eq_true p3
          split at hc
          · rw [fm_s hs, if_neg (by omega)]
            exact ih (Or.inr e3) (fun _ => by omega) hr hc (by omega)
          · omega
theorem ix_mono {P P' : Nat → Nat → Bool} (hP : ∀ a b, a ≤ len → P a b = true → P' a b = true) (h1 : lf = 0 ∨ ha + 21 ≤ en) (h : ixC f len P F en lf ha hn st = true) : ixC f len P' F en lf ha hn st = true := by
  induction F generalizing en lf ha hn st with
  | zero => cases h
  | succ F ih =>
    by_cases q : lf = 0 ∧ en = len
    · rw [ix_end q] at h; cases h
    · rcases hs : stepP f len en lf ha hn st with _ | ⟨en2, lf2, ha2, hn2, st2, at2⟩
      · rw [ix_none q hs] at h; cases h
      · obtain ⟨e1, e2, e3, e4⟩ := stepP_pl hs h1
        rw [ix_some q hs] at h ⊢
        rcases Bool.or_eq_true_iff.mp h with z | z
        · obtain ⟨z1, z2⟩ := Bool.and_eq_true_iff.mp z
          rw [z1, hP ha2 at2 (by omega) z2]; rfl
        · rw [ih (Or.inr e3) z, Bool.or_true]
end FN
theorem look_c (mf : Nat → zM) (key : List UInt8) (n : Nat) : lookF mf key n = nI 0 ∨ ∃ j, j < n ∧ lookF mf key n = (mf j).1 := by
  induction n with
  | zero => exact Or.inl rfl
  | succ n ih =>
    show (if cmpB (mf n).2.2 key ≤ 0 then (mf n).1 else lookF mf key n) = nI 0 ∨ ∃ j, j < n + 1 ∧ (if cmpB (mf n).2.2 key ≤ 0 then (mf n).1 else lookF mf key n) = (mf j).1
    split
    · exact Or.inr ⟨n, Nat.lt_succ_self n, rfl⟩
    · rcases ih with z | ⟨j, h1, h2⟩
      · exact Or.inl z
      · exact Or.inr ⟨j, by omega, h2⟩
/-- where the check passes, what is looked from is a header's place, and both ways answer alike -/
theorem fn_all {f : Nat → UInt8} {len bg mn c : Nat} {kq : Int → Nat → Nat → Nat → Bool} {mf : Nat → zM} {key : List UInt8} (hl : len < 2 ^ 30) (hc : cntM f len bg kq mf mn = (c : Int)) : ∃ pp, lookF mf key mn = nI pp ∧ pp ≤ len ∧ fnM f len key pp (len + 1) 0 0 0 0 0 0 = fndC f len key c pp 0 0 0 0 0 ∧ c ≤ len + 1 := by
  unfold cntM at hc
  split at hc
  · rename_i h
    have hR := ixR_all.mp h.2
    have hcl : c ≤ len + 1 := by
      rcases mc_rg (f := f) (len := len) (kq := kq) (fu := len + 1) (i := 0) (en := 0) (lf := 0) (ha := 0) (hn := 0) (st := 0) (last := []) with z | ⟨c', z1, z2, z3⟩
      · rw [hc] at z; omega
      · rw [hc] at z1; omega
    rcases look_c mf key mn with z | ⟨j, h1, h2⟩
    · exact ⟨0, z, Nat.zero_le _, fn_1 (Or.inl rfl) ⟨fun _ => Nat.le_refl _, fun z => absurd rfl z⟩ hc (by omega), hcl⟩
    · have hj := (hR j (Nat.zero_le _) h1).1
      obtain ⟨p, a, p1, p2, p3⟩ := ix_far (Or.inl rfl) hj
      have p3 := (of_decide_eq_true p3).1
      refine ⟨p, by rw [h2, p3], p2, ?_, hcl⟩
      refine fn_2 (Or.inl rfl) (fun z => absurd rfl z) ?_ hc (by omega)
      refine ix_mono (fun a b ha hab => ?_) (Or.inl rfl) hj
      have := (of_decide_eq_true hab).1
      rw [p3] at this
      exact decide_eq_true ((nI_eq (by omega) (by omega)).mp this.symm)
  · omega
/-! walking to an entry -/
theorem pIt_inv {f : Nat → UInt8} {len n en lf ha hn st at2 : Nat} (h : pIt f len 0 n = some (en, lf, ha, hn, st, at2)) : en ≤ len ∧ lf ≤ 256 ∧ n ≤ en ∧ (lf = 0 ∨ ha + 21 ≤ en) ∧ (0 < n → hn = U4 f len (ha + 8) ∧ st = U4 f len (ha + 4) ∧ ha + 12 ≤ len ∧ en = at2 + 9 + U2 f len (at2 + 6)) ∧ (n = 0 → en = 0 ∧ lf = 0) := by
  induction n generalizing en lf ha hn st at2 with
  | zero => cases h; exact ⟨Nat.zero_le _, Nat.zero_le _, Nat.le_refl _, Or.inl rfl, fun h => absurd h (Nat.lt_irrefl _), fun _ => ⟨rfl, rfl⟩⟩
  | succ n ih =>
    rcases hp : pIt f len 0 n with _ | ⟨en0, lf0, ha0, hn0, st0, at0⟩
    · rw [pIt_n hp] at h; cases h
    · rw [pIt_s hp] at h
      obtain ⟨i1, i2, i3, i4, i5, i6⟩ := ih hp
      obtain ⟨e1, e2, e3, e4⟩ := stepP_pl h i4
      refine ⟨e2, ?_, by omega, Or.inr e3, fun _ => ?_, fun z => by omega⟩
      · unfold stepP at h
        split at h
        · split at h
          · cases h; omega
          · cases h
        · split at h
          · cases h; omega
          · cases h
      · by_cases hl : lf0 = 0
        · unfold stepP at h
          rw [if_pos hl] at h
          split at h
          · cases h; refine ⟨rfl, rfl, by omega, rfl⟩
          · cases h
        · have hn0 : 0 < n := by
            rcases Nat.eq_zero_or_pos n with z | z
            · exact absurd (i6 z).2 hl
            · exact z
          obtain ⟨j1, j2, j3, j4⟩ := i5 hn0
          unfold stepP at h
          rw [if_neg hl] at h
          split at h
          · cases h; exact ⟨j1, j2, j3, rfl⟩
          · cases h
theorem mc_pIt {f : Nat → UInt8} {len : Nat} {kq : Int → Nat → Nat → Nat → Bool} {fu i en lf ha hn st at0 c : Nat} {last : List UInt8} (hp : pIt f len 0 i = some (en, lf, ha, hn, st, at0)) (hc : mcC f len kq fu i en lf ha hn st last = (c : Int)) : ∀ j, i ≤ j → j < c → ∃ x, pIt f len 0 (j + 1) = some x := by
  induction fu generalizing i en lf ha hn st at0 last with
  | zero => exact absurd hc (by show ¬ (-2 : Int) = _; omega)
  | succ fu ih =>
    by_cases q : lf = 0 ∧ en = len
    · rw [mc_end q] at hc
      intro j h1 h2; omega
    · rcases hs : stepP f len en lf ha hn st with _ | ⟨en2, lf2, ha2, hn2, st2, at2⟩
      · rw [mc_none q hs] at hc; omega
      · rw [mc_some q hs] at hc
        split at hc
        · have hp2 : pIt f len 0 (i + 1) = some (en2, lf2, ha2, hn2, st2, at2) := by rw [pIt_s hp, hs]
          intro j h1 h2
          by_cases hj : j = i
          · subst hj; exact ⟨_, hp2⟩
          · exact ih hp2 hc j (by omega) h2
        · omega
theorem cnt_pIt {f : Nat → UInt8} {len bg mn c : Nat} {kq : Int → Nat → Nat → Nat → Bool} {mf : Nat → zM} (hc : cntM f len bg kq mf mn = (c : Int)) {j : Nat} (hj : j < c) : ∃ x, pIt f len 0 (j + 1) = some x := by
  unfold cntM at hc
  split at hc
  · exact mc_pIt (i := 0) (en := 0) (lf := 0) (ha := 0) (hn := 0) (st := 0) (at0 := 0) rfl hc j (Nat.zero_le _) hj
  · omega
theorem cnt_rg (f : Nat → UInt8) (len bg mn : Nat) (kq : Int → Nat → Nat → Nat → Bool) (mf : Nat → zM) : cntM f len bg kq mf mn = -2 ∨ ∃ c : Nat, cntM f len bg kq mf mn = (c : Int) ∧ c ≤ len + 1 := by
  unfold cntM
  split
  · rename_i h
    rcases mc_rg (f := f) (len := len) (kq := kq) (fu := len + 1) (i := 0) (en := 0) (lf := 0) (ha := 0) (hn := 0) (st := 0) (last := []) with z | ⟨c', z1, z2, z3⟩
    · exact absurd z h.1
    · exact Or.inr ⟨c', z1, by omega⟩
  · exact Or.inl rfl
/-! what is known -/
def ofK (kn : Nat → Nat) (z : Int) : Nat → Bool := fun k => decide ((kn k : Int) = z)
def knM (kn ks kp kk : Nat → Nat) (nk : Nat) (z : Int) (st pl kd : Nat) : Bool := decide (0 ≤ lastE (ofK kn z) nk ∧ ks (lastE (ofK kn z) nk).toNat = st ∧ kp (lastE (ofK kn z) nk).toNat = pl ∧ kk (lastE (ofK kn z) nk).toNat = kd)
def relK (kl : List zE) (kn ks kp kk : Nat → Nat) (nk : Nat) : Prop := (∀ q : Nat × Nat × Nat × Nat, (∃ k, k < nk ∧ (kn k, ks k, kp k, kk k) = q) ↔ ∃ e ∈ kl, e.2 = q) ∧ (∀ i j, i < nk → j < nk → kn i = kn j → i = j)
theorem knM_eq {kl : List zE} {kn ks kp kk : Nat → Nat} {nk : Nat} (h : relK kl kn ks kp kk nk) : knM kn ks kp kk nk = knB kl := by
  funext z st pl kd
  rw [Bool.eq_iff_iff]
  unfold knM knB
  rw [decide_eq_true_iff, List.any_eq_true]
  constructor
  · rintro ⟨h1, h2, h3, h4⟩
    rcases lastE_c (ofK kn z) nk with ⟨e, -⟩ | ⟨j, j1, j2, j3⟩
    · rw [e] at h1; omega
    · rw [j3] at h2 h3 h4
      obtain ⟨e, he, hq⟩ := (h.1 (kn j, ks j, kp j, kk j)).mp ⟨j, j1, rfl⟩
      have j2 := of_decide_eq_true j2
      refine ⟨e, he, decide_eq_true ?_⟩
      rw [hq]
      exact ⟨j2, h2, h3, h4⟩
  · rintro ⟨e, he, hd⟩
    have hd := of_decide_eq_true hd
    obtain ⟨k, hk, hq⟩ := (h.1 e.2).mpr ⟨e, he, rfl⟩
    have e1 : kn k = e.2.1 := by rw [← hq]
    have e2 : ks k = e.2.2.1 := by rw [← hq]
    have e3 : kp k = e.2.2.2.1 := by rw [← hq]
    have e4 : kk k = e.2.2.2.2 := by rw [← hq]
    rcases lastE_c (ofK kn z) nk with ⟨-, hno⟩ | ⟨j, j1, j2, j3⟩
    · have := of_decide_eq_false (hno k hk)
      exact absurd (by rw [e1]; exact hd.1) this
    · have j2 := of_decide_eq_true j2
      have jk : j = k := h.2 j k j1 hk (by have := hd.1; omega)
      rw [j3]
      subst jk
      refine ⟨by omega, ?_, ?_, ?_⟩
      · show ks j = st; rw [e2]; exact hd.2.1
      · show kp j = pl; rw [e3]; exact hd.2.2.1
      · show kk j = kd; rw [e4]; exact hd.2.2.2
