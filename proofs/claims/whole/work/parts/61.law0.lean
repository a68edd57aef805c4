/-! one state, two sides -/
def entsAt (g : zT) (ws : va_W) (xs : List Nat) (es : List zE) : Prop := xs.length = es.length ∧ ∀ (j a : Nat) (k : zE), xs[j]? = some a → es[j]? = some k → isEnt g ws a k
theorem entsAt.mono {g : zT} {ws ws' : va_W} {xs : List Nat} {es : List zE} (h : entsAt g ws xs es) (hs : ∀ q ∈ ws, q ∈ ws') : entsAt g ws' xs es := ⟨h.1, fun j a k h1 h2 => (h.2 j a k h1 h2).mono hs⟩
theorem entsAt.hE {g : zT} {ws : va_W} {xs : List Nat} {es : List zE} {f : Nat → Option Nat} (h : entsAt g ws xs es) (hL : zL f xs) : ∀ j, j < xs.length → ∃ a, f j = some a ∧ isEnt g ws a (efl es j) := by
  intro j hj
  exact ⟨xs[j], by rw [hL j hj, List.getElem?_eq_getElem hj], h.2 j _ _ (List.getElem?_eq_getElem hj) (efl_at (by rw [← h.1]; exact hj))⟩
theorem entsAt.hN {g : zT} {ws : va_W} {xs : List Nat} {es : List zE} {f : Nat → Option Nat} (h : entsAt g ws xs es) (hL : zL f xs) (hO : ∀ k ∈ es, okE k) : ∀ j, j < xs.length → ∃ a k, f j = some a ∧ isEnt g ws a k ∧ k.1 = (efl es j).1 ∧ k.1.length ≤ 256 := by
  intro j hj
  obtain ⟨a, h1, h2⟩ := h.hE hL j hj
  exact ⟨a, efl es j, h1, h2, rfl, (hO _ (efl_mem (by rw [← h.1]; exact hj))).2.1⟩
theorem entsAt.el {g : zT} {ws : va_W} {xs : List Nat} {es : List zE} (h : entsAt g ws xs es) : ∀ z ∈ xs, zel ws z := by
  intro z hz
  obtain ⟨j, hj⟩ := List.getElem?_of_mem hz
  have hl := (List.getElem?_eq_some_iff.mp hj).1
  exact (h.2 j z _ hj (efl_at (by rw [← h.1]; exact hl))).el
theorem isMks.hM {g : zT} {ws : va_W} {xs : List Nat} {ml : List zM} {f : Nat → Option Nat} (h : isMks g ws xs ml) (hL : zL f xs) (hb : ∀ k ∈ ml, k.2.2.length ≤ 256) : ∀ j, j < xs.length → ∃ a, f j = some a ∧ isMark g ws a (mfl ml j) ∧ (mfl ml j).2.2.length ≤ 300 := by
  intro j hj
  have hm : j < ml.length := by rw [← h.1]; exact hj
  have := hb _ (mfl_mem hm)
  exact ⟨xs[j], by rw [hL j hj, List.getElem?_eq_getElem hj], h.2 j _ _ (List.getElem?_eq_getElem hj) (mfl_at hm), by omega⟩
/-- cells in front -/
def frt (F : va_W → va_W) : Prop := ∀ X, (F X).Perm (F [] ++ X)
theorem frt.mem {F : va_W → va_W} (h : frt F) {X : va_W} : ∀ q ∈ X, q ∈ F X := fun _ hq => (h X).mem_iff.mpr (List.mem_append_right _ hq)
theorem frt_step {F G : va_W → va_W} (hF : frt F) (hG : frt G) (N T : va_W) : (F (N ++ G T)).Perm (G (F (N ++ T))) := by
  refine (hF _).trans (List.Perm.trans ?_ (hG _).symm)
  refine (((hG T).append_left N).append_left (F [])).trans ?_
  refine List.Perm.trans ?_ ((hF (N ++ T)).symm.append_left (G []))
  have e1 : F [] ++ (N ++ (G [] ++ T)) = (F [] ++ N) ++ (G [] ++ T) := (List.append_assoc _ _ _).symm
  rw [e1]
  have e2 : G [] ++ (F [] ++ (N ++ T)) = G [] ++ ((F [] ++ N) ++ T) := by rw [List.append_assoc]
  rw [e2, ← List.append_assoc, ← List.append_assoc]
  exact (List.perm_append_comm).append_right T
theorem frt_back {F G : va_W → va_W} (hF : frt F) (hG : frt G) (T : va_W) : (G (F T)).Perm (F (G T)) := by
  have := (frt_step hF hG [] T).symm
  exact this
/-- the class's cells, in front of whatever else is there: what they say of the state; its own entries and indexes lie in T0 -/
def RowC (g : zT) (ro : Nat) (tpe : List UInt8) (es kl : List zE) (rf : Nat → UInt8) (len hd bg : Nat) (ml : List zM) (pv : Nat) (T0 : va_W) (Wf : va_W → va_W) : Prop :=
  ∃ (tp q dr li d kli h rw ly mk k jd : Nat) (x kx mx fi vd : Int32) (ed cap ked kcap med mcap met : Nat) (f kfn mfn : Nat → Option Nat) (tb : Nat → UInt8) (xs ks ms : List Nat) (b0 hs en0 ha0 hn0 he ea en lf hn ha st pl kd na nl : Nat) (z : Int),
    (∀ X, Wf X = (ro, zo 0 [.ref tp, .ref dr, .ref d, .ref h, .ref k, .ref jd, .int (nI pv)]) :: (tp, zo 1 [.ref q, .int (nI tpe.length)]) :: (q, zBy g 300 tb) :: (dr, zo 2 [.ref li]) :: (li, zo 3 [.int x, .ref ed, .int (nI xs.length)]) :: (wA g ed cap f ++ (d, zo 4 [.ref kli]) :: (kli, zo 3 [.int kx, .ref ked, .int (nI ks.length)]) :: (wA g ked kcap kfn ++ (h, zo 5 [.ref rw, .int (nI len), .int (nI hd), .int (nI bg), .ref mk, .ref ly]) :: (rw, zBy g 8192 rf) :: (ly, zo 6 [.int (nI b0), .int (nI hs), .int (nI en0), .int (nI ha0), .int (nI hn0), .int (nI he), .int (nI ea)]) :: (mk, zo 3 [.int mx, .ref med, .int (nI ms.length)]) :: (wA g med mcap mfn ++ (k, zo 7 [.ref h, .int (nI en), .int (nI lf), .long (lN hn), .int (nI ha), .int fi, .long (lI z), .long (lN st), .int (nI pl), .int (nI kd), .int (nI na), .int (nI nl)]) :: (jd, zo 8 [.ref h, .ref k, .ref d, .int vd, .int (nI met)]) :: X)))) ∧ zl tb 0 tpe.length = tpe ∧ (zL f xs ∧ xs.length ≤ cap ∧ cap ≤ 1000 ∧ (cap = 0 → ed = g.2.2.2.1) ∧ entsAt g T0 xs es) ∧ (zL kfn ks ∧ ks.length ≤ kcap ∧ kcap ≤ 3000 ∧ (kcap = 0 → ked = g.2.2.2.1) ∧ entsAt g T0 ks kl) ∧ (zL mfn ms ∧ ms.length ≤ mcap ∧ mcap ≤ 200 ∧ (mcap = 0 → med = g.2.2.2.1) ∧ isMks g T0 ms ml) ∧ (hs < 2 ^ 20 ∧ hn0 < 2 ^ 20) ∧ (vd = iI (-3) ∨ vd = iI (cntM rf len bg (knB kl) (mfl ml) ml.length))
/-- the reference's cells, in front of whatever else is there -/
def ModC (g : zT) (o : Nat) (tpe : List UInt8) (es kl : List zE) (f : Nat → UInt8) (sz hd bg : Nat) (ml : List zM) (pv nc : Nat) (Mf : va_W → va_W) : Prop :=
  ∃ (ts ta ne ans anm anu asa apl akd nk akn aks akp akk alg ni aip aix aiz aim aod av hv lf sn : Nat) (tb nmb inm : Nat → UInt8) (nsz num sta pla kin kn ks kp kk isz od : Nat → Nat) (ipl ist : Nat → Int32),
    (∀ X, Mf X = (o, zo 11 [.int (nI ts), .ref ta, .int (nI ne), .ref ans, .ref anm, .ref anu, .ref asa, .ref apl, .ref akd, .int (nI nk), .ref akn, .ref aks, .ref akp, .ref akk, .int (nI bg), .int (nI sz), .int (nI hd), .ref alg, .int (nI ni), .ref aip, .ref aix, .ref aiz, .ref aim, .ref aod, .int (nI av), .int (nI hv), .int (nI lf), .int (nI sn), .int (nI pv)]) :: (ta, zIn g 300 (nB tb)) :: (ans, zIn g 600 (nN nsz)) :: (anm, zBy g 153600 nmb) :: (anu, zIn g 600 (nN num)) :: (asa, zIn g 600 (nN sta)) :: (apl, zIn g 600 (nN pla)) :: (akd, zIn g 600 (nN kin)) :: (akn, zIn g 1500 (nN kn)) :: (aks, zIn g 1500 (nN ks)) :: (akp, zIn g 1500 (nN kp)) :: (akk, zIn g 1500 (nN kk)) :: (alg, zBy g 65536 f) :: (aip, zIn g 16 ipl) :: (aix, zIn g 16 ist) :: (aiz, zIn g 16 (nN isz)) :: (aim, zIn g 4096 (nB inm)) :: (aod, zIn g 600 (nN od)) :: X) ∧ (ts = tpe.length ∧ zl tb 0 ts = tpe) ∧ (ne = es.length ∧ ((List.range ne).map (mdE nmb nsz num sta pla kin)).Perm es) ∧ (relK kl kn ks kp kk nk ∧ nk ≤ nc) ∧ (ml = (List.range ni).map (mdM ipl ist isz inm))
theorem ev_eq {rf : Nat → UInt8} {len bg mn : Nat} {kl : List zE} {mf : Nat → zM} {vd : Int32} (hl : len ≤ 8192) (h : vd = iI (-3) ∨ vd = iI (cntM rf len bg (knB kl) mf mn)) : (if vd = iI (-3) then iI (chkC rf len bg kl mf mn (len + 1) 0 0 0 0 0 0 [] 0) else vd) = iI (cntM rf len bg (knB kl) mf mn) := by
  rw [cnt_eq (by omega)] at h ⊢
  by_cases q : vd = iI (-3)
  · rw [if_pos q]
  · rw [if_neg q]
    rcases h with z | z
    · exact absurd z q
    · exact z
