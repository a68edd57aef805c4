/-! rows of references; copies -/
theorem va_cpy_sb (f h : Nat → UInt8) (sp dp k : Nat) : va_cpy (fun j => sb (f j)) (fun j => sb (h j)) sp dp k = fun j => sb (va_cpy f h sp dp k j) := by
  funext j
  unfold va_cpy
  split <;> rfl
section ZY
variable {p : Program} {l : Launch} {e : Env} {R : Room} {s : State} {m : MethodId} {args : Array Value} {below : List Frame} {meth : Method} {c : Code} {H : Heap} {locs : List Loc} {cells slots : Nat} {Q : State → Prop}
variable {cc : ByteArray} {nL pc : Nat} {ls : Array Slot} {rest : List Value} {own : String} {g : zT} {ws : va_W} {a a0 ci N n n0 n1 idx : Nat} {fs : List Value} {Cn : String} {T : u_T}
theorem z_Dc {A : Nat → Prop} {a : Nat} {e1 e2 : va_E} {T : va_W} (h : va_D A ((a, e1) :: T)) : va_D A ((a, e2) :: T) := va_D.set (p := 0) (e := e2) h rfl
theorem z_Pc {D : va_G} {cl : List vw_C} {a : Nat} {e1 e2 : va_E} {T : va_W} (h : va_P D cl ((a, e1) :: T) H) (he : va_at D cl (a, e1) H → va_at D cl (a, e2) H) : va_P D cl ((a, e2) :: T) H := by
  refine z_Pi fun q hq => ?_
  rcases List.mem_cons.mp hq with rfl | hq
  · exact he (z_Pm h List.mem_cons_self)
  · exact z_Pm h (List.mem_cons_of_mem _ hq)
theorem z_arr {cA : ClassId} {f f' : Nat → Value} (h : ∀ j, j < n → f j = f' j) : arrV cA n f = arrV cA n f' := by
  unfold arrV
  congr 1
  apply congrArg
  funext j
  exact h j.val j.isLt
theorem z_cB {D : va_G} {cl : List vw_C} {a : Nat} {f f' : Nat → UInt8} {T : va_W} (h : va_P D cl ((a, zBy g n f) :: T) H) (he : ∀ j, j < n → f j = f' j) : va_P D cl ((a, zBy g n f') :: T) H :=
  z_Pc h (fun q => by
    have e : vp_cell (g.2.1 0) (n, .inl (fun j => sb (f j))) = vp_cell (g.2.1 0) (n, .inl (fun j => sb (f' j))) := show arrV _ n (fun j => .int (sb (f j))) = arrV _ n (fun j => .int (sb (f' j))) from z_arr (fun j hj => by rw [he j hj])
    exact (show H[a]? = _ from q).trans (congrArg some e))
theorem z_cO {D : va_G} {cl : List vw_C} {a : Nat} {f f' : Nat → Option Nat} {T : va_W} (h : va_P D cl ((a, zOb g n f) :: T) H) (he : ∀ j, j < n → f j = f' j) : va_P D cl ((a, zOb g n f') :: T) H :=
  z_Pc h (fun q => by
    have e : vp_cell (g.2.1 2) (n, .inr (.inr (.inr (.inr f)))) = vp_cell (g.2.1 2) (n, .inr (.inr (.inr (.inr f')))) := show arrV _ n (fun j => va_rf (f j)) = arrV _ n (fun j => va_rf (f' j)) from z_arr (fun j hj => by rw [he j hj])
    exact (show H[a]? = _ from q).trans (congrArg some e))
theorem z_cI {D : va_G} {cl : List vw_C} {a : Nat} {f f' : Nat → Int32} {T : va_W} (h : va_P D cl ((a, zIn g n f) :: T) H) (he : ∀ j, j < n → f j = f' j) : va_P D cl ((a, zIn g n f') :: T) H :=
  z_Pc h (fun q => by
    have e : vp_cell (g.2.1 1) (n, .inl f) = vp_cell (g.2.1 1) (n, .inl f') := show arrV _ n (fun j => .int (f j)) = arrV _ n (fun j => .int (f' j)) from z_arr (fun j hj => by rw [he j hj])
    exact (show H[a]? = _ from q).trans (congrArg some e))
theorem z_copyB (C : zC g p m c cc nL s args own) (hP : va_P g.1 classes ws H) (hD : va_D (zA g) ws) (hS : va_S (zA g) s.heap H locs) (hls : ls.size = nL) {f h : Nat → UInt8} (hm : (a0, zBy g n0 f) ∈ ws) (q1 : Nat) (he : ws[q1]? = some (a, zBy g n1 h)) (sp dp k : Nat) (h4 : sp + k ≤ n0) (h5 : dp + k ≤ n1) (h6 : n0 < 2 ^ 31) (h7 : n1 < 2 ^ 31)
    (hl : Cond.methodLink own idx arraycopyName ∈ lw_tbl) (hfr : 1 ≤ R.frames) (hlo : (rest.map fun v => v.category).sum + (nativeFrameWords "java/lang/System" "arraycopy" 5 + 11) ≤ R.locals) (hdg : decode cc pc = .ok (.invokestatic idx, 3)) {ws' : va_W} (hw : ws.set q1 (a, zBy g n1 (va_cpy f h sp dp k)) = ws')
    (kk : ∀ (H : Heap) (locs : List Loc), va_P g.1 classes ws' H → va_D (zA g) ws' → va_S (zA g) s.heap H locs → W p l e R s m args below meth c H locs cells slots Q (F0 m (pc + 3) ls rest)) : W p l e R s m args below meth c H locs cells slots Q (F0 m pc ls (.int (nI k) :: .int (nI dp) :: .ref a :: .int (nI sp) :: .ref a0 :: rest)) := by
  subst hw
  obtain ⟨q0, hq⟩ := List.getElem?_of_mem hm
  refine va_copyi (D := g.1) (ty := .byte) C.1.1 C.1.2.1 (by rw [C.1.2.2.1]; exact hls.symm) C.1.2.2.2.1 (C.ts hl rfl) (C.ts k_360 rfl) (C.ts k_359 rfl) (C.ts k_19 rfl) C.2.2.1 hP hD hS q0 q1 0 0 hq he rfl rfl rfl (nI_pos (by omega)) (nI_pos (by omega)) (nI_pos (by omega)) (by rw [nI_clamp (by omega), nI_clamp (by omega)]; exact h4) (by rw [nI_clamp (by omega), nI_clamp (by omega)]; exact h5) (fun i _ => sb_fit _) hfr hlo hdg ?_
  rw [nI_clamp (by omega), nI_clamp (by omega), nI_clamp (by omega), va_cpy_sb]
  exact kk
theorem z_any (C : zC g p m c cc nL s args own) (hP : va_P g.1 classes ws H) (hm : (a, zo ci fs) ∈ ws) (hc : classes[ci]? = some (Cn, T, N)) (hcast : Cond.castable Cn "java/lang/Object" ∈ lw_tbl) : va_Any "java/lang/Object" s H a := by
  obtain ⟨q0, hq⟩ := List.getElem?_of_mem hm
  exact va_rAny (r := (Cn, T, N)) C.2.2.1 hP hq hc (vb_asgC (C.2.2.2.1 _ (z_ns hcast rfl)))
/-- what may lie in the lists -/
def zel (ws : va_W) (y : Nat) : Prop := (∃ fs, (y, zo 9 fs) ∈ ws) ∨ ∃ fs, (y, zo 10 fs) ∈ ws
theorem zel.mono {w w' : va_W} {y : Nat} (h : zel w y) (hs : ∀ q ∈ w, q ∈ w') : zel w' y := by
  rcases h with ⟨fs, h⟩ | ⟨fs, h⟩
  · exact Or.inl ⟨fs, hs _ h⟩
  · exact Or.inr ⟨fs, hs _ h⟩
theorem z_el (C : zC g p m c cc nL s args own) (hP : va_P g.1 classes ws H) {y : Nat} (h : zel ws y) : va_Any "java/lang/Object" s H y := by
  rcases h with ⟨fs, h⟩ | ⟨fs, h⟩
  · exact z_any C hP h (show classes[9]? = some (R_Ent, F_Ent, 5) from rfl) k_1000
  · exact z_any C hP h (show classes[10]? = some (R_Mark, F_Mark, 3) from rfl) k_1001
theorem z_copyO (C : zC g p m c cc nL s args own) (hP : va_P g.1 classes ws H) (hD : va_D (zA g) ws) (hS : va_S (zA g) s.heap H locs) (hls : ls.size = nL) {f h : Nat → Option Nat} (hm : (a0, zOb g n0 f) ∈ ws) (q1 : Nat) (he : ws[q1]? = some (a, zOb g n1 h)) (sp dp k : Nat) (h4 : sp + k ≤ n0) (h5 : dp + k ≤ n1) (h6 : n0 < 2 ^ 31) (h7 : n1 < 2 ^ 31) (hel : ∀ i, i < k → ∀ y, f (sp + i) = some y → zel ws y)
    (hl : Cond.methodLink own idx arraycopyName ∈ lw_tbl) (hfr : 1 ≤ R.frames) (hlo : (rest.map fun v => v.category).sum + (nativeFrameWords "java/lang/System" "arraycopy" 5 + 11) ≤ R.locals) (hdg : decode cc pc = .ok (.invokestatic idx, 3)) {ws' : va_W} (hw : ws.set q1 (a, zOb g n1 (va_cpy f h sp dp k)) = ws')
    (kk : ∀ (H : Heap) (locs : List Loc), va_P g.1 classes ws' H → va_D (zA g) ws' → va_S (zA g) s.heap H locs → W p l e R s m args below meth c H locs cells slots Q (F0 m (pc + 3) ls rest)) : W p l e R s m args below meth c H locs cells slots Q (F0 m pc ls (.int (nI k) :: .int (nI dp) :: .ref a :: .int (nI sp) :: .ref a0 :: rest)) := by
  subst hw
  obtain ⟨q0, hq⟩ := List.getElem?_of_mem hm
  refine va_copyM (D := g.1) (E0 := "java/lang/Object") (E1 := "java/lang/Object") C.1.1 C.1.2.1 (by rw [C.1.2.2.1]; exact hls.symm) C.1.2.2.2.1 (C.ts hl rfl) (C.ts k_360 rfl) (C.ts k_359 rfl) (C.ts k_19 rfl) C.2.2.1 hP hD hS q0 q1 2 2 hq he rfl rfl (nI_pos (by omega)) (nI_pos (by omega)) (nI_pos (by omega)) (by rw [nI_clamp (by omega), nI_clamp (by omega)]; exact h4) (by rw [nI_clamp (by omega), nI_clamp (by omega)]; exact h5) (fun i hi y hy => z_el C hP (hel i (by rw [nI_clamp (by omega)] at hi; exact hi) y (by rw [nI_clamp (by omega)] at hy; exact hy))) hfr hlo hdg ?_
  rw [nI_clamp (by omega), nI_clamp (by omega), nI_clamp (by omega)]
  exact kk
theorem z_newO (C : zC g p m c cc nL s args own) (hP : va_P g.1 classes ws H) (hD : va_D (zA g) ws) (hS : va_S (zA g) s.heap H locs) (hl : Cond.classLink own idx "java/lang/Object" ∈ lw_tbl) (k : Nat) (hk : k ≤ 134217728) (hcells : cells + 1 ≤ R.cells) (hslots : slots + k ≤ R.slots) (hdg : decode cc pc = .ok (.anewarray idx, 3))
    (kk : ∀ (q : Nat) (H : Heap), va_P g.1 classes ((q, zOb g k (fun _ => none)) :: ws) H → va_D (zA g) ((q, zOb g k (fun _ => none)) :: ws) → va_S (zA g) s.heap H locs → W p l e R s m args below meth c H locs (cells + 1) (slots + k) Q (F0 m (pc + 3) ls (.ref q :: rest))) : W p l e R s m args below meth c H locs cells slots Q (F0 m pc ls (.int (nI k) :: rest)) :=
  va_newq C.1.1 C.1.2.1 C.1.2.2.2.1 (C.ts hl rfl) C.2.2.2.2.2.1 C.2.2.1 hP hD hS (fun q h => Nat.le_trans C.2.1 h) (nI_pos (by omega)) (nI_clamp (by omega)) (by omega) hcells hslots hdg (fun q cA H1 hK1 hP1 hD1 hS1 => by
    have h1 := (hK1.2 (zty g).length (cA, .object "java/lang/Object") (by rw [List.getElem?_append_right (Nat.le_refl _), Nat.sub_self]; rfl)).2
    have h2 := (C.2.2.1.2 2 (g.2.1 2, .object "java/lang/Object") rfl).2
    have e : cA = g.2.1 2 := z_RAp (va_nmO h1 rfl) (va_nmO h2 rfl)
    subst e
    exact kk q H1 (z_Pq z_hd hP1) (z_Dq z_hd hD1) hS1)
theorem z_aast (C : zC g p m c cc nL s args own) (hP : va_P g.1 classes ws H) (hD : va_D (zA g) ws) (hS : va_S (zA g) s.heap H locs) (q0 : Nat) {f : Nat → Option Nat} (he : ws[q0]? = some (a, zOb g n f)) (k : Nat) (hk : k < n) (hn : n < 2 ^ 31) {y : Nat} (hy : zel ws y) (hdg : decode cc pc = .ok (.aastore, 1)) {ws' : va_W} (hw : ws.set q0 (a, zOb g n (va_up f k (some y))) = ws')
    (kk : ∀ (H : Heap) (locs : List Loc), va_P g.1 classes ws' H → va_D (zA g) ws' → va_S (zA g) s.heap H locs → W p l e R s m args below meth c H locs cells slots Q (F0 m (pc + 1) ls rest)) : W p l e R s m args below meth c H locs cells slots Q (F0 m pc ls (.ref y :: .int (nI k) :: .ref a :: rest)) := by
  subst hw
  refine va_astqM (D := g.1) (E := "java/lang/Object") C.1.1 C.1.2.1 C.2.2.1 hP hD hS q0 2 he rfl (z_el C hP hy) (vp_in_nI hk hn) hdg ?_
  rw [nI_clamp (by omega)]
  exact kk
theorem z_aastN (C : zC g p m c cc nL s args own) (hP : va_P g.1 classes ws H) (hD : va_D (zA g) ws) (hS : va_S (zA g) s.heap H locs) (q0 : Nat) {f : Nat → Option Nat} (he : ws[q0]? = some (a, zOb g n f)) (k : Nat) (hk : k < n) (hn : n < 2 ^ 31) (hdg : decode cc pc = .ok (.aastore, 1)) {ws' : va_W} (hw : ws.set q0 (a, zOb g n (va_up f k none)) = ws')
    (kk : ∀ (H : Heap) (locs : List Loc), va_P g.1 classes ws' H → va_D (zA g) ws' → va_S (zA g) s.heap H locs → W p l e R s m args below meth c H locs cells slots Q (F0 m (pc + 1) ls rest)) : W p l e R s m args below meth c H locs cells slots Q (F0 m pc ls (.null :: .int (nI k) :: .ref a :: rest)) := by
  subst hw
  refine va_astqN (D := g.1) (C := "java/lang/Object") C.1.1 C.1.2.1 C.2.2.1 hP hD hS q0 2 he rfl (vp_in_nI hk hn) hdg ?_
  rw [nI_clamp (by omega)]
  exact kk
theorem z_getC (C : zC g p m c cc nL s args own) (hP : va_P g.1 classes ws H) (hls : ls.size = nL) {f : Nat → Option Nat} (hm : (a, zOb g n f) ∈ ws) (hl : Cond.methodLink own idx ⟨"java/lang/Object", "getClass", "()Ljava/lang/Class;"⟩ ∈ lw_tbl) (hfr : 1 ≤ R.frames) (hlo : (rest.map fun v => v.category).sum + 14 ≤ R.locals) (hdg : decode cc pc = .ok (.invokevirtual idx, 3))
    (kk : W p l e R s m args below meth c H locs cells slots Q (F0 m (pc + 3) ls (.ref g.2.2.2.2 :: rest))) : W p l e R s m args below meth c H locs cells slots Q (F0 m pc ls (.ref a :: rest)) := by
  have h2 := (C.2.2.1.2 2 (g.2.1 2, .object "java/lang/Object") rfl).2
  refine va_getC (C := "[Ljava/lang/Object;") C.1.1 C.1.2.1 (by rw [C.1.2.2.1]; exact hls.symm) C.1.2.2.2.1 (C.ts hl rfl) (va_Nw.use rfl (C.2.2.2.1 _ (z_ns k_990 rfl))) (C.ts k_989 rfl) (C.ts k_428 rfl) (C.ts k_442 rfl) C.2.2.2.2.2.2 ⟨_, z_Pm hP hm, rfl, va_nmO h2 rfl⟩ hfr hlo hdg kk
theorem z_ldcM (C : zC g p m c cc nL s args own) (hl : Cond.classLink own idx "[Ljava/lang/Object;" ∈ lw_tbl) (hdg : decode cc pc = .ok (.ldc idx, 2))
    (kk : W p l e R s m args below meth c H locs cells slots Q (F0 m (pc + 2) ls (.ref g.2.2.2.2 :: rest))) : W p l e R s m args below meth c H locs cells slots Q (F0 m pc ls rest) :=
  va_ldcM C.1.1 C.1.2.1 C.1.2.2.2.1 (C.ts hl rfl) C.2.2.2.2.2.2 hdg kk
end ZY
