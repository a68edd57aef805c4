/-! bytes -/
def sb (u : UInt8) : Int32 := u.toInt8.toInt32
def zu (x : Int32) : UInt8 := x.toInt8.toUInt8
theorem sb_zu (x : Int32) : sb (zu x) = x.toInt8.toInt32 := by
  unfold sb zu
  rfl
theorem z_u8 {Pr : UInt8 → Prop} (h : ∀ n : Nat, n < 256 → Pr (UInt8.ofNat n)) (u : UInt8) : Pr u := by
  have h1 := h u.toNat u.toNat_lt
  rwa [UInt8.ofNat_toNat] at h1
theorem sb_and (u : UInt8) : sb u &&& 255 = nI u.toNat := z_u8 (Pr := fun u => sb u &&& 255 = nI u.toNat) (by decide +kernel) u
theorem zu_sb (u : UInt8) : zu (sb u) = u := z_u8 (Pr := fun u => zu (sb u) = u) (by decide +kernel) u
theorem sb_nar (u : UInt8) : vp_nar .byte (sb u) = sb u := z_u8 (Pr := fun u => vp_nar .byte (sb u) = sb u) (by decide +kernel) u
theorem sb_fit (u : UInt8) : fits .byte (.int (sb u)) = true := z_u8 (Pr := fun u => fits .byte (.int (sb u)) = true) (by decide +kernel) u
theorem sb_inj {u v : UInt8} (h : sb u = sb v) : u = v := by rw [← zu_sb u, h, zu_sb]
def uB (f : Nat → UInt8) (k : Nat) (x : UInt8) : Nat → UInt8 := fun j => if j = k then x else f j
theorem uB_s {f : Nat → UInt8} {k : Nat} {x : UInt8} : uB f k x k = x := if_pos rfl
theorem uB_n {f : Nat → UInt8} {k j : Nat} {x : UInt8} (h : j ≠ k) : uB f k x j = f j := if_neg h
theorem uB_sb (f : Nat → UInt8) (k : Nat) (x : UInt8) : upd (fun j => sb (f j)) k (sb x) = fun j => sb (uB f k x j) := by
  funext j
  unfold upd uB
  split <;> rfl
/-! cells -/
abbrev zBy (g : zT) (n : Nat) (f : Nat → UInt8) : va_E := .inl (g.2.1 0, n, .inl (fun j => sb (f j)))
abbrev zIn (g : zT) (n : Nat) (f : Nat → Int32) : va_E := .inl (g.2.1 1, n, .inl f)
abbrev zOb (g : zT) (n : Nat) (f : Nat → Option Nat) : va_E := .inl (g.2.1 2, n, .inr (.inr (.inr (.inr f))))
abbrev zo (ci : Nat) (fs : List Value) : va_E := .inr (ci, fs)
/-- a kind of object: its fields' words, types, names -/
def zK (ci : Nat) (Cn : String) (T : u_T) (N : Nat) (ty : Nat → FieldType) : Prop := classes[ci]? = some (Cn, T, N) ∧ (∀ w ∈ u_ws Cn T N, w ∈ zTB) ∧ (∀ k, k < N → parseFieldDescriptor (T k).2.2.1 = some (ty k)) ∧ ∀ a, a < N → ∀ b, b < N → a ≠ b → (T a).2.1 ≠ (T b).2.1
theorem z_at {A : Nat → Prop} {ws : va_W} {q : Nat × va_E} (h : q ∈ ws) : ∃ k : Nat, ws[k]? = some q := List.getElem?_of_mem h
section ZR
variable {p : Program} {l : Launch} {e : Env} {R : Room} {s : State} {m : MethodId} {args : Array Value} {below : List Frame} {meth : Method} {c : Code} {H : Heap} {locs : List Loc} {cells slots : Nat} {Q : State → Prop}
variable {cc : ByteArray} {nL pc : Nat} {ls : Array Slot} {rest : List Value} {own : String} {g : zT} {ws : va_W} {a ci N n : Nat} {fs : List Value} {Cn : String} {T : u_T} {ty : Nat → FieldType}
theorem zC.ts (C : zC g p m c cc nL s args own) {w : Cond} (h : w ∈ lw_tbl) (hg : goodWord w = true) : w.before args s = true := C.1.2.2.2.2 w (z_in h hg)
theorem z_get (C : zC g p m c cc nL s args own) (hP : va_P g.1 classes ws H) (hm : (a, zo ci fs) ∈ ws) (hk : zK ci Cn T N ty) (k : Nat) (hkN : k < N) {idx : Nat} {ref : String} (hl : Cond.fieldLink own idx ref (T k).2.1 (T k).2.2.1 ∈ lw_tbl) (hsame : ∀ x, s.fieldFound? (T k).1 (T k).2.1 (T k).2.2.1 = some x → s.fieldFound? ref (T k).2.1 (T k).2.2.1 = some x) {v : Value} (hv : fs[k]? = some v) (hdg : decode cc pc = .ok (.getfield idx, 3))
    (kk : W p l e R s m args below meth c H locs cells slots Q (F0 m (pc + 3) ls (v :: rest))) : W p l e R s m args below meth c H locs cells slots Q (F0 m pc ls (.ref a :: rest)) := by
  obtain ⟨q0, hq⟩ := List.getElem?_of_mem hm
  exact va_get (D := g.1) C.1.1 C.1.2.1 C.1.2.2.2.2 hk.2.1 C.1.2.2.2.1 C.2.2.1 hP q0 hq hk.1 k hkN (C.ts hl rfl) hsame hv hdg kk
theorem z_put (C : zC g p m c cc nL s args own) (hP : va_P g.1 classes ws H) (hD : va_D (zA g) ws) (hS : va_S (zA g) s.heap H locs) (q0 : Nat) (he : ws[q0]? = some (a, zo ci fs)) (hk : zK ci Cn T N ty) (k : Nat) (hkN : k < N) {idx : Nat} {ref : String} (hl : Cond.fieldLink own idx ref (T k).2.1 (T k).2.2.1 ∈ lw_tbl) (hsame : ∀ x, s.fieldFound? (T k).1 (T k).2.1 (T k).2.2.1 = some x → s.fieldFound? ref (T k).2.1 (T k).2.2.1 = some x) (hfin : (T k).2.2.2 = false) {v : Value} (hn : narrow (ty k) v = v) (hfit : fits (ty k) v = true) (hlen : k < fs.length) (hdg : decode cc pc = .ok (.putfield idx, 3)) {ws' : va_W} (hw : ws.set q0 (a, zo ci (fs.set k v)) = ws')
    (kk : ∀ (H : Heap) (locs : List Loc), va_P g.1 classes ws' H → va_D (zA g) ws' → va_S (zA g) s.heap H locs → W p l e R s m args below meth c H locs cells slots Q (F0 m (pc + 3) ls rest)) : W p l e R s m args below meth c H locs cells slots Q (F0 m pc ls (v :: .ref a :: rest)) := by
  subst hw
  exact va_put (D := g.1) C.1.1 C.1.2.1 C.1.2.2.2.2 hk.2.1 ty hk.2.2.1 hk.2.2.2 C.1.2.2.2.1 C.2.2.1 hP hD hS q0 he hk.1 k hkN (C.ts hl rfl) hsame hfin (hk.2.2.1 k hkN) hn hfit hlen hdg kk
theorem z_putF (C : zC g p m c cc nL s args own) (hP : va_P g.1 classes ws H) (hD : va_D (zA g) ws) (hS : va_S (zA g) s.heap H locs) (hin : meth.name = "<init>") (q0 : Nat) (he : ws[q0]? = some (a, zo ci fs)) (hk : zK ci Cn T N ty) (k : Nat) (hkN : k < N) {idx : Nat} {ref : String} (hl : Cond.fieldLink own idx ref (T k).2.1 (T k).2.2.1 ∈ lw_tbl) (hsame : ∀ x, s.fieldFound? (T k).1 (T k).2.1 (T k).2.2.1 = some x → s.fieldFound? ref (T k).2.1 (T k).2.2.1 = some x) (hfin : (T k).2.2.2 = true) (hdecl : (T k).1 = own) {v : Value} (hn : narrow (ty k) v = v) (hfit : fits (ty k) v = true) (hlen : k < fs.length) (hdg : decode cc pc = .ok (.putfield idx, 3)) {ws' : va_W} (hw : ws.set q0 (a, zo ci (fs.set k v)) = ws')
    (kk : ∀ (H : Heap) (locs : List Loc), va_P g.1 classes ws' H → va_D (zA g) ws' → va_S (zA g) s.heap H locs → W p l e R s m args below meth c H locs cells slots Q (F0 m (pc + 3) ls rest)) : W p l e R s m args below meth c H locs cells slots Q (F0 m pc ls (v :: .ref a :: rest)) := by
  subst hw
  exact va_putF (D := g.1) C.1.1 C.1.2.1 C.1.2.2.2.2 hk.2.1 ty hk.2.2.1 hk.2.2.2 C.1.2.2.2.1 C.2.2.1 hP hD hS q0 he hk.1 k hkN (C.ts hl rfl) hsame hfin hin hdecl (hk.2.2.1 k hkN) hn hfit hlen hdg kk
theorem z_bald (C : zC g p m c cc nL s args own) (hP : va_P g.1 classes ws H) {f : Nat → UInt8} (hm : (a, zBy g n f) ∈ ws) (k : Nat) (hk : k < n) (hn : n < 2 ^ 31) (hdg : decode cc pc = .ok (.baload, 1))
    (kk : W p l e R s m args below meth c H locs cells slots Q (F0 m (pc + 1) ls (.int (sb (f k)) :: rest))) : W p l e R s m args below meth c H locs cells slots Q (F0 m pc ls (.int (nI k) :: .ref a :: rest)) := by
  obtain ⟨q0, hq⟩ := List.getElem?_of_mem hm
  refine va_bald (D := g.1) C.1.1 C.1.2.1 C.2.2.1 hP q0 0 hq rfl (vp_in_nI hk hn) hdg ?_
  rw [nI_clamp (by omega)]
  exact kk
theorem z_iald (C : zC g p m c cc nL s args own) (hP : va_P g.1 classes ws H) {f : Nat → Int32} (hm : (a, zIn g n f) ∈ ws) (k : Nat) (hk : k < n) (hn : n < 2 ^ 31) (hdg : decode cc pc = .ok (.iaload, 1))
    (kk : W p l e R s m args below meth c H locs cells slots Q (F0 m (pc + 1) ls (.int (f k) :: rest))) : W p l e R s m args below meth c H locs cells slots Q (F0 m pc ls (.int (nI k) :: .ref a :: rest)) := by
  obtain ⟨q0, hq⟩ := List.getElem?_of_mem hm
  refine va_iald (D := g.1) C.1.1 C.1.2.1 C.2.2.1 hP q0 1 hq rfl (vp_in_nI hk hn) hdg ?_
  rw [nI_clamp (by omega)]
  exact kk
theorem z_aald (C : zC g p m c cc nL s args own) (hP : va_P g.1 classes ws H) {f : Nat → Option Nat} (hm : (a, zOb g n f) ∈ ws) (k : Nat) (hk : k < n) (hn : n < 2 ^ 31) (hdg : decode cc pc = .ok (.aaload, 1))
    (kk : W p l e R s m args below meth c H locs cells slots Q (F0 m (pc + 1) ls (va_rf (f k) :: rest))) : W p l e R s m args below meth c H locs cells slots Q (F0 m pc ls (.int (nI k) :: .ref a :: rest)) := by
  obtain ⟨q0, hq⟩ := List.getElem?_of_mem hm
  refine va_aldq (D := g.1) (C := "java/lang/Object") C.1.1 C.1.2.1 C.2.2.1 hP q0 2 hq rfl (vp_in_nI hk hn) hdg ?_
  rw [nI_clamp (by omega)]
  exact kk
theorem z_bast (C : zC g p m c cc nL s args own) (hP : va_P g.1 classes ws H) (hD : va_D (zA g) ws) (hS : va_S (zA g) s.heap H locs) (q0 : Nat) {f : Nat → UInt8} (he : ws[q0]? = some (a, zBy g n f)) (k : Nat) (hk : k < n) (hn : n < 2 ^ 31) {u : UInt8} (hdg : decode cc pc = .ok (.bastore, 1)) {ws' : va_W} (hw : ws.set q0 (a, zBy g n (uB f k u)) = ws')
    (kk : ∀ (H : Heap) (locs : List Loc), va_P g.1 classes ws' H → va_D (zA g) ws' → va_S (zA g) s.heap H locs → W p l e R s m args below meth c H locs cells slots Q (F0 m (pc + 1) ls rest)) : W p l e R s m args below meth c H locs cells slots Q (F0 m pc ls (.int (sb u) :: .int (nI k) :: .ref a :: rest)) := by
  subst hw
  refine va_bast (D := g.1) C.1.1 C.1.2.1 C.2.2.1 hP hD hS q0 0 he rfl (vp_in_nI hk hn) hdg ?_
  rw [nI_clamp (by omega), sb_nar, uB_sb]
  exact kk
theorem z_iast (C : zC g p m c cc nL s args own) (hP : va_P g.1 classes ws H) (hD : va_D (zA g) ws) (hS : va_S (zA g) s.heap H locs) (q0 : Nat) {f : Nat → Int32} (he : ws[q0]? = some (a, zIn g n f)) (k : Nat) (hk : k < n) (hn : n < 2 ^ 31) {x : Int32} (hdg : decode cc pc = .ok (.iastore, 1)) {ws' : va_W} (hw : ws.set q0 (a, zIn g n (upd f k x)) = ws')
    (kk : ∀ (H : Heap) (locs : List Loc), va_P g.1 classes ws' H → va_D (zA g) ws' → va_S (zA g) s.heap H locs → W p l e R s m args below meth c H locs cells slots Q (F0 m (pc + 1) ls rest)) : W p l e R s m args below meth c H locs cells slots Q (F0 m pc ls (.int x :: .int (nI k) :: .ref a :: rest)) := by
  subst hw
  refine va_iast (D := g.1) C.1.1 C.1.2.1 C.2.2.1 hP hD hS q0 1 he rfl (vp_in_nI hk hn) hdg ?_
  rw [nI_clamp (by omega)]
  exact kk
theorem z_alenB (C : zC g p m c cc nL s args own) (hP : va_P g.1 classes ws H) {f : Nat → UInt8} (hm : (a, zBy g n f) ∈ ws) (hdg : decode cc pc = .ok (.arraylength, 1))
    (kk : W p l e R s m args below meth c H locs cells slots Q (F0 m (pc + 1) ls (.int (nI n) :: rest))) : W p l e R s m args below meth c H locs cells slots Q (F0 m pc ls (.ref a :: rest)) := by
  obtain ⟨q0, hq⟩ := List.getElem?_of_mem hm
  exact va_alen (D := g.1) C.1.1 C.1.2.1 C.2.2.1 hP q0 0 hq rfl rfl hdg kk
theorem z_alenO (C : zC g p m c cc nL s args own) (hP : va_P g.1 classes ws H) {f : Nat → Option Nat} (hm : (a, zOb g n f) ∈ ws) (hdg : decode cc pc = .ok (.arraylength, 1))
    (kk : W p l e R s m args below meth c H locs cells slots Q (F0 m (pc + 1) ls (.int (nI n) :: rest))) : W p l e R s m args below meth c H locs cells slots Q (F0 m pc ls (.ref a :: rest)) := by
  obtain ⟨q0, hq⟩ := List.getElem?_of_mem hm
  exact va_alen (D := g.1) C.1.1 C.1.2.1 C.2.2.1 hP q0 2 hq rfl rfl hdg kk

/-! ends -/
theorem z_iret {mc ms : Nat} {post : Int32 → va_W → Prop} {v : Int32} (C : zC g p m c cc nL s args own) (hr : meth.sig.returnType = some .int) (hlk : meth.locks = false) (hP : va_P g.1 classes ws H) (hD : va_D (zA g) ws) (hS : va_S (zA g) s.heap H locs) (hc : cells ≤ mc) (hs : slots ≤ ms) (hp : post v ws) (hdg : decode cc pc = .ok (.ireturn, 1)) : W p l e R s m args below meth c H locs cells slots (MQ below (zQi g post) args s mc ms (zA g)) (F0 m pc ls [.int v]) := by
  refine W.widen hc hs ?_
  exact W.iret (v := v) C.1.1 C.1.2.1 hr (fun t ht hW => ⟨⟨v, ws, rfl, hp, by rw [ht]; exact hP, hD⟩, hS.F ht⟩) hS.2.2 hdg hlk
theorem z_zret {mc ms : Nat} {post : Int32 → va_W → Prop} {v : Int32} (C : zC g p m c cc nL s args own) (hr : meth.sig.returnType = some .boolean) (hlk : meth.locks = false) (hP : va_P g.1 classes ws H) (hD : va_D (zA g) ws) (hS : va_S (zA g) s.heap H locs) (hc : cells ≤ mc) (hs : slots ≤ ms) (hv : v = 0 ∨ v = 1) (hp : post v ws) (hdg : decode cc pc = .ok (.ireturn, 1)) : W p l e R s m args below meth c H locs cells slots (MQ below (zQi g post) args s mc ms (zA g)) (F0 m pc ls [.int v]) := by
  refine W.widen hc hs ?_
  exact W.zret (v := v) C.1.1 C.1.2.1 hr (by rcases hv with rfl | rfl <;> rfl) (fun t ht hW => ⟨⟨v, ws, rfl, hp, by rw [ht]; exact hP, hD⟩, hS.F ht⟩) hS.2.2 hdg hlk
theorem z_lret {mc ms : Nat} {post : Int64 → va_W → Prop} {v : Int64} (C : zC g p m c cc nL s args own) (hr : meth.sig.returnType = some .long) (hlk : meth.locks = false) (hP : va_P g.1 classes ws H) (hD : va_D (zA g) ws) (hS : va_S (zA g) s.heap H locs) (hc : cells ≤ mc) (hs : slots ≤ ms) (hp : post v ws) (hdg : decode cc pc = .ok (.lreturn, 1)) : W p l e R s m args below meth c H locs cells slots (MQ below (zQl g post) args s mc ms (zA g)) (F0 m pc ls [.long v]) := by
  refine W.widen hc hs ?_
  exact W.lret (v := v) C.1.1 C.1.2.1 hr (fun t ht hW => ⟨⟨v, ws, rfl, hp, by rw [ht]; exact hP, hD⟩, hS.F ht⟩) hS.2.2 hdg hlk
theorem z_vret {mc ms : Nat} {post : va_W → Prop} (C : zC g p m c cc nL s args own) (hr : meth.sig.returnType = none) (hlk : meth.locks = false) (hP : va_P g.1 classes ws H) (hD : va_D (zA g) ws) (hS : va_S (zA g) s.heap H locs) (hc : cells ≤ mc) (hs : slots ≤ ms) (hp : post ws) (hdg : decode cc pc = .ok (.return_, 1)) : W p l e R s m args below meth c H locs cells slots (MQ below (zQv g post) args s mc ms (zA g)) (F0 m pc ls []) := by
  refine W.widen hc hs ?_
  exact W.vret C.1.1 C.1.2.1 hr (fun t ht hW => ⟨⟨ws, rfl, hp, by rw [ht]; exact hP, hD⟩, hS.F ht⟩) hS.2.2 hdg hlk
theorem z_aret {mc ms : Nat} {post : Option Nat → va_W → Prop} {v : Option Nat} {rt : FieldType} (C : zC g p m c cc nL s args own) (hr : meth.sig.returnType = some rt) (hrt : (∃ n, rt = .object n) ∨ ∃ t, rt = .array t) (hlk : meth.locks = false) (hP : va_P g.1 classes ws H) (hD : va_D (zA g) ws) (hS : va_S (zA g) s.heap H locs) (hc : cells ≤ mc) (hs : slots ≤ ms) (hp : post v ws) (hdg : decode cc pc = .ok (.areturn, 1)) : W p l e R s m args below meth c H locs cells slots (MQ below (zQq g post) args s mc ms (zA g)) (F0 m pc ls [va_rf v]) := by
  refine W.widen hc hs ?_
  exact W.aret C.1.1 C.1.2.1 hr hrt (va_rf_or v) (fun t ht hW => ⟨⟨v, ws, rfl, hp, by rw [ht]; exact hP, hD⟩, hS.F ht⟩) hS.2.2 hdg hlk
/-! calls: what is called runs, then the walk goes on -/
section ZCALL
variable {mc ms : Nat} {st0 : List Value} {a1 : Array Value}
theorem z_ki {post : Int32 → va_W → Prop} (hr : va_Run p l e R s m args below meth c H locs cells slots mc ms (F0 m pc ls st0) rest (zQi g post a1) (zA g)) (hS : va_S (zA g) s.heap H locs)
    (kk : ∀ (r : Int32) (w : va_W) (H : Heap) (locs : List Loc), post r w → va_P g.1 classes w H → va_D (zA g) w → va_S (zA g) s.heap H locs → W p l e R s m args below meth c H locs (cells + mc) (slots + ms) Q (F0 m (pc + 3) ls (.int r :: rest))) : W p l e R s m args below meth c H locs cells slots Q (F0 m pc ls st0) :=
  va_calli hr hS (fun _ _ h => h) (fun _ h => h) (fun r u t H1 locs1 ht _ hw hB _ _ hS1 => kk r u H1 locs1 hw (by rw [← ht]; exact hB.1) hB.2 hS1)
theorem z_kl {post : Int64 → va_W → Prop} (hr : va_Run p l e R s m args below meth c H locs cells slots mc ms (F0 m pc ls st0) rest (zQl g post a1) (zA g)) (hS : va_S (zA g) s.heap H locs)
    (kk : ∀ (r : Int64) (w : va_W) (H : Heap) (locs : List Loc), post r w → va_P g.1 classes w H → va_D (zA g) w → va_S (zA g) s.heap H locs → W p l e R s m args below meth c H locs (cells + mc) (slots + ms) Q (F0 m (pc + 3) ls (.long r :: rest))) : W p l e R s m args below meth c H locs cells slots Q (F0 m pc ls st0) :=
  va_calll hr hS (fun _ _ h => h) (fun _ h => h) (fun r u t H1 locs1 ht _ hw hB _ _ hS1 => kk r u H1 locs1 hw (by rw [← ht]; exact hB.1) hB.2 hS1)
theorem z_kv {post : va_W → Prop} (hr : va_Run p l e R s m args below meth c H locs cells slots mc ms (F0 m pc ls st0) rest (zQv g post a1) (zA g)) (hS : va_S (zA g) s.heap H locs)
    (kk : ∀ (w : va_W) (H : Heap) (locs : List Loc), post w → va_P g.1 classes w H → va_D (zA g) w → va_S (zA g) s.heap H locs → W p l e R s m args below meth c H locs (cells + mc) (slots + ms) Q (F0 m (pc + 3) ls rest)) : W p l e R s m args below meth c H locs cells slots Q (F0 m pc ls st0) :=
  va_callv hr hS (fun _ _ h => h) (fun _ h => h) (fun u t H1 locs1 ht _ hw hB _ _ hS1 => kk u H1 locs1 hw (by rw [← ht]; exact hB.1) hB.2 hS1)
theorem z_kq {post : Option Nat → va_W → Prop} (hr : va_Run p l e R s m args below meth c H locs cells slots mc ms (F0 m pc ls st0) rest (zQq g post a1) (zA g)) (hS : va_S (zA g) s.heap H locs)
    (kk : ∀ (r : Option Nat) (w : va_W) (H : Heap) (locs : List Loc), post r w → va_P g.1 classes w H → va_D (zA g) w → va_S (zA g) s.heap H locs → W p l e R s m args below meth c H locs (cells + mc) (slots + ms) Q (F0 m (pc + 3) ls (va_rf r :: rest))) : W p l e R s m args below meth c H locs cells slots Q (F0 m pc ls st0) :=
  va_callq hr hS (fun _ _ h => h) (fun _ h => h) (fun r u t H1 locs1 ht _ hw hB _ _ hS1 => kk r u H1 locs1 hw (by rw [← ht]; exact hB.1) hB.2 hS1)
variable {y : MethodName} {bytes : ByteArray} {maxL d lo idx np : Nat} {ret : Option FieldType} {Qc : Array Value → State → Outcome → State → Prop} {b : Nat} {As : List Value} {C0 : String}
theorem z_B (C : zC g p m c cc nL s args own) (hcode : Cond.code y bytes maxL ret ∈ lw_tbl) (hini : Cond.initialized y.cls ∈ lw_tbl) (hlink : Cond.methodLink own idx y ∈ lw_tbl) (hy : y.cls ≠ "java/lang/invoke/MethodHandle" ∧ y.cls ≠ "java/lang/invoke/VarHandle" ∧ (parseMethodDescriptor y.desc).map (fun d => d.parameters.length) = some np) (hR : d + 1 ≤ R.frames ∧ 8 + (maxL + 11) + lo ≤ R.locals) : CallB R s args own idx y bytes maxL ret (zw y bytes maxL ret) (zR d lo mc ms) mc ms np :=
  callB_of np C.1.2.2.2.2 (z_good (z_in hcode rfl)) rfl rfl rfl (C.ts hini rfl) (C.ts hlink rfl) hy hR
theorem z_pre (C : zC g p m c cc nL s args own) (hP : va_P g.1 classes ws H) (hD : va_D (zA g) ws) (hS : va_S (zA g) s.heap H locs) (av : List Value) : FrameBlind (zP g av ws) ∧ ∀ U : State, U.heap = H → s.WarmedH U.vm → zP g av ws av.toArray U :=
  ⟨zP.blind, fun U hU hW => ⟨rfl, zG.go C.2 hS hU hW, by rw [hU]; exact hP, hD⟩⟩
theorem z_runV (C : zC g p m c cc nL s args own) (hM : Met l y (zw y bytes maxL ret) (zR d lo mc ms) (zP g (.ref b :: As) ws) Qc mc ms (zA g)) (hP : va_P g.1 classes ws H) (hD : va_D (zA g) ws) (hS : va_S (zA g) s.heap H locs) (hm : (b, zo ci fs) ∈ ws) (hc : classes[ci]? = some (C0, T, N)) (hcode : Cond.code y bytes maxL ret ∈ lw_tbl) (hini : Cond.initialized y.cls ∈ lw_tbl) (hlink : Cond.methodLink own idx y ∈ lw_tbl) (hinst : Cond.instanceMethod y ∈ lw_tbl) (hsel : Cond.selects C0 y y ∈ lw_tbl) (hy : y.cls ≠ "java/lang/invoke/MethodHandle" ∧ y.cls ≠ "java/lang/invoke/VarHandle" ∧ (parseMethodDescriptor y.desc).map (fun d => d.parameters.length) = some np) (hR : d + 1 ≤ R.frames ∧ 8 + (maxL + 11) + lo ≤ R.locals) (hn : As.length = np) (hl : ls.size = nL) (hst : st0 = As.reverse ++ .ref b :: rest) (hcat : (rest.map fun v => v.category).sum ≤ 8) (hdg : decode cc pc = .ok (.invokevirtual idx, 3)) (hf : cells + mc ≤ R.cells ∧ slots + ms ≤ R.slots) :
    va_Run p l e R s m args below meth c H locs cells slots mc ms (F0 m pc ls st0) rest (Qc (Value.ref b :: As).toArray) (zA g) := by
  obtain ⟨q0, hq⟩ := List.getElem?_of_mem hm
  exact va_runV C.1 hM ⟨z_B C hcode hini hlink hy hR, C.ts hinst rfl, C.ts hsel rfl⟩ ⟨(z_pre C hP hD hS _).1, va_recv (q := (C0, T, N)) C.2.2.1 hP hc hq, (z_pre C hP hD hS _).2⟩ rfl hn hl hst (by show 2 * 0 + _ ≤ 8; omega) hdg hf
theorem z_runS (C : zC g p m c cc nL s args own) (hM : Met l y (zw y bytes maxL ret) (zR d lo mc ms) (zP g As ws) Qc mc ms (zA g)) (hP : va_P g.1 classes ws H) (hD : va_D (zA g) ws) (hS : va_S (zA g) s.heap H locs) (hcode : Cond.code y bytes maxL ret ∈ lw_tbl) (hini : Cond.initialized y.cls ∈ lw_tbl) (hlink : Cond.methodLink own idx y ∈ lw_tbl) (hstat : Cond.static y ∈ lw_tbl) (hy : y.cls ≠ "java/lang/invoke/MethodHandle" ∧ y.cls ≠ "java/lang/invoke/VarHandle" ∧ (parseMethodDescriptor y.desc).map (fun d => d.parameters.length) = some np) (hR : d + 1 ≤ R.frames ∧ 8 + (maxL + 11) + lo ≤ R.locals) (hn : As.length = np) (hl : ls.size = nL) (hst : st0 = As.reverse ++ rest) (hcat : (rest.map fun v => v.category).sum ≤ 8) (hdg : decode cc pc = .ok (.invokestatic idx, 3)) (hf : cells + mc ≤ R.cells ∧ slots + ms ≤ R.slots) :
    va_Run p l e R s m args below meth c H locs cells slots mc ms (F0 m pc ls st0) rest (Qc As.toArray) (zA g) :=
  va_runS C.1 hM ⟨z_B C hcode hini hlink hy hR, C.ts hstat rfl⟩ (z_pre C hP hD hS _) rfl hn hl hst (by show 2 * 0 + _ ≤ 8; omega) hdg hf
theorem z_runI (C : zC g p m c cc nL s args own) (hM : Met l y (zw y bytes maxL none) (zR d lo mc ms) (zP g (.ref b :: As) ws) Qc mc ms (zA g)) (hP : va_P g.1 classes ws H) (hD : va_D (zA g) ws) (hS : va_S (zA g) s.heap H locs) (hcode : Cond.code y bytes maxL none ∈ lw_tbl) (hini : Cond.initialized y.cls ∈ lw_tbl) (hlink : Cond.methodLink own idx y ∈ lw_tbl) (hinst : Cond.instanceMethod y ∈ lw_tbl) (hnm : y.name = "<init>") (hy : y.cls ≠ "java/lang/invoke/MethodHandle" ∧ y.cls ≠ "java/lang/invoke/VarHandle" ∧ (parseMethodDescriptor y.desc).map (fun d => d.parameters.length) = some np) (hR : d + 1 ≤ R.frames ∧ 8 + (maxL + 11) + lo ≤ R.locals) (hn : As.length = np) (hl : ls.size = nL) (hst : st0 = As.reverse ++ .ref b :: rest) (hcat : (rest.map fun v => v.category).sum ≤ 8) (hdg : decode cc pc = .ok (.invokespecial idx, 3)) (hf : cells + mc ≤ R.cells ∧ slots + ms ≤ R.slots) :
    va_Run p l e R s m args below meth c H locs cells slots mc ms (F0 m pc ls st0) rest (Qc (Value.ref b :: As).toArray) (zA g) :=
  va_runI C.1 hM ⟨z_B C hcode hini hlink hy hR, hnm, C.ts hinst rfl⟩ (z_pre C hP hD hS _) rfl hn hl hst (by show 2 * 0 + _ ≤ 8; omega) hdg hf
theorem z_runIN {host : String} (C : zC g p m c cc nL s args own) (hM : Met l y (zw y bytes maxL none) (zR d lo mc ms) (zP g (.ref b :: As) ws) Qc mc ms (zA g)) (hP : va_P g.1 classes ws H) (hD : va_D (zA g) ws) (hS : va_S (zA g) s.heap H locs) (hcode : Cond.code y bytes maxL none ∈ lw_tbl) (hini : Cond.initialized y.cls ∈ lw_tbl) (hlink : Cond.methodLinkNest own idx y host ∈ lw_tbl) (hinst : Cond.instanceMethod y ∈ lw_tbl) (hnm : y.name = "<init>") (hy : y.cls ≠ "java/lang/invoke/MethodHandle" ∧ y.cls ≠ "java/lang/invoke/VarHandle" ∧ (parseMethodDescriptor y.desc).map (fun d => d.parameters.length) = some np) (hR : d + 1 ≤ R.frames ∧ 8 + (maxL + 11) + lo ≤ R.locals) (hn : As.length = np) (hl : ls.size = nL) (hst : st0 = As.reverse ++ .ref b :: rest) (hcat : (rest.map fun v => v.category).sum ≤ 8) (hdg : decode cc pc = .ok (.invokespecial idx, 3)) (hf : cells + mc ≤ R.cells ∧ slots + ms ≤ R.slots) :
    va_Run p l e R s m args below meth c H locs cells slots mc ms (F0 m pc ls st0) rest (Qc (Value.ref b :: As).toArray) (zA g) :=
  va_runIN C.1 hM ⟨va_cnB np C.1.2.2.2.2 (z_good (z_in hcode rfl)) rfl rfl rfl (C.2.2.2.1 _ (z_ns hlink rfl)) (C.ts hini rfl) hy hR, hnm, C.ts hinst rfl⟩ (z_pre C hP hD hS _) rfl hn hl hst (by show 2 * 0 + _ ≤ 8; omega) hdg hf
end ZCALL
/-! new cells: at the head of the world -/
theorem z_hd {q : Nat × va_E} : (ws ++ [q]).Perm (q :: ws) := List.perm_append_comm
theorem z_new (C : zC g p m c cc nL s args own) (hP : va_P g.1 classes ws H) (hD : va_D (zA g) ws) (hS : va_S (zA g) s.heap H locs) (hk : zK ci Cn T N ty) {idx : Nat} (hcl : Cond.classLink own idx Cn ∈ lw_tbl) (hins : Cond.instantiable Cn N ∈ lw_tbl) (hini : Cond.initialized Cn ∈ lw_tbl) (fs : List Value) (hfs : ∀ j, j < N → defaultValue (ty j) = vp_V fs j) (hcells : cells + 1 ≤ R.cells) (hslots : slots + N ≤ R.slots) (hdg : decode cc pc = .ok (.new idx, 3))
    (kk : ∀ (q : Nat) (H : Heap), va_P g.1 classes ((q, zo ci fs) :: ws) H → va_D (zA g) ((q, zo ci fs) :: ws) → va_S (zA g) s.heap H locs → W p l e R s m args below meth c H locs (cells + 1) (slots + N) Q (F0 m (pc + 3) ls (.ref q :: rest))) : W p l e R s m args below meth c H locs cells slots Q (F0 m pc ls rest) :=
  va_new C.1.1 C.1.2.1 C.1.2.2.2.2 hk.2.1 ty hk.2.2.1 C.1.2.2.2.1 (C.ts hcl rfl) (C.ts hins rfl) (C.ts hini rfl) C.2.2.1 hP hD hS (fun q h => Nat.le_trans C.2.1 h) hk.1 hfs hcells hslots hdg (fun q H1 hP1 hD1 hS1 => kk q H1 (z_Pq z_hd hP1) (z_Dq z_hd hD1) hS1)
theorem z_newa {at_ : ArrayType} {fty : FieldType} {a0 : vp_A} (j : Nat) (C : zC g p m c cc nL s args own) (hP : va_P g.1 classes ws H) (hD : va_D (zA g) ws) (hS : va_S (zA g) s.heap H locs) (hty : newarray.typeOf at_ = fty) (hj : (zty g)[j]? = some (g.2.1 j, fty)) (hRA : ∀ cA, va_RA s cA fty → va_RA s (g.2.1 j) fty → cA = g.2.1 j) (harr : Cond.arrayClass (newarray.typeOf at_) ∈ lw_tbl) (k : Nat) (hk : k < 2 ^ 31) (ha : ∀ cA : ClassId, vp_cell cA a0 = arrV cA k (fun _ => defaultValue fty)) (hbytes : k * componentBytes fty ≤ 536870912) (hcells : cells + 1 ≤ R.cells) (hslots : slots + k ≤ R.slots) (hdg : decode cc pc = .ok (.newarray at_, 2))
    (kk : ∀ (q : Nat) (H : Heap), va_P g.1 classes ((q, .inl (g.2.1 j, a0)) :: ws) H → va_D (zA g) ((q, .inl (g.2.1 j, a0)) :: ws) → va_S (zA g) s.heap H locs → W p l e R s m args below meth c H locs (cells + 1) (slots + k) Q (F0 m (pc + 2) ls (.ref q :: rest))) : W p l e R s m args below meth c H locs cells slots Q (F0 m pc ls (.int (nI k) :: rest)) :=
  va_newa C.1.1 C.1.2.1 (C.ts harr rfl) hty C.2.2.1 hP hD hS (fun q h => Nat.le_trans C.2.1 h) ha (nI_pos hk) (nI_clamp hk) hbytes hcells hslots hdg (fun q cA H1 hK1 hP1 hD1 hS1 => by
    have e : cA = g.2.1 j := hRA cA (hK1.2 (zty g).length (cA, fty) (by rw [List.getElem?_append_right (Nat.le_refl _), Nat.sub_self]; rfl)).2 (C.2.2.1.2 j _ hj).2
    subst e
    exact kk q H1 (z_Pq z_hd hP1) (z_Dq z_hd hD1) hS1)
theorem z_RAp {cA cB : ClassId} {nm : String} (h1 : s.vm.findClass nm = some cA) (h2 : s.vm.findClass nm = some cB) : cA = cB := Option.some.inj (h1.symm.trans h2)
theorem z_newB (C : zC g p m c cc nL s args own) (hP : va_P g.1 classes ws H) (hD : va_D (zA g) ws) (hS : va_S (zA g) s.heap H locs) (harr : Cond.arrayClass .byte ∈ lw_tbl) (k : Nat) (hk : k ≤ 536870912) (hcells : cells + 1 ≤ R.cells) (hslots : slots + k ≤ R.slots) (hdg : decode cc pc = .ok (.newarray .byte, 2))
    (kk : ∀ (q : Nat) (H : Heap), va_P g.1 classes ((q, zBy g k (fun _ => 0)) :: ws) H → va_D (zA g) ((q, zBy g k (fun _ => 0)) :: ws) → va_S (zA g) s.heap H locs → W p l e R s m args below meth c H locs (cells + 1) (slots + k) Q (F0 m (pc + 2) ls (.ref q :: rest))) : W p l e R s m args below meth c H locs cells slots Q (F0 m pc ls (.int (nI k) :: rest)) :=
  z_newa (at_ := .byte) (fty := .byte) (a0 := (k, .inl (fun _ => sb 0))) 0 C hP hD hS rfl rfl (fun _ h1 h2 => z_RAp h1 h2) harr k (by omega) (fun _ => rfl) (by show k * 1 ≤ _; omega) hcells hslots hdg kk
theorem z_newI (C : zC g p m c cc nL s args own) (hP : va_P g.1 classes ws H) (hD : va_D (zA g) ws) (hS : va_S (zA g) s.heap H locs) (harr : Cond.arrayClass .int ∈ lw_tbl) (k : Nat) (hk : k ≤ 134217728) (hcells : cells + 1 ≤ R.cells) (hslots : slots + k ≤ R.slots) (hdg : decode cc pc = .ok (.newarray .int, 2))
    (kk : ∀ (q : Nat) (H : Heap), va_P g.1 classes ((q, zIn g k (fun _ => 0)) :: ws) H → va_D (zA g) ((q, zIn g k (fun _ => 0)) :: ws) → va_S (zA g) s.heap H locs → W p l e R s m args below meth c H locs (cells + 1) (slots + k) Q (F0 m (pc + 2) ls (.ref q :: rest))) : W p l e R s m args below meth c H locs cells slots Q (F0 m pc ls (.int (nI k) :: rest)) :=
  z_newa (at_ := .int) (fty := .int) (a0 := (k, .inl (fun _ => 0))) 1 C hP hD hS rfl rfl (fun _ h1 h2 => z_RAp h1 h2) harr k (by omega) (fun _ => rfl) (by show k * 4 ≤ _; omega) hcells hslots hdg kk
end ZR

