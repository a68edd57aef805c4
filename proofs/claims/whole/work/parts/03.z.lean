/-! THE LAYER: all words in one list; worlds as lists with a rest; one ground for all methods -/
def zTB : List Cond := lw_tbl.filter goodWord
def zNb : Cond → Bool
  | .methodLinkNest _ _ _ _ => true
  | .castable _ _ => true
  | .declares _ => true
  | _ => false
def zNS : List Cond := lw_tbl.filter zNb
theorem z_ns {w : Cond} (h : w ∈ lw_tbl) (hg : zNb w = true) : w ∈ zNS := List.mem_filter.mpr ⟨h, hg⟩
abbrev zw (y : MethodName) (b : ByteArray) (n : Nat) (ret : Option FieldType) : List Cond := Cond.code y b n ret :: zTB
theorem z_in {w : Cond} (h : w ∈ lw_tbl) (hg : goodWord w = true) : w ∈ zTB := List.mem_filter.mpr ⟨h, hg⟩
theorem z_gw {w : Cond} (h : w ∈ zTB) : (w.onTables && w.keeps) = true ∨ ∃ ty, w = .arrayClass ty := good_of_word (List.mem_filter.mp h).2
theorem z_good {y : MethodName} {b : ByteArray} {n : Nat} {ret : Option FieldType} (h : Cond.code y b n ret ∈ zTB) : GoodIn zTB (zw y b n ret) := by
  intro w hw
  rcases List.mem_cons.mp hw with rfl | hw
  · exact ⟨h, z_gw h⟩
  · exact ⟨hw, z_gw hw⟩
abbrev zR (d lo mc ms : Nat) : Room := { frames := d, cells := mc, slots := ms, locals := lo }
/-! worlds: membership, permutation -/
theorem z_Pm {D : va_G} {cl : List vw_C} {ws : va_W} {H : Heap} (h : va_P D cl ws H) {q : Nat × va_E} (hq : q ∈ ws) : va_at D cl q H := by
  obtain ⟨k, hk⟩ := List.getElem?_of_mem hq
  exact h k q hk
theorem z_Pi {D : va_G} {cl : List vw_C} {ws : va_W} {H : Heap} (h : ∀ q ∈ ws, va_at D cl q H) : va_P D cl ws H := fun _ q hk => h q (List.mem_of_getElem? hk)
theorem z_Ps {D : va_G} {cl : List vw_C} {ws ws' : va_W} {H : Heap} (h : va_P D cl ws H) (hs : ∀ q ∈ ws', q ∈ ws) : va_P D cl ws' H := z_Pi fun q hq => z_Pm h (hs q hq)
theorem z_Dp {A : Nat → Prop} {ws : va_W} : va_D A ws ↔ ws.Pairwise (fun p q => p.1 ≠ q.1) ∧ ∀ q ∈ ws, A q.1 := by
  constructor
  · intro h
    refine ⟨List.pairwise_iff_getElem.mpr fun i j hi hj hij he => ?_, fun q hq => ?_⟩
    · have := h.1 i j _ _ (List.getElem?_eq_getElem hi) (List.getElem?_eq_getElem hj) he
      omega
    · obtain ⟨k, hk⟩ := List.getElem?_of_mem hq
      exact h.2 k q hk
  · intro h
    refine ⟨fun i j p q hi hj he => ?_, fun k q hk => h.2 q (List.mem_of_getElem? hk)⟩
    obtain ⟨li, ei⟩ := List.getElem?_eq_some_iff.mp hi
    obtain ⟨lj, ej⟩ := List.getElem?_eq_some_iff.mp hj
    rcases Nat.lt_trichotomy i j with q1 | q1 | q1
    · exact absurd (by rw [ei, ej]; exact he) (List.pairwise_iff_getElem.mp h.1 i j li lj q1)
    · exact q1
    · exact absurd (by rw [ei, ej]; exact he.symm) (List.pairwise_iff_getElem.mp h.1 j i lj li q1)
theorem z_Pq {D : va_G} {cl : List vw_C} {ws ws' : va_W} {H : Heap} (hp : ws.Perm ws') (h : va_P D cl ws H) : va_P D cl ws' H := z_Ps h fun _ hq => hp.mem_iff.mpr hq
theorem z_Dq {A : Nat → Prop} {ws ws' : va_W} (hp : ws.Perm ws') (h : va_D A ws) : va_D A ws' :=
  z_Dp.mpr ⟨(hp.pairwise_iff (fun h => Ne.symm h)).mp (z_Dp.mp h).1, fun q hq => (z_Dp.mp h).2 q (hp.mem_iff.mpr hq)⟩
/-- blocks, the last one without a tail -/
def zF : List va_W → va_W
  | [] => []
  | [b] => b
  | b :: c :: r => b ++ zF (c :: r)
theorem zF_flat : ∀ bs : List va_W, zF bs = bs.flatten
  | [] => rfl
  | [b] => by simp [zF]
  | b :: c :: r => by
    show b ++ zF (c :: r) = _
    rw [zF_flat (c :: r)]
    rfl
theorem z_some {α : Type} : ∀ l : List α, (l.map some).filterMap id = l
  | [] => rfl
  | a :: l => by
    show (some a :: l.map some).filterMap id = a :: l
    rw [List.filterMap_cons]
    show a :: _ = _
    rw [z_some l]
theorem z_rng {α : Type} (bs : List α) : (List.range bs.length).map (fun i => bs[i]?) = bs.map some := by
  apply List.ext_getElem?
  intro i
  rw [List.getElem?_map, List.getElem?_map]
  by_cases h : i < bs.length
  · rw [List.getElem?_range h, List.getElem?_eq_getElem h]
    show some (bs[i]?) = some (some bs[i])
    rw [List.getElem?_eq_getElem h]
  · rw [List.getElem?_eq_none (by simpa using h), List.getElem?_eq_none (by omega)]
    rfl
theorem z_blk {bs bs' : List va_W} (is : List Nat) (h1 : is.map (fun i => bs[i]?) = bs'.map some) (h2 : is.Perm (List.range bs.length)) : (zF bs).Perm (zF bs') := by
  have h3 : (bs'.map some).Perm (bs.map some) := by
    rw [← h1, ← z_rng bs]
    exact h2.map _
  have h4 := h3.filterMap id
  rw [z_some, z_some] at h4
  rw [zF_flat, zF_flat]
  exact h4.symm.flatten

/-! THE GROUND: numbers and slots; the array kinds; the first address of ours; the lists' empty row; the mirror of the rows of references -/
abbrev zT : Type := va_G × (Nat → ClassId) × Nat × Nat × Nat
abbrev zA (g : zT) : Nat → Prop := fun q => g.2.2.1 ≤ q
def zty (g : zT) : List (ClassId × FieldType) := [(g.2.1 0, .byte), (g.2.1 1, .int), (g.2.1 2, .object "java/lang/Object")]
def zG (g : zT) (U : State) : Prop :=
  g.2.2.1 ≤ U.heap.size ∧ va_K g.1 classes (zty g) U ∧ (∀ w ∈ zNS, va_Nw w U) ∧
  (va_Z "java/util/ArrayList" "DEFAULTCAPACITY_EMPTY_ELEMENTDATA" "[Ljava/lang/Object;" (.ref g.2.2.2.1) (zA g) U U.heap ∧ va_T (.object "java/lang/Object") g.2.2.2.1 0 (fun _ => .null) (zA g) U U.heap) ∧
  va_AO "java/lang/Object" U ∧ va_Mi "[Ljava/lang/Object;" g.2.2.2.2 U
theorem zG.go {g : zT} {s U : State} {H : Heap} {locs : List Loc} (h : zG g s) (hS : va_S (zA g) s.heap H locs) (hU : U.heap = H) (hW : s.WarmedH U.vm) : zG g U := by
  obtain ⟨h1, h2, h3, ⟨h4, h5⟩, h6, h7⟩ := h
  have hk : ∀ a : Nat, a < s.heap.size → ¬ zA g a → U.heap[a]? = s.heap[a]? := fun a ha hn => by rw [hU]; exact hS.2.1 a ha hn
  refine ⟨by rw [hU]; exact Nat.le_trans h1 hS.1, va_K.moved hW.alike h2, fun w hw => ?_, ⟨(va_Z.moved hW.alike h4).kept hk, (va_T.moved hW.alike h5).kept hk⟩, h6.moved hW.alike, h7.moved hW.alike⟩
  have hz := h3 w hw
  have hb := (List.mem_filter.mp hw).2
  cases w <;> first | (simp [zNb] at hb; done) | exact va_Nw.warmM hW hz | exact va_Nw.warmC hW hz | exact va_Nw.warmD hW hz
theorem zG.same {g : zT} {u U : State} (h : zG g u) (hh : U.heap = u.heap) (hv : U.vm = u.vm) : zG g U := by
  have hal : u.vm.Alike U.vm := by rw [hv]; exact Vm.Alike.refl _
  obtain ⟨h1, h2, h3, ⟨h4, h5⟩, h6, h7⟩ := h
  refine ⟨by rw [hh]; exact h1, va_K.moved hal h2, fun w hw => ?_, ⟨by rw [hh]; exact va_Z.moved hal h4, by rw [hh]; exact va_T.moved hal h5⟩, h6.moved hal, h7.moved hal⟩
  have hz := h3 w hw
  have hb := (List.mem_filter.mp hw).2
  cases w <;> first | (simp [zNb] at hb; done) | exact va_Nw.same rfl hv.symm hz
/-! starts and ends -/
def zP (g : zT) (av : List Value) (ws : va_W) : Array Value → State → Prop := va_Pc av (fun U => zG g U ∧ va_P g.1 classes ws U.heap ∧ va_D (zA g) ws)
abbrev zB (g : zT) : va_W → State → Prop := fun w t => va_P g.1 classes w t.heap ∧ va_D (zA g) w
def zQi (g : zT) (post : Int32 → va_W → Prop) : Array Value → State → Outcome → State → Prop := va_Qi post (zB g) (zA g)
def zQl (g : zT) (post : Int64 → va_W → Prop) : Array Value → State → Outcome → State → Prop := va_Ql post (zB g) (zA g)
def zQv (g : zT) (post : va_W → Prop) : Array Value → State → Outcome → State → Prop := va_Qv post (zB g) (zA g)
def zQq (g : zT) (post : Option Nat → va_W → Prop) : Array Value → State → Outcome → State → Prop := va_Qq post (zB g) (zA g)
theorem zP.blind {g : zT} {av : List Value} {ws : va_W} : FrameBlind (zP g av ws) := fun _ U gg mk q => ⟨q.1, zG.same q.2.1 rfl rfl, q.2.2⟩
/-- what holds all through a method's body -/
def zC (g : zT) (p : Program) (m : MethodId) (c : Code) (cc : ByteArray) (nL : Nat) (s : State) (args : Array Value) (own : String) : Prop := CallFix p m c cc nL s args zTB own ∧ zG g s
theorem zMet {l : Launch} {g : zT} {y : MethodName} {b : ByteArray} {n d lo mc ms : Nat} {ret : Option FieldType} {av : List Value} {ws : va_W} {Qc : Array Value → State → Outcome → State → Prop} (hy : plainName y.cls = true) (hn : (lg_sl av).length ≤ n)
    (body : ∀ (p : Program) (e : Env) (s : State) (m : MethodId) (below : List Frame) (meth : Method) (c : Code) (ls : Array Slot), zC g p m c b n s av.toArray y.cls → meth.sig.returnType = ret → meth.locks = false → meth.name = y.name → va_P g.1 classes ws s.heap → va_D (zA g) ws → lv_has ls n (lv_args 0 av) →
      W p l e (zR d lo mc ms) s m av.toArray below meth c s.heap [] 0 0 (MQ below Qc av.toArray s mc ms (zA g)) (F0 m 0 ls [])) : Met l y (zw y b n ret) (zR d lo mc ms) (zP g av ws) Qc mc ms (zA g) := by
  refine Met.ofW (cc := b) (maxL := n) (ret := ret) hy rfl ?_
  intro p e s m args below meth c s₁ B hml hv
  obtain ⟨rfl, hG, hP, hD⟩ := hv
  have hts := atoms_spec (ws := zw y b n ret) B.pre
  rw [lg_entry_eq]
  exact body p e s m below meth c _ ⟨⟨B.exec, B.bytes, hml, findClass_of_methodNamed B.named, fun w hw => hts w (List.mem_cons_of_mem _ hw)⟩, hG⟩ B.returns B.notSynchronized (name_of_methodNamed B.named B.method).1 hP hD (lv_entry av hn)

section ZL
variable {p : Program} {l : Launch} {e : Env} {R : Room} {s : State} {m : MethodId} {args : Array Value} {below : List Frame} {meth : Method} {c : Code} {H : Heap} {locs : List Loc} {cells slots : Nat} {Q : State → Prop}
variable {cc : ByteArray} {nL pc : Nat} {ls : Array Slot} {rest : List Value} {own : String} {g : zT} {ws : va_W}

theorem z_iadd (C : zC g p m c cc nL s args own) {x : Int32} {y : Int32} {v : Int32} (hdg : decode cc pc = .ok (.iadd, 1)) (hv : x + y = v)
    (k : W p l e R s m args below meth c H locs cells slots Q (F0 m (pc + 1) ls (.int v :: rest))) : W p l e R s m args below meth c H locs cells slots Q (F0 m pc ls (.int y :: .int x :: rest)) := by
  subst hv
  exact lv_iadd C.1.1 C.1.2.1 hdg k
theorem z_isub (C : zC g p m c cc nL s args own) {x : Int32} {y : Int32} {v : Int32} (hdg : decode cc pc = .ok (.isub, 1)) (hv : x - y = v)
    (k : W p l e R s m args below meth c H locs cells slots Q (F0 m (pc + 1) ls (.int v :: rest))) : W p l e R s m args below meth c H locs cells slots Q (F0 m pc ls (.int y :: .int x :: rest)) := by
  subst hv
  exact lv_isub C.1.1 C.1.2.1 hdg k
theorem z_imul (C : zC g p m c cc nL s args own) {x : Int32} {y : Int32} {v : Int32} (hdg : decode cc pc = .ok (.imul, 1)) (hv : x * y = v)
    (k : W p l e R s m args below meth c H locs cells slots Q (F0 m (pc + 1) ls (.int v :: rest))) : W p l e R s m args below meth c H locs cells slots Q (F0 m pc ls (.int y :: .int x :: rest)) := by
  subst hv
  exact lv_imul C.1.1 C.1.2.1 hdg k
theorem z_iand (C : zC g p m c cc nL s args own) {x : Int32} {y : Int32} {v : Int32} (hdg : decode cc pc = .ok (.iand, 1)) (hv : x &&& y = v)
    (k : W p l e R s m args below meth c H locs cells slots Q (F0 m (pc + 1) ls (.int v :: rest))) : W p l e R s m args below meth c H locs cells slots Q (F0 m pc ls (.int y :: .int x :: rest)) := by
  subst hv
  exact lv_iand C.1.1 C.1.2.1 hdg k
theorem z_ior (C : zC g p m c cc nL s args own) {x : Int32} {y : Int32} {v : Int32} (hdg : decode cc pc = .ok (.ior, 1)) (hv : x ||| y = v)
    (k : W p l e R s m args below meth c H locs cells slots Q (F0 m (pc + 1) ls (.int v :: rest))) : W p l e R s m args below meth c H locs cells slots Q (F0 m pc ls (.int y :: .int x :: rest)) := by
  subst hv
  exact lv_ior C.1.1 C.1.2.1 hdg k
theorem z_ixor (C : zC g p m c cc nL s args own) {x : Int32} {y : Int32} {v : Int32} (hdg : decode cc pc = .ok (.ixor, 1)) (hv : x ^^^ y = v)
    (k : W p l e R s m args below meth c H locs cells slots Q (F0 m (pc + 1) ls (.int v :: rest))) : W p l e R s m args below meth c H locs cells slots Q (F0 m pc ls (.int y :: .int x :: rest)) := by
  subst hv
  exact lv_ixor C.1.1 C.1.2.1 hdg k
theorem z_ishl (C : zC g p m c cc nL s args own) {x : Int32} {y : Int32} {v : Int32} (hdg : decode cc pc = .ok (.ishl, 1)) (hv : x <<< (y &&& 31) = v)
    (k : W p l e R s m args below meth c H locs cells slots Q (F0 m (pc + 1) ls (.int v :: rest))) : W p l e R s m args below meth c H locs cells slots Q (F0 m pc ls (.int y :: .int x :: rest)) := by
  subst hv
  exact lv_ishl C.1.1 C.1.2.1 hdg k
theorem z_ishr (C : zC g p m c cc nL s args own) {x : Int32} {y : Int32} {v : Int32} (hdg : decode cc pc = .ok (.ishr, 1)) (hv : x >>> (y &&& 31) = v)
    (k : W p l e R s m args below meth c H locs cells slots Q (F0 m (pc + 1) ls (.int v :: rest))) : W p l e R s m args below meth c H locs cells slots Q (F0 m pc ls (.int y :: .int x :: rest)) := by
  subst hv
  exact lv_ishr C.1.1 C.1.2.1 hdg k
theorem z_ladd (C : zC g p m c cc nL s args own) {x : Int64} {y : Int64} {v : Int64} (hdg : decode cc pc = .ok (.ladd, 1)) (hv : x + y = v)
    (k : W p l e R s m args below meth c H locs cells slots Q (F0 m (pc + 1) ls (.long v :: rest))) : W p l e R s m args below meth c H locs cells slots Q (F0 m pc ls (.long y :: .long x :: rest)) := by
  subst hv
  exact lv_ladd C.1.1 C.1.2.1 hdg k
theorem z_lsub (C : zC g p m c cc nL s args own) {x : Int64} {y : Int64} {v : Int64} (hdg : decode cc pc = .ok (.lsub, 1)) (hv : x - y = v)
    (k : W p l e R s m args below meth c H locs cells slots Q (F0 m (pc + 1) ls (.long v :: rest))) : W p l e R s m args below meth c H locs cells slots Q (F0 m pc ls (.long y :: .long x :: rest)) := by
  subst hv
  exact lv_lsub C.1.1 C.1.2.1 hdg k
theorem z_land (C : zC g p m c cc nL s args own) {x : Int64} {y : Int64} {v : Int64} (hdg : decode cc pc = .ok (.land, 1)) (hv : x &&& y = v)
    (k : W p l e R s m args below meth c H locs cells slots Q (F0 m (pc + 1) ls (.long v :: rest))) : W p l e R s m args below meth c H locs cells slots Q (F0 m pc ls (.long y :: .long x :: rest)) := by
  subst hv
  exact lv_land C.1.1 C.1.2.1 hdg k
theorem z_lor (C : zC g p m c cc nL s args own) {x : Int64} {y : Int64} {v : Int64} (hdg : decode cc pc = .ok (.lor, 1)) (hv : x ||| y = v)
    (k : W p l e R s m args below meth c H locs cells slots Q (F0 m (pc + 1) ls (.long v :: rest))) : W p l e R s m args below meth c H locs cells slots Q (F0 m pc ls (.long y :: .long x :: rest)) := by
  subst hv
  exact lv_lor C.1.1 C.1.2.1 hdg k
end ZL
