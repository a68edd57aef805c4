theorem q_Row : zK 0 R_Row F_Row 7 t_Row := ⟨rfl, fun w hw => by
    obtain ⟨k, hk, rfl⟩ := List.mem_map.mp hw
    have hk := List.mem_range.mp hk
    match k, hk with
    | 0, _ => exact z_in k_250 rfl
    | 1, _ => exact z_in k_252 rfl
    | 2, _ => exact z_in k_254 rfl
    | 3, _ => exact z_in k_256 rfl
    | 4, _ => exact z_in k_258 rfl
    | 5, _ => exact z_in k_260 rfl
    | 6, _ => exact z_in k_262 rfl
    | k + 7, h => exact absurd h (by omega), t_Row_ok, n_Row⟩
theorem q_Tape : zK 1 R_Tape F_Tape 2 t_Tape := ⟨rfl, fun w hw => by
    obtain ⟨k, hk, rfl⟩ := List.mem_map.mp hw
    have hk := List.mem_range.mp hk
    match k, hk with
    | 0, _ => exact z_in k_40 rfl
    | 1, _ => exact z_in k_42 rfl
    | k + 2, h => exact absurd h (by omega), t_Tape_ok, n_Tape⟩
theorem q_Dir : zK 2 R_Dir F_Dir 1 t_Dir := ⟨rfl, fun w hw => by
    obtain ⟨k, hk, rfl⟩ := List.mem_map.mp hw
    have hk := List.mem_range.mp hk
    match k, hk with
    | 0, _ => exact z_in k_80 rfl
    | k + 1, h => exact absurd h (by omega), t_Dir_ok, n_Dir⟩
theorem q_AL : zK 3 R_AL F_AL 3 t_AL := ⟨rfl, fun w hw => by
    obtain ⟨k, hk, rfl⟩ := List.mem_map.mp hw
    have hk := List.mem_range.mp hk
    match k, hk with
    | 0, _ => exact z_in k_75 rfl
    | 1, _ => exact z_in k_71 rfl
    | 2, _ => exact z_in k_73 rfl
    | k + 3, h => exact absurd h (by omega), t_AL_ok, n_AL⟩
theorem q_Known : zK 4 R_Known F_Known 1 t_Known := ⟨rfl, fun w hw => by
    obtain ⟨k, hk, rfl⟩ := List.mem_map.mp hw
    have hk := List.mem_range.mp hk
    match k, hk with
    | 0, _ => exact z_in k_92 rfl
    | k + 1, h => exact absurd h (by omega), t_Known_ok, n_Known⟩
theorem q_Lst : zK 5 R_Lst F_Lst 6 t_Lst := ⟨rfl, fun w hw => by
    obtain ⟨k, hk, rfl⟩ := List.mem_map.mp hw
    have hk := List.mem_range.mp hk
    match k, hk with
    | 0, _ => exact z_in k_152 rfl
    | 1, _ => exact z_in k_154 rfl
    | 2, _ => exact z_in k_156 rfl
    | 3, _ => exact z_in k_158 rfl
    | 4, _ => exact z_in k_160 rfl
    | 5, _ => exact z_in k_162 rfl
    | k + 6, h => exact absurd h (by omega), t_Lst_ok, n_Lst⟩
theorem q_Lay : zK 6 R_Lay F_Lay 7 t_Lay := ⟨rfl, fun w hw => by
    obtain ⟨k, hk, rfl⟩ := List.mem_map.mp hw
    have hk := List.mem_range.mp hk
    match k, hk with
    | 0, _ => exact z_in k_121 rfl
    | 1, _ => exact z_in k_123 rfl
    | 2, _ => exact z_in k_125 rfl
    | 3, _ => exact z_in k_127 rfl
    | 4, _ => exact z_in k_129 rfl
    | 5, _ => exact z_in k_131 rfl
    | 6, _ => exact z_in k_133 rfl
    | k + 7, h => exact absurd h (by omega), t_Lay_ok, n_Lay⟩
theorem q_Walk : zK 7 R_Walk F_Walk 12 t_Walk := ⟨rfl, fun w hw => by
    obtain ⟨k, hk, rfl⟩ := List.mem_map.mp hw
    have hk := List.mem_range.mp hk
    match k, hk with
    | 0, _ => exact z_in k_196 rfl
    | 1, _ => exact z_in k_198 rfl
    | 2, _ => exact z_in k_200 rfl
    | 3, _ => exact z_in k_202 rfl
    | 4, _ => exact z_in k_204 rfl
    | 5, _ => exact z_in k_206 rfl
    | 6, _ => exact z_in k_208 rfl
    | 7, _ => exact z_in k_210 rfl
    | 8, _ => exact z_in k_212 rfl
    | 9, _ => exact z_in k_214 rfl
    | 10, _ => exact z_in k_216 rfl
    | 11, _ => exact z_in k_218 rfl
    | k + 12, h => exact absurd h (by omega), t_Walk_ok, n_Walk⟩
theorem q_Judge : zK 8 R_Judge F_Judge 5 t_Judge := ⟨rfl, fun w hw => by
    obtain ⟨k, hk, rfl⟩ := List.mem_map.mp hw
    have hk := List.mem_range.mp hk
    match k, hk with
    | 0, _ => exact z_in k_232 rfl
    | 1, _ => exact z_in k_234 rfl
    | 2, _ => exact z_in k_236 rfl
    | 3, _ => exact z_in k_238 rfl
    | 4, _ => exact z_in k_240 rfl
    | k + 5, h => exact absurd h (by omega), t_Judge_ok, n_Judge⟩
theorem q_Ent : zK 9 R_Ent F_Ent 5 t_Ent := ⟨rfl, fun w hw => by
    obtain ⟨k, hk, rfl⟩ := List.mem_map.mp hw
    have hk := List.mem_range.mp hk
    match k, hk with
    | 0, _ => exact z_in k_383 rfl
    | 1, _ => exact z_in k_385 rfl
    | 2, _ => exact z_in k_387 rfl
    | 3, _ => exact z_in k_389 rfl
    | 4, _ => exact z_in k_391 rfl
    | k + 5, h => exact absurd h (by omega), t_Ent_ok, n_Ent⟩
theorem q_Mark : zK 10 R_Mark F_Mark 3 t_Mark := ⟨rfl, fun w hw => by
    obtain ⟨k, hk, rfl⟩ := List.mem_map.mp hw
    have hk := List.mem_range.mp hk
    match k, hk with
    | 0, _ => exact z_in k_576 rfl
    | 1, _ => exact z_in k_578 rfl
    | 2, _ => exact z_in k_580 rfl
    | k + 3, h => exact absurd h (by omega), t_Mark_ok, n_Mark⟩
theorem q_Mod : zK 11 R_Mod F_Mod 29 t_Mod := ⟨rfl, fun w hw => by
    obtain ⟨k, hk, rfl⟩ := List.mem_map.mp hw
    have hk := List.mem_range.mp hk
    match k, hk with
    | 0, _ => exact z_in k_757 rfl
    | 1, _ => exact z_in k_759 rfl
    | 2, _ => exact z_in k_761 rfl
    | 3, _ => exact z_in k_763 rfl
    | 4, _ => exact z_in k_765 rfl
    | 5, _ => exact z_in k_767 rfl
    | 6, _ => exact z_in k_769 rfl
    | 7, _ => exact z_in k_771 rfl
    | 8, _ => exact z_in k_773 rfl
    | 9, _ => exact z_in k_775 rfl
    | 10, _ => exact z_in k_777 rfl
    | 11, _ => exact z_in k_779 rfl
    | 12, _ => exact z_in k_781 rfl
    | 13, _ => exact z_in k_783 rfl
    | 14, _ => exact z_in k_785 rfl
    | 15, _ => exact z_in k_787 rfl
    | 16, _ => exact z_in k_789 rfl
    | 17, _ => exact z_in k_791 rfl
    | 18, _ => exact z_in k_793 rfl
    | 19, _ => exact z_in k_795 rfl
    | 20, _ => exact z_in k_797 rfl
    | 21, _ => exact z_in k_799 rfl
    | 22, _ => exact z_in k_801 rfl
    | 23, _ => exact z_in k_803 rfl
    | 24, _ => exact z_in k_805 rfl
    | 25, _ => exact z_in k_807 rfl
    | 26, _ => exact z_in k_809 rfl
    | 27, _ => exact z_in k_811 rfl
    | 28, _ => exact z_in k_813 rfl
    | k + 29, h => exact absurd h (by omega), t_Mod_ok, n_Mod⟩
theorem zn_add0 (a : Nat) : nI a + nI 0 = nI a := nI_add a 0
theorem zn_dec {n : Nat} (h : 0 < n) : nI n + Int32.ofInt (-1) = nI (n - 1) := by
  obtain ⟨k, rfl⟩ : ∃ k, n = k + 1 := ⟨n - 1, by omega⟩
  rw [show Int32.ofInt (-1) = (-1) by decide, pk_m1]
  rfl
section ZX
variable {p : Program} {l : Launch} {e : Env} {R : Room} {s : State} {m : MethodId} {args : Array Value} {below : List Frame} {meth : Method} {c : Code} {H : Heap} {locs : List Loc} {cells slots : Nat} {Q : State → Prop}
variable {cc : ByteArray} {nL pc : Nat} {ls : Array Slot} {rest : List Value} {own : String} {g : zT} {ws : va_W} {a ci N n : Nat} {fs : List Value} {Cn : String} {T : u_T}
theorem z_topi {x y : Int32} (h : x = y) (k : W p l e R s m args below meth c H locs cells slots Q (F0 m pc ls (.int y :: rest))) : W p l e R s m args below meth c H locs cells slots Q (F0 m pc ls (.int x :: rest)) := by
  subst h; exact k
theorem z_topl {x y : Int64} (h : x = y) (k : W p l e R s m args below meth c H locs cells slots Q (F0 m pc ls (.long y :: rest))) : W p l e R s m args below meth c H locs cells slots Q (F0 m pc ls (.long x :: rest)) := by
  subst h; exact k
theorem z_some' {r : Option Nat} (h : r = some a) (k : W p l e R s m args below meth c H locs cells slots Q (F0 m pc ls (.ref a :: rest))) : W p l e R s m args below meth c H locs cells slots Q (F0 m pc ls (va_rf r :: rest)) := by
  subst h; exact k
theorem z_idiv (C : zC g p m c cc nL s args own) {x y v : Int32} (hdg : decode cc pc = .ok (.idiv, 1)) (hne : ¬ y = 0) (hv : x / y = v)
    (k : W p l e R s m args below meth c H locs cells slots Q (F0 m (pc + 1) ls (.int v :: rest))) : W p l e R s m args below meth c H locs cells slots Q (F0 m pc ls (.int y :: .int x :: rest)) := by
  subst hv
  exact lv_idiv C.1.1 C.1.2.1 hdg hne k
theorem z_cast {idx : Nat} {nm : String} (C : zC g p m c cc nL s args own) (hP : va_P g.1 classes ws H) (hm : (a, zo ci fs) ∈ ws) (hc : classes[ci]? = some (Cn, T, N)) (hlink : Cond.classLink own idx nm ∈ lw_tbl) (hcast : Cond.castable Cn nm ∈ lw_tbl) (hdg : decode cc pc = .ok (.checkcast idx, 3))
    (k : W p l e R s m args below meth c H locs cells slots Q (F0 m (pc + 3) ls (.ref a :: rest))) : W p l e R s m args below meth c H locs cells slots Q (F0 m pc ls (.ref a :: rest)) := by
  obtain ⟨q0, hq⟩ := List.getElem?_of_mem hm
  exact va_castY C.1.1 C.1.2.1 C.1.2.2.2.1 (C.ts hlink rfl) (C.2.2.2.1 _ (z_ns hcast rfl)) (va_recv (q := (Cn, T, N)) C.2.2.1 hP hc hq) hdg k
end ZX

