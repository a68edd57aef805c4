/-! an entry's bytes; what writing it does to the row -/
def entB (pl : Nat) (df : Int32) (kd : Nat) (nm : List UInt8) : List UInt8 := le2 (nI pl) ++ le2 df ++ le2 (nI kd) ++ le2 (nI (nm.length - 1)) ++ nm
theorem entB_len (pl : Nat) (df : Int32) (kd : Nat) (nm : List UInt8) : (entB pl df kd nm).length = 8 + nm.length := by
  unfold entB le2
  simp only [List.length_append, List.length_cons, List.length_nil]
theorem cpy_wr (nf f : Nat → UInt8) (a n : Nat) : va_cpy nf f 0 a n = wr f a (zl nf 0 n) := by
  funext j
  unfold va_cpy wr
  rw [zl_len]
  split
  · rename_i h
    rw [List.getD_eq_getElem?_getD]
    unfold zl
    rw [List.getElem?_map, List.getElem?_range (by omega)]
    rfl
  · rfl
theorem ent_wr (f nf : Nat → UInt8) (a pl kd ln : Nat) (df : Int32) : va_cpy nf (wr (wr (wr (wr f a (le2 (nI pl))) (a + 2) (le2 df)) (a + 4) (le2 (nI kd))) (a + 6) (le2 (nI (ln - 1)))) 0 (a + 8) ln = wr f a (entB pl df kd (zl nf 0 ln)) := by
  rw [cpy_wr, wr_wr f a (le2 (nI pl)) (le2 df) (b := a + 2) rfl, wr_wr f a (le2 (nI pl) ++ le2 df) (le2 (nI kd)) (b := a + 4) rfl, wr_wr f a (le2 (nI pl) ++ le2 df ++ le2 (nI kd)) (le2 (nI (ln - 1))) (b := a + 6) rfl, wr_wr f a (le2 (nI pl) ++ le2 df ++ le2 (nI kd) ++ le2 (nI (ln - 1))) (zl nf 0 ln) (b := a + 8) rfl]
  unfold entB
  rw [zl_len]
def wrE (b : Nat) (S : zS) (f : Nat → UInt8) (e : zE) : Nat → UInt8 :=
  if layF b S.1 S.2.1 S.2.2.1 S.2.2.2.1 S.2.2.2.2.1 e.2.1 e.2.2.1 = true then wr (wr f S.2.2.1 (le4 (nI (S.2.2.2.2.1 + 1 - 1)))) S.2.1 (entB e.2.2.2.1 (nI e.2.1 - nI S.2.2.2.1) e.2.2.2.2 e.1)
  else wr (wr (wr (wr f (S.2.1 + 4) (le4 (nI e.2.2.1))) (S.2.1 + 8) (le4 (nI e.2.1))) S.2.1 (le4 (nI (1 - 1)))) (S.2.1 + 12) (entB e.2.2.2.1 (nI e.2.1 - nI e.2.1) e.2.2.2.2 e.1)
