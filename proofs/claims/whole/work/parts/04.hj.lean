/-! ===== the text, as the reference reads it ===== -/
def sgF (gx : Nat → Int32) (n i : Nat) : Int32 := if i < n then gx i else 0
def nlF (gx : Nat → Int32) (n : Nat) (most : Int32) : Nat → Nat → Int32 → Nat × Int32
  | 0, i, v => (i, v)
  | k + 1, i, v => if 0 < v ∧ inF (sgF gx n i) 48 57 ∧ ¬ most < (10 : Int32) * v + sgF gx n i - 48 then nlF gx n most k (i + 1) ((10 : Int32) * v + sgF gx n i - 48) else (i, v)
theorem sg_lt {gx : Nat → Int32} {n i : Nat} {l h : Int32} (hl : 0 < l) (c : inF (sgF gx n i) l h) : i < n := by
  rcases Nat.lt_or_ge i n with q | q
  · exact q
  · have e : sgF gx n i = 0 := if_neg (by omega)
    rw [e] at c
    exact absurd hl c.1
theorem sg_lt1 {gx : Nat → Int32} {n i : Nat} {x : Int32} (hx : ¬ x = 0) (c : sgF gx n i = x) : i < n := by
  rcases Nat.lt_or_ge i n with q | q
  · exact q
  · have e : sgF gx n i = 0 := if_neg (by omega)
    exact absurd (c.symm.trans e) hx
theorem nl_stop {gx : Nat → Int32} {n : Nat} {most : Int32} {i : Nat} {v : Int32} (h : ¬ (0 < v ∧ inF (sgF gx n i) 48 57 ∧ ¬ most < (10 : Int32) * v + sgF gx n i - 48)) (k : Nat) : nlF gx n most k i v = (i, v) := by
  cases k with
  | zero => rfl
  | succ k => rw [nlF, if_neg h]
theorem nl_go {gx : Nat → Int32} {n : Nat} {most : Int32} {i : Nat} {v : Int32} (hi : i < n) (h : 0 < v ∧ inF (sgF gx n i) 48 57 ∧ ¬ most < (10 : Int32) * v + sgF gx n i - 48) : nlF gx n most (n - i) i v = nlF gx n most (n - (i + 1)) (i + 1) ((10 : Int32) * v + sgF gx n i - 48) := by
  rw [show n - i = (n - (i + 1)) + 1 by omega, nlF, if_pos h]
