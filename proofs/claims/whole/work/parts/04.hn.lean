/-! ===== a step, read whole or not ===== -/
theorem bm32 (x : Int) (h1 : -2147483648 ≤ x) (h2 : x < 2147483648) : x.bmod (2 ^ 32) = x := Int.bmod_eq_of_le (by omega) (by omega)
theorem wd_int {v c : Int32} (hv : 0 ≤ v.toInt ∧ v.toInt ≤ 32768) (hc : inF c 48 57) : (wdF v c).toInt = v.toInt * 10 + (c.toInt - 48) ∧ 48 ≤ c.toInt ∧ c.toInt ≤ 57 := by
  have h1 : 48 ≤ c.toInt := by have := hc.1; rw [Int32.lt_iff_toInt_lt] at this; have e : (48 : Int32).toInt = 48 := rfl; omega
  have h2 : c.toInt ≤ 57 := by have := hc.2; rw [Int32.lt_iff_toInt_lt] at this; have e : (57 : Int32).toInt = 57 := rfl; omega
  refine ⟨?_, h1, h2⟩
  rw [wdF, Int32.toInt_add, Int32.toInt_mul, Int32.toInt_sub, show (10 : Int32).toInt = 10 from rfl, show (48 : Int32).toInt = 48 from rfl, bm32 (v.toInt * 10) (by omega) (by omega), bm32 (c.toInt - 48) (by omega) (by omega), bm32 _ (by omega) (by omega)]
theorem wd_eq (v c : Int32) : (10 : Int32) * v + c - 48 = wdF v c := by
  rw [wdF, Int32.mul_comm, Int32.sub_eq_add_neg, Int32.sub_eq_add_neg, Int32.add_assoc]
theorem nl_thr {gx : Nat → Int32} {n i : Nat} {t f o s g most : Int32} (hg : gsF g = most) (hm : most.toInt ≤ 32768) : ∀ (k a : Nat) (v : Int32), k = n - a → thr gx n i a (mkR 7 t f o s g v) → (1 ≤ v.toInt ∧ v.toInt ≤ 32768) →
    thr gx n i (nlF gx n most k a v).1 (mkR 7 t f o s g (nlF gx n most k a v).2) ∧ ((nlF gx n most k a v).1 < n → rdN (mkR 7 t f o s g (nlF gx n most k a v).2) (gx (nlF gx n most k a v).1)) := by
  intro k
  induction k with
  | zero => exact fun a v hk h hv => ⟨h, fun q => absurd q (show ¬ a < n by omega)⟩
  | succ k ih =>
    intro a v hk h hv
    have ha : a < n := by omega
    have hv0 : 0 < v := by rw [Int32.lt_iff_toInt_lt]; have : (0 : Int32).toInt = 0 := rfl; omega
    by_cases c : 0 < v ∧ inF (sgF gx n a) 48 57 ∧ ¬ most < (10 : Int32) * v + sgF gx n a - 48
    · rw [nlF, if_pos c, wd_eq]
      have c3 := c.2.2
      rw [wd_eq] at c3
      obtain ⟨w1, w2, w3⟩ := wd_int ⟨by omega, hv.2⟩ c.2.1
      have w4 : (wdF v (sgF gx n a)).toInt ≤ most.toInt := by rw [Int32.lt_iff_toInt_lt] at c3; omega
      exact ih (a + 1) _ (by omega) (thr_s h (c_ne c.2.1 (by decide)) (c_ne c.2.1 (by decide)) (rT_7 c.2.1 (by rw [hg]; exact c3))) ⟨by omega, by omega⟩
    · rw [nlF, if_neg c]
      refine ⟨h, fun _ => ?_⟩
      rw [wd_eq, show sgF gx n a = gx a from if_pos ha] at c
      exact sa7.trans (if_neg (fun q => c ⟨hv0, q.1, by rw [← hg]; exact q.2⟩))
theorem nl_0 {gx : Nat → Int32} {n : Nat} {most : Int32} : ∀ (k a : Nat), nlF gx n most k a 0 = (a, 0) := fun k a => nl_stop (fun h => absurd h.1 (by decide)) k
/-- what the reference answers for a step that it has read -/
def rsR (f : Nat → Int32) (a1 a2 a3 : Int32) : Int32 := if a1 = 35 then a2 else if a1 = 42 then valF f a2 * valF f a3 else if a1 = 43 then valF f a2 + valF f a3 else if a1 = 45 then -valF f a2 else if a1 = 115 then valF f a2 - valF f a3 else valF f a2
def rgR (a0 a1 a2 a3 : Int32) : Prop := isReg a0 ∧ (a1 = 35 ∨ isReg a2) ∧ (a1 = 43 ∨ a1 = 115 ∨ a1 = 42 → isReg a3)
def encR (rd : Nat → Int32) (a0 a1 a2 a3 : Int32) : Prop := rd 1 = a0 ∧ rgR a0 a1 a2 a3 ∧ ∀ f, rsF f rd = rsR f a1 a2 a3
def stopR (gx : Nat → Int32) (n a : Nat) (rd : Nat → Int32) : Prop := a < n → rdN rd (gx a) ∨ gx a = 59
abbrev jZ4 := Int32 × Nat × Nat × (Nat → Int32)
def sdP (gx gr : Nat → Int32) (n i r : Nat) (z : jZ4) : Prop :=
  (∀ j, j < 4 * r → z.2.2.2 j = gr j) ∧ ((z.1 = 0 ∧ z.2.2.1 = r ∧ ∃ rd, thr gx n i z.2.1 rd ∧ ¬ rdW rd ∧ stopR gx n z.2.1 rd) ∨
    (z.1 = 1 ∧ z.2.2.1 = r + 1 ∧ i + 3 ≤ z.2.1 ∧ ∃ rd, thr gx n i z.2.1 rd ∧ rdW rd ∧ stopR gx n z.2.1 rd ∧ encR rd (z.2.2.2 (4 * r)) (z.2.2.2 (4 * r + 1)) (z.2.2.2 (4 * r + 2)) (z.2.2.2 (4 * r + 3))))
theorem isReg_let {c : Int32} (h : inF c 65 70) : isReg (c - 65) := by
  have h1 : 65 ≤ c.toInt := by have := h.1; rw [Int32.lt_iff_toInt_lt] at this; have e : (65 : Int32).toInt = 65 := rfl; omega
  have h2 : c.toInt ≤ 70 := by have := h.2; rw [Int32.lt_iff_toInt_lt] at this; have e : (70 : Int32).toInt = 70 := rfl; omega
  have e : (c - 65).toInt = c.toInt - 65 := by rw [Int32.toInt_sub, show (65 : Int32).toInt = 65 from rfl, bm32 _ (by omega) (by omega)]
  refine ⟨?_, ?_⟩
  · rw [Int32.lt_iff_toInt_lt, e, show (0 : Int32).toInt = 0 from rfl]; omega
  · rw [Int32.le_iff_toInt_le, e, show (6 : Int32).toInt = 6 from rfl]; omega
theorem stop_L {gx : Nat → Int32} {n a : Nat} {rd : Nat → Int32} (h : ∀ c, ¬ inF c 65 70 → rdN rd c) (c : ¬ inF (sgF gx n a) 65 70) : stopR gx n a rd := fun q => Or.inl (by
  rw [show sgF gx n a = gx a from if_pos q] at c; exact h _ c)
theorem sgx {gx : Nat → Int32} {n a : Nat} (q : a < n) : sgF gx n a = gx a := if_pos q
theorem valF_m (f : Nat → Int32) : valF f (-1) = 0 := if_neg (by decide)
theorem upd_at (f : Nat → Int32) (i : Nat) (v : Int32) : upd f i v i = v := if_pos rfl
theorem upd_ne {f : Nat → Int32} {i j : Nat} {v : Int32} (h : ¬ j = i) : upd f i v j = f j := if_neg h
