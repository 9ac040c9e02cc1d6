/-! ===== a program read, step by step ===== -/
abbrev jD := (Nat → Int32) × Int32 × Int32 × Int32
def rsK (gr : Nat → Int32) (k : Nat) (f : Nat → Int32) : Int32 := rsR f (gr (4 * k + 1)) (gr (4 * k + 2)) (gr (4 * k + 3))
def stpR (w : Int32) (gr : Nat → Int32) (k : Nat) (D : jD) : jD := (putF D.1 (gr (4 * k)) (wrapF w (rsK gr k D.1)), ovF w (rsK gr k D.1) D.2.1, wrapF w (rsK gr k D.1), ofF D.2.1 (ovF w (rsK gr k D.1) D.2.1) D.2.2.2 (nI k))
def doR (w : Int32) (gr : Nat → Int32) (D : jD) : Nat → jD
  | 0 => D
  | k + 1 => stpR w gr k (doR w gr D k)
def rgK (gr : Nat → Int32) (k : Nat) : Prop := rgR (gr (4 * k)) (gr (4 * k + 1)) (gr (4 * k + 2)) (gr (4 * k + 3))
def enK (rd gr : Nat → Int32) (k : Nat) : Prop := encR rd (gr (4 * k)) (gr (4 * k + 1)) (gr (4 * k + 2)) (gr (4 * k + 3))
abbrev runD (gx : Nat → Int32) (n : Nat) (w : Int32) (k i : Nat) (rd : Nat → Int32) (D : jD) (num : Int32) := runF gx n w k i rd D.1 D.2.1 D.2.2.1 D.2.2.2 num
theorem doR_congr {w : Int32} {gr gr' : Nat → Int32} {D : jD} : ∀ (q : Nat), (∀ j, j < 4 * q → gr' j = gr j) → doR w gr' D q = doR w gr D q := by
  intro q
  induction q with
  | zero => exact fun _ => rfl
  | succ q ih =>
    intro h
    have e : ∀ f, rsK gr' q f = rsK gr q f := fun f => by rw [rsK, rsK, h _ (by omega), h _ (by omega), h _ (by omega)]
    rw [doR, doR, ih (fun j hj => h j (by omega)), stpR, stpR, e, h _ (by omega)]
theorem run_flush {gx : Nat → Int32} {n : Nat} {w : Int32} {k e q : Nat} {rd gr : Nat → Int32} {D : jD} (hs : ¬ (e < n ∧ ¬ gx e = 59)) (he : enK rd gr q) : runD gx n w (k + 1) e rd D (nI q) = runD gx n w k (e + 1) rdS (stpR w gr q D) (nI (q + 1)) := by
  rw [runD, runF, if_neg hs, he.1, he.2.2 D.1, nI_1]
  rfl
theorem fe_bad {gx : Nat → Int32} {n a : Nat} {rd : Nat → Int32} (ha : a ≤ n) (hw : ¬ rdW rd) (hs : stopR gx n a rd) : (feF gx n (n - a) a rd).1 = nI a := by
  rcases Nat.lt_or_ge a n with q | q
  · rw [show n - a = (n - (a + 1)) + 1 by omega, feF]
    rcases hs q with h | h
    · by_cases h9 : gx a = 59
      · rw [if_pos h9, if_neg hw]
      · rw [if_neg h9, if_pos h]
    · rw [if_pos h, if_neg hw]
  · have e : a = n := by omega
    rw [e, Nat.sub_self, feF, if_neg hw]
def liv (gx : Nat → Int32) (n : Nat) (iw : Int32) (e mm : Nat) (gr : Nat → Int32) : Prop :=
  e ≤ n ∧ mm ≤ 15 ∧ ((iw = 0 ∧ (feF gx n n 0 rdS).1 = nI e) ∨ (iw = 1 ∧ ∃ (q : Nat) (rd : Nat → Int32), mm = q + 1 ∧ 4 * mm ≤ e + 1 ∧ rdW rd ∧ stopR gx n e rd ∧ feF gx n n 0 rdS = feF gx n (n - e) e rd ∧ enK rd gr q ∧ (∀ k, k < q → rgK gr k) ∧
    ∀ w D, runD gx n w (n + 1) 0 rdS D 0 = runD gx n w (n + 1 - e) e rd (doR w gr D q) (nI q)))
theorem liv_or {gx : Nat → Int32} {n : Nat} {iw : Int32} {e mm : Nat} {gr : Nat → Int32} (h : liv gx n iw e mm gr) : iw = 0 ∨ iw = 1 := by
  rcases h.2.2 with h | h
  · exact Or.inl h.1
  · exact Or.inr h.1
theorem liv_0 {gx gr : Nat → Int32} {n : Nat} {z : jZ4} (hn : n ≤ 60) (h : sdP gx gr n 0 0 z) : liv gx n z.1 z.2.1 z.2.2.1 z.2.2.2 := by
  obtain ⟨-, h⟩ := h
  rcases h with ⟨h1, h2, rd, h3, h4, h5⟩ | ⟨h1, h2, h6, rd, h3, h4, h5, h7⟩
  · refine ⟨h3.2.1, by omega, Or.inl ⟨h1, ?_⟩⟩
    have := h3.2.2.1 (n - z.2.1)
    rw [show n - z.2.1 + (z.2.1 - 0) = n by have := h3.2.1; omega] at this
    rw [this]
    exact fe_bad h3.2.1 h4 h5
  · have a9 := h3.2.1
    refine ⟨a9, by omega, Or.inr ⟨h1, 0, rd, h2, by omega, h4, h5, ?_, h7, fun k hk => absurd hk (Nat.not_lt_zero k), fun w D => ?_⟩⟩
    · have := h3.2.2.1 (n - z.2.1)
      rwa [show n - z.2.1 + (z.2.1 - 0) = n by omega] at this
    · have := h3.2.2.2 w (n + 1 - z.2.1) D.1 D.2.1 D.2.2.1 D.2.2.2 0
      rwa [show n + 1 - z.2.1 + (z.2.1 - 0) = n + 1 by omega] at this
theorem liv_f {gx gr : Nat → Int32} {n e mm : Nat} (h : liv gx n 1 e mm gr) (he : e < n) (h9 : ¬ gx e = 59) : liv gx n 0 e mm gr := by
  obtain ⟨h1, h2, h⟩ := h
  rcases h with ⟨h, -⟩ | ⟨-, q, rd, h3, h4, h5, h6, h7, h8, -⟩
  · exact absurd h (by decide)
  · refine ⟨h1, h2, Or.inl ⟨rfl, ?_⟩⟩
    rw [h7, show n - e = (n - (e + 1)) + 1 by omega, feF, if_neg h9, if_pos ((h6 he).resolve_right h9)]
theorem liv_s {gx gr : Nat → Int32} {n e mm : Nat} {z : jZ4} (hn : n ≤ 60) (h : liv gx n 1 e mm gr) (he : e < n) (h9 : gx e = 59) (hz : sdP gx gr n (e + 1) mm z) : liv gx n z.1 z.2.1 z.2.2.1 z.2.2.2 ∧ e + 1 ≤ z.2.1 := by
  obtain ⟨h1, h2, h⟩ := h
  rcases h with ⟨h, -⟩ | ⟨-, q, rd, rfl, h4, h5, h6, h7, h8, h10, h11⟩
  · exact absurd h (by decide)
  have f1 : feF gx n n 0 rdS = feF gx n (n - (e + 1)) (e + 1) rdS := by
    rw [h7, show n - e = (n - (e + 1)) + 1 by omega, feF, if_pos h9, if_pos h5]
  obtain ⟨ha, hz⟩ := hz
  rcases hz with ⟨z1, z2, rd', z3, z4, z5⟩ | ⟨z1, z2, z6, rd', z3, z4, z5, z7⟩
  · refine ⟨⟨z3.2.1, by omega, Or.inl ⟨z1, ?_⟩⟩, z3.1⟩
    have := z3.2.2.1 (n - z.2.1)
    rw [show n - z.2.1 + (z.2.1 - (e + 1)) = n - (e + 1) by have := z3.1; have := z3.2.1; omega] at this
    rw [f1, this]
    exact fe_bad z3.2.1 z4 z5
  · have a9 := z3.2.1
    have b9 := z3.1
    refine ⟨⟨a9, by omega, Or.inr ⟨z1, q + 1, rd', z2, by omega, z4, z5, ?_, z7, fun k hk => ?_, fun w D => ?_⟩⟩, b9⟩
    · have := z3.2.2.1 (n - z.2.1)
      rw [show n - z.2.1 + (z.2.1 - (e + 1)) = n - (e + 1) by omega] at this
      rw [f1, this]
    · have r1 : rgK gr k := by
        rcases Nat.lt_or_ge k q with g | g
        · exact h10 k g
        · have : k = q := by omega
          rw [this]; exact h8.2.1
      rw [rgK, ha _ (by omega), ha _ (by omega), ha _ (by omega), ha _ (by omega)]
      exact r1
    · rw [h11 w D, show n + 1 - e = (n + 1 - (e + 1)) + 1 by omega, run_flush (gr := gr) (fun q => q.2 h9) h8, doR_congr (q + 1) ha, doR]
      have := z3.2.2.2 w (n + 1 - z.2.1) (stpR w gr q (doR w gr D q)).1 (stpR w gr q (doR w gr D q)).2.1 (stpR w gr q (doR w gr D q)).2.2.1 (stpR w gr q (doR w gr D q)).2.2.2 (nI (q + 1))
      rwa [show n + 1 - z.2.1 + (z.2.1 - (e + 1)) = n + 1 - (e + 1) by omega] at this
def prP (gx : Nat → Int32) (n : Nat) (z : jZ4) : Prop := z.2.2.1 ≤ 15 ∧ ((feF gx n n 0 rdS).1 = -1 → (∀ k, k < z.2.2.1 → rgK z.2.2.2 k) ∧ 1 ≤ z.2.2.1 ∧ ∀ w D, runD gx n w (n + 1) 0 rdS D 0 = (rdS, doR w z.2.2.2 D z.2.2.1))
theorem nI_nm {e : Nat} (h : e ≤ 60) : ¬ nI e = -1 := fun q => by
  have := nI_clamp (n := e) (by omega)
  rw [q] at this
  have h9 : e = 0 := this.symm.trans (by decide)
  rw [h9] at q
  exact absurd q (by decide)
theorem liv_e0 {gx gr : Nat → Int32} {n e mm : Nat} {iw : Int32} (hn : n ≤ 60) (h : liv gx n 0 e mm gr) : (feF gx n n 0 rdS).1 = nI e ∧ prP gx n (iw, e, mm, gr) := by
  obtain ⟨h1, h2, h⟩ := h
  rcases h with ⟨-, h⟩ | ⟨h, -⟩
  · exact ⟨h, h2, fun q => absurd (h.symm.trans q) (nI_nm (by omega))⟩
  · exact absurd h (by decide)
theorem liv_e1 {gx gr : Nat → Int32} {n e mm : Nat} {iw : Int32} (he : n ≤ e) (h : liv gx n 1 e mm gr) : (feF gx n n 0 rdS).1 = -1 ∧ prP gx n (iw, e, mm, gr) := by
  obtain ⟨h1, h2, h⟩ := h
  rcases h with ⟨h, -⟩ | ⟨-, q, rd, rfl, h4, h5, h6, h7, h8, h10, h11⟩
  · exact absurd h (by decide)
  have en : e = n := by omega
  subst en
  refine ⟨by rw [h7, Nat.sub_self, feF, if_pos h5], h2, fun _ => ⟨fun k hk => ?_, Nat.le_add_left _ _, fun w D => ?_⟩⟩
  · rcases Nat.lt_or_ge k q with g | g
    · exact h10 k g
    · have : k = q := by have : k < q + 1 := hk; omega
      rw [this]; exact h8.2.1
  · rw [h11 w D, show e + 1 - e = 0 + 1 by omega, run_flush (gr := gr) (fun q => absurd q.1 (Nat.lt_irrefl _)) h8]
    rfl
