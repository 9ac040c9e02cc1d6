/-! ===== the law's cases: what they stand on ===== -/
theorem rl_sw2 {W : Nat} {f x g : Nat → Int32} (R : rlS W f x g) {p : Int32} (h1 : ¬ p < 4) (h2 : p ≤ 16) : ∃ V, rlS V (fun j => wrapF p (f j)) (pk p (x 1) (x 2) (-1) (x 4) (x 5) (x 6) (x 7) (x 8) (x 9)) (swF g p) := by
  have a1 : 4 ≤ p.toInt := by rw [Int32.lt_iff_toInt_lt] at h1; have : (4 : Int32).toInt = 4 := rfl; omega
  have a2 : p.toInt ≤ 16 := by rw [Int32.le_iff_toInt_le] at h2; have : (16 : Int32).toInt = 16 := rfl; omega
  obtain ⟨j, hj, e⟩ := vp_in_of (show vp_in p 17 from vp_in_iff.mpr ⟨by omega, by omega⟩) (by omega)
  have e' : p = nI j := e
  subst e'
  refine ⟨j, rl_sw R ⟨?_, by omega⟩⟩
  rcases Nat.lt_or_ge j 4 with q | q
  · exact absurd ((nI_ltI (a := j) (b := 4) (by omega) (by omega)).mpr q) h1
  · exact q
theorem vl_c {W : Nat} {f x g : Nat → Int32} (R : rlS W f x g) (v : Int32) : wrapF (x 0) v = v ↔ isVal (g 0) v := by
  rw [R.2.1, R.2.2.1]; exact val_iff R.1.1 R.1.2 v
theorem rl_set {W : Nat} {f x g : Nat → Int32} (R : rlS W f x g) {r v : Int32} (h : isReg r) (hv : wrapF (x 0) v = v) : rlS W (putF f r (wrapF (x 0) v)) (pk (x 0) (ovF (x 0) v (x 1)) (x 2) (x 3) (x 4) (x 5) (x 6) (x 7) (x 8) (x 9)) (upd g (1 + r.toNatClampNeg) v) := by
  have w : inW W v := by
    have := (vl_c R v).mp hv
    rw [R.2.2.1] at this
    exact (val_i R.1.1 R.1.2 v).mp this
  rw [hv, ovF, if_pos hv]
  exact rl_ext (rl_put R h w) (pk_eta x)
theorem in01 {p : Int32} (h : p = 0 ∨ p = 1) : inF p 0 1 := by rcases h with rfl | rfl <;> decide
theorem in01' {p : Int32} (h0 : ¬ p = 0) (h1 : ¬ p = 1) : ¬ inF p 0 1 := fun q => by
  have a := q.1; have b := q.2
  rw [Int32.lt_iff_toInt_lt] at a b
  have e0 : (0 : Int32).toInt = 0 := rfl
  have e1 : (1 : Int32).toInt = 1 := rfl
  have n0 : ¬ p.toInt = 0 := fun e => h0 (Int32.toInt_inj.mp (e.trans e0.symm))
  have n1 : ¬ p.toInt = 1 := fun e => h1 (Int32.toInt_inj.mp (e.trans e1.symm))
  omega
theorem rem_g {W : Nat} {f x g : Nat → Int32} (R : rlS W f x g) : (¬ rem2 (x 0) = 0 → rem2 (g 0) = 1) ∧ (rem2 (x 0) = 0 → ¬ rem2 (g 0) = 1) := by
  rw [R.2.1, R.2.2.1]
  have h := (rl_rem W R.1.2 R.1.1).1
  constructor
  · exact fun n => h.resolve_left n
  · intro e; rw [e]; decide
theorem dc_sm {W : Nat} {f x g : Nat → Int32} (R : rlS W f x g) {p : Int32} (h : p = 0 ∨ p = 1) : dcntF p (x 0) = smF p (g 0) := by
  rw [R.2.1, R.2.2.1]; rcases h with rfl | rfl <;> rfl
theorem rl_q {W : Nat} {f x g : Nat → Int32} (R : rlS W f x g) (h : ¬ x 3 = -1) : ∃ N, x 3 = nI N ∧ N ≤ 16 ∧ (g 8 = 0 ∨ g 8 = 1) ∧ x 4 = g 8 + 1 ∧ x 5 = nI W ∧ x 6 = g 12 ∧ x 7 = g 9 ∧ x 8 = g 10 ∧ x 9 = g 11 := R.2.2.2.2.2.2.2.resolve_left h
theorem rl_pr {W : Nat} {f x g : Nat → Int32} (R : rlS W f x g) (h : x 3 = 0) : x 7 <<< (x 5 &&& 31) + x 8 = g 9 <<< (g 0 &&& 31) + g 10 := by
  obtain ⟨N, -, -, -, -, e5, -, e7, e8, -⟩ := rl_q R (by rw [h]; decide)
  rw [e7, e8, e5, R.2.2.1]
theorem rl_sto {W : Nat} {f x g : Nat → Int32} (R : rlS W f x g) {r : Int32} (hr : isReg r) (h : x 3 = 0) : rlS W (putF f r (wrapF (x 0) (x 7 <<< (x 5 &&& 31) + x 8))) (pk (x 0) (ovF (x 0) (x 7 <<< (x 5 &&& 31) + x 8) (x 1)) (x 2) (x 3) (x 4) (x 5) (x 6) (x 7) (x 8) (x 9)) (laF g r (g 9 <<< (g 0 &&& 31) + g 10)) := by
  rw [← rl_pr R h]; exact rl_lay R hr _
theorem rl_stoe {W : Nat} {f x g : Nat → Int32} (R : rlS W f x g) (h : x 3 = 0) : wrapF (x 0) (x 7 <<< (x 5 &&& 31) + x 8) = mwF (g 0) (g 9 <<< (g 0 &&& 31) + g 10) := by
  rw [rl_pr R h, R.2.1, R.2.2.1, wr_mw R.1.1 R.1.2]
theorem rl_fi {W N : Nat} {f x g : Nat → Int32} (R : rlS W f x g) (e : x 3 = nI N) (hN : N ≤ 16) : rlS W f (pk (x 0) (x 1) (x 2 + nI N) 0 (x 4) (x 5) (x 6) (stF (x 4) (x 5) (x 6) (x 7) (x 8) (x 9) N).1 (stF (x 4) (x 5) (x 6) (x 7) (x 8) (x 9) N).2.1 (stF (x 4) (x 5) (x 6) (x 7) (x 8) (x 9) N).2.2) (mfF g N) ∧ snF (x 4) (x 5) (x 6) (x 7) (x 8) (x 9) N = mnF g N := by
  have h := rl_fin R e hN N (Nat.le_refl _)
  refine ⟨rl_ext h.1 (fun j hj => ?_), h.2⟩
  rw [fiX, e, Int32.sub_self]
theorem mn4_n : ∀ c, c ≤ 4 → mn4 (nI c) = nI (min (c + 1) 4) := by decide
theorem nI_m1 {c : Nat} (h : 0 < c) : nI c - (1 : Int32) = nI (c - 1) := by
  rw [show c = (c - 1) + 1 by omega, ← nI_1, Int32.add_sub_cancel]; rfl
theorem pr_eq {W : Nat} {f x g tx : Nat → Int32} {pn : Nat} {z : jZ4} (R : rlS W f x g) (hz : prP tx pn z) (hv : (feF tx pn pn 0 rdS).1 = -1) (rs l0 : Int32) :
    rlS W (runF tx pn (x 0) (pn + 1) 0 rdS f (x 1) rs (-1) 0).2.1 (pk (x 0) (runF tx pn (x 0) (pn + 1) 0 rdS f (x 1) rs (-1) 0).2.2.1 (x 2) (x 3) (x 4) (x 5) (x 6) (x 7) (x 8) (x 9)) (dsD g z.2.2.2 l0 z.2.2.1).1 ∧
    (runF tx pn (x 0) (pn + 1) 0 rdS f (x 1) rs (-1) 0).2.2.2.2 = (dsD g z.2.2.2 l0 z.2.2.1).2.1 ∧ (runF tx pn (x 0) (pn + 1) 0 rdS f (x 1) rs (-1) 0).2.2.2.1 = (dsD g z.2.2.2 l0 z.2.2.1).2.2 := by
  obtain ⟨-, hz2⟩ := hz
  obtain ⟨h1, h2, h3⟩ := hz2 hv
  have e : runF tx pn (x 0) (pn + 1) 0 rdS f (x 1) rs (-1) 0 = (rdS, doR (x 0) z.2.2.2 (f, x 1, rs, -1) z.2.2.1) := h3 (x 0) (f, x 1, rs, -1)
  have d := rl_do R rs l0 h1 z.2.2.1 (Nat.le_refl _)
  rw [e, R.2.1]
  refine ⟨?_, d.2.1, d.2.2 h2⟩
  exact rl_ext d.1 (pk_0 R.2.1.symm)
theorem rg_u {g : Nat → Int32} {r : Int32} (h : isReg r) {k : Nat} (hk : 7 ≤ k) (v : Int32) : upd g k v (1 + r.toNatClampNeg) = g (1 + r.toNatClampNeg) := upd_ne (by have := reg_j h; omega)
theorem un_0 {c : Nat} (hc : c ≤ 4) (h : ¬ 0 < nI c) : nI c = 0 := by
  have e : c = 0 := by
    rcases Nat.eq_zero_or_pos c with q | q
    · exact q
    · exact absurd ((nI_ltI (a := 0) (b := c) (by omega) (by omega)).mpr q) h
  rw [e]; rfl
theorem un_1 {c : Nat} (hc : c ≤ 4) (h : 0 < nI c) : 0 < c ∧ ¬ nI c = 0 := by
  have q : 0 < c := (nI_ltI (a := 0) (b := c) (by omega) (by omega)).mp h
  refine ⟨q, fun e => ?_⟩
  rw [e] at h
  exact absurd h (by decide)
theorem nI_w1 {W : Nat} (h : 4 ≤ W) : nI (W - 1) = nI W - 1 := (nI_m1 (by omega)).symm
theorem nI_m1r {c : Nat} (h : 0 < c) : nI (c - 1) = nI c - 1 := (nI_m1 h).symm
theorem ty_1 {p : Nat} (h : nI p < 60) (hp : p ≤ 60) : p < 60 := (nI_ltI (a := p) (b := 60) (by omega) (by omega)).mp h
theorem ty_0 {p : Nat} (h : ¬ nI p < 60) (hp : p ≤ 60) : nI p = 60 := by
  have e : p = 60 := by
    rcases Nat.lt_or_ge p 60 with q | q
    · exact absurd ((nI_ltI (a := p) (b := 60) (by omega) (by omega)).mpr q) h
    · omega
  rw [e]; rfl
theorem ty_2 {p : Nat} (h : nI p < 60) : ¬ nI p = 60 := fun e => by rw [e] at h; exact absurd h (by decide)
theorem ch_i (x : Int32) : isCh ((x.toUInt32 % 65536).toInt32) := by
  have h : ((x.toUInt32 % 65536).toInt32).toUInt32 % 65536 = x.toUInt32 % 65536 := by
    show (x.toUInt32 % 65536) % 65536 = x.toUInt32 % 65536
    refine UInt32.toNat_inj.mp ?_
    rw [UInt32.toNat_mod, UInt32.toNat_mod]
    exact Nat.mod_mod _ _
  refine ⟨?_, ?_, ?_⟩
  · show Value.int ((((x.toUInt32 % 65536).toInt32).toUInt32 % 65536).toInt32) = _
    rw [h]
  · have t : tn ((x.toUInt32 % 65536).toInt32) = x.toUInt32.toNat % 65536 := by
      show (x.toUInt32 % 65536).toNat = _
      rw [UInt32.toNat_mod]; rfl
    have i : ((x.toUInt32 % 65536).toInt32).toInt = ((x.toUInt32.toNat % 65536 : Nat) : Int) := by
      rw [ti_n, t]; exact bm32 _ (by omega) (by omega)
    have a : (0 : Int32) ≤ (x.toUInt32 % 65536).toInt32 := by rw [Int32.le_iff_toInt_le, i, show (0 : Int32).toInt = 0 from rfl]; omega
    have b : (x.toUInt32 % 65536).toInt32 ≤ (65535 : Int32) := by rw [Int32.le_iff_toInt_le, i, show (65535 : Int32).toInt = 65535 from rfl]; omega
    show (decide ((0 : Int32) ≤ (x.toUInt32 % 65536).toInt32) && decide ((x.toUInt32 % 65536).toInt32 ≤ (65535 : Int32))) = true
    rw [decide_eq_true a, decide_eq_true b]; rfl
  · show ((((x.toUInt32 % 65536).toInt32).toUInt32 % 65536).toInt32) = _
    rw [h]
theorem ch_up {tx : Nat → Int32} {p : Nat} {v : Int32} (h : ∀ j, isCh (tx j)) (hv : isCh v) : ∀ j, isCh (upd tx p v j) := fun j => by
  by_cases e : j = p
  · rw [e, upd_at]; exact hv
  · rw [upd_ne e]; exact h j
theorem nI_i {n : Nat} (h : n < 2 ^ 31) : (nI n).toInt = n := by
  rw [ti_n]
  show ((BitVec.ofNat 32 n).toNat : Int).bmod (2 ^ 32) = n
  rw [BitVec.toNat_ofNat, Nat.mod_eq_of_lt (by omega), bm32 _ (by omega) (by omega)]
theorem dg_in {p d : Int32} {D : Nat} (hd : d = nI D) (h2 : 2 ≤ D) (h9 : D ≤ 16) (h0 : ¬ p < 0) : (p < d → inF p 0 (d - 1) ∧ ∃ j, j < D ∧ p = nI j) ∧ (¬ p < d → ¬ inF p 0 (d - 1)) := by
  subst hd
  rw [← nI_m1r (by omega)]
  rw [Int32.lt_iff_toInt_lt, show (0 : Int32).toInt = 0 from rfl] at h0
  constructor
  · intro h
    rw [Int32.lt_iff_toInt_lt, nI_i (by omega)] at h
    obtain ⟨j, hj, e⟩ := vp_in_of (show vp_in p D from vp_in_iff.mpr ⟨by omega, by omega⟩) (by omega)
    refine ⟨⟨?_, ?_⟩, j, hj, e⟩
    · rw [Int32.lt_iff_toInt_lt, show (0 : Int32).toInt = 0 from rfl]; omega
    · rw [Int32.lt_iff_toInt_lt, nI_i (by omega)]; omega
  · intro h q
    refine h ?_
    have q2 := q.2
    rw [Int32.lt_iff_toInt_lt, nI_i (by omega)] at q2 ⊢
    omega
theorem dg_at {W : Nat} {f x g gd : Nat → Int32} (R : rlS W f x g) {r q p : Int32} (hr : isReg r) (hq : isRec q) {D : Nat} (hD9 : D ≤ 16) (hD8 : q = 1 → D ≤ 8) (h : ∃ j, j < D ∧ p = nI j) : digF (valF f r) q p = dgF (g (1 + r.toNatClampNeg)) q gd D p.toNatClampNeg ∧ vp_in p 17 := by
  obtain ⟨j, hj, rfl⟩ := h
  have v := rl_val R hr
  refine ⟨?_, vp_in_nI (n := j) (by omega) (by omega)⟩
  rw [nI_clamp (by omega), dgF, if_pos hj, v.1]
  exact dig_eq (inW_b R.1.2 v.2) hq j (by omega) (fun e => by have := hD8 e; omega)
theorem b2n {P : Prop} [Decidable P] (h : ¬ P) : b2i P = 0 := if_neg h
theorem b2y {P : Prop} [Decidable P] (h : P) : ¬ b2i P = 0 := by rw [show b2i P = 1 from if_pos h]; decide
theorem lg_1 : lg_cmp (1 : Int64) (1 : Int64) = 0 := by decide
theorem lg_0 : lg_cmp (0 : Int64) (0 : Int64) = 0 := by decide
