/-! ===== equal words: shifts and masks as numbers ===== -/
abbrev tn (x : Int32) : Nat := x.toBitVec.toNat
theorem sm32 : ∀ k, k < 32 → ((nI k &&& 31).toBitVec.smod 32).toNat = k := by decide +kernel
theorem sh_l (x : Int32) (k : Nat) (hk : k < 32) : (x <<< (nI k &&& 31)).toInt = ((tn x * 2 ^ k : Nat) : Int).bmod (2 ^ 32) := by
  show (x <<< (nI k &&& 31)).toBitVec.toInt = _
  rw [Int32.toBitVec_shiftLeft, BitVec.shiftLeft_eq', sm32 k hk, BitVec.toInt_shiftLeft, Nat.shiftLeft_eq]
theorem sh_r (x : Int32) (k : Nat) (hk : k < 32) : (x >>> (nI k &&& 31)).toInt = x.toInt / 2 ^ k := by
  show (x >>> (nI k &&& 31)).toBitVec.toInt = _
  rw [Int32.toBitVec_shiftRight, BitVec.sshiftRight_eq', sm32 k hk, BitVec.toInt_sshiftRight, Int.shiftRight_eq_div_pow]
  rfl
theorem ti_n (x : Int32) : x.toInt = (tn x : Int).bmod (2 ^ 32) := BitVec.toInt_eq_toNat_bmod _
theorem tn_lt (x : Int32) : tn x < 4294967296 := x.toBitVec.isLt
theorem an_m (x : Int32) (k : Nat) (hk : k < 32) : tn (x &&& nI (2 ^ k - 1)) = tn x % 2 ^ k := by
  have h : 2 ^ k ≤ 2 ^ 31 := Nat.pow_le_pow_right (by decide) (by omega)
  show (x &&& nI (2 ^ k - 1)).toBitVec.toNat = _
  rw [Int32.toBitVec_and, BitVec.toNat_and, show (nI (2 ^ k - 1)).toBitVec.toNat = 2 ^ k - 1 by
    show (BitVec.ofNat 32 (2 ^ k - 1)).toNat = _
    rw [BitVec.toNat_ofNat, Nat.mod_eq_of_lt (by omega)], Nat.and_two_pow_sub_one_eq_mod]
theorem an_i (x : Int32) (k : Nat) (hk : k < 32) : (x &&& nI (2 ^ k - 1)).toInt = ((tn x % 2 ^ k : Nat) : Int) := by
  have h : 2 ^ k ≤ 2 ^ 31 := Nat.pow_le_pow_right (by decide) (by omega)
  have h2 : tn x % 2 ^ k < 2 ^ k := Nat.mod_lt _ (Nat.pow_pos (by decide))
  rw [ti_n, an_m x k hk]
  exact Int.bmod_eq_of_le (by omega) (by omega)
theorem W13 {W : Nat} (h : 4 ≤ W) (h2 : W ≤ 16) : W = 4 ∨ W = 5 ∨ W = 6 ∨ W = 7 ∨ W = 8 ∨ W = 9 ∨ W = 10 ∨ W = 11 ∨ W = 12 ∨ W = 13 ∨ W = 14 ∨ W = 15 ∨ W = 16 := by omega
theorem wr_k (W : Nat) (v : Int32) (h : 1 ≤ W) (h2 : W ≤ 16) (e : ((32 - nI W) &&& 31) = (nI (32 - W) &&& 31)) : (wrapF (nI W) v).toInt = ((tn v * 2 ^ (32 - W) : Nat) : Int).bmod (2 ^ 32) / 2 ^ (32 - W) := by
  rw [wrapF, e, sh_r _ _ (by omega), sh_l _ _ (by omega)]
theorem wr_i {W : Nat} (h : 4 ≤ W) (h2 : W ≤ 16) (v : Int32) : (wrapF (nI W) v).toInt = (tn v : Int).bmod (2 ^ W : Nat) := by
  have hv := tn_lt v
  rcases W13 h h2 with rfl | rfl | rfl | rfl | rfl | rfl | rfl | rfl | rfl | rfl | rfl | rfl | rfl <;>
  · rw [wr_k _ _ (by decide) (by decide) (by decide)]
    simp only [Int.bmod_def]
    omega
theorem mw_i {W : Nat} (h : 4 ≤ W) (h2 : W ≤ 16) (v : Int32) : (mwF (nI W) v).toInt = (tn v : Int).bmod (2 ^ W : Nat) := by
  have hv := tn_lt v
  have key : ∀ W, 4 ≤ W → W ≤ 16 → (1 : Int32) <<< ((nI W) &&& 31) - 1 = nI (2 ^ W - 1) ∧ (1 : Int32) <<< ((nI W) &&& 31) = nI (2 ^ W) ∧ (1 : Int32) <<< ((nI W - 1) &&& 31) = nI (2 ^ (W - 1)) ∧ (nI (2 ^ W)).toInt = 2 ^ W ∧ (nI (2 ^ (W - 1))).toInt = 2 ^ (W - 1) := by
    intro W h h2
    rcases W13 h h2 with rfl | rfl | rfl | rfl | rfl | rfl | rfl | rfl | rfl | rfl | rfl | rfl | rfl <;> decide
  obtain ⟨k1, k2, k3, k4, k5⟩ := key W h h2
  have hb := an_i v W (by omega)
  rw [mwF, bitsF, k1, k2, k3]
  by_cases c : v &&& nI (2 ^ W - 1) < nI (2 ^ (W - 1))
  · rw [if_pos c, hb]
    rw [Int32.lt_iff_toInt_lt, hb, k5] at c
    rcases W13 h h2 with rfl | rfl | rfl | rfl | rfl | rfl | rfl | rfl | rfl | rfl | rfl | rfl | rfl <;>
    · simp only [Int.bmod_def]
      omega
  · rw [if_neg c, Int32.toInt_sub, hb, k4]
    rw [Int32.lt_iff_toInt_lt, hb, k5] at c
    rcases W13 h h2 with rfl | rfl | rfl | rfl | rfl | rfl | rfl | rfl | rfl | rfl | rfl | rfl | rfl <;>
    · simp only [Int.bmod_def]
      omega
theorem wr_mw {W : Nat} (h : 4 ≤ W) (h2 : W ≤ 16) (v : Int32) : wrapF (nI W) v = mwF (nI W) v := Int32.toInt_inj.mp ((wr_i h h2 v).trans (mw_i h h2 v).symm)
/-! ===== values and digits ===== -/
def inW (W : Nat) (v : Int32) : Prop := -(2 ^ (W - 1) : Int) ≤ v.toInt ∧ v.toInt < 2 ^ (W - 1)
theorem inW_b {W : Nat} (h2 : W ≤ 16) {v : Int32} (h : inW W v) : -32768 ≤ v.toInt ∧ v.toInt < 32768 := by
  have : (2 ^ (W - 1) : Int) ≤ 2 ^ 15 := by
    have := Nat.pow_le_pow_right (show 2 > 0 by decide) (show W - 1 ≤ 15 by omega)
    exact_mod_cast this
  unfold inW at h
  omega
theorem lo_hi : ∀ W, W ≤ 16 → 4 ≤ W → (loV (nI W)).toInt = -(2 ^ (W - 1)) ∧ (hiV (nI W)).toInt = 2 ^ (W - 1) - 1 := by decide
theorem val_i {W : Nat} (h : 4 ≤ W) (h2 : W ≤ 16) (v : Int32) : isVal (nI W) v ↔ inW W v := by
  obtain ⟨a, b⟩ := lo_hi W h2 h
  rw [isVal, inF, Int32.lt_iff_toInt_lt, Int32.lt_iff_toInt_lt, a, b, inW]
  omega
theorem wr_rng {W : Nat} (h : 4 ≤ W) (h2 : W ≤ 16) (v : Int32) : inW W (wrapF (nI W) v) := by
  have hv := tn_lt v
  rw [inW, wr_i h h2]
  rcases W13 h h2 with rfl | rfl | rfl | rfl | rfl | rfl | rfl | rfl | rfl | rfl | rfl | rfl | rfl <;>
  · simp only [Int.bmod_def]
    omega
theorem val_iff {W : Nat} (h : 4 ≤ W) (h2 : W ≤ 16) (v : Int32) : wrapF (nI W) v = v ↔ isVal (nI W) v := by
  have hv := tn_lt v
  constructor
  · intro e
    rw [val_i h h2, ← e]
    exact wr_rng h h2 v
  · intro e
    refine Int32.toInt_inj.mp ?_
    have e2 := (val_i h h2 v).mp e
    rw [inW] at e2
    rw [wr_i h h2]
    rw [ti_n] at e2 ⊢
    rcases W13 h h2 with rfl | rfl | rfl | rfl | rfl | rfl | rfl | rfl | rfl | rfl | rfl | rfl | rfl <;>
    · simp only [Int.bmod_def] at e2 ⊢
      omega
theorem and1_i (y : Int32) : (y &&& 1).toInt = y.toInt % 2 := by
  have h := an_i y 1 (by decide)
  rw [show nI (2 ^ 1 - 1) = 1 from rfl] at h
  have hy := tn_lt y
  rw [h, ti_n]
  simp only [Int.bmod_def]
  omega
theorem and3_i (y : Int32) : (y &&& 3).toInt = y.toInt % 4 := by
  have h := an_i y 2 (by decide)
  rw [show nI (2 ^ 2 - 1) = 3 from rfl] at h
  have hy := tn_lt y
  rw [h, ti_n]
  simp only [Int.bmod_def]
  omega
theorem bit_i (v : Int32) (k : Nat) (hk : k < 32) : (bitF v (nI k)).toInt = v.toInt / 2 ^ k % 2 := by rw [bitF, and1_i, sh_r v k hk]
theorem add_i {a b : Int32} (h : -2147483648 ≤ a.toInt + b.toInt ∧ a.toInt + b.toInt < 2147483648) : (a + b).toInt = a.toInt + b.toInt := by rw [Int32.toInt_add, bm32 _ h.1 h.2]
theorem sub_i {a b : Int32} (h : -2147483648 ≤ a.toInt - b.toInt ∧ a.toInt - b.toInt < 2147483648) : (a - b).toInt = a.toInt - b.toInt := by rw [Int32.toInt_sub, bm32 _ h.1 h.2]
theorem mul_i {a b : Int32} (h : -2147483648 ≤ a.toInt * b.toInt ∧ a.toInt * b.toInt < 2147483648) : (a * b).toInt = a.toInt * b.toInt := by rw [Int32.toInt_mul, bm32 _ h.1 h.2]
theorem dbl_i {v : Int32} (h : -32768 ≤ v.toInt ∧ v.toInt < 32768) : (v <<< (1 &&& 31)).toInt = 2 * v.toInt := by
  have h1 := sh_l v 1 (by decide)
  rw [show nI 1 = 1 from rfl] at h1
  have hv := tn_lt v
  rw [h1]
  rw [ti_n] at h ⊢
  simp only [Int.bmod_def] at h ⊢
  omega
theorem pow2_pos (k : Nat) : (0 : Int) < 2 ^ k := by
  have := Nat.pow_pos (n := k) (show 0 < 2 by decide)
  exact_mod_cast this
theorem dbl_s {v : Int32} (h : -32768 ≤ v.toInt ∧ v.toInt < 32768) (p : Nat) (hp : p + 1 < 32) : bitF (v <<< (1 &&& 31)) (nI (p + 1)) = bitF v (nI p) := by
  refine Int32.toInt_inj.mp ?_
  rw [bit_i _ _ hp, bit_i _ _ (by omega), dbl_i h, Int.pow_succ, Int.mul_comm (2 ^ p) 2, Int.mul_ediv_mul_of_pos _ _ (by decide)]
theorem dbl_0 {v : Int32} (h : -32768 ≤ v.toInt ∧ v.toInt < 32768) : bitF (v <<< (1 &&& 31)) 0 = 0 := by
  refine Int32.toInt_inj.mp ?_
  have := bit_i (v <<< (1 &&& 31)) 0 (by decide)
  rw [show nI 0 = 0 from rfl, dbl_i h] at this
  rw [this, show (0 : Int32).toInt = 0 from rfl]
  omega
theorem mb_s (v : Int32) (p : Nat) (hp : p < 1000) : mbF v (nI p) = bitF v (nI p) := if_pos (show nI 0 ≤ nI p from nI_le (Nat.zero_le _) (by omega))
theorem mb_p (v : Int32) (p : Nat) (hp : p < 1000) : mbF v (nI (p + 1) - 1) = bitF v (nI p) := by
  rw [← nI_1, Int32.add_sub_cancel]; exact mb_s v p hp
theorem mb_n (v : Int32) : mbF v (nI 0 - 1) = 0 := if_neg (by decide)
theorem fl3 (v P : Int) (hP : 0 < P) : ∃ c, 3 * v / P = 3 * (v / P) + c ∧ 0 ≤ c ∧ c ≤ 2 := by
  have h1 := Int.emod_add_mul_ediv v P
  have h2 := Int.emod_nonneg v (show P ≠ 0 by omega)
  have h3 := Int.emod_lt_of_pos v hP
  refine ⟨3 * (v % P) / P, ?_, Int.ediv_nonneg (by omega) (by omega), ?_⟩
  · have e : 3 * v = 3 * (v % P) + P * (3 * (v / P)) := by
      have : P * (3 * (v / P)) = 3 * (P * (v / P)) := by rw [Int.mul_left_comm]
      omega
    rw [e, Int.add_mul_ediv_left _ _ (show P ≠ 0 by omega), Int.add_comm]
  · have : 3 * (v % P) / P < 3 := Int.ediv_lt_of_lt_mul hP (by omega)
    omega
theorem ediv_b (v : Int) (k : Nat) (B : Int) (h : -B ≤ v ∧ v < B) (hB : 0 < B) : -B ≤ v / 2 ^ k ∧ v / 2 ^ k < B := by
  have hp := pow2_pos k
  constructor
  · apply Int.le_ediv_of_mul_le hp
    have : B * 1 ≤ B * 2 ^ k := Int.mul_le_mul_of_nonneg_left (by omega) (by omega)
    rw [Int.neg_mul]
    omega
  · apply Int.ediv_lt_of_lt_mul hp
    have : B * 1 ≤ B * 2 ^ k := Int.mul_le_mul_of_nonneg_left (by omega) (by omega)
    omega
theorem spR_i {v : Int32} (h : -32768 ≤ v.toInt ∧ v.toInt < 32768) : ∀ k, (spR v k).toInt = 3 * v.toInt / 2 ^ (k + 1) - v.toInt / 2 ^ (k + 1) := by
  intro k
  induction k with
  | zero => rw [spR]; have : (2 : Int) ^ (0 + 1) = 2 := rfl; rw [this]; omega
  | succ k ih =>
    have b3 := ediv_b (3 * v.toInt) (k + 1) 98304 (by omega) (by decide)
    have b1 := ediv_b v.toInt (k + 1) 32768 (by omega) (by decide)
    have q := fl3 v.toInt (2 ^ (k + 1)) (pow2_pos _)
    have s3 : 3 * v.toInt / 2 ^ (k + 1 + 1) = (3 * v.toInt / 2 ^ (k + 1)) / 2 := by rw [Int.pow_succ, Int.ediv_ediv_of_nonneg (by have := pow2_pos (k + 1); omega)]
    have s1 : v.toInt / 2 ^ (k + 1 + 1) = (v.toInt / 2 ^ (k + 1)) / 2 := by rw [Int.pow_succ, Int.ediv_ediv_of_nonneg (by have := pow2_pos (k + 1); omega)]
    have hs := sh_r (spR v k - (if spR v k &&& 1 = 0 then 0 else 2 - (spR v k &&& 3))) 1 (by decide)
    rw [show nI 1 = 1 from rfl] at hs
    rw [spR, hs, s3, s1]
    obtain ⟨c, q1, q2, q3⟩ := q
    have m1 := and1_i (spR v k)
    have m3 := and3_i (spR v k)
    have p1 : (2 : Int) ^ 1 = 2 := rfl
    by_cases g : spR v k &&& 1 = 0
    · rw [if_pos g, Int32.sub_zero, ih, p1]
      rw [g, show (0 : Int32).toInt = 0 from rfl, ih] at m1
      omega
    · rw [if_neg g]
      have g2 : ¬ (spR v k &&& 1).toInt = 0 := fun e => g (Int32.toInt_inj.mp e)
      have t2 : (2 : Int32).toInt = 2 := rfl
      rw [m1, ih] at g2
      rw [ih] at m3
      rw [sub_i (by rw [sub_i (by omega), ih]; omega), sub_i (by omega), m3, ih, p1]
      omega
theorem trp_i {v : Int32} (h : -32768 ≤ v.toInt ∧ v.toInt < 32768) : ((3 : Int32) * v).toInt = 3 * v.toInt := mul_i (by rw [show (3 : Int32).toInt = 3 from rfl]; omega)
theorem sp_dig {v : Int32} (h : -32768 ≤ v.toInt ∧ v.toInt < 32768) (k : Nat) (hk : k + 1 < 32) : spD (spR v k) = bitF ((3 : Int32) * v) (nI (k + 1)) - bitF v (nI (k + 1)) := by
  refine Int32.toInt_inj.mp ?_
  have q := fl3 v.toInt (2 ^ (k + 1)) (pow2_pos _)
  obtain ⟨c, q1, q2, q3⟩ := q
  have m1 := and1_i (spR v k)
  have m3 := and3_i (spR v k)
  have ih := spR_i h k
  have c1 := bit_i ((3 : Int32) * v) (k + 1) hk
  have c2 := bit_i v (k + 1) hk
  rw [trp_i h] at c1
  rw [sub_i (by omega), c1, c2, spD]
  by_cases g : spR v k &&& 1 = 0
  · rw [if_pos g, show (0 : Int32).toInt = 0 from rfl]
    rw [g, show (0 : Int32).toInt = 0 from rfl, ih] at m1
    omega
  · rw [if_neg g]
    have g2 : ¬ (spR v k &&& 1).toInt = 0 := fun e => g (Int32.toInt_inj.mp e)
    have t2 : (2 : Int32).toInt = 2 := rfl
    rw [m1, ih] at g2
    rw [ih] at m3
    rw [sub_i (by omega), m3]
    rcases (show c = 0 ∨ c = 1 ∨ c = 2 by omega) with rfl | rfl | rfl <;> rcases (show v.toInt / 2 ^ (k + 1) % 2 = 0 ∨ v.toInt / 2 ^ (k + 1) % 2 = 1 by omega) with t | t <;> omega
theorem dig_eq {v r : Int32} (h : -32768 ≤ v.toInt ∧ v.toInt < 32768) (hr : isRec r) (k : Nat) (hk : k < 16) (hk1 : r = 1 → k < 8) : digF v r (nI k) = mdF v r k := by
  rcases hr with rfl | rfl | rfl
  · rw [digF, mdF, if_pos rfl, if_neg (by decide), if_pos rfl, nI_1, dbl_s h k (by omega), mb_s v k (by omega)]
    cases k with
    | zero => rw [mb_n, show nI 0 = 0 from rfl, dbl_0 h]
    | succ k => rw [mb_p v k (by omega), dbl_s h k (by omega)]
  · rw [digF, mdF, if_neg (by decide), if_pos rfl, if_neg (by decide), if_neg (by decide)]
    have hk2 := hk1 rfl
    rw [show (2 : Int32) = nI 2 from rfl, pk_mul, nI_1, nI_add, dbl_s h (2 * k) (by omega), show 2 * k + 2 = (2 * k + 1) + 1 from rfl, dbl_s h (2 * k + 1) (by omega), mb_s v (2 * k) (by omega), mb_s v (2 * k + 1) (by omega)]
    cases k with
    | zero => rw [show 2 * 0 = 0 from rfl, mb_n, show nI 0 = 0 from rfl, dbl_0 h]
    | succ k => rw [show 2 * (k + 1) = (2 * k + 1) + 1 from rfl, mb_p v (2 * k + 1) (by omega), dbl_s h (2 * k + 1) (by omega)]
  · rw [digF, mdF, if_neg (by decide), if_neg (by decide), if_pos rfl, nI_1, sp_dig h k (by omega)]
/-! ===== the state of the class and that of the reference ===== -/
def rlS (W : Nat) (f x g : Nat → Int32) : Prop := (4 ≤ W ∧ W ≤ 16) ∧ x 0 = nI W ∧ g 0 = nI W ∧ (∀ j, j < 6 → g (1 + j) = f j ∧ inW W (f j)) ∧ g 13 = x 1 ∧ g 14 = x 2 ∧ g 7 = x 3 ∧
  (x 3 = -1 ∨ ∃ N, x 3 = nI N ∧ N ≤ 16 ∧ (g 8 = 0 ∨ g 8 = 1) ∧ x 4 = g 8 + 1 ∧ x 5 = nI W ∧ x 6 = g 12 ∧ x 7 = g 9 ∧ x 8 = g 10 ∧ x 9 = g 11)
theorem reg_j {r : Int32} (h : isReg r) : r.toNatClampNeg < 6 := by
  obtain ⟨j, hj, e⟩ := vp_in_of (isReg_in h) (by omega)
  have : r = nI j := e
  rw [this, nI_clamp (by omega)]; exact hj
theorem rl_val {W : Nat} {f x g : Nat → Int32} (R : rlS W f x g) {r : Int32} (h : isReg r) : g (1 + r.toNatClampNeg) = valF f r ∧ inW W (valF f r) := by
  rw [valF_r h]
  exact R.2.2.2.1 _ (reg_j h)
theorem rl_put {W : Nat} {f x g : Nat → Int32} (R : rlS W f x g) {r v : Int32} (h : isReg r) (hv : inW W v) : rlS W (putF f r v) x (upd g (1 + r.toNatClampNeg) v) := by
  have hj := reg_j h
  obtain ⟨h0, h1, h2, h3, h4, h5, h6, h7⟩ := R
  have ne : ∀ k, k = 0 ∨ 7 ≤ k → upd g (1 + r.toNatClampNeg) v k = g k := fun k hk => upd_ne (by omega)
  refine ⟨h0, h1, by rw [ne 0 (Or.inl rfl)]; exact h2, fun j h9 => ?_, by rw [ne 13 (by omega)]; exact h4, by rw [ne 14 (by omega)]; exact h5, by rw [ne 7 (by omega)]; exact h6, ?_⟩
  · rw [putF, if_pos h]
    by_cases e : j = r.toNatClampNeg
    · rw [e, upd_at, upd_at]; exact ⟨rfl, hv⟩
    · rw [upd_ne (by omega), upd_ne e]; exact h3 j h9
  · rw [ne 8 (by omega), ne 12 (by omega), ne 9 (by omega), ne 10 (by omega), ne 11 (by omega)]; exact h7
theorem rl_x1 {W : Nat} {f x g : Nat → Int32} (R : rlS W f x g) (o : Int32) : rlS W f (pk (x 0) o (x 2) (x 3) (x 4) (x 5) (x 6) (x 7) (x 8) (x 9)) (upd g 13 o) := by
  obtain ⟨h0, h1, h2, h3, h4, h5, h6, h7⟩ := R
  exact ⟨h0, h1, h2, fun j hj => by rw [upd_ne (show ¬ 1 + j = 13 by omega)]; exact h3 j hj, rfl, h5, h6, h7⟩
theorem rl_ov {W : Nat} (h : 4 ≤ W ∧ W ≤ 16) (v o : Int32) : ovF (nI W) v o = o + (if isVal (nI W) v then 0 else 1) := by
  rw [ovF]
  by_cases c : wrapF (nI W) v = v
  · rw [if_pos c, if_pos ((val_iff h.1 h.2 v).mp c), Int32.add_zero]
  · rw [if_neg c, if_neg (fun q => c ((val_iff h.1 h.2 v).mpr q))]
theorem rl_lay {W : Nat} {f x g : Nat → Int32} (R : rlS W f x g) {r : Int32} (h : isReg r) (v : Int32) : rlS W (putF f r (wrapF (x 0) v)) (pk (x 0) (ovF (x 0) v (x 1)) (x 2) (x 3) (x 4) (x 5) (x 6) (x 7) (x 8) (x 9)) (laF g r v) := by
  have a := rl_put (rl_x1 R (ovF (x 0) v (x 1))) h (wr_rng R.1.1 R.1.2 v)
  have e : laF g r v = upd (upd g 13 (ovF (x 0) v (x 1))) (1 + r.toNatClampNeg) (wrapF (nI W) v) := by
    rw [laF, R.2.2.1, R.2.1, rl_ov R.1, R.2.2.2.2.1, wr_mw R.1.1 R.1.2]
  rw [e, R.2.1] at *
  exact a
theorem rl_rem : ∀ W, W ≤ 16 → 4 ≤ W → (rem2 (nI W) = 0 ∨ rem2 (nI W) = 1) ∧ (rem2 (nI W) = 0 ↔ W % 2 = 0) ∧ nI W / 2 = nI (W / 2) := by decide
theorem rl_sw {W V : Nat} {f x g : Nat → Int32} (R : rlS W f x g) (h : 4 ≤ V ∧ V ≤ 16) : rlS V (fun j => wrapF (nI V) (f j)) (pk (nI V) (x 1) (x 2) (-1) (x 4) (x 5) (x 6) (x 7) (x 8) (x 9)) (swF g (nI V)) := by
  obtain ⟨h0, h1, h2, h3, h4, h5, h6, h7⟩ := R
  refine ⟨h, rfl, rfl, fun j hj => ⟨?_, wr_rng h.1 h.2 _⟩, h4, h5, rfl, Or.inl rfl⟩
  rw [swF, if_neg (by omega), if_pos (by omega), (h3 j hj).1]
  exact (wr_mw h.1 h.2 _).symm
theorem rl_begin {W : Nat} {f x g g' : Nat → Int32} (R : rlS W f x g) {p0 p1 p2 : Int32} (a0 : isReg p0) (a1 : isReg p1) (h2 : p2 = 0 ∨ p2 = 1) (e0 : g' 0 = g 0) (ej : ∀ j, j < 6 → g' (1 + j) = g (1 + j)) (e13 : g' 13 = g 13) (e14 : g' 14 = g 14)
    (e7 : g' 7 = smF p2 (g 0)) (e8 : g' 8 = p2) (e9 : g' 9 = 0) (e10 : g' 10 = bitsF (g 0) (g (1 + p1.toNatClampNeg))) (e11 : g' 11 = 0) (e12 : g' 12 = g (1 + p0.toNatClampNeg)) :
    rlS W f (pk (x 0) (x 1) (x 2) (dcntF p2 (x 0)) (bpdF p2) (x 0) (valF f p0) 0 (bitsF (x 0) (valF f p1)) 0) g' := by
  have v0 := rl_val R a0
  have v1 := rl_val R a1
  obtain ⟨h0, h1, h3, h4, h5, h6, h7, h8⟩ := R
  have hd : dcntF p2 (x 0) = smF p2 (g 0) ∧ ∃ N, dcntF p2 (x 0) = nI N ∧ N ≤ 16 := by
    rw [h1, h3]
    rcases h2 with rfl | rfl
    · exact ⟨rfl, W, rfl, h0.2⟩
    · exact ⟨rfl, W / 2, (rl_rem W h0.2 h0.1).2.2, by omega⟩
  refine ⟨h0, h1, e0.trans h3, fun j hj => by rw [ej j hj]; exact h4 j hj, e13.trans h5, e14.trans h6, e7.trans hd.1.symm, Or.inr ?_⟩
  obtain ⟨-, N, hN, hN2⟩ := hd
  refine ⟨N, hN, hN2, by rw [e8]; exact h2, ?_, h1, e12.trans v0.1 |>.symm, e9.symm, ?_, e11.symm⟩
  · show bpdF p2 = _
    rw [e8]
    rcases h2 with rfl | rfl <;> decide
  · show bitsF (x 0) (valF f p1) = _
    rw [e10, v1.1, h1, h3]
/-! ===== steps, programs, history: alike ===== -/
theorem and2_b (l : Int32) : (2 : Int32) * bitF l 1 = l &&& 2 := by
  have hl := tn_lt l
  have b := bit_i l 1 (by decide)
  rw [show nI 1 = (1 : Int32) from rfl, show (2 : Int) ^ 1 = 2 from rfl] at b
  have a3 := and3_i l
  have a1 := and1_i l
  have e : l &&& 3 = (l &&& 1) + (l &&& 2) := by
    refine Int32.toBitVec_inj.mp ?_
    rw [Int32.toBitVec_add, Int32.toBitVec_and, Int32.toBitVec_and, Int32.toBitVec_and]
    have : (3 : Int32).toBitVec = (1 : Int32).toBitVec ||| (2 : Int32).toBitVec := by decide
    rw [this, BitVec.and_or_distrib_left, BitVec.add_eq_or_of_and_eq_zero]
    rw [show l.toBitVec &&& Int32.toBitVec 1 &&& (l.toBitVec &&& Int32.toBitVec 2) = (l.toBitVec &&& l.toBitVec) &&& (Int32.toBitVec 1 &&& Int32.toBitVec 2) by ac_rfl, show Int32.toBitVec 1 &&& Int32.toBitVec 2 = 0#32 by decide]
    simp
  have e2 : l &&& 2 = (l &&& 3) - (l &&& 1) := by rw [e, Int32.add_comm, Int32.add_sub_cancel]
  refine Int32.toInt_inj.mp ?_
  rw [e2, sub_i (by omega), a3, a1, mul_i (by rw [show (2 : Int32).toInt = 2 from rfl]; omega), b, show (2 : Int32).toInt = 2 from rfl]
  omega
theorem bit0 (l : Int32) : bitF l 0 = l &&& 1 := by
  refine Int32.toInt_inj.mp ?_
  have b := bit_i l 0 (by decide)
  rw [show nI 0 = (0 : Int32) from rfl, show (2 : Int) ^ 0 = 1 from rfl, Int.ediv_one] at b
  rw [b, and1_i]
theorem nd_eq {bp lo ex : Int32} {g : Nat → Int32} (h8 : g 8 = 0 ∨ g 8 = 1) (e4 : bp = g 8 + 1) (e8 : lo = g 10) (e9 : ex = g 11) : ndF bp lo ex = mdg g := by
  subst e4 e8 e9
  rcases h8 with h | h
  · rw [ndF, mdg, if_pos (by rw [h]; decide), if_pos h, bit0]
  · rw [ndF, mdg, if_neg (by rw [h]; decide), if_neg (by rw [h]; decide), bit0, and2_b]
abbrev stX (x : Nat → Int32) : Nat → Int32 := pk (x 0) (x 1) (x 2 + 1) (x 3 - 1) (x 4) (x 5) (x 6) (hiF (x 4) (x 6) (x 7) (x 8) (x 9) >>> ((x 4) &&& 31)) (loF (x 4) (x 5) (x 6) (x 7) (x 8) (x 9)) (bitF (x 8) (x 4 - 1))
theorem rl_step {W : Nat} {f x g : Nat → Int32} (R : rlS W f x g) (hp : 0 < x 3) : rlS W f (stX x) (soF g) ∧ ndF (x 4) (x 8) (x 9) = mdg g := by
  obtain ⟨h0, h1, h2, h3, h4, h5, h6, h7⟩ := R
  rcases h7 with h | ⟨N, e3, hN, e8, e4, e5, e6, e7, e9, e10⟩
  · rw [h] at hp; exact absurd hp (by decide)
  have nd := nd_eq e8 e4 e9 e10
  have hh : hiF (x 4) (x 6) (x 7) (x 8) (x 9) = mhi g := by rw [hiF, mhi, nd, e7, e6]
  have N0 : 0 < N := by
    rcases Nat.eq_zero_or_pos N with z | z
    · rw [e3, z] at hp; exact absurd hp (by decide)
    · exact z
  refine ⟨⟨h0, h1, h2, fun j hj => ?_, h4, ?_, ?_, Or.inr ⟨N - 1, ?_, by omega, e8, e4, e5, e6, ?_, ?_, ?_⟩⟩, nd⟩
  · rw [soF, upd_ne (by omega), upd_ne (by omega), upd_ne (by omega), upd_ne (by omega), upd_ne (by omega)]; exact h3 j hj
  · show g 14 + 1 = x 2 + 1; rw [h5]
  · show g 7 - 1 = x 3 - 1; rw [h6]
  · show x 3 - 1 = nI (N - 1)
    rw [e3, show N = (N - 1) + 1 by omega, ← nI_1, Int32.add_sub_cancel]; rfl
  · show hiF (x 4) (x 6) (x 7) (x 8) (x 9) >>> ((x 4) &&& 31) = mhi g >>> ((g 8 + 1) &&& 31)
    rw [hh, e4]
  · show loF (x 4) (x 5) (x 6) (x 7) (x 8) (x 9) = mlo g
    rw [loF, mlo, hh, e4, e5, e9, h2]
  · show bitF (x 8) (x 4 - 1) = mex g
    rw [bitF, mex, e4, e9]
def fiX (x : Nat → Int32) (i : Nat) : Nat → Int32 := pk (x 0) (x 1) (x 2 + nI i) (x 3 - nI i) (x 4) (x 5) (x 6) (stF (x 4) (x 5) (x 6) (x 7) (x 8) (x 9) i).1 (stF (x 4) (x 5) (x 6) (x 7) (x 8) (x 9) i).2.1 (stF (x 4) (x 5) (x 6) (x 7) (x 8) (x 9) i).2.2
theorem pk_eta (x : Nat → Int32) : ∀ j, j < 10 → pk (x 0) (x 1) (x 2) (x 3) (x 4) (x 5) (x 6) (x 7) (x 8) (x 9) j = x j := by
  intro j hj
  rcases (show j = 0 ∨ j = 1 ∨ j = 2 ∨ j = 3 ∨ j = 4 ∨ j = 5 ∨ j = 6 ∨ j = 7 ∨ j = 8 ∨ j = 9 by omega) with rfl | rfl | rfl | rfl | rfl | rfl | rfl | rfl | rfl | rfl <;> rfl
theorem rl_ext {W : Nat} {f x x' g : Nat → Int32} (R : rlS W f x g) (h : ∀ j, j < 10 → x' j = x j) : rlS W f x' g := by
  unfold rlS
  rw [h 0 (by decide), h 1 (by decide), h 2 (by decide), h 3 (by decide), h 4 (by decide), h 5 (by decide), h 6 (by decide), h 7 (by decide), h 8 (by decide), h 9 (by decide)]
  exact R
theorem rl_fin {W N : Nat} {f x g : Nat → Int32} (R : rlS W f x g) (e : x 3 = nI N) (hN : N ≤ 16) : ∀ i, i ≤ N → rlS W f (fiX x i) (mfF g i) ∧ snF (x 4) (x 5) (x 6) (x 7) (x 8) (x 9) i = mnF g i := by
  intro i
  induction i with
  | zero => exact fun _ => ⟨rl_ext R (fun j hj => by
      rw [← pk_eta x j hj, fiX, show nI 0 = (0 : Int32) from rfl, Int32.add_zero, Int32.sub_zero]; rfl), rfl⟩
  | succ i ih =>
    intro hi
    obtain ⟨r1, r2⟩ := ih (by omega)
    have p3 : fiX x i 3 = nI (N - i) := by
      show x 3 - nI i = _
      rw [e, show N = (N - i) + i by omega, ← nI_add, Int32.add_sub_cancel, Nat.add_sub_cancel]
    have s := rl_step r1 (by rw [p3, show (0 : Int32) = nI 0 from rfl]; exact (nI_ltI (by omega) (by omega)).mpr (by omega))
    refine ⟨rl_ext s.1 (fun j hj => ?_), ?_⟩
    · have t : fiX x (i + 1) = stX (fiX x i) := by
        show pk (x 0) (x 1) (x 2 + nI (i + 1)) (x 3 - nI (i + 1)) (x 4) (x 5) (x 6) _ _ _ = pk (x 0) (x 1) (x 2 + nI i + 1) (x 3 - nI i - 1) (x 4) (x 5) (x 6) _ _ _
        rw [← nI_1 i, ← Int32.add_assoc, show x 3 - (nI i + 1) = x 3 - nI i - 1 by simp only [Int32.sub_eq_add_neg, Int32.neg_add, Int32.add_assoc]]
        rfl
      rw [t]
    · rw [snF, mnF, ← r2, ← s.2]
      show (if ndF (x 4) (stF (x 4) (x 5) (x 6) (x 7) (x 8) (x 9) i).2.1 (stF (x 4) (x 5) (x 6) (x 7) (x 8) (x 9) i).2.2 = 0 then _ else _) = _ + (if ndF (x 4) (stF (x 4) (x 5) (x 6) (x 7) (x 8) (x 9) i).2.1 (stF (x 4) (x 5) (x 6) (x 7) (x 8) (x 9) i).2.2 = 0 then 0 else 1)
      split
      · rw [Int32.add_zero]
      · rfl
/-! ===== programs and history, alike ===== -/
theorem val_s {W : Nat} {f x g : Nat → Int32} (R : rlS W f x g) (r : Int32) : valF f r = valF (rgS g) r := by
  by_cases h : isReg r
  · rw [← (rl_val R h).1, valF_r h]
  · rw [valF, valF, if_neg h, if_neg h]
theorem rs_s {W : Nat} {f x g : Nat → Int32} (R : rlS W f x g) (gr : Nat → Int32) (k : Nat) : rsK gr k f = rsK gr k (rgS g) := by
  rw [rsK, rsK, rsR, rsR, val_s R, val_s R]
theorem o_ne (o : Int32) : ¬ o + 1 = o := fun h => by
  have : (o + 1) - o = o - o := by rw [h]
  rw [Int32.add_comm, Int32.add_sub_cancel, Int32.sub_self] at this
  exact absurd this (by decide)
theorem rl_layW {W : Nat} {f x g : Nat → Int32} (R : rlS W f x g) {r : Int32} (h : isReg r) (v : Int32) : rlS W (putF f r (wrapF (nI W) v)) (pk (nI W) (ovF (nI W) v (x 1)) (x 2) (x 3) (x 4) (x 5) (x 6) (x 7) (x 8) (x 9)) (laF g r v) := by
  have a := rl_lay R h v
  rw [R.2.1] at a
  exact a
theorem pk_0 {a b c d e f g h i j a' : Int32} (q : a' = a) : ∀ k, k < 10 → pk a' b c d e f g h i j k = pk a b c d e f g h i j k := by
  intro k _; rw [q]
theorem rl_do {W M : Nat} {f x g gr : Nat → Int32} (R : rlS W f x g) (r0 l0 : Int32) (hrg : ∀ k, k < M → rgK gr k) : ∀ k, k ≤ M →
    rlS W (doR (nI W) gr (f, x 1, r0, -1) k).1 (pk (x 0) (doR (nI W) gr (f, x 1, r0, -1) k).2.1 (x 2) (x 3) (x 4) (x 5) (x 6) (x 7) (x 8) (x 9)) (dsD g gr l0 k).1 ∧
    (doR (nI W) gr (f, x 1, r0, -1) k).2.2.2 = (dsD g gr l0 k).2.1 ∧ (0 < k → (doR (nI W) gr (f, x 1, r0, -1) k).2.2.1 = (dsD g gr l0 k).2.2) := by
  intro k
  induction k with
  | zero => exact fun _ => ⟨rl_ext R (pk_eta x), rfl, fun h => absurd h (Nat.lt_irrefl 0)⟩
  | succ k ih =>
    intro hk
    obtain ⟨r1, r2, -⟩ := ih (by omega)
    have hr := (hrg k (by omega)).1
    have e := rs_s r1 gr k
    have a := rl_layW r1 hr (rsK gr k (doR (nI W) gr (f, x 1, r0, -1) k).1)
    have w0 : (dsD g gr l0 k).1 0 = nI W := r1.2.2.1
    have x0 : x 0 = nI W := r1.2.1
    refine ⟨?_, ?_, fun _ => ?_⟩
    · rw [doR, stpR, dsD, ← e]
      show rlS W (putF _ _ (wrapF (nI W) _)) (pk (x 0) (ovF (nI W) _ _) (x 2) (x 3) (x 4) (x 5) (x 6) (x 7) (x 8) (x 9)) _
      exact rl_ext a (pk_0 x0)
    · rw [doR, stpR, dsD, ← e, w0]
      show ofF _ _ _ _ = _
      rw [ofF, r2]
      have q : (¬ ovF (nI W) (rsK gr k (doR (nI W) gr (f, x 1, r0, -1) k).1) (doR (nI W) gr (f, x 1, r0, -1) k).2.1 = (doR (nI W) gr (f, x 1, r0, -1) k).2.1 ∧ (dsD g gr l0 k).2.1 = -1) ↔ ((dsD g gr l0 k).2.1 = -1 ∧ ¬ isVal (nI W) (rsK gr k (doR (nI W) gr (f, x 1, r0, -1) k).1)) := by
        rw [rl_ov R.1]
        constructor
        · rintro ⟨h1, h2⟩
          exact ⟨h2, fun h3 => h1 (by rw [if_pos h3, Int32.add_zero])⟩
        · rintro ⟨h1, h2⟩
          exact ⟨by rw [if_neg h2]; exact o_ne _, h1⟩
      by_cases c : ((dsD g gr l0 k).2.1 = -1 ∧ ¬ isVal (nI W) (rsK gr k (doR (nI W) gr (f, x 1, r0, -1) k).1))
      · rw [if_pos (q.mpr c), if_pos c]
      · rw [if_neg (fun h => c (q.mp h)), if_neg c]
    · rw [doR, stpR, dsD, ← e, w0]
      exact wr_mw R.1.1 R.1.2 _
theorem rl_g {W : Nat} {f x g g' : Nat → Int32} (R : rlS W f x g) (h : ∀ j, j < 16 → g' j = g j) : rlS W f x g' := by
  obtain ⟨h0, h1, h2, h3, h4, h5, h6, h7⟩ := R
  refine ⟨h0, h1, by rw [h 0 (by decide)]; exact h2, fun j hj => by rw [h _ (by omega)]; exact h3 j hj, by rw [h 13 (by decide)]; exact h4, by rw [h 14 (by decide)]; exact h5, by rw [h 7 (by decide)]; exact h6, ?_⟩
  rw [h 8 (by decide), h 9 (by decide), h 10 (by decide), h 11 (by decide), h 12 (by decide)]
  exact h7
def rlH (hv hg : Nat → Nat → Int32) (n c : Nat) (gt : Nat → Int32) : Prop := c ≤ 4 ∧ n < 4 ∧ ∀ i, i < c → ∃ W, rlS W (hv ((n + 4 - c + i) % 4)) (hg ((n + 4 - c + i) % 4)) (fun j => gt (16 * i + j))
theorem rl_rec {W n c : Nat} {hv hg : Nat → Nat → Int32} {f x g gt : Nat → Int32} (H : rlH hv hg n c gt) (R : rlS W f x g) :
    rlH (va_up hv n f) (va_up hg n (pk (x 0) (x 1) (x 2) (x 3) (x 4) (x 5) (x 6) (x 7) (x 8) (x 9))) ((n + 1) % 4) (min (c + 1) 4) (recF g gt c) := by
  obtain ⟨h1, h2, h3⟩ := H
  have R' := rl_ext R (pk_eta x)
  refine ⟨by omega, by omega, fun i hi => ?_⟩
  have up0 : ∀ (α : Type) (F : Nat → α) (v : α), va_up F n v n = v := fun α F v => if_pos rfl
  have up1 : ∀ (α : Type) (F : Nat → α) (v : α) (k : Nat), ¬ k = n → va_up F n v k = F k := fun α F v k hk => if_neg hk
  rcases Nat.lt_or_ge c 4 with hc | hc
  · have m : min (c + 1) 4 = c + 1 := by omega
    rw [m] at hi ⊢
    have er : recF g gt c = cpF g gt (16 * c) 16 := if_neg (by omega)
    rw [er]
    rcases Nat.lt_or_ge i c with hi2 | hi2
    · obtain ⟨V, hV⟩ := h3 i hi2
      have ix : ((n + 1) % 4 + 4 - (c + 1) + i) % 4 = (n + 4 - c + i) % 4 := by omega
      rw [ix, up1 _ _ _ _ (by omega), up1 _ _ _ _ (by omega)]
      exact ⟨V, rl_g hV (fun j hj => if_neg (by omega))⟩
    · have e : i = c := by omega
      subst e
      have ix : ((n + 1) % 4 + 4 - (i + 1) + i) % 4 = n := by omega
      rw [ix, up0, up0]
      refine ⟨W, rl_g R' (fun j hj => ?_)⟩
      show cpF g gt (16 * i) 16 (16 * i + j) = g j
      rw [cpF, if_pos (by omega), Nat.add_sub_cancel_left]
  · have e : c = 4 := by omega
    subst e
    have m : min (4 + 1) 4 = 4 := rfl
    rw [m] at hi ⊢
    have er : recF g gt 4 = cpF g (shF gt 48) 48 16 := if_pos rfl
    rw [er]
    rcases Nat.lt_or_ge i 3 with hi2 | hi2
    · obtain ⟨V, hV⟩ := h3 (i + 1) (by omega)
      have ix : ((n + 1) % 4 + 4 - 4 + i) % 4 = (n + 4 - 4 + (i + 1)) % 4 := by omega
      rw [ix, up1 _ _ _ _ (by omega), up1 _ _ _ _ (by omega)]
      refine ⟨V, rl_g hV (fun j hj => ?_)⟩
      show cpF g (shF gt 48) 48 16 (16 * i + j) = gt (16 * (i + 1) + j)
      rw [cpF, if_neg (by omega), shF, if_pos (by omega)]
      congr 1; omega
    · have e : i = 3 := by omega
      subst e
      have ix : ((n + 1) % 4 + 4 - 4 + 3) % 4 = n := by omega
      rw [ix, up0, up0]
      refine ⟨W, rl_g R' (fun j hj => ?_)⟩
      show cpF g (shF gt 48) 48 16 (16 * 3 + j) = g j
      rw [cpF, if_pos (by omega), show 16 * 3 + j - 48 = j by omega]
theorem rl_undo {n c : Nat} {hv hg : Nat → Nat → Int32} {gt : Nat → Int32} (H : rlH hv hg n c gt) (hc : 0 < c) : rlH hv hg ((n + 3) % 4) (c - 1) gt ∧ ∃ W, rlS W (hv ((n + 3) % 4)) (hg ((n + 3) % 4)) (fun k9 => gt (16 * (c - 1) + k9)) := by
  obtain ⟨h1, h2, h3⟩ := H
  refine ⟨⟨by omega, by omega, fun i hi => ?_⟩, ?_⟩
  · have := h3 i (by omega)
    rwa [show ((n + 3) % 4 + 4 - (c - 1) + i) % 4 = (n + 4 - c + i) % 4 by omega]
  · have := h3 (c - 1) (by omega)
    rwa [show (n + 4 - c + (c - 1)) % 4 = (n + 3) % 4 by omega] at this
/-! ===== rows, products, ones ===== -/
theorem dc_W {W : Nat} (h : 4 ≤ W ∧ W ≤ 16) (r : Int32) : ∃ D, dcntF r (nI W) = nI D ∧ D ≤ 16 ∧ (r = 1 → D ≤ 8) ∧ 2 ≤ D := by
  by_cases c : r = 1
  · exact ⟨W / 2, by rw [dcntF, if_pos c]; exact (rl_rem W h.2 h.1).2.2, by omega, fun _ => by omega, by omega⟩
  · exact ⟨W, by rw [dcntF, if_neg c], h.2, fun q => absurd q c, by omega⟩
theorem row_eq {v r : Int32} {g : Nat → Int32} {D : Nat} (h : -32768 ≤ v.toInt ∧ v.toInt < 32768) (hr : isRec r) (hD : D ≤ 16) (hD1 : r = 1 → D ≤ 8) : ∀ k, k ≤ D → rwF v r k = mrF (dgF v r g D) k := by
  intro k
  induction k with
  | zero => exact fun _ => rfl
  | succ k ih =>
    intro hk
    have e : dgF v r g D k = mdF v r k := if_pos (by omega)
    rw [rwF, mrF, ih (by omega), dig_eq h hr k (by omega) (fun q => by have := hD1 q; omega), e]
    split
    · rw [Int32.add_zero]
    · rfl
theorem prod_eq {v r a : Int32} {g : Nat → Int32} {D : Nat} (h : -32768 ≤ v.toInt ∧ v.toInt < 32768) (hr : isRec r) (hD : D ≤ 16) (hD1 : r = 1 → D ≤ 8) : ∀ k, k ≤ D → prF a v r k = mpF (dgF v r g D) a r k := by
  intro k
  induction k with
  | zero => exact fun _ => rfl
  | succ k ih =>
    intro hk
    have e : dgF v r g D k = digF v r (nI k) := by rw [dgF, if_pos (by omega), dig_eq h hr k (by omega) (fun q => by have := hD1 q; omega)]
    have e2 : nI k * bpdF r = if r = 1 then 2 * nI k else nI k := by
      rw [bpdF]
      split
      · rw [Int32.mul_comm]
      · rw [Int32.mul_one]
    rw [prF, mpF, ih (by omega), e, e2]
theorem mod2_s (v : Int) (k : Nat) : v % 2 ^ (k + 1) = v % 2 ^ k + 2 ^ k * (v / 2 ^ k % 2) := by
  have h := Int.emod_add_mul_ediv v (2 ^ k)
  have h1 := Int.emod_add_mul_ediv v (2 ^ (k + 1))
  have h2 := Int.emod_add_mul_ediv (v / 2 ^ k) 2
  rw [Int.pow_succ, ← Int.ediv_ediv_of_nonneg (by have := pow2_pos k; omega)] at h1
  rw [Int.pow_succ]
  have h3 : 2 ^ k * 2 * (v / 2 ^ k / 2) = 2 ^ k * (2 * (v / 2 ^ k / 2)) := by rw [Int.mul_assoc]
  have h4 : 2 ^ k * (v / 2 ^ k) = 2 ^ k * (v / 2 ^ k % 2) + 2 ^ k * (2 * (v / 2 ^ k / 2)) := by rw [← Int.mul_add, h2]
  omega
theorem bitm (a : Int32) (v : Int32) (k : Nat) (hk : k < 17) (ha : -32768 ≤ a.toInt ∧ a.toInt < 32768) : ((bitF v (nI k) * a) <<< (nI k &&& 31)).toInt = (v.toInt / 2 ^ k % 2 * a.toInt * 2 ^ k).bmod (2 ^ 32) := by
  have hb := bit_i v k (by omega)
  rw [sh_l _ _ (by omega)]
  have e : ∀ y : Int32, ((tn y * 2 ^ k : Nat) : Int).bmod (2 ^ 32) = (y.toInt * 2 ^ k).bmod (2 ^ 32) := fun y => by
    rw [ti_n y, Int.bmod_mul_bmod]
    congr 1
  rw [e, Int32.toInt_mul, Int.bmod_mul_bmod, hb]
theorem pb_i {a v : Int32} (ha : -32768 ≤ a.toInt ∧ a.toInt < 32768) : ∀ k, k ≤ 16 → (pbF a v k).toInt = (a.toInt * (v.toInt % 2 ^ k)).bmod (2 ^ 32) := by
  intro k
  induction k with
  | zero => intro _; rw [pbF, show (2 : Int) ^ 0 = 1 from rfl, Int.emod_one, Int.mul_zero]; rfl
  | succ k ih =>
    intro hk
    rw [pbF, Int32.toInt_add, ih (by omega), bitm a v k (by omega) ha, Int.bmod_add_bmod, Int.add_bmod_bmod, mod2_s, Int.mul_add]
    congr 2
    rw [Int.mul_comm (v.toInt / 2 ^ k % 2), Int.mul_assoc, Int.mul_comm (v.toInt / 2 ^ k % 2)]
theorem pb_eq {W : Nat} (h : 4 ≤ W ∧ W ≤ 16) {a v : Int32} (ha : -32768 ≤ a.toInt ∧ a.toInt < 32768) (hv : inW W v) : pbF a v (W - 1) - (bitF v (nI (W - 1)) * a) <<< (nI (W - 1) &&& 31) = a * v := by
  refine Int32.toInt_inj.mp ?_
  rw [Int32.toInt_sub, pb_i ha _ (by omega), bitm a v _ (by omega) ha, Int.bmod_sub_bmod, Int.sub_bmod_bmod, Int32.toInt_mul]
  congr 1
  have e : v.toInt = v.toInt % 2 ^ (W - 1) - 2 ^ (W - 1) * (v.toInt / 2 ^ (W - 1) % 2) := by
    have p := pow2_pos (W - 1)
    have m := Int.emod_add_mul_ediv v.toInt (2 ^ (W - 1))
    rw [inW] at hv
    rcases Int.lt_or_le v.toInt 0 with s | s
    · have q : v.toInt / 2 ^ (W - 1) = -1 := by
        have q1 := Int.le_ediv_of_mul_le p (show -1 * 2 ^ (W - 1) ≤ v.toInt by omega)
        have q2 := Int.ediv_lt_of_lt_mul p (show v.toInt < 0 * 2 ^ (W - 1) by omega)
        omega
      rw [q] at m ⊢
      rw [show (-1 : Int) % 2 = 1 from rfl]
      omega
    · have q : v.toInt / 2 ^ (W - 1) = 0 := Int.ediv_eq_zero_of_lt s (by omega)
      rw [q] at m ⊢
      rw [show (0 : Int) % 2 = 0 from rfl]
      omega
  have e2 : a.toInt * v.toInt = a.toInt * (v.toInt % 2 ^ (W - 1)) - a.toInt * (2 ^ (W - 1) * (v.toInt / 2 ^ (W - 1) % 2)) := by
    rw [← Int.mul_sub, ← e]
  rw [e2]
  congr 1
  rw [Int.mul_comm (v.toInt / 2 ^ (W - 1) % 2), Int.mul_assoc, Int.mul_comm (v.toInt / 2 ^ (W - 1) % 2)]
/-! ===== ones and carries ===== -/
theorem pc_all : ∀ n, n < 65536 → bcF (nI n) = nI (pcN 16 n) := by
  intro n hn
  have h := pc_hl (n / 256) (by omega) (n % 256) (by omega)
  rwa [show n / 256 * 256 + n % 256 = n by omega] at h
theorem tb (v : Int32) (k : Nat) (hk : k < 32) : v.toInt / 2 ^ k % 2 = ((tn v / 2 ^ k % 2 : Nat) : Int) := by
  have p := pow2_pos k
  have e : v.toInt = (tn v : Int) ∨ v.toInt = (tn v : Int) - 2 ^ k * 2 ^ (32 - k) := by
    rw [← Int.pow_add, show k + (32 - k) = 32 by omega, ti_n]
    have := tn_lt v
    simp only [Int.bmod_def]
    omega
  have d : (2 : Int) ^ (32 - k) = 2 * 2 ^ (31 - k) := by rw [show 32 - k = (31 - k) + 1 by omega, Int.pow_succ, Int.mul_comm]
  have c : ((tn v / 2 ^ k % 2 : Nat) : Int) = (tn v : Int) / 2 ^ k % 2 := by push_cast; rfl
  rw [c]
  rcases e with e | e
  · rw [e]
  · rw [e, Int.sub_mul_ediv_left _ _ (by omega), d]
    omega
theorem bit_t (v : Int32) (k : Nat) (hk : k < 32) : bitF v (nI k) = nI (tn v / 2 ^ k % 2) := by
  refine Int32.toInt_inj.mp ?_
  rw [bit_i v k hk, tb v k hk]
  rcases Nat.mod_two_eq_zero_or_one (tn v / 2 ^ k) with h | h <;> rw [h] <;> rfl
theorem on_pc (v : Int32) : ∀ k, k ≤ 16 → onF v k = nI (pcN k (tn v)) := by
  intro k
  induction k with
  | zero => exact fun _ => rfl
  | succ k ih =>
    intro hk
    have b := bit_t v k (by omega)
    rw [bitF] at b
    rw [onF, ih (by omega), b, nI_add, pcN]
theorem mod_bit (n W k : Nat) : n % 2 ^ W / 2 ^ k % 2 = if k < W then n / 2 ^ k % 2 else 0 := by
  have h := Nat.testBit_mod_two_pow n W k
  rw [← Nat.toNat_testBit, h, ← Nat.toNat_testBit]
  by_cases c : k < W
  · rw [if_pos c]; simp [c]
  · rw [if_neg c]; simp [c]
theorem pc_mod (n W : Nat) : ∀ k, W ≤ k → pcN k (n % 2 ^ W) = pcN W n := by
  have a : ∀ k, k ≤ W → pcN k (n % 2 ^ W) = pcN k n := by
    intro k
    induction k with
    | zero => exact fun _ => rfl
    | succ k ih => intro hk; rw [pcN, pcN, ih (by omega), mod_bit, if_pos (by omega)]
  intro k hk
  induction k with
  | zero => rw [show W = 0 by omega]; rfl
  | succ k ih =>
    rcases Nat.lt_or_ge k W with h | h
    · rw [show k + 1 = W by omega]; exact a W (Nat.le_refl _)
    · rw [pcN, ih h, mod_bit, if_neg (by omega), Nat.add_zero]
theorem nI_of_tn (x : Int32) : x = nI (tn x) := Int32.toBitVec_inj.mp (by
  show x.toBitVec = BitVec.ofNat 32 x.toBitVec.toNat
  simp)
theorem bits_n {W : Nat} (h : 4 ≤ W ∧ W ≤ 16) (v : Int32) : bitsF (nI W) v = nI (tn v % 2 ^ W) ∧ tn v % 2 ^ W < 65536 := by
  have k1 : ∀ W, W ≤ 16 → 4 ≤ W → (1 : Int32) <<< ((nI W) &&& 31) - 1 = nI (2 ^ W - 1) := by decide
  have p : 2 ^ W ≤ 65536 := Nat.pow_le_pow_right (show 2 > 0 by decide) h.2
  have q : tn v % 2 ^ W < 2 ^ W := Nat.mod_lt _ (Nat.pow_pos (by decide))
  refine ⟨?_, by omega⟩
  rw [bitsF, k1 W h.2 h.1, nI_of_tn (v &&& nI (2 ^ W - 1)), an_m v W (by omega)]
theorem ones_eq {W : Nat} (h : 4 ≤ W ∧ W ≤ 16) (v : Int32) : bcF (bitsF (nI W) v) = onF v W := by
  obtain ⟨a, b⟩ := bits_n h v
  rw [a, pc_all _ b, pc_mod _ _ _ h.2, on_pc v W h.2]
theorem nI_d2 (n : Nat) (h : n < 2 ^ 31) : nI n / 2 = nI (n / 2) := by
  refine Int32.toInt_inj.mp ?_
  have e1 : ∀ m : Nat, m < 2 ^ 31 → (nI m).toInt = m := fun m hm => by
    rw [ti_n]
    show ((BitVec.ofNat 32 m).toNat : Int).bmod (2 ^ 32) = m
    rw [BitVec.toNat_ofNat, Nat.mod_eq_of_lt (by omega), bm32 _ (by omega) (by omega)]
  rw [Int32.toInt_div, e1 n h, e1 (n / 2) (by omega), show (2 : Int32).toInt = 2 from rfl]
  rw [Int.tdiv_eq_ediv_of_nonneg (by omega), bm32 _ (by omega) (by omega)]
  omega
def cyN (A B k : Nat) : Nat := (A % 2 ^ k + B % 2 ^ k) / 2 ^ k
theorem m2N (n k : Nat) : n % 2 ^ (k + 1) = n % 2 ^ k + 2 ^ k * (n / 2 ^ k % 2) := by rw [Nat.pow_succ, Nat.mod_mul]
theorem cyN_s (A B k : Nat) : cyN A B (k + 1) = (A / 2 ^ k % 2 + B / 2 ^ k % 2 + cyN A B k) / 2 := by
  have p : 0 < 2 ^ k := Nat.pow_pos (by decide)
  rw [cyN, cyN, m2N, m2N, Nat.pow_succ, ← Nat.div_div_eq_div_mul]
  congr 1
  rw [show A % 2 ^ k + 2 ^ k * (A / 2 ^ k % 2) + (B % 2 ^ k + 2 ^ k * (B / 2 ^ k % 2)) = (A % 2 ^ k + B % 2 ^ k) + 2 ^ k * (A / 2 ^ k % 2 + B / 2 ^ k % 2) by rw [Nat.mul_add]; omega, Nat.add_mul_div_left _ _ p]
  omega
theorem cyN_1 (A B k : Nat) : cyN A B k < 2 := by
  have p : 0 < 2 ^ k := Nat.pow_pos (by decide)
  have h1 := Nat.mod_lt A p
  have h2 := Nat.mod_lt B p
  exact (Nat.div_lt_iff_lt_mul p).mpr (by omega)
theorem ca_n (a b : Int32) (W : Nat) (hW : W ≤ 16) : ∀ k, k ≤ W → caC a b k = nI (cyN (tn a % 2 ^ W) (tn b % 2 ^ W) k) := by
  intro k
  induction k with
  | zero => intro _; rw [caC, cyN, show (2 : Nat) ^ 0 = 1 from rfl, Nat.mod_one, Nat.mod_one]; rfl
  | succ k ih =>
    intro hk
    have c1 := cyN_1 (tn a % 2 ^ W) (tn b % 2 ^ W) k
    rw [caC, ih (by omega), mb_s a k (by omega), mb_s b k (by omega), bit_t a k (by omega), bit_t b k (by omega), nI_add, nI_add, nI_d2 _ (by omega), cyN_s, mod_bit, mod_bit, if_pos (by omega), if_pos (by omega)]
theorem cx_bit (A B k : Nat) (hk : k < 32) (hA : A < 2 ^ 31) (hB : B < 2 ^ 31) : (A ^^^ B ^^^ (A + B)) / 2 ^ k % 2 = cyN A B k := by
  rw [← Nat.toNat_testBit]
  have h := BitVec.getLsbD_add hk (BitVec.ofNat 32 A) (BitVec.ofNat 32 B)
  have p : 0 < 2 ^ k := Nat.pow_pos (by decide)
  have tA : (BitVec.ofNat 32 A).toNat = A := by rw [BitVec.toNat_ofNat, Nat.mod_eq_of_lt (by omega)]
  have tB : (BitVec.ofNat 32 B).toNat = B := by rw [BitVec.toNat_ofNat, Nat.mod_eq_of_lt (by omega)]
  have tS : (BitVec.ofNat 32 A + BitVec.ofNat 32 B).toNat = A + B := by rw [BitVec.toNat_add, tA, tB, Nat.mod_eq_of_lt (by omega)]
  rw [BitVec.getLsbD, BitVec.getLsbD, BitVec.getLsbD, tA, tB, tS, BitVec.carry, tA, tB] at h
  rw [Nat.testBit_xor, Nat.testBit_xor, h]
  have c2 : cyN A B k = (decide (A % 2 ^ k + B % 2 ^ k + (false).toNat ≥ 2 ^ k)).toNat := by
    have h1 := Nat.mod_lt A p
    have h2 := Nat.mod_lt B p
    rw [cyN]
    by_cases c : A % 2 ^ k + B % 2 ^ k ≥ 2 ^ k
    · rw [decide_eq_true (by simpa using c)]
      show _ = 1
      exact Nat.div_eq_of_lt_le (by omega) (by omega)
    · rw [decide_eq_false (by simpa using c), Nat.div_eq_of_lt (by omega)]
      rfl
  rw [c2]
  cases A.testBit k <;> cases B.testBit k <;> simp
theorem cb_n {A B : Nat} (hA : A < 65536) (hB : B < 65536) : cbF (nI A) (nI B) = nI ((A ^^^ B ^^^ (A + B)) / 2) ∧ (A ^^^ B ^^^ (A + B)) < 2 ^ 17 := by
  have l1 : A ^^^ B ^^^ (A + B) < 2 ^ 17 := Nat.xor_lt_two_pow (Nat.xor_lt_two_pow (by omega) (by omega)) (by omega)
  refine ⟨?_, l1⟩
  have e : nI A ^^^ nI B ^^^ (nI A + nI B) = nI (A ^^^ B ^^^ (A + B)) := by
    refine Int32.toBitVec_inj.mp (BitVec.eq_of_toNat_eq ?_)
    rw [nI_add, Int32.toBitVec_xor, Int32.toBitVec_xor, BitVec.toNat_xor, BitVec.toNat_xor]
    show (BitVec.ofNat 32 A).toNat ^^^ (BitVec.ofNat 32 B).toNat ^^^ (BitVec.ofNat 32 (A + B)).toNat = (BitVec.ofNat 32 _).toNat
    rw [BitVec.toNat_ofNat, BitVec.toNat_ofNat, BitVec.toNat_ofNat, BitVec.toNat_ofNat, Nat.mod_eq_of_lt (by omega), Nat.mod_eq_of_lt (by omega), Nat.mod_eq_of_lt (by omega), Nat.mod_eq_of_lt (by omega)]
  have e1 : ∀ m : Nat, m < 2 ^ 31 → (nI m).toInt = m := fun m hm => by
    rw [ti_n]
    show ((BitVec.ofNat 32 m).toNat : Int).bmod (2 ^ 32) = m
    rw [BitVec.toNat_ofNat, Nat.mod_eq_of_lt (by omega), bm32 _ (by omega) (by omega)]
  refine Int32.toInt_inj.mp ?_
  have s := sh_r (nI (A ^^^ B ^^^ (A + B))) 1 (by decide)
  rw [show nI 1 = (1 : Int32) from rfl, show (2 : Int) ^ 1 = 2 from rfl, e1 _ (by omega)] at s
  rw [cbF, e, s, e1 _ (by omega)]
  omega
theorem ca_cb {W : Nat} (h : 4 ≤ W ∧ W ≤ 16) (a b : Int32) : ∃ X, X < 65536 ∧ cbF (bitsF (nI W) a) (bitsF (nI W) b) = nI X ∧ (∀ k, k < W → X / 2 ^ k % 2 = cyN (tn a % 2 ^ W) (tn b % 2 ^ W) (k + 1)) ∧ X < 2 ^ W := by
  obtain ⟨a1, a2⟩ := bits_n h a
  obtain ⟨b1, b2⟩ := bits_n h b
  obtain ⟨c1, c2⟩ := cb_n a2 b2
  have pw : 2 ^ W ≤ 65536 := Nat.pow_le_pow_right (show 2 > 0 by decide) h.2
  have qa : tn a % 2 ^ W < 2 ^ W := Nat.mod_lt _ (Nat.pow_pos (by decide))
  have qb : tn b % 2 ^ W < 2 ^ W := Nat.mod_lt _ (Nat.pow_pos (by decide))
  have l : (tn a % 2 ^ W) ^^^ (tn b % 2 ^ W) ^^^ (tn a % 2 ^ W + tn b % 2 ^ W) < 2 ^ (W + 1) := Nat.xor_lt_two_pow (Nat.lt_trans (Nat.xor_lt_two_pow qa qb) (Nat.pow_lt_pow_right (by decide) (by omega))) (by rw [Nat.pow_succ]; omega)
  refine ⟨((tn a % 2 ^ W) ^^^ (tn b % 2 ^ W) ^^^ (tn a % 2 ^ W + tn b % 2 ^ W)) / 2, by omega, by rw [a1, b1, c1], fun k hk => ?_, by rw [Nat.pow_succ] at l; omega⟩
  rw [Nat.div_div_eq_div_mul, Nat.mul_comm, ← Nat.pow_succ]
  exact cx_bit _ _ _ (by omega) (by omega) (by omega)
theorem can_pc {W : Nat} (h : 4 ≤ W ∧ W ≤ 16) (a b : Int32) {X : Nat} (hX : ∀ k, k < W → X / 2 ^ k % 2 = cyN (tn a % 2 ^ W) (tn b % 2 ^ W) (k + 1)) : ∀ k, k ≤ W → caN a b k = nI (pcN k X) := by
  intro k
  induction k with
  | zero => exact fun _ => rfl
  | succ k ih =>
    intro hk
    rw [caN, ih (by omega), ca_n a b W h.2 _ hk, nI_add, pcN, hX k (by omega)]
theorem car_eq {W : Nat} (h : 4 ≤ W ∧ W ≤ 16) (a b : Int32) : bcF (cbF (bitsF (nI W) a) (bitsF (nI W) b)) = caN a b W := by
  obtain ⟨X, x1, x2, x3, x4⟩ := ca_cb h a b
  have m : X % 2 ^ W = X := Nat.mod_eq_of_lt x4
  rw [x2, pc_all X x1, can_pc h a b x3 W (Nat.le_refl _), ← m, pc_mod X W 16 h.2, pc_mod X W W (Nat.le_refl _)]
theorem run_eq {W : Nat} (h : 4 ≤ W ∧ W ≤ 16) (a b : Int32) : ∀ k, k ≤ W → (lrF (cbF (bitsF (nI W) a) (bitsF (nI W) b)) k).1 = caR a b k ∧ (lrF (cbF (bitsF (nI W) a) (bitsF (nI W) b)) k).2 = caM a b k := by
  obtain ⟨X, x1, x2, x3, x4⟩ := ca_cb h a b
  intro k
  induction k with
  | zero => exact fun _ => ⟨rfl, rfl⟩
  | succ k ih =>
    intro hk
    obtain ⟨i1, i2⟩ := ih (by omega)
    have tX : tn (nI X) = X := by show (BitVec.ofNat 32 X).toNat = X; rw [BitVec.toNat_ofNat, Nat.mod_eq_of_lt (by omega)]
    have e : bitF (cbF (bitsF (nI W) a) (bitsF (nI W) b)) (nI k) = caC a b (k + 1) := by
      rw [x2, bit_t _ _ (by omega), tX, x3 k (by omega), ca_n a b W h.2 _ hk]
    rw [lrF, e, i1, i2, caR, caM, caR]
    exact ⟨rfl, rfl⟩
