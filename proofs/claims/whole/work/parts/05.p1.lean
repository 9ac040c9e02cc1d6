/-! ===== equal words: shifts and masks as numbers ===== -/
abbrev tn (x : Int32) : Nat := x.toBitVec.toNat
theorem sm32 : ∀ k, k < 32 → ((nI k &&& 31).toBitVec.smod 32).toNat = k := by decide +kernel
theorem sh_l (x : Int32) (k : Nat) (hk : k < 32) : (x <<< (nI k &&& 31)).toInt = ((tn x * 2 ^ k : Nat) : Int).bmod (2 ^ 32) := by
  show (x <<< (nI k &&& 31)).toBitVec.toInt = _
  rw [Int32.toBitVec_shiftLeft, BitVec.shiftLeft_eq', sm32 k hk, BitVec.toInt_shiftLeft, Nat.shiftLeft_eq]
theorem sh_r (x : Int32) (k : Nat) (hk : k < 32) : (x >>> (nI k &&& 31)).toInt = x.toInt / 2 ^ k := by
  show (x >>> (nI k &&& 31)).toBitVec.toInt = _
  rw [Int32.toBitVec_shiftRight, BitVec.sshiftRight_eq', sm32 k hk, BitVec.toInt_sshiftRight, Int.shiftRight_eq_div_pow]
  rfl
theorem ti_n (x : Int32) : x.toInt = (tn x : Int).bmod (2 ^ 32) := BitVec.toInt_eq_toNat_bmod _
theorem tn_lt (x : Int32) : tn x < 4294967296 := x.toBitVec.isLt
theorem an_m (x : Int32) (k : Nat) (hk : k < 32) : tn (x &&& nI (2 ^ k - 1)) = tn x % 2 ^ k := by
  have h : 2 ^ k ≤ 2 ^ 31 := Nat.pow_le_pow_right (by decide) (by omega)
  show (x &&& nI (2 ^ k - 1)).toBitVec.toNat = _
  rw [Int32.toBitVec_and, BitVec.toNat_and, show (nI (2 ^ k - 1)).toBitVec.toNat = 2 ^ k - 1 by
    show (BitVec.ofNat 32 (2 ^ k - 1)).toNat = _
    rw [BitVec.toNat_ofNat, Nat.mod_eq_of_lt (by omega)], Nat.and_two_pow_sub_one_eq_mod]
theorem an_i (x : Int32) (k : Nat) (hk : k < 32) : (x &&& nI (2 ^ k - 1)).toInt = ((tn x % 2 ^ k : Nat) : Int) := by
  have h : 2 ^ k ≤ 2 ^ 31 := Nat.pow_le_pow_right (by decide) (by omega)
  have h2 : tn x % 2 ^ k < 2 ^ k := Nat.mod_lt _ (Nat.pow_pos (by decide))
  rw [ti_n, an_m x k hk]
  exact Int.bmod_eq_of_le (by omega) (by omega)
theorem W13 {W : Nat} (h : 4 ≤ W) (h2 : W ≤ 16) : W = 4 ∨ W = 5 ∨ W = 6 ∨ W = 7 ∨ W = 8 ∨ W = 9 ∨ W = 10 ∨ W = 11 ∨ W = 12 ∨ W = 13 ∨ W = 14 ∨ W = 15 ∨ W = 16 := by omega
theorem wr_k (W : Nat) (v : Int32) (h : 1 ≤ W) (h2 : W ≤ 16) (e : ((32 - nI W) &&& 31) = (nI (32 - W) &&& 31)) : (wrapF (nI W) v).toInt = ((tn v * 2 ^ (32 - W) : Nat) : Int).bmod (2 ^ 32) / 2 ^ (32 - W) := by
  rw [wrapF, e, sh_r _ _ (by omega), sh_l _ _ (by omega)]
theorem wr_i {W : Nat} (h : 4 ≤ W) (h2 : W ≤ 16) (v : Int32) : (wrapF (nI W) v).toInt = (tn v : Int).bmod (2 ^ W : Nat) := by
  have hv := tn_lt v
  rcases W13 h h2 with rfl | rfl | rfl | rfl | rfl | rfl | rfl | rfl | rfl | rfl | rfl | rfl | rfl <;>
  · rw [wr_k _ _ (by decide) (by decide) (by decide)]
    simp only [Int.bmod_def]
    omega
theorem mw_i {W : Nat} (h : 4 ≤ W) (h2 : W ≤ 16) (v : Int32) : (mwF (nI W) v).toInt = (tn v : Int).bmod (2 ^ W : Nat) := by
  have hv := tn_lt v
  have key : ∀ W, 4 ≤ W → W ≤ 16 → (1 : Int32) <<< ((nI W) &&& 31) - 1 = nI (2 ^ W - 1) ∧ (1 : Int32) <<< ((nI W) &&& 31) = nI (2 ^ W) ∧ (1 : Int32) <<< ((nI W - 1) &&& 31) = nI (2 ^ (W - 1)) ∧ (nI (2 ^ W)).toInt = 2 ^ W ∧ (nI (2 ^ (W - 1))).toInt = 2 ^ (W - 1) := by
    intro W h h2
    rcases W13 h h2 with rfl | rfl | rfl | rfl | rfl | rfl | rfl | rfl | rfl | rfl | rfl | rfl | rfl <;> decide
  obtain ⟨k1, k2, k3, k4, k5⟩ := key W h h2
  have hb := an_i v W (by omega)
  rw [mwF, bitsF, k1, k2, k3]
  by_cases c : v &&& nI (2 ^ W - 1) < nI (2 ^ (W - 1))
  · rw [if_pos c, hb]
    rw [Int32.lt_iff_toInt_lt, hb, k5] at c
    rcases W13 h h2 with rfl | rfl | rfl | rfl | rfl | rfl | rfl | rfl | rfl | rfl | rfl | rfl | rfl <;>
    · simp only [Int.bmod_def]
      omega
  · rw [if_neg c, Int32.toInt_sub, hb, k4]
    rw [Int32.lt_iff_toInt_lt, hb, k5] at c
    rcases W13 h h2 with rfl | rfl | rfl | rfl | rfl | rfl | rfl | rfl | rfl | rfl | rfl | rfl | rfl <;>
    · simp only [Int.bmod_def]
      omega
theorem wr_mw {W : Nat} (h : 4 ≤ W) (h2 : W ≤ 16) (v : Int32) : wrapF (nI W) v = mwF (nI W) v := Int32.toInt_inj.mp ((wr_i h h2 v).trans (mw_i h h2 v).symm)
/-! ===== values and digits ===== -/
def inW (W : Nat) (v : Int32) : Prop := -(2 ^ (W - 1) : Int) ≤ v.toInt ∧ v.toInt < 2 ^ (W - 1)
theorem inW_b {W : Nat} (h2 : W ≤ 16) {v : Int32} (h : inW W v) : -32768 ≤ v.toInt ∧ v.toInt < 32768 := by
  have : (2 ^ (W - 1) : Int) ≤ 2 ^ 15 := by
    have := Nat.pow_le_pow_right (show 2 > 0 by decide) (show W - 1 ≤ 15 by omega)
    exact_mod_cast this
  unfold inW at h
  omega
theorem lo_hi : ∀ W, W ≤ 16 → 4 ≤ W → (loV (nI W)).toInt = -(2 ^ (W - 1)) ∧ (hiV (nI W)).toInt = 2 ^ (W - 1) - 1 := by decide
theorem val_i {W : Nat} (h : 4 ≤ W) (h2 : W ≤ 16) (v : Int32) : isVal (nI W) v ↔ inW W v := by
  obtain ⟨a, b⟩ := lo_hi W h2 h
  rw [isVal, inF, Int32.lt_iff_toInt_lt, Int32.lt_iff_toInt_lt, a, b, inW]
  omega
theorem wr_rng {W : Nat} (h : 4 ≤ W) (h2 : W ≤ 16) (v : Int32) : inW W (wrapF (nI W) v) := by
  have hv := tn_lt v
  rw [inW, wr_i h h2]
  rcases W13 h h2 with rfl | rfl | rfl | rfl | rfl | rfl | rfl | rfl | rfl | rfl | rfl | rfl | rfl <;>
  · simp only [Int.bmod_def]
    omega
theorem val_iff {W : Nat} (h : 4 ≤ W) (h2 : W ≤ 16) (v : Int32) : wrapF (nI W) v = v ↔ isVal (nI W) v := by
  have hv := tn_lt v
  constructor
  · intro e
    rw [val_i h h2, ← e]
    exact wr_rng h h2 v
  · intro e
    refine Int32.toInt_inj.mp ?_
    have e2 := (val_i h h2 v).mp e
    rw [inW] at e2
    rw [wr_i h h2]
    rw [ti_n] at e2 ⊢
    rcases W13 h h2 with rfl | rfl | rfl | rfl | rfl | rfl | rfl | rfl | rfl | rfl | rfl | rfl | rfl <;>
    · simp only [Int.bmod_def] at e2 ⊢
      omega
theorem and1_i (y : Int32) : (y &&& 1).toInt = y.toInt % 2 := by
  have h := an_i y 1 (by decide)
  rw [show nI (2 ^ 1 - 1) = 1 from rfl] at h
  have hy := tn_lt y
  rw [h, ti_n]
  simp only [Int.bmod_def]
  omega
theorem and3_i (y : Int32) : (y &&& 3).toInt = y.toInt % 4 := by
  have h := an_i y 2 (by decide)
  rw [show nI (2 ^ 2 - 1) = 3 from rfl] at h
  have hy := tn_lt y
  rw [h, ti_n]
  simp only [Int.bmod_def]
  omega
theorem bit_i (v : Int32) (k : Nat) (hk : k < 32) : (bitF v (nI k)).toInt = v.toInt / 2 ^ k % 2 := by rw [bitF, and1_i, sh_r v k hk]
theorem add_i {a b : Int32} (h : -2147483648 ≤ a.toInt + b.toInt ∧ a.toInt + b.toInt < 2147483648) : (a + b).toInt = a.toInt + b.toInt := by rw [Int32.toInt_add, bm32 _ h.1 h.2]
theorem sub_i {a b : Int32} (h : -2147483648 ≤ a.toInt - b.toInt ∧ a.toInt - b.toInt < 2147483648) : (a - b).toInt = a.toInt - b.toInt := by rw [Int32.toInt_sub, bm32 _ h.1 h.2]
theorem mul_i {a b : Int32} (h : -2147483648 ≤ a.toInt * b.toInt ∧ a.toInt * b.toInt < 2147483648) : (a * b).toInt = a.toInt * b.toInt := by rw [Int32.toInt_mul, bm32 _ h.1 h.2]
theorem dbl_i {v : Int32} (h : -32768 ≤ v.toInt ∧ v.toInt < 32768) : (v <<< (1 &&& 31)).toInt = 2 * v.toInt := by
  have h1 := sh_l v 1 (by decide)
  rw [show nI 1 = 1 from rfl] at h1
  have hv := tn_lt v
  rw [h1]
  rw [ti_n] at h ⊢
  simp only [Int.bmod_def] at h ⊢
  omega
theorem pow2_pos (k : Nat) : (0 : Int) < 2 ^ k := by
  have := Nat.pow_pos (n := k) (show 0 < 2 by decide)
  exact_mod_cast this
theorem dbl_s {v : Int32} (h : -32768 ≤ v.toInt ∧ v.toInt < 32768) (p : Nat) (hp : p + 1 < 32) : bitF (v <<< (1 &&& 31)) (nI (p + 1)) = bitF v (nI p) := by
  refine Int32.toInt_inj.mp ?_
  rw [bit_i _ _ hp, bit_i _ _ (by omega), dbl_i h, Int.pow_succ, Int.mul_comm (2 ^ p) 2, Int.mul_ediv_mul_of_pos _ _ (by decide)]
theorem dbl_0 {v : Int32} (h : -32768 ≤ v.toInt ∧ v.toInt < 32768) : bitF (v <<< (1 &&& 31)) 0 = 0 := by
  refine Int32.toInt_inj.mp ?_
  have := bit_i (v <<< (1 &&& 31)) 0 (by decide)
  rw [show nI 0 = 0 from rfl, dbl_i h] at this
  rw [this, show (0 : Int32).toInt = 0 from rfl]
  omega
theorem mb_s (v : Int32) (p : Nat) (hp : p < 1000) : mbF v (nI p) = bitF v (nI p) := if_pos (show nI 0 ≤ nI p from nI_le (Nat.zero_le _) (by omega))
theorem mb_p (v : Int32) (p : Nat) (hp : p < 1000) : mbF v (nI (p + 1) - 1) = bitF v (nI p) := by
  rw [← nI_1, Int32.add_sub_cancel]; exact mb_s v p hp
theorem mb_n (v : Int32) : mbF v (nI 0 - 1) = 0 := if_neg (by decide)
theorem fl3 (v P : Int) (hP : 0 < P) : ∃ c, 3 * v / P = 3 * (v / P) + c ∧ 0 ≤ c ∧ c ≤ 2 := by
  have h1 := Int.emod_add_mul_ediv v P
  have h2 := Int.emod_nonneg v (show P ≠ 0 by omega)
  have h3 := Int.emod_lt_of_pos v hP
  refine ⟨3 * (v % P) / P, ?_, Int.ediv_nonneg (by omega) (by omega), ?_⟩
  · have e : 3 * v = 3 * (v % P) + P * (3 * (v / P)) := by
      have : P * (3 * (v / P)) = 3 * (P * (v / P)) := by rw [Int.mul_left_comm]
      omega
    rw [e, Int.add_mul_ediv_left _ _ (show P ≠ 0 by omega), Int.add_comm]
  · have : 3 * (v % P) / P < 3 := Int.ediv_lt_of_lt_mul hP (by omega)
    omega
theorem ediv_b (v : Int) (k : Nat) (B : Int) (h : -B ≤ v ∧ v < B) (hB : 0 < B) : -B ≤ v / 2 ^ k ∧ v / 2 ^ k < B := by
  have hp := pow2_pos k
  constructor
  · apply Int.le_ediv_of_mul_le hp
    have : B * 1 ≤ B * 2 ^ k := Int.mul_le_mul_of_nonneg_left (by omega) (by omega)
    rw [Int.neg_mul]
    omega
  · apply Int.ediv_lt_of_lt_mul hp
    have : B * 1 ≤ B * 2 ^ k := Int.mul_le_mul_of_nonneg_left (by omega) (by omega)
    omega
theorem spR_i {v : Int32} (h : -32768 ≤ v.toInt ∧ v.toInt < 32768) : ∀ k, (spR v k).toInt = 3 * v.toInt / 2 ^ (k + 1) - v.toInt / 2 ^ (k + 1) := by
  intro k
  induction k with
  | zero => rw [spR]; have : (2 : Int) ^ (0 + 1) = 2 := rfl; rw [this]; omega
  | succ k ih =>
    have b3 := ediv_b (3 * v.toInt) (k + 1) 98304 (by omega) (by decide)
    have b1 := ediv_b v.toInt (k + 1) 32768 (by omega) (by decide)
    have q := fl3 v.toInt (2 ^ (k + 1)) (pow2_pos _)
    have s3 : 3 * v.toInt / 2 ^ (k + 1 + 1) = (3 * v.toInt / 2 ^ (k + 1)) / 2 := by rw [Int.pow_succ, Int.ediv_ediv_of_nonneg (by have := pow2_pos (k + 1); omega)]
    have s1 : v.toInt / 2 ^ (k + 1 + 1) = (v.toInt / 2 ^ (k + 1)) / 2 := by rw [Int.pow_succ, Int.ediv_ediv_of_nonneg (by have := pow2_pos (k + 1); omega)]
    have hs := sh_r (spR v k - (if spR v k &&& 1 = 0 then 0 else 2 - (spR v k &&& 3))) 1 (by decide)
    rw [show nI 1 = 1 from rfl] at hs
    rw [spR, hs, s3, s1]
    obtain ⟨c, q1, q2, q3⟩ := q
    have m1 := and1_i (spR v k)
    have m3 := and3_i (spR v k)
    have p1 : (2 : Int) ^ 1 = 2 := rfl
    by_cases g : spR v k &&& 1 = 0
    · rw [if_pos g, Int32.sub_zero, ih, p1]
      rw [g, show (0 : Int32).toInt = 0 from rfl, ih] at m1
      omega
    · rw [if_neg g]
      have g2 : ¬ (spR v k &&& 1).toInt = 0 := fun e => g (Int32.toInt_inj.mp e)
      have t2 : (2 : Int32).toInt = 2 := rfl
      rw [m1, ih] at g2
      rw [ih] at m3
      rw [sub_i (by rw [sub_i (by omega), ih]; omega), sub_i (by omega), m3, ih, p1]
      omega
theorem trp_i {v : Int32} (h : -32768 ≤ v.toInt ∧ v.toInt < 32768) : ((3 : Int32) * v).toInt = 3 * v.toInt := mul_i (by rw [show (3 : Int32).toInt = 3 from rfl]; omega)
theorem sp_dig {v : Int32} (h : -32768 ≤ v.toInt ∧ v.toInt < 32768) (k : Nat) (hk : k + 1 < 32) : spD (spR v k) = bitF ((3 : Int32) * v) (nI (k + 1)) - bitF v (nI (k + 1)) := by
  refine Int32.toInt_inj.mp ?_
  have q := fl3 v.toInt (2 ^ (k + 1)) (pow2_pos _)
  obtain ⟨c, q1, q2, q3⟩ := q
  have m1 := and1_i (spR v k)
  have m3 := and3_i (spR v k)
  have ih := spR_i h k
  have c1 := bit_i ((3 : Int32) * v) (k + 1) hk
  have c2 := bit_i v (k + 1) hk
  rw [trp_i h] at c1
  rw [sub_i (by omega), c1, c2, spD]
  by_cases g : spR v k &&& 1 = 0
  · rw [if_pos g, show (0 : Int32).toInt = 0 from rfl]
    rw [g, show (0 : Int32).toInt = 0 from rfl, ih] at m1
    omega
  · rw [if_neg g]
    have g2 : ¬ (spR v k &&& 1).toInt = 0 := fun e => g (Int32.toInt_inj.mp e)
    have t2 : (2 : Int32).toInt = 2 := rfl
    rw [m1, ih] at g2
    rw [ih] at m3
    rw [sub_i (by omega), m3]
    rcases (show c = 0 ∨ c = 1 ∨ c = 2 by omega) with rfl | rfl | rfl <;> rcases (show v.toInt / 2 ^ (k + 1) % 2 = 0 ∨ v.toInt / 2 ^ (k + 1) % 2 = 1 by omega) with t | t <;> omega
theorem dig_eq {v r : Int32} (h : -32768 ≤ v.toInt ∧ v.toInt < 32768) (hr : isRec r) (k : Nat) (hk : k < 16) (hk1 : r = 1 → k < 8) : digF v r (nI k) = mdF v r k := by
  rcases hr with rfl | rfl | rfl
  · rw [digF, mdF, if_pos rfl, if_neg (by decide), if_pos rfl, nI_1, dbl_s h k (by omega), mb_s v k (by omega)]
    cases k with
    | zero => rw [mb_n, show nI 0 = 0 from rfl, dbl_0 h]
    | succ k => rw [mb_p v k (by omega), dbl_s h k (by omega)]
  · rw [digF, mdF, if_neg (by decide), if_pos rfl, if_neg (by decide), if_neg (by decide)]
    have hk2 := hk1 rfl
    rw [show (2 : Int32) = nI 2 from rfl, pk_mul, nI_1, nI_add, dbl_s h (2 * k) (by omega), show 2 * k + 2 = (2 * k + 1) + 1 from rfl, dbl_s h (2 * k + 1) (by omega), mb_s v (2 * k) (by omega), mb_s v (2 * k + 1) (by omega)]
    cases k with
    | zero => rw [show 2 * 0 = 0 from rfl, mb_n, show nI 0 = 0 from rfl, dbl_0 h]
    | succ k => rw [show 2 * (k + 1) = (2 * k + 1) + 1 from rfl, mb_p v (2 * k + 1) (by omega), dbl_s h (2 * k + 1) (by omega)]
  · rw [digF, mdF, if_neg (by decide), if_neg (by decide), if_pos rfl, nI_1, sp_dig h k (by omega)]
