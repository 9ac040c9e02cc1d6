/-! ===== pure rows ===== -/
theorem bm32 (x : Int) (h1 : -2147483648 ≤ x) (h2 : x < 2147483648) : x.bmod (2 ^ 32) = x := Int.bmod_eq_of_le (by omega) (by omega)
abbrev tn (x : Int32) : Nat := x.toBitVec.toNat
theorem sm32 : ∀ k, k < 32 → ((nI k &&& 31).toBitVec.smod 32).toNat = k := by decide +kernel
theorem sh_l (x : Int32) (k : Nat) (hk : k < 32) : (x <<< (nI k &&& 31)).toInt = ((tn x * 2 ^ k : Nat) : Int).bmod (2 ^ 32) := by
  show (x <<< (nI k &&& 31)).toBitVec.toInt = _
  rw [Int32.toBitVec_shiftLeft, BitVec.shiftLeft_eq', sm32 k hk, BitVec.toInt_shiftLeft, Nat.shiftLeft_eq]
theorem sh_r (x : Int32) (k : Nat) (hk : k < 32) : (x >>> (nI k &&& 31)).toInt = x.toInt / 2 ^ k := by
  show (x >>> (nI k &&& 31)).toBitVec.toInt = _
  rw [Int32.toBitVec_shiftRight, BitVec.sshiftRight_eq', sm32 k hk, BitVec.toInt_sshiftRight, Int.shiftRight_eq_div_pow]
  rfl
theorem ti_n (x : Int32) : x.toInt = (tn x : Int).bmod (2 ^ 32) := BitVec.toInt_eq_toNat_bmod _
theorem tn_lt (x : Int32) : tn x < 4294967296 := x.toBitVec.isLt
theorem an_m (x : Int32) (k : Nat) (hk : k < 32) : tn (x &&& nI (2 ^ k - 1)) = tn x % 2 ^ k := by
  have h : 2 ^ k ≤ 2 ^ 31 := Nat.pow_le_pow_right (by decide) (by omega)
  show (x &&& nI (2 ^ k - 1)).toBitVec.toNat = _
  rw [Int32.toBitVec_and, BitVec.toNat_and, show (nI (2 ^ k - 1)).toBitVec.toNat = 2 ^ k - 1 by
    show (BitVec.ofNat 32 (2 ^ k - 1)).toNat = _
    rw [BitVec.toNat_ofNat, Nat.mod_eq_of_lt (by omega)], Nat.and_two_pow_sub_one_eq_mod]
theorem an_i (x : Int32) (k : Nat) (hk : k < 32) : (x &&& nI (2 ^ k - 1)).toInt = ((tn x % 2 ^ k : Nat) : Int) := by
  have h : 2 ^ k ≤ 2 ^ 31 := Nat.pow_le_pow_right (by decide) (by omega)
  have h2 : tn x % 2 ^ k < 2 ^ k := Nat.mod_lt _ (Nat.pow_pos (by decide))
  rw [ti_n, an_m x k hk]
  exact Int.bmod_eq_of_le (by omega) (by omega)
theorem W13 {W : Nat} (h : 4 ≤ W) (h2 : W ≤ 16) : W = 4 ∨ W = 5 ∨ W = 6 ∨ W = 7 ∨ W = 8 ∨ W = 9 ∨ W = 10 ∨ W = 11 ∨ W = 12 ∨ W = 13 ∨ W = 14 ∨ W = 15 ∨ W = 16 := by omega
theorem wr_k (W : Nat) (v : Int32) (h : 1 ≤ W) (h2 : W ≤ 16) (e : ((32 - nI W) &&& 31) = (nI (32 - W) &&& 31)) : (wrapF (nI W) v).toInt = ((tn v * 2 ^ (32 - W) : Nat) : Int).bmod (2 ^ 32) / 2 ^ (32 - W) := by
  rw [wrapF, e, sh_r _ _ (by omega), sh_l _ _ (by omega)]
theorem wr_i {W : Nat} (h : 4 ≤ W) (h2 : W ≤ 16) (v : Int32) : (wrapF (nI W) v).toInt = (tn v : Int).bmod (2 ^ W : Nat) := by
  have hv := tn_lt v
  rcases W13 h h2 with rfl | rfl | rfl | rfl | rfl | rfl | rfl | rfl | rfl | rfl | rfl | rfl | rfl <;>
  · rw [wr_k _ _ (by decide) (by decide) (by decide)]
    simp only [Int.bmod_def]
    omega
def inW (W : Nat) (v : Int32) : Prop := -(2 ^ (W - 1) : Int) ≤ v.toInt ∧ v.toInt < 2 ^ (W - 1)
theorem inW_b {W : Nat} (h2 : W ≤ 16) {v : Int32} (h : inW W v) : -32768 ≤ v.toInt ∧ v.toInt < 32768 := by
  have : (2 ^ (W - 1) : Int) ≤ 2 ^ 15 := by
    have := Nat.pow_le_pow_right (show 2 > 0 by decide) (show W - 1 ≤ 15 by omega)
    exact_mod_cast this
  unfold inW at h
  omega
theorem wr_rng {W : Nat} (h : 4 ≤ W) (h2 : W ≤ 16) (v : Int32) : inW W (wrapF (nI W) v) := by
  have hv := tn_lt v
  rw [inW, wr_i h h2]
  rcases W13 h h2 with rfl | rfl | rfl | rfl | rfl | rfl | rfl | rfl | rfl | rfl | rfl | rfl | rfl <;>
  · simp only [Int.bmod_def]
    omega
theorem and1_i (y : Int32) : (y &&& 1).toInt = y.toInt % 2 := by
  have h := an_i y 1 (by decide)
  rw [show nI (2 ^ 1 - 1) = 1 from rfl] at h
  have hy := tn_lt y
  rw [h, ti_n]
  simp only [Int.bmod_def]
  omega
theorem bit_i (v : Int32) (k : Nat) (hk : k < 32) : (bitF v (nI k)).toInt = v.toInt / 2 ^ k % 2 := by rw [bitF, and1_i, sh_r v k hk]
theorem add_i {a b : Int32} (h : -2147483648 ≤ a.toInt + b.toInt ∧ a.toInt + b.toInt < 2147483648) : (a + b).toInt = a.toInt + b.toInt := by rw [Int32.toInt_add, bm32 _ h.1 h.2]
theorem sub_i {a b : Int32} (h : -2147483648 ≤ a.toInt - b.toInt ∧ a.toInt - b.toInt < 2147483648) : (a - b).toInt = a.toInt - b.toInt := by rw [Int32.toInt_sub, bm32 _ h.1 h.2]
theorem mul_i {a b : Int32} (h : -2147483648 ≤ a.toInt * b.toInt ∧ a.toInt * b.toInt < 2147483648) : (a * b).toInt = a.toInt * b.toInt := by rw [Int32.toInt_mul, bm32 _ h.1 h.2]
theorem dbl_i {v : Int32} (h : -32768 ≤ v.toInt ∧ v.toInt < 32768) : (v <<< (1 &&& 31)).toInt = 2 * v.toInt := by
  have h1 := sh_l v 1 (by decide)
  rw [show nI 1 = 1 from rfl] at h1
  have hv := tn_lt v
  rw [h1]
  rw [ti_n] at h ⊢
  simp only [Int.bmod_def] at h ⊢
  omega
theorem pow2_pos (k : Nat) : (0 : Int) < 2 ^ k := by
  have := Nat.pow_pos (n := k) (show 0 < 2 by decide)
  exact_mod_cast this
theorem dbl_s {v : Int32} (h : -32768 ≤ v.toInt ∧ v.toInt < 32768) (p : Nat) (hp : p + 1 < 32) : bitF (v <<< (1 &&& 31)) (nI (p + 1)) = bitF v (nI p) := by
  refine Int32.toInt_inj.mp ?_
  rw [bit_i _ _ hp, bit_i _ _ (by omega), dbl_i h, Int.pow_succ, Int.mul_comm (2 ^ p) 2, Int.mul_ediv_mul_of_pos _ _ (by decide)]
theorem dbl_0 {v : Int32} (h : -32768 ≤ v.toInt ∧ v.toInt < 32768) : bitF (v <<< (1 &&& 31)) 0 = 0 := by
  refine Int32.toInt_inj.mp ?_
  have := bit_i (v <<< (1 &&& 31)) 0 (by decide)
  rw [show nI 0 = 0 from rfl, dbl_i h] at this
  rw [this, show (0 : Int32).toInt = 0 from rfl]
  omega
theorem trp_i {v : Int32} (h : -32768 ≤ v.toInt ∧ v.toInt < 32768) : ((3 : Int32) * v).toInt = 3 * v.toInt := mul_i (by rw [show (3 : Int32).toInt = 3 from rfl]; omega)
theorem reg_j {r : Int32} (h : isReg r) : r.toNatClampNeg < 6 := by
  obtain ⟨j, hj, e⟩ := vp_in_of (isReg_in h) (by omega)
  have : r = nI j := e
  rw [this, nI_clamp (by omega)]; exact hj
theorem rl_rem : ∀ W, W ≤ 16 → 4 ≤ W → (rem2 (nI W) = 0 ∨ rem2 (nI W) = 1) ∧ (rem2 (nI W) = 0 ↔ W % 2 = 0) ∧ nI W / 2 = nI (W / 2) := by decide
theorem dc_W {W : Nat} (h : 4 ≤ W ∧ W ≤ 16) (r : Int32) : ∃ D, dcntF r (nI W) = nI D ∧ D ≤ 16 ∧ (r = 1 → D ≤ 8) ∧ 2 ≤ D := by
  by_cases c : r = 1
  · exact ⟨W / 2, by rw [dcntF, if_pos c]; exact (rl_rem W h.2 h.1).2.2, by omega, fun _ => by omega, by omega⟩
  · exact ⟨W, by rw [dcntF, if_neg c], h.2, fun q => absurd q c, by omega⟩
theorem mod2_s (v : Int) (k : Nat) : v % 2 ^ (k + 1) = v % 2 ^ k + 2 ^ k * (v / 2 ^ k % 2) := by
  have h := Int.emod_add_mul_ediv v (2 ^ k)
  have h1 := Int.emod_add_mul_ediv v (2 ^ (k + 1))
  have h2 := Int.emod_add_mul_ediv (v / 2 ^ k) 2
  rw [Int.pow_succ, ← Int.ediv_ediv_of_nonneg (by have := pow2_pos k; omega)] at h1
  rw [Int.pow_succ]
  have h3 : 2 ^ k * 2 * (v / 2 ^ k / 2) = 2 ^ k * (2 * (v / 2 ^ k / 2)) := by rw [Int.mul_assoc]
  have h4 : 2 ^ k * (v / 2 ^ k) = 2 ^ k * (v / 2 ^ k % 2) + 2 ^ k * (2 * (v / 2 ^ k / 2)) := by rw [← Int.mul_add, h2]
  omega
theorem bitm (a : Int32) (v : Int32) (k : Nat) (hk : k < 17) (ha : -32768 ≤ a.toInt ∧ a.toInt < 32768) : ((bitF v (nI k) * a) <<< (nI k &&& 31)).toInt = (v.toInt / 2 ^ k % 2 * a.toInt * 2 ^ k).bmod (2 ^ 32) := by
  have hb := bit_i v k (by omega)
  rw [sh_l _ _ (by omega)]
  have e : ∀ y : Int32, ((tn y * 2 ^ k : Nat) : Int).bmod (2 ^ 32) = (y.toInt * 2 ^ k).bmod (2 ^ 32) := fun y => by
    rw [ti_n y, Int.bmod_mul_bmod]
    congr 1
  rw [e, Int32.toInt_mul, Int.bmod_mul_bmod, hb]
theorem pb_i {a v : Int32} (ha : -32768 ≤ a.toInt ∧ a.toInt < 32768) : ∀ k, k ≤ 16 → (pbF a v k).toInt = (a.toInt * (v.toInt % 2 ^ k)).bmod (2 ^ 32) := by
  intro k
  induction k with
  | zero => intro _; rw [pbF, show (2 : Int) ^ 0 = 1 from rfl, Int.emod_one, Int.mul_zero]; rfl
  | succ k ih =>
    intro hk
    rw [pbF, Int32.toInt_add, ih (by omega), bitm a v k (by omega) ha, Int.bmod_add_bmod, Int.add_bmod_bmod, mod2_s, Int.mul_add]
    congr 2
    rw [Int.mul_comm (v.toInt / 2 ^ k % 2), Int.mul_assoc, Int.mul_comm (v.toInt / 2 ^ k % 2)]
theorem pb_eq {W : Nat} (h : 4 ≤ W ∧ W ≤ 16) {a v : Int32} (ha : -32768 ≤ a.toInt ∧ a.toInt < 32768) (hv : inW W v) : pbF a v (W - 1) - (bitF v (nI (W - 1)) * a) <<< (nI (W - 1) &&& 31) = a * v := by
  refine Int32.toInt_inj.mp ?_
  rw [Int32.toInt_sub, pb_i ha _ (by omega), bitm a v _ (by omega) ha, Int.bmod_sub_bmod, Int.sub_bmod_bmod, Int32.toInt_mul]
  congr 1
  have e : v.toInt = v.toInt % 2 ^ (W - 1) - 2 ^ (W - 1) * (v.toInt / 2 ^ (W - 1) % 2) := by
    have p := pow2_pos (W - 1)
    have m := Int.emod_add_mul_ediv v.toInt (2 ^ (W - 1))
    rw [inW] at hv
    rcases Int.lt_or_le v.toInt 0 with s | s
    · have q : v.toInt / 2 ^ (W - 1) = -1 := by
        have q1 := Int.le_ediv_of_mul_le p (show -1 * 2 ^ (W - 1) ≤ v.toInt by omega)
        have q2 := Int.ediv_lt_of_lt_mul p (show v.toInt < 0 * 2 ^ (W - 1) by omega)
        omega
      rw [q] at m ⊢
      rw [show (-1 : Int) % 2 = 1 from rfl]
      omega
    · have q : v.toInt / 2 ^ (W - 1) = 0 := Int.ediv_eq_zero_of_lt s (by omega)
      rw [q] at m ⊢
      rw [show (0 : Int) % 2 = 0 from rfl]
      omega
  have e2 : a.toInt * v.toInt = a.toInt * (v.toInt % 2 ^ (W - 1)) - a.toInt * (2 ^ (W - 1) * (v.toInt / 2 ^ (W - 1) % 2)) := by
    rw [← Int.mul_sub, ← e]
  rw [e2]
  congr 1
  rw [Int.mul_comm (v.toInt / 2 ^ (W - 1) % 2), Int.mul_assoc, Int.mul_comm (v.toInt / 2 ^ (W - 1) % 2)]
theorem pc_all : ∀ n, n < 65536 → bcF (nI n) = nI (pcN 16 n) := by
  intro n hn
  have h := pc_hl (n / 256) (by omega) (n % 256) (by omega)
  rwa [show n / 256 * 256 + n % 256 = n by omega] at h
theorem tb (v : Int32) (k : Nat) (hk : k < 32) : v.toInt / 2 ^ k % 2 = ((tn v / 2 ^ k % 2 : Nat) : Int) := by
  have p := pow2_pos k
  have e : v.toInt = (tn v : Int) ∨ v.toInt = (tn v : Int) - 2 ^ k * 2 ^ (32 - k) := by
    rw [← Int.pow_add, show k + (32 - k) = 32 by omega, ti_n]
    have := tn_lt v
    simp only [Int.bmod_def]
    omega
  have d : (2 : Int) ^ (32 - k) = 2 * 2 ^ (31 - k) := by rw [show 32 - k = (31 - k) + 1 by omega, Int.pow_succ, Int.mul_comm]
  have c : ((tn v / 2 ^ k % 2 : Nat) : Int) = (tn v : Int) / 2 ^ k % 2 := by push_cast; rfl
  rw [c]
  rcases e with e | e
  · rw [e]
  · rw [e, Int.sub_mul_ediv_left _ _ (by omega), d]
    omega
theorem bit_t (v : Int32) (k : Nat) (hk : k < 32) : bitF v (nI k) = nI (tn v / 2 ^ k % 2) := by
  refine Int32.toInt_inj.mp ?_
  rw [bit_i v k hk, tb v k hk]
  rcases Nat.mod_two_eq_zero_or_one (tn v / 2 ^ k) with h | h <;> rw [h] <;> rfl
theorem mod_bit (n W k : Nat) : n % 2 ^ W / 2 ^ k % 2 = if k < W then n / 2 ^ k % 2 else 0 := by
  have h := Nat.testBit_mod_two_pow n W k
  rw [← Nat.toNat_testBit, h, ← Nat.toNat_testBit]
  by_cases c : k < W
  · rw [if_pos c]; simp [c]
  · rw [if_neg c]; simp [c]
theorem pc_mod (n W : Nat) : ∀ k, W ≤ k → pcN k (n % 2 ^ W) = pcN W n := by
  have a : ∀ k, k ≤ W → pcN k (n % 2 ^ W) = pcN k n := by
    intro k
    induction k with
    | zero => exact fun _ => rfl
    | succ k ih => intro hk; rw [pcN, pcN, ih (by omega), mod_bit, if_pos (by omega)]
  intro k hk
  induction k with
  | zero => rw [show W = 0 by omega]; rfl
  | succ k ih =>
    rcases Nat.lt_or_ge k W with h | h
    · rw [show k + 1 = W by omega]; exact a W (Nat.le_refl _)
    · rw [pcN, ih h, mod_bit, if_neg (by omega), Nat.add_zero]
theorem nI_of_tn (x : Int32) : x = nI (tn x) := Int32.toBitVec_inj.mp (by
  show x.toBitVec = BitVec.ofNat 32 x.toBitVec.toNat
  simp)
theorem bits_n {W : Nat} (h : 4 ≤ W ∧ W ≤ 16) (v : Int32) : bitsF (nI W) v = nI (tn v % 2 ^ W) ∧ tn v % 2 ^ W < 65536 := by
  have k1 : ∀ W, W ≤ 16 → 4 ≤ W → (1 : Int32) <<< ((nI W) &&& 31) - 1 = nI (2 ^ W - 1) := by decide
  have p : 2 ^ W ≤ 65536 := Nat.pow_le_pow_right (show 2 > 0 by decide) h.2
  have q : tn v % 2 ^ W < 2 ^ W := Nat.mod_lt _ (Nat.pow_pos (by decide))
  refine ⟨?_, by omega⟩
  rw [bitsF, k1 W h.2 h.1, nI_of_tn (v &&& nI (2 ^ W - 1)), an_m v W (by omega)]
theorem nI_d2 (n : Nat) (h : n < 2 ^ 31) : nI n / 2 = nI (n / 2) := by
  refine Int32.toInt_inj.mp ?_
  have e1 : ∀ m : Nat, m < 2 ^ 31 → (nI m).toInt = m := fun m hm => by
    rw [ti_n]
    show ((BitVec.ofNat 32 m).toNat : Int).bmod (2 ^ 32) = m
    rw [BitVec.toNat_ofNat, Nat.mod_eq_of_lt (by omega), bm32 _ (by omega) (by omega)]
  rw [Int32.toInt_div, e1 n h, e1 (n / 2) (by omega), show (2 : Int32).toInt = 2 from rfl]
  rw [Int.tdiv_eq_ediv_of_nonneg (by omega), bm32 _ (by omega) (by omega)]
  omega
theorem cb_n {A B : Nat} (hA : A < 65536) (hB : B < 65536) : cbF (nI A) (nI B) = nI ((A ^^^ B ^^^ (A + B)) / 2) ∧ (A ^^^ B ^^^ (A + B)) < 2 ^ 17 := by
  have l1 : A ^^^ B ^^^ (A + B) < 2 ^ 17 := Nat.xor_lt_two_pow (Nat.xor_lt_two_pow (by omega) (by omega)) (by omega)
  refine ⟨?_, l1⟩
  have e : nI A ^^^ nI B ^^^ (nI A + nI B) = nI (A ^^^ B ^^^ (A + B)) := by
    refine Int32.toBitVec_inj.mp (BitVec.eq_of_toNat_eq ?_)
    rw [nI_add, Int32.toBitVec_xor, Int32.toBitVec_xor, BitVec.toNat_xor, BitVec.toNat_xor]
    show (BitVec.ofNat 32 A).toNat ^^^ (BitVec.ofNat 32 B).toNat ^^^ (BitVec.ofNat 32 (A + B)).toNat = (BitVec.ofNat 32 _).toNat
    rw [BitVec.toNat_ofNat, BitVec.toNat_ofNat, BitVec.toNat_ofNat, BitVec.toNat_ofNat, Nat.mod_eq_of_lt (by omega), Nat.mod_eq_of_lt (by omega), Nat.mod_eq_of_lt (by omega), Nat.mod_eq_of_lt (by omega)]
  have e1 : ∀ m : Nat, m < 2 ^ 31 → (nI m).toInt = m := fun m hm => by
    rw [ti_n]
    show ((BitVec.ofNat 32 m).toNat : Int).bmod (2 ^ 32) = m
    rw [BitVec.toNat_ofNat, Nat.mod_eq_of_lt (by omega), bm32 _ (by omega) (by omega)]
  refine Int32.toInt_inj.mp ?_
  have s := sh_r (nI (A ^^^ B ^^^ (A + B))) 1 (by decide)
  rw [show nI 1 = (1 : Int32) from rfl, show (2 : Int) ^ 1 = 2 from rfl, e1 _ (by omega)] at s
  rw [cbF, e, s, e1 _ (by omega)]
  omega
theorem mn4_n : ∀ c, c ≤ 4 → mn4 (nI c) = nI (min (c + 1) 4) := by decide
theorem nI_m1 {c : Nat} (h : 0 < c) : nI c - (1 : Int32) = nI (c - 1) := by
  rw [show c = (c - 1) + 1 by omega, ← nI_1, Int32.add_sub_cancel]; rfl
theorem nI_w1 {W : Nat} (h : 4 ≤ W) : nI (W - 1) = nI W - 1 := (nI_m1 (by omega)).symm
theorem nI_i {n : Nat} (h : n < 2 ^ 31) : (nI n).toInt = n := by
  rw [ti_n]
  show ((BitVec.ofNat 32 n).toNat : Int).bmod (2 ^ 32) = n
  rw [BitVec.toNat_ofNat, Nat.mod_eq_of_lt (by omega), bm32 _ (by omega) (by omega)]
