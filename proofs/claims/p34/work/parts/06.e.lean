/-! ===== what holds between two turns of the law ===== -/
theorem wv_iff {W : Nat} (h : 4 ≤ W ∧ W ≤ 16) (v : Int32) : wrapF (nI W) v = v ↔ inW W v := by
  have hv := tn_lt v
  constructor
  · intro e
    rw [← e]
    exact wr_rng h.1 h.2 v
  · intro e2
    refine Int32.toInt_inj.mp ?_
    rw [inW] at e2
    rw [wr_i h.1 h.2]
    rw [ti_n] at e2 ⊢
    rcases W13 h.1 h.2 with rfl | rfl | rfl | rfl | rfl | rfl | rfl | rfl | rfl | rfl | rfl | rfl | rfl <;>
    · simp only [Int.bmod_def] at e2 ⊢
      omega
theorem half_i : ∀ W, W ≤ 16 → 4 ≤ W → ((1 : Int32) <<< ((nI W - (1 : Int32)) &&& 31)) = nI (2 ^ (W - 1)) ∧ ((2 : Int32) * ((1 : Int32) <<< ((nI W - (1 : Int32)) &&& 31))) = nI (2 ^ W) ∧ (-((1 : Int32) <<< ((nI W - (1 : Int32)) &&& 31))).toInt = -(2 ^ (W - 1)) ∧ ((1 : Int32) <<< ((nI W - (1 : Int32)) &&& 31)).toInt = 2 ^ (W - 1) ∧ (2 : Nat) ^ W = 2 * 2 ^ (W - 1) ∧ 2 ^ W ≤ 65536 := by decide
theorem lowF_n (v : Int32) {m : Nat} (h0 : 0 < m) (h : m < 2 ^ 31) : ∃ q, q < m ∧ lowF v (nI m) = nI q := by
  have a := an_i v 31 (by decide)
  have ek : (2147483647 : Int32) = nI (2 ^ 31 - 1) := by decide
  refine ⟨(tn v % 2 ^ 31) % m, Nat.mod_lt _ h0, Int32.toInt_inj.mp ?_⟩
  have hA : tn v % 2 ^ 31 < 2 ^ 31 := Nat.mod_lt _ (by decide)
  rw [lowF, ek]
  generalize v &&& nI (2 ^ 31 - 1) = y at *
  generalize tn v % 2 ^ 31 = A at *
  have hr : A % m < m := Nat.mod_lt _ h0
  have hd := Nat.div_add_mod A m
  have hq : A / m ≤ A := Nat.div_le_self _ _
  have hp : A / m * m ≤ A := Nat.div_mul_le_self _ _
  rw [Nat.mul_comm] at hd
  have b1 : ((A / m : Nat) : Int).bmod (2 ^ 32) = ((A / m : Nat) : Int) := by
    generalize A / m = P at hq ⊢
    exact bm32 _ (by omega) (by omega)
  have b2 : ((A / m * m : Nat) : Int).bmod (2 ^ 32) = ((A / m * m : Nat) : Int) := by
    generalize A / m * m = P at hp ⊢
    exact bm32 _ (by omega) (by omega)
  have b3 : (A : Int) - ((A / m * m : Nat) : Int) = ((A % m : Nat) : Int) := by
    generalize A / m * m = P at hd ⊢
    generalize A % m = R at hd ⊢
    omega
  rw [Int32.toInt_sub, Int32.toInt_mul, Int32.toInt_div, a, nI_i h, nI_i (by omega), Int.tdiv_eq_ediv_of_nonneg (by omega), ← Int.natCast_ediv, b1, ← Int.natCast_mul, b2, b3]
  generalize A % m = R at hr ⊢
  exact bm32 _ (by omega) (by omega)
theorem reg_low (v : Int32) : isReg (lowF v 6) := by
  obtain ⟨q, hq, e⟩ := lowF_n v (m := 6) (by decide) (by decide)
  rw [show (6 : Int32) = nI 6 from rfl, e]
  rcases (show q = 0 ∨ q = 1 ∨ q = 2 ∨ q = 3 ∨ q = 4 ∨ q = 5 by omega) with rfl | rfl | rfl | rfl | rfl | rfl <;> decide
theorem w13_low (v : Int32) : ∃ V, (4 ≤ V ∧ V ≤ 16) ∧ (4 : Int32) + lowF v 13 = nI V := by
  obtain ⟨q, hq, e⟩ := lowF_n v (m := 13) (by decide) (by decide)
  exact ⟨4 + q, by omega, by rw [show (13 : Int32) = nI 13 from rfl, e]; exact nI_add 4 q⟩
theorem set_low {W : Nat} (h : 4 ≤ W ∧ W ≤ 16) (v : Int32) : inW W (lowF v ((2 : Int32) * ((1 : Int32) <<< ((nI W - (1 : Int32)) &&& 31))) - ((1 : Int32) <<< ((nI W - (1 : Int32)) &&& 31))) := by
  obtain ⟨e1, e2, -, -, e5, e6⟩ := half_i W h.2 h.1
  have p : 0 < 2 ^ W := Nat.pow_pos (by decide)
  obtain ⟨q, hq, e⟩ := lowF_n v (m := 2 ^ W) p (by omega)
  rw [e2, e1, e]
  have t : (nI q - nI (2 ^ (W - 1))).toInt = (q : Int) - ((2 ^ (W - 1) : Nat) : Int) := by
    rw [sub_i (by rw [nI_i (by omega), nI_i (by omega)]; omega), nI_i (by omega), nI_i (by omega)]
  rw [inW, t]
  have c : ((2 ^ (W - 1) : Nat) : Int) = 2 ^ (W - 1) := by simp
  rw [← c]
  omega
theorem b01 (v p : Int32) : bitF v p = 0 ∨ bitF v p = 1 := by
  have h := and1_i (v >>> (p &&& 31))
  rw [bitF]
  generalize (v >>> (p &&& 31)) &&& 1 = y at *
  rcases (show y.toInt = 0 ∨ y.toInt = 1 by omega) with q | q
  · exact Or.inl (Int32.toInt_inj.mp q)
  · exact Or.inr (Int32.toInt_inj.mp q)
theorem or_n {a b : Nat} (ha : a < 2 ^ 31) (hb : b < 2 ^ 31) : nI a ||| nI b = nI (a ||| b) := by
  have hc : a ||| b < 2 ^ 31 := Nat.or_lt_two_pow ha hb
  refine Int32.toBitVec_inj.mp (BitVec.eq_of_toNat_eq ?_)
  rw [Int32.toBitVec_or, BitVec.toNat_or]
  show (BitVec.ofNat 32 a).toNat ||| (BitVec.ofNat 32 b).toNat = (BitVec.ofNat 32 _).toNat
  rw [BitVec.toNat_ofNat, BitVec.toNat_ofNat, BitVec.toNat_ofNat, Nat.mod_eq_of_lt (by omega), Nat.mod_eq_of_lt (by omega), Nat.mod_eq_of_lt (by omega)]
theorem shr_n {l k : Nat} (hl : l < 2 ^ 31) (hk : k < 32) : nI l >>> (nI k &&& 31) = nI (l / 2 ^ k) := by
  refine Int32.toInt_inj.mp ?_
  have : l / 2 ^ k ≤ l := Nat.div_le_self _ _
  rw [sh_r _ _ hk, nI_i hl, nI_i (by omega)]
  simp
theorem shl_n {l k : Nat} (hk : k < 32) (hl : l * 2 ^ k < 2 ^ 31) : nI l <<< (nI k &&& 31) = nI (l * 2 ^ k) := by
  refine Int32.toInt_inj.mp ?_
  have : l ≤ l * 2 ^ k := Nat.le_mul_of_pos_right _ (Nat.pow_pos (by decide))
  rw [sh_l _ _ hk, tn_nI (by omega), nI_i hl, bm32 _ (by omega) (by omega)]
theorem and_n (H : Int32) {k : Nat} (hk : k < 31) : H &&& nI (2 ^ k - 1) = nI (tn H % 2 ^ k) := by
  have p : 2 ^ k ≤ 2 ^ 30 := Nat.pow_le_pow_right (by decide) (by omega)
  have q : tn H % 2 ^ k < 2 ^ k := Nat.mod_lt _ (Nat.pow_pos (by decide))
  exact Int32.toInt_inj.mp (by rw [an_i H k (by omega), nI_i (by omega)])
theorem lo_k {W : Nat} (h : 4 ≤ W ∧ W ≤ 16) {k : Nat} (hk : k = 1 ∨ k = 2) {l : Nat} (hl : l < 2 ^ W) (H : Int32) :
    ∃ l', ((nI l >>> (nI k &&& 31)) ||| ((H &&& nI (2 ^ k - 1)) <<< ((nI W - nI k) &&& 31))) = nI l' ∧ l' < 2 ^ W := by
  have p : 2 ^ W ≤ 65536 := Nat.pow_le_pow_right (show 2 > 0 by decide) h.2
  have e : nI W - nI k = nI (W - k) := by
    rcases W13 h.1 h.2 with rfl | rfl | rfl | rfl | rfl | rfl | rfl | rfl | rfl | rfl | rfl | rfl | rfl <;> rcases hk with rfl | rfl <;> decide
  have q : tn H % 2 ^ k < 2 ^ k := Nat.mod_lt _ (Nat.pow_pos (by decide))
  have m : 2 ^ k * 2 ^ (W - k) = 2 ^ W := by rw [← Nat.pow_add]; congr 1; omega
  have r : tn H % 2 ^ k * 2 ^ (W - k) < 2 ^ W := by
    rw [← m]; exact Nat.mul_lt_mul_of_pos_right q (Nat.pow_pos (by decide))
  have d : l / 2 ^ k ≤ l := Nat.div_le_self _ _
  rw [shr_n (by omega) (by omega), and_n H (by omega), e, shl_n (by omega) (by omega), or_n (by omega) (by omega)]
  exact ⟨_, rfl, Nat.or_lt_two_pow (by omega) r⟩
theorem lo_i {W : Nat} (h : 4 ≤ W ∧ W ≤ 16) {bp : Int32} (hb : bp = 1 ∨ bp = 2) {l : Nat} (hl : l < 2 ^ W) (mc hi ex : Int32) : ∃ l', loF bp (nI W) mc hi (nI l) ex = nI l' ∧ l' < 2 ^ W := by
  rw [loF]
  rcases hb with rfl | rfl
  · exact lo_k h (k := 1) (Or.inl rfl) hl _
  · exact lo_k h (k := 2) (Or.inr rfl) hl _
/-- the state of a multiplication, where there is one -/
def jMul (W : Nat) (x : Nat → Int32) : Prop := ∃ N l : Nat, x 3 = nI N ∧ N ≤ 16 ∧ (x 4 = 1 ∨ x 4 = 2) ∧ x 5 = nI W ∧ x 8 = nI l ∧ l < 2 ^ W ∧ (x 9 = 0 ∨ x 9 = 1)
def jInv (W : Nat) (f x : Nat → Int32) : Prop := jW W (x 0) f ∧ (x 3 = -1 ∨ jMul W x)
theorem put_in {W : Nat} {f : Nat → Int32} (hf : ∀ j, j < 6 → inW W (f j)) {r v : Int32} (hv : inW W v) : ∀ j, j < 6 → inW W (putF f r v j) := by
  intro j hj
  rw [putF]
  split
  · rw [upd]
    split
    · exact hv
    · exact hf j hj
  · exact hf j hj
theorem fin_in {W : Nat} (h : 4 ≤ W ∧ W ≤ 16) {bp : Int32} (hb : bp = 1 ∨ bp = 2) (mc hi : Int32) {l : Nat} (hl : l < 2 ^ W) {ex : Int32} (he : ex = 0 ∨ ex = 1) : ∀ k, ∃ l', (stF bp (nI W) mc hi (nI l) ex k).2.1 = nI l' ∧ l' < 2 ^ W ∧ ((stF bp (nI W) mc hi (nI l) ex k).2.2 = 0 ∨ (stF bp (nI W) mc hi (nI l) ex k).2.2 = 1)
  | 0 => ⟨l, rfl, hl, he⟩
  | k + 1 => by
    obtain ⟨l', e1, h1, -⟩ := fin_in h hb mc hi hl he k
    rw [stF]
    dsimp only
    rw [e1]
    obtain ⟨l2, e2, h2⟩ := lo_i h hb h1 mc (stF bp (nI W) mc hi (nI l) ex k).1 (stF bp (nI W) mc hi (nI l) ex k).2.2
    exact ⟨l2, e2, h2, b01 _ _⟩
theorem nm1 {N : Nat} (h : N ≤ 16) : (¬ nI N = -1) ∧ (0 < nI N → 0 < N) ∧ ¬ nI N < -1 ∧ ¬ 16 < nI N ∧ 0 ≤ nI N ∧ ¬ nI N < 0 := by
  have k : ∀ N, N ≤ 16 → (¬ nI N = -1) ∧ (0 < nI N → 0 < N) ∧ ¬ nI N < -1 ∧ ¬ 16 < nI N ∧ 0 ≤ nI N ∧ ¬ nI N < 0 := by decide
  exact k N h
theorem and15 (v : Int32) : ∃ k, k < 16 ∧ v &&& 15 = nI k := ⟨tn v % 2 ^ 4, Nat.mod_lt _ (by decide), and_n v (k := 4) (by decide)⟩
theorem and1 (v : Int32) : v &&& 1 = 0 ∨ v &&& 1 = 1 := by
  have h := and_n v (k := 1) (by decide)
  rw [show nI (2 ^ 1 - 1) = 1 from rfl] at h
  rw [h]
  rcases (show tn v % 2 ^ 1 = 0 ∨ tn v % 2 ^ 1 = 1 by omega) with q | q
  · rw [q]; exact Or.inl rfl
  · rw [q]; exact Or.inr rfl
