/-! ===== digits as whole numbers; both products; rows ===== -/
theorem dsh (d a : Int32) (k : Nat) (hk : k < 32) : ((d * a) <<< (nI k &&& 31)).toInt = (d.toInt * a.toInt * 2 ^ k).bmod (2 ^ 32) := by
  rw [sh_l _ _ (by omega)]
  have e : ∀ y : Int32, ((tn y * 2 ^ k : Nat) : Int).bmod (2 ^ 32) = (y.toInt * 2 ^ k).bmod (2 ^ 32) := fun y => by
    rw [ti_n y, Int.bmod_mul_bmod]
    congr 1
  rw [e, Int32.toInt_mul, Int.bmod_mul_bmod]
theorem m2b (x : Int) : 0 ≤ x % 2 ∧ x % 2 < 2 := by omega
theorem dg0 {v : Int32} (h : -32768 ≤ v.toInt ∧ v.toInt < 32768) (k : Nat) (hk : k < 17) : (digF v 0 (nI k)).toInt = (2 * v.toInt) / 2 ^ k % 2 - v.toInt / 2 ^ k % 2 := by
  rw [digF, if_pos rfl, nI_1, dbl_s h k (by omega)]
  have a := bit_i (v <<< (1 &&& 31)) k (by omega)
  have b := bit_i v k (by omega)
  rw [dbl_i h] at a
  have a1 := m2b (2 * v.toInt / 2 ^ k); have b1 := m2b (v.toInt / 2 ^ k)
  rw [sub_i (by rw [a, b]; omega), a, b]
theorem dg2 {v : Int32} (h : -32768 ≤ v.toInt ∧ v.toInt < 32768) (k : Nat) (hk : k < 17) : (digF v 2 (nI k)).toInt = (3 * v.toInt) / 2 ^ (k + 1) % 2 - v.toInt / 2 ^ (k + 1) % 2 := by
  rw [digF, if_neg (by decide), if_neg (by decide), nI_1]
  have a := bit_i ((3 : Int32) * v) (k + 1) (by omega)
  have b := bit_i v (k + 1) (by omega)
  rw [trp_i h] at a
  have a1 := m2b (3 * v.toInt / 2 ^ (k + 1)); have b1 := m2b (v.toInt / 2 ^ (k + 1))
  rw [sub_i (by rw [a, b]; omega), a, b]
theorem dg1 {v : Int32} (h : -32768 ≤ v.toInt ∧ v.toInt < 32768) (k : Nat) (hk : k < 8) : (digF v 1 (nI k)).toInt = (2 * v.toInt) / 2 ^ (2 * k) % 2 + (2 * v.toInt) / 2 ^ (2 * k + 1) % 2 - 2 * (v.toInt / 2 ^ (2 * k + 1) % 2) := by
  have e2 : (2 : Int32) * nI k = nI (2 * k) := pk_mul 2 k
  rw [digF, if_neg (by decide), if_pos rfl, e2, nI_1, show nI (2 * k) + 2 = nI (2 * k + 1 + 1) from nI_add (2 * k) 2, dbl_s h (2 * k + 1) (by omega)]
  have a := bit_i (v <<< (1 &&& 31)) (2 * k) (by omega)
  have b := bit_i (v <<< (1 &&& 31)) (2 * k + 1) (by omega)
  have c := bit_i v (2 * k + 1) (by omega)
  rw [dbl_i h] at a b
  have a1 := m2b (2 * v.toInt / 2 ^ (2 * k)); have b1 := m2b (2 * v.toInt / 2 ^ (2 * k + 1)); have c1 := m2b (v.toInt / 2 ^ (2 * k + 1))
  have t : ((2 : Int32) * bitF v (nI (2 * k + 1))).toInt = 2 * (v.toInt / 2 ^ (2 * k + 1) % 2) := by
    rw [mul_i (by rw [c, show (2 : Int32).toInt = 2 from rfl]; omega), c]; rfl
  have s : (bitF (v <<< (1 &&& 31)) (nI (2 * k)) + bitF (v <<< (1 &&& 31)) (nI (2 * k + 1))).toInt = (2 * v.toInt) / 2 ^ (2 * k) % 2 + (2 * v.toInt) / 2 ^ (2 * k + 1) % 2 := by
    rw [add_i (by rw [a, b]; omega), a, b]
  rw [sub_i (by rw [s, t]; omega), s, t]
theorem md_up (x : Int) (k : Nat) : x % 2 ^ (k + 1) = x % 2 ^ k + x / 2 ^ k % 2 * 2 ^ k := by rw [mod2_s, Int.mul_comm (2 ^ k)]
theorem bm_add (x y : Int) : (x.bmod (2 ^ 32) + y.bmod (2 ^ 32)).bmod (2 ^ 32) = (x + y).bmod (2 ^ 32) := by rw [Int.bmod_add_bmod, Int.add_bmod_bmod]
theorem pr0 {a v : Int32} (h : -32768 ≤ v.toInt ∧ v.toInt < 32768) : ∀ k, k ≤ 16 → (prF a v 0 k).toInt = (a.toInt * ((2 * v.toInt) % 2 ^ k - v.toInt % 2 ^ k)).bmod (2 ^ 32) := by
  intro k
  induction k with
  | zero => intro _; rw [prF, show (2 : Int) ^ 0 = 1 from rfl, Int.emod_one, Int.emod_one, Int.sub_self, Int.mul_zero]; rfl
  | succ k ih =>
    intro hk
    have e : nI k * bpdF 0 = nI k := by rw [show bpdF 0 = nI 1 from rfl, pk_mul, Nat.mul_one]
    rw [prF, e, Int32.toInt_add, ih (by omega), dsh _ _ _ (by omega), dg0 h k (by omega), bm_add, md_up, md_up]
    congr 1
    generalize (2 : Int) ^ k = P
    generalize (2 * v.toInt) / P % 2 = x
    generalize v.toInt / P % 2 = y
    generalize (2 * v.toInt) % P = m
    generalize v.toInt % P = n
    rw [show m + x * P - (n + y * P) = (m - n) + (x - y) * P by rw [Int.sub_mul]; omega, Int.mul_add, ← Int.mul_assoc, Int.mul_comm (x - y) a.toInt]
theorem pr1 {a v : Int32} (h : -32768 ≤ v.toInt ∧ v.toInt < 32768) : ∀ k, k ≤ 8 → (prF a v 1 k).toInt = (a.toInt * ((2 * v.toInt) % 2 ^ (2 * k) - v.toInt % 2 ^ (2 * k))).bmod (2 ^ 32) := by
  intro k
  induction k with
  | zero => intro _; rw [prF, show (2 : Int) ^ (2 * 0) = 1 from rfl, Int.emod_one, Int.emod_one, Int.sub_self, Int.mul_zero]; rfl
  | succ k ih =>
    intro hk
    have e : nI k * bpdF 1 = nI (2 * k) := by rw [show bpdF 1 = nI 2 from rfl, pk_mul, Nat.mul_comm]
    rw [prF, e, Int32.toInt_add, ih (by omega), dsh _ _ _ (by omega), dg1 h k (by omega), bm_add, show 2 * (k + 1) = 2 * k + 1 + 1 by omega, md_up, md_up (2 * v.toInt) (2 * k), md_up v.toInt (2 * k + 1), md_up v.toInt (2 * k)]
    congr 1
    have d : (2 * v.toInt) / 2 ^ (2 * k + 1) = v.toInt / 2 ^ (2 * k) := by
      rw [Int.pow_succ, Int.mul_comm (2 ^ (2 * k)) 2, Int.mul_ediv_mul_of_pos _ _ (by decide)]
    rw [d, Int.pow_succ (2 : Int) (2 * k)]
    generalize (2 : Int) ^ (2 * k) = P
    generalize (2 * v.toInt) / P % 2 = x
    generalize v.toInt / P % 2 = y
    generalize v.toInt / (P * 2) % 2 = z
    generalize (2 * v.toInt) % P = m
    generalize v.toInt % P = n
    have q : m + x * P + y * (P * 2) - (n + y * P + z * (P * 2)) = (m - n) + (x + y - 2 * z) * P := by
      rw [Int.sub_mul, Int.add_mul, ← Int.mul_assoc, ← Int.mul_assoc, Int.mul_assoc 2 z P]
      omega
    rw [q, Int.mul_add, ← Int.mul_assoc, Int.mul_comm (x + y - 2 * z) a.toInt]
theorem pr2 {a v : Int32} (h : -32768 ≤ v.toInt ∧ v.toInt < 32768) : ∀ k, k ≤ 16 → ∃ S : Int, 2 * S = (3 * v.toInt) % 2 ^ (k + 1) - v.toInt % 2 ^ (k + 1) ∧ (prF a v 2 k).toInt = (a.toInt * S).bmod (2 ^ 32) := by
  intro k
  induction k with
  | zero => intro _; exact ⟨0, by rw [show (2 : Int) ^ (0 + 1) = 2 from rfl]; omega, by rw [prF, Int.mul_zero]; rfl⟩
  | succ k ih =>
    intro hk
    obtain ⟨S, hS, hP⟩ := ih (by omega)
    have e : nI k * bpdF 2 = nI k := by rw [show bpdF 2 = nI 1 from rfl, pk_mul, Nat.mul_one]
    refine ⟨S + ((3 * v.toInt) / 2 ^ (k + 1) % 2 - v.toInt / 2 ^ (k + 1) % 2) * 2 ^ k, ?_, ?_⟩
    · rw [md_up _ (k + 1), md_up _ (k + 1), Int.mul_add, hS, Int.pow_succ (2 : Int) k]
      generalize (2 : Int) ^ k = P
      generalize (3 * v.toInt) / (P * 2) % 2 = x
      generalize v.toInt / (P * 2) % 2 = y
      rw [Int.sub_mul, ← Int.mul_assoc, ← Int.mul_assoc]
      omega
    · rw [prF, e, Int32.toInt_add, hP, dsh _ _ _ (by omega), dg2 h k (by omega), bm_add]
      congr 1
      rw [Int.mul_add, ← Int.mul_assoc, Int.mul_comm (_ - _) a.toInt]
theorem bal {W : Nat} (h : 4 ≤ W ∧ W ≤ 16) {v : Int32} (hv : inW W v) : (2 * v.toInt) % 2 ^ W - v.toInt % 2 ^ W = v.toInt ∧ (3 * v.toInt) % 2 ^ (W + 1) - v.toInt % 2 ^ (W + 1) = 2 * v.toInt := by
  rw [inW] at hv
  have p := pow2_pos (W - 1)
  have e1 : (2 : Int) ^ W = 2 * 2 ^ (W - 1) := by rw [show W = (W - 1) + 1 by omega, Int.pow_succ, Nat.add_sub_cancel, Int.mul_comm]
  have e2 : (2 : Int) ^ (W + 1) = 4 * 2 ^ (W - 1) := by rw [Int.pow_succ, e1]; omega
  rw [e1, e2]
  generalize (2 : Int) ^ (W - 1) = P at *
  generalize v.toInt = x at *
  rcases Int.lt_or_le x 0 with s | s
  · have a1 : (2 * x) % (2 * P) = 2 * x + 2 * P := by rw [← Int.add_emod_right, Int.emod_eq_of_lt (by omega) (by omega)]
    have a2 : x % (2 * P) = x + 2 * P := by rw [← Int.add_emod_right, Int.emod_eq_of_lt (by omega) (by omega)]
    have a3 : (3 * x) % (4 * P) = 3 * x + 4 * P := by rw [← Int.add_emod_right, Int.emod_eq_of_lt (by omega) (by omega)]
    have a4 : x % (4 * P) = x + 4 * P := by rw [← Int.add_emod_right, Int.emod_eq_of_lt (by omega) (by omega)]
    omega
  · have a1 : (2 * x) % (2 * P) = 2 * x := Int.emod_eq_of_lt (by omega) (by omega)
    have a2 : x % (2 * P) = x := Int.emod_eq_of_lt (by omega) (by omega)
    have a3 : (3 * x) % (4 * P) = 3 * x := Int.emod_eq_of_lt (by omega) (by omega)
    have a4 : x % (4 * P) = x := Int.emod_eq_of_lt (by omega) (by omega)
    omega
theorem pq0 {W : Nat} (h : 4 ≤ W ∧ W ≤ 16) (a : Int32) {v : Int32} (hv : inW W v) : prF a v 0 W = a * v :=
  Int32.toInt_inj.mp (by rw [pr0 (inW_b h.2 hv) W h.2, (bal h hv).1, Int32.toInt_mul])
theorem pq2 {W : Nat} (h : 4 ≤ W ∧ W ≤ 16) (a : Int32) {v : Int32} (hv : inW W v) : prF a v 2 W = a * v := by
  obtain ⟨S, hS, hP⟩ := pr2 (a := a) (inW_b h.2 hv) W h.2
  rw [(bal h hv).2] at hS
  refine Int32.toInt_inj.mp ?_
  rw [hP, show S = v.toInt by omega, Int32.toInt_mul]
theorem pq1 {W : Nat} (h : 4 ≤ W ∧ W ≤ 16) (h2 : W % 2 = 0) (a : Int32) {v : Int32} (hv : inW W v) : prF a v 1 (W / 2) = a * v := by
  refine Int32.toInt_inj.mp ?_
  rw [pr1 (inW_b h.2 hv) (W / 2) (by omega), show 2 * (W / 2) = W by omega, (bal h hv).1, Int32.toInt_mul]
/-- rows that are not 0, as a whole number -/
def nzF (v r : Int32) : Nat → Nat
  | 0 => 0
  | k + 1 => if digF v r (nI k) = 0 then nzF v r k else nzF v r k + 1
theorem rw_nz (v r : Int32) : ∀ k, rwF v r k = nI (nzF v r k)
  | 0 => rfl
  | k + 1 => by
    rw [rwF, nzF, rw_nz v r k]
    split
    · rfl
    · exact nI_1 _
theorem nz_le (v r : Int32) : ∀ k, nzF v r k ≤ k
  | 0 => Nat.le_refl _
  | k + 1 => by
    have := nz_le v r k
    rw [nzF]; split <;> omega
theorem car_k (x : Int) : ∀ k : Nat, 0 ≤ (3 * x) / 2 ^ k - (2 * x) / 2 ^ k / 2 - (2 * x) / 2 ^ k ∧ (3 * x) / 2 ^ k - (2 * x) / 2 ^ k / 2 - (2 * x) / 2 ^ k ≤ 1
  | 0 => by rw [show (2 : Int) ^ 0 = 1 from rfl, Int.ediv_one, Int.ediv_one]; omega
  | k + 1 => by
    have h := car_k x k
    rw [Int.pow_succ, ← Int.ediv_ediv_of_nonneg (Int.le_of_lt (pow2_pos k)), ← Int.ediv_ediv_of_nonneg (Int.le_of_lt (pow2_pos k))]
    generalize (3 * x) / 2 ^ k = t at *
    generalize (2 * x) / 2 ^ k = u at *
    omega
theorem hv2 (x : Int) (k : Nat) : x / 2 ^ k = (2 * x) / 2 ^ k / 2 := by
  rw [Int.ediv_ediv_of_nonneg (Int.le_of_lt (pow2_pos k)), Int.mul_comm (2 ^ k) 2, Int.mul_ediv_mul_of_pos _ _ (by decide)]
theorem i0 {d : Int32} : d = 0 ↔ d.toInt = 0 := ⟨fun h => by rw [h]; rfl, fun h => Int32.toInt_inj.mp h⟩
theorem nz_02 {v : Int32} (h : -32768 ≤ v.toInt ∧ v.toInt < 32768) : ∀ k, k ≤ 16 → nzF v 2 k ≤ nzF v 0 k := by
  intro k
  induction k with
  | zero => intro _; exact Nat.le_refl _
  | succ k ih =>
    intro hk
    have g := ih (by omega)
    have a := dg0 h k (by omega); have b := dg2 h k (by omega)
    have c := car_k v.toInt k
    rw [hv2 v.toInt k] at a
    rw [Int.pow_succ, ← Int.ediv_ediv_of_nonneg (Int.le_of_lt (pow2_pos k)), ← Int.ediv_ediv_of_nonneg (Int.le_of_lt (pow2_pos k)), hv2 v.toInt k] at b
    rw [nzF, nzF]
    have a' := @i0 (digF v 0 (nI k)); have b' := @i0 (digF v 2 (nI k))
    rw [a] at a'; rw [b] at b'
    generalize (3 * v.toInt) / 2 ^ k = t at *
    generalize (2 * v.toInt) / 2 ^ k = u at *
    split
    · split <;> omega
    · rename_i n2
      have n2' := mt b'.mpr n2
      rw [if_neg (fun q => n2' (by have := a'.mp q; omega))]
      omega
theorem nz_1s {v : Int32} (h : -32768 ≤ v.toInt ∧ v.toInt < 32768) : ∀ k, k ≤ 16 → nzF v 2 k + (if (2 * v.toInt) / 2 ^ k % 2 = 1 ∧ (3 * v.toInt) / 2 ^ k - (2 * v.toInt) / 2 ^ k / 2 - (2 * v.toInt) / 2 ^ k = 1 then 1 else 0) ≤ pcN k (tn v) := by
  intro k
  induction k with
  | zero =>
    intro _
    rw [show (2 : Int) ^ 0 = 1 from rfl, Int.ediv_one, Int.ediv_one, if_neg (by omega)]
    exact Nat.le_refl _
  | succ k ih =>
    intro hk
    have g := ih (by omega)
    have b := dg2 h k (by omega)
    have c := car_k v.toInt k
    have o := tb v k (by omega)
    rw [hv2 v.toInt k] at o
    rw [Int.pow_succ, ← Int.ediv_ediv_of_nonneg (Int.le_of_lt (pow2_pos k)), ← Int.ediv_ediv_of_nonneg (Int.le_of_lt (pow2_pos k))] at b ⊢
    rw [hv2 v.toInt k] at b
    rw [nzF, pcN]
    have b' := @i0 (digF v 2 (nI k))
    rw [b] at b'
    generalize (3 * v.toInt) / 2 ^ k = t at *
    generalize (2 * v.toInt) / 2 ^ k = u at *
    generalize tn v / 2 ^ k % 2 = e at *
    generalize pcN k (tn v) = s at *
    have c' : t / 2 - u / 2 / 2 - u / 2 = 0 ∨ t / 2 - u / 2 / 2 - u / 2 = 1 := by omega
    have c0 : t - u / 2 - u = 0 ∨ t - u / 2 - u = 1 := by omega
    by_cases z : digF v 2 (nI k) = 0
    · have z' := b'.mp z
      rw [if_pos z]
      by_cases q1 : u % 2 = 1 ∧ t - u / 2 - u = 1
      · rw [if_pos q1] at g
        by_cases q2 : u / 2 % 2 = 1 ∧ t / 2 - u / 2 / 2 - u / 2 = 1
        · rw [if_pos q2]; rcases c' with c' | c' <;> rcases c0 with c0 | c0 <;> omega
        · rw [if_neg q2]; rcases c' with c' | c' <;> rcases c0 with c0 | c0 <;> omega
      · rw [if_neg q1] at g
        by_cases q2 : u / 2 % 2 = 1 ∧ t / 2 - u / 2 / 2 - u / 2 = 1
        · rw [if_pos q2]; rcases c' with c' | c' <;> rcases c0 with c0 | c0 <;> omega
        · rw [if_neg q2]; rcases c' with c' | c' <;> rcases c0 with c0 | c0 <;> omega
    · have z' := mt b'.mpr z
      rw [if_neg z]
      by_cases q1 : u % 2 = 1 ∧ t - u / 2 - u = 1
      · rw [if_pos q1] at g
        by_cases q2 : u / 2 % 2 = 1 ∧ t / 2 - u / 2 / 2 - u / 2 = 1
        · rw [if_pos q2]; rcases c' with c' | c' <;> rcases c0 with c0 | c0 <;> omega
        · rw [if_neg q2]; rcases c' with c' | c' <;> rcases c0 with c0 | c0 <;> omega
      · rw [if_neg q1] at g
        by_cases q2 : u / 2 % 2 = 1 ∧ t / 2 - u / 2 / 2 - u / 2 = 1
        · rw [if_pos q2]; rcases c' with c' | c' <;> rcases c0 with c0 | c0 <;> omega
        · rw [if_neg q2]; rcases c' with c' | c' <;> rcases c0 with c0 | c0 <;> omega
theorem nz_on {v : Int32} (h : -32768 ≤ v.toInt ∧ v.toInt < 32768) (k : Nat) (hk : k ≤ 16) : nzF v 2 k ≤ pcN k (tn v) := by
  have := nz_1s h k hk
  omega
