def pv (n : Nat) : Nat := n + 4294967295
def fmq (n : Nat) : Int32 := nI n - nI n / 4 * 4
theorem nI_ti (n : Nat) : (nI n).toInt = (n : Int).bmod (2 ^ 32) := by
  unfold nI
  rw [Int32.toInt_ofNat']
theorem nI_pv (n : Nat) : nI n - 1 = nI (pv n) := by
  refine Int32.toInt_inj.mp ?_
  rw [Int32.toInt_sub, nI_ti, nI_ti, show (1 : Int32).toInt = 1 from rfl]
  unfold pv
  rw [Int.bmod_def, Int.bmod_def, Int.bmod_def]
  omega
theorem fmq_i (n : Nat) : (fmq n).toInt = ((nI n).toInt - 4 * ((nI n).toInt.tdiv 4)) := by
  unfold fmq
  have h1 : -2147483648 ≤ (nI n).toInt := Int32.le_toInt _
  have h2 : (nI n).toInt < 2147483648 := Int32.toInt_lt _
  rw [Int32.toInt_sub, Int32.toInt_mul, Int32.toInt_div, show (4 : Int32).toInt = 4 from rfl]
  generalize (nI n).toInt = x at h1 h2
  rw [Int.tdiv_eq_ediv]
  simp only [Int.bmod_def]
  rw [show Int.sign 4 = 1 from rfl]
  split
  · simp only [Int.add_zero]; repeat' split
    all_goals omega
  · repeat' split
    all_goals omega
theorem nI_m4 (n : Nat) : ((nI n).toInt % 4).toNat = n % 4 := by
  rw [nI_ti, Int.bmod_def]; omega
theorem x4_i (x : Int32) : 0 ≤ (x ^^^ 4) ↔ 0 ≤ x.toInt := by
  rw [Int32.le_iff_toInt_le, show (0 : Int32).toInt = 0 from rfl, ← Int32.toInt_toBitVec, ← Int32.toInt_toBitVec, Int32.toBitVec_xor]
  have a : ∀ y : BitVec 32, 0 ≤ y.toInt ↔ y.msb = false := fun y => by
    rw [BitVec.msb_eq_toInt]; simp
  rw [a, a, BitVec.msb_xor]
  rw [show ((4 : Int32).toBitVec).msb = false from rfl]
  simp
theorem fmq_a {n : Nat} (h : 0 ≤ (nI n ^^^ 4)) : fmq n = nI (n % 4) := by
  have h0 := (x4_i _).mp h
  refine Int32.toInt_inj.mp ?_
  have m := nI_m4 n
  rw [fmq_i, nI_ti (n % 4)]
  have h2 : (nI n).toInt < 2147483648 := Int32.toInt_lt _
  generalize (nI n).toInt = x at *
  rw [Int.tdiv_eq_ediv_of_nonneg h0, Int.bmod_def]
  omega
theorem fmq_b {n : Nat} (h : fmq n = 0) : fmq n = nI (n % 4) := by
  rw [h]
  refine Int32.toInt_inj.mp ?_
  have m := nI_m4 n
  have e := fmq_i n
  rw [h, show (0 : Int32).toInt = 0 from rfl] at e
  rw [nI_ti (n % 4), show (0 : Int32).toInt = 0 from rfl, Int.bmod_def]
  generalize (nI n).toInt = x at *
  omega
theorem fmq_c {n : Nat} (h : ¬ 0 ≤ (nI n ^^^ 4)) (h2 : ¬ fmq n = 0) : fmq n + 4 = nI (n % 4) := by
  have h0 : (nI n).toInt < 0 := Int.not_le.mp (fun q => h ((x4_i _).mpr q))
  refine Int32.toInt_inj.mp ?_
  have m := nI_m4 n
  have h3 : (fmq n).toInt ≠ 0 := fun q => h2 (Int32.toInt_inj.mp q)
  have h1 : -2147483648 ≤ (nI n).toInt := Int32.le_toInt _
  rw [Int32.toInt_add, show (4 : Int32).toInt = 4 from rfl, fmq_i, nI_ti (n % 4)]
  rw [fmq_i] at h3
  generalize (nI n).toInt = x at *
  rw [Int.tdiv_eq_ediv] at *
  split at h3
  · rename_i h9
    rcases h9 with h9 | h9 <;> simp only [Int.bmod_def] <;> omega
  · rename_i h9
    rw [if_neg h9]
    simp only [Int.bmod_def, show Int.sign 4 = 1 from rfl] at *
    omega
