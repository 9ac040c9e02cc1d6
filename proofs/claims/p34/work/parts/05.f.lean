/-! ===== words of the law's own ===== -/
def lowF (v n : Int32) : Int32 := (v &&& 2147483647) - (v &&& 2147483647) / n * n
/-- a width, and values of it -/
def jW (W : Nat) (w : Int32) (f : Nat → Int32) : Prop := (4 ≤ W ∧ W ≤ 16) ∧ w = nI W ∧ ∀ j, j < 6 → inW W (f j)
theorem jW_v {W : Nat} {w : Int32} {f : Nat → Int32} (h : jW W w f) (r : Int32) : inW W (valF f r) := by
  rw [valF]
  split
  · exact h.2.2 _ (reg_j (by assumption))
  · have p := pow2_pos (W - 1)
    show -(2 ^ (W - 1) : Int) ≤ 0 ∧ (0 : Int) < 2 ^ (W - 1)
    exact ⟨by omega, p⟩
theorem jW_w {W : Nat} {w : Int32} {f : Nat → Int32} (h : jW W w f) : w - 1 = nI (W - 1) := by rw [h.2.1]; exact nI_m1 (c := W) (by have := h.1; omega)
theorem q_bits {W : Nat} {w : Int32} {f : Nat → Int32} (h : jW W w f) (p q : Int32) : pbF (valF f p) (valF f q) (W - 1) - (bitF (valF f q) (w - 1) * valF f p) <<< ((w - 1) &&& 31) = valF f p * valF f q := by
  rw [jW_w h]
  exact pb_eq h.1 (inW_b h.1.2 (jW_v h p)) (jW_v h q)
/-- how many places carry -/
def crN (W : Nat) (A B : Int32) : Nat := pcN W (tn (cbF (bitsF (nI W) A) (bitsF (nI W) B)))
def lrN (W : Nat) (A B : Int32) : Nat := tn (lrF (cbF (bitsF (nI W) A) (bitsF (nI W) B)) W).2
theorem cr_c (W : Nat) (A B : Int32) : crN W A B = crN W B A := by
  have e : ∀ x y : Int32, cbF x y = cbF y x := fun x y => by rw [cbF, cbF, Int32.xor_comm x y, Int32.add_comm x y]
  rw [crN, crN, e]
theorem pc_leW (n : Nat) : ∀ k, pcN k n ≤ k
  | 0 => Nat.le_refl _
  | k + 1 => by have := pc_leW n k; rw [pcN]; omega
theorem cr_le (W : Nat) (A B : Int32) : crN W A B ≤ W := pc_leW _ _
theorem tn_nI {n : Nat} (h : n < 4294967296) : tn (nI n) = n := by
  show (BitVec.ofNat 32 n).toNat = n
  rw [BitVec.toNat_ofNat, Nat.mod_eq_of_lt (by omega)]
theorem cb_X {W : Nat} (h : 4 ≤ W ∧ W ≤ 16) (a b : Int32) : ∃ X, X < 2 ^ W ∧ X < 65536 ∧ cbF (bitsF (nI W) a) (bitsF (nI W) b) = nI X := by
  obtain ⟨e1, l1⟩ := bits_n h a
  obtain ⟨e2, l2⟩ := bits_n h b
  have q1 : tn a % 2 ^ W < 2 ^ W := Nat.mod_lt _ (Nat.pow_pos (by decide))
  have q2 : tn b % 2 ^ W < 2 ^ W := Nat.mod_lt _ (Nat.pow_pos (by decide))
  have p : 2 ^ W ≤ 65536 := Nat.pow_le_pow_right (show 2 > 0 by decide) h.2
  have x := cb_n l1 l2
  have y : tn a % 2 ^ W ^^^ tn b % 2 ^ W ^^^ (tn a % 2 ^ W + tn b % 2 ^ W) < 2 ^ (W + 1) :=
    Nat.xor_lt_two_pow (Nat.xor_lt_two_pow (by rw [Nat.pow_succ]; omega) (by rw [Nat.pow_succ]; omega)) (by rw [Nat.pow_succ]; omega)
  rw [Nat.pow_succ] at y
  exact ⟨(tn a % 2 ^ W ^^^ tn b % 2 ^ W ^^^ (tn a % 2 ^ W + tn b % 2 ^ W)) / 2, by omega, by omega, by rw [e1, e2]; exact x.1⟩
theorem q_car {W : Nat} {w : Int32} {f : Nat → Int32} (h : jW W w f) (p q : Int32) : bcF (cbF (bitsF w (valF f p)) (bitsF w (valF f q))) = nI (crN W (valF f p) (valF f q)) := by
  obtain ⟨X, h1, h2, h3⟩ := cb_X h.1 (valF f p) (valF f q)
  rw [h.2.1, crN, h3, tn_nI (by omega), pc_all X h2]
  congr 1
  rw [← pc_mod X W 16 h.1.2, Nat.mod_eq_of_lt h1]
theorem lr_all {X : Nat} (hX : X < 65536) : ∀ k, k ≤ 16 → ∃ r m : Nat, (lrF (nI X) k).1 = nI r ∧ (lrF (nI X) k).2 = nI m ∧ r ≤ m ∧ m ≤ pcN k X ∧ (m = 0 ↔ pcN k X = 0) ∧ m ≤ 16 ∧ r ≤ k ∧ m ≤ k := by
  intro k
  induction k with
  | zero => intro _; exact ⟨0, 0, rfl, rfl, Nat.le_refl _, Nat.le_refl _, Iff.rfl, by decide, Nat.le_refl _, Nat.le_refl _⟩
  | succ k ih =>
    intro hk
    obtain ⟨r, m, h1, h2, h3, h4, h5, h6, h7, h8⟩ := ih (by omega)
    have hb : bitF (nI X) (nI k) = nI (X / 2 ^ k % 2) := by rw [bit_t _ _ (by omega), tn_nI (by omega)]
    rw [lrF, pcN]
    dsimp only
    rw [h1, h2, hb]
    have he2 : X / 2 ^ k % 2 < 2 := Nat.mod_lt _ (by decide)
    generalize X / 2 ^ k % 2 = e at *
    by_cases he : e % 2 = 1 ∧ e = 1
    · obtain ⟨_, rfl⟩ := he
      rw [if_pos (show nI 1 = 1 from rfl), nI_1]
      by_cases hl : m < r + 1
      · rw [if_pos ((nI_ltI (by omega) (by omega)).mpr hl)]
        exact ⟨r + 1, r + 1, rfl, rfl, Nat.le_refl _, by omega, by omega, by omega, by omega, by omega⟩
      · rw [if_neg (fun q => hl ((nI_ltI (by omega) (by omega)).mp q))]
        exact ⟨r + 1, m, rfl, rfl, by omega, by omega, by omega, by omega, by omega, by omega⟩
    · have e0 : e = 0 ∨ 2 ≤ e ∨ e = 1 := by omega
      by_cases e1 : e = 0
      · subst e1
        rw [if_neg (show ¬ nI 0 = 1 by decide), if_neg (show ¬ nI m < (0 : Int32) from fun q => absurd ((nI_ltI (a := m) (b := 0) (by omega) (by omega)).mp q) (by omega))]
        exact ⟨0, m, rfl, rfl, by omega, by omega, by omega, by omega, by omega, by omega⟩
      · exact absurd he (by omega)
theorem lr_cr {W : Nat} (h : 4 ≤ W ∧ W ≤ 16) (A B : Int32) : (lrF (cbF (bitsF (nI W) A) (bitsF (nI W) B)) W).2 = nI (lrN W A B) ∧ lrN W A B ≤ crN W A B ∧ (lrN W A B = 0 ↔ crN W A B = 0) := by
  obtain ⟨X, h1, h2, h3⟩ := cb_X h A B
  obtain ⟨r, m, e1, e2, e3, e4, e5, e6, -, -⟩ := lr_all h2 W h.2
  rw [lrN, crN, h3, e2, tn_nI (by omega), tn_nI (by omega)]
  exact ⟨rfl, e4, e5⟩
theorem q_run {W : Nat} {w : Int32} {f : Nat → Int32} (h : jW W w f) (p q : Int32) : (lrF (cbF (bitsF w (valF f p)) (bitsF w (valF f q))) W).2 = nI (lrN W (valF f p) (valF f q)) := by
  rw [h.2.1]; exact (lr_cr h.1 _ _).1
theorem q_ones {W : Nat} {w : Int32} {f : Nat → Int32} (h : jW W w f) (p : Int32) : bcF (bitsF w (valF f p)) = nI (pcN W (tn (valF f p))) := by
  obtain ⟨e1, l1⟩ := bits_n h.1 (valF f p)
  rw [h.2.1, e1, pc_all _ l1, pc_mod _ _ _ h.1.2]
