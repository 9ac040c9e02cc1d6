def pcN : Nat → Nat → Nat
  | 0, _ => 0
  | k + 1, n => pcN k n + n / 2 ^ k % 2
theorem pc_hl : ∀ h, h < 256 → ∀ l, l < 256 → bcF (nI (h * 256 + l)) = nI (pcN 16 (h * 256 + l)) := by decide +kernel
