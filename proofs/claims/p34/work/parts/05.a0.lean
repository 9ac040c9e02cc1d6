def pcN : Nat → Nat → Nat
  | 0, _ => 0
  | k + 1, n => pcN k n + n / 2 ^ k % 2
theorem pc_h0 : ∀ h, h < 32 → ∀ l, l < 256 → bcF (nI ((h + 0) * 256 + l)) = nI (pcN 16 ((h + 0) * 256 + l)) := by decide +kernel
theorem pc_h1 : ∀ h, h < 32 → ∀ l, l < 256 → bcF (nI ((h + 32) * 256 + l)) = nI (pcN 16 ((h + 32) * 256 + l)) := by decide +kernel
theorem pc_h2 : ∀ h, h < 32 → ∀ l, l < 256 → bcF (nI ((h + 64) * 256 + l)) = nI (pcN 16 ((h + 64) * 256 + l)) := by decide +kernel
theorem pc_h3 : ∀ h, h < 32 → ∀ l, l < 256 → bcF (nI ((h + 96) * 256 + l)) = nI (pcN 16 ((h + 96) * 256 + l)) := by decide +kernel
theorem pc_h4 : ∀ h, h < 32 → ∀ l, l < 256 → bcF (nI ((h + 128) * 256 + l)) = nI (pcN 16 ((h + 128) * 256 + l)) := by decide +kernel
theorem pc_h5 : ∀ h, h < 32 → ∀ l, l < 256 → bcF (nI ((h + 160) * 256 + l)) = nI (pcN 16 ((h + 160) * 256 + l)) := by decide +kernel
theorem pc_h6 : ∀ h, h < 32 → ∀ l, l < 256 → bcF (nI ((h + 192) * 256 + l)) = nI (pcN 16 ((h + 192) * 256 + l)) := by decide +kernel
theorem pc_h7 : ∀ h, h < 32 → ∀ l, l < 256 → bcF (nI ((h + 224) * 256 + l)) = nI (pcN 16 ((h + 224) * 256 + l)) := by decide +kernel
theorem pc_hl : ∀ h, h < 256 → ∀ l, l < 256 → bcF (nI (h * 256 + l)) = nI (pcN 16 (h * 256 + l)) := by
  intro h hh l hl
  rcases (show h < 32 ∨ (32 ≤ h ∧ h < 64) ∨ (64 ≤ h ∧ h < 96) ∨ (96 ≤ h ∧ h < 128) ∨ (128 ≤ h ∧ h < 160) ∨ (160 ≤ h ∧ h < 192) ∨ (192 ≤ h ∧ h < 224) ∨ 224 ≤ h by omega) with q | q | q | q | q | q | q | q
  · have e := pc_h0 (h - 0) (by omega) l hl
    rwa [show h - 0 + 0 = h by omega] at e
  · have e := pc_h1 (h - 32) (by omega) l hl
    rwa [show h - 32 + 32 = h by omega] at e
  · have e := pc_h2 (h - 64) (by omega) l hl
    rwa [show h - 64 + 64 = h by omega] at e
  · have e := pc_h3 (h - 96) (by omega) l hl
    rwa [show h - 96 + 96 = h by omega] at e
  · have e := pc_h4 (h - 128) (by omega) l hl
    rwa [show h - 128 + 128 = h by omega] at e
  · have e := pc_h5 (h - 160) (by omega) l hl
    rwa [show h - 160 + 160 = h by omega] at e
  · have e := pc_h6 (h - 192) (by omega) l hl
    rwa [show h - 192 + 192 = h by omega] at e
  · have e := pc_h7 (h - 224) (by omega) l hl
    rwa [show h - 224 + 224 = h by omega] at e
