/-! ===== the ring of states, its number without end ===== -/
theorem pv_m (n : Nat) : pv n % 4 = (n % 4 + 3) % 4 := by unfold pv; omega
def rlN (hv hg : Nat → Nat → Int32) (n c : Nat) (gt : Nat → Int32) : Prop := rlH hv hg (n % 4) c gt
theorem rlN_rec {W n c : Nat} {hv hg : Nat → Nat → Int32} {f x g gt : Nat → Int32} (H : rlN hv hg n c gt) (R : rlS W f x g) :
    rlN (va_up hv (n % 4) f) (va_up hg (n % 4) (pk (x 0) (x 1) (x 2) (x 3) (x 4) (x 5) (x 6) (x 7) (x 8) (x 9))) (n + 1) (min (c + 1) 4) (recF g gt c) := by
  have h := rl_rec H R
  rw [show (n % 4 + 1) % 4 = (n + 1) % 4 by omega] at h
  exact h
theorem rlN_undo {n c : Nat} {hv hg : Nat → Nat → Int32} {gt : Nat → Int32} (H : rlN hv hg n c gt) (hc : 0 < c) : rlN hv hg (pv n) (c - 1) gt ∧ ∃ W, rlS W (hv (pv n % 4)) (hg (pv n % 4)) (fun k9 => gt (16 * (c - 1) + k9)) := by
  have h := rl_undo H hc
  rw [← pv_m] at h
  exact ⟨by rw [rlN]; exact h.1, h.2⟩
