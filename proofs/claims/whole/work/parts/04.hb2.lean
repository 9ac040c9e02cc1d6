theorem nI_pd {c : Nat} (h : 0 < c) : nI c - 1 = nI (c - 1) := by
  rw [show c = (c - 1) + 1 by omega]
  exact nI_pred (c - 1)
theorem mf7 {g : Nat → Int32} {N : Nat} (h : g 7 = nI N) : ∀ i, i ≤ N → mfF g i 7 = nI (N - i)
  | 0, _ => h
  | i + 1, hi => by
    show soF (mfF g i) 7 = _
    have e : soF (mfF g i) 7 = mfF g i 7 - 1 := by simp [soF, upd]
    rw [e, mf7 h i (by omega)]
    exact nI_subS (by omega)
