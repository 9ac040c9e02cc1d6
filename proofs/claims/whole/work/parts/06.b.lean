set_option maxRecDepth 20000 in
theorem jg_all {l : Launch} {s : State} {A : Array Value} (hts : ∀ w ∈ lw_tbl, w.before A s = true) (hg : (Jvm.Cond.and given_1 narrow_1).before A s = true) : ∃ U : jU, U.1 = l ∧ jG U s := by
  have hs := flat_of_before _ hg
  obtain ⟨D, hD⟩ := cl_all hts
  obtain ⟨a0, hA0, hR0⟩ := arr_i (ty := .int) (by intro C h; cases h) (hts (.arrayClass .int) (by decide +kernel))
  obtain ⟨a1, hA1, hR1⟩ := arr_i (ty := .char) (by intro C h; cases h) (hts (.arrayClass .char) (by decide +kernel))
  obtain ⟨a2, hA2, hR2⟩ := arr_i (ty := .long) (by intro C h; cases h) (hts (.arrayClass .long) (by decide +kernel))
  have hov := hts (.arrayOver (.object "BoothOtters$State")) (by decide +kernel)
  obtain ⟨a3, hA3, hR3⟩ := arr_q hov
  obtain ⟨cB, kB, hfB, -⟩ := Cond.instantiable_spec (hts (.instantiable "BoothOtters" 6) (by decide +kernel))
  obtain ⟨t, ht⟩ := tx_all (s := s) (by
    intro q hq
    simp only [jTexts, List.mem_cons, List.not_mem_nil, or_false] at hq
    rcases hq with rfl | rfl | rfl | rfl | rfl | rfl | rfl | rfl | rfl | rfl | rfl | rfl | rfl | rfl <;> exact tx_known hfB (hts _ (by decide +kernel)))
  refine ⟨(l, D, (fun i => match i with | 0 => a0 | 1 => a1 | 2 => a2 | _ => a3), t), rfl, ⟨hD, fun k q hk => ?_⟩, ht, fun E hE => ?_, fun E hE F hF hne => ?_, fun q hq => ?_, va_AO.of hov, fun Y hY => ?_⟩
  · match k with
    | 0 => cases hk; exact ⟨hA0, hR0⟩
    | 1 => cases hk; exact ⟨hA1, hR1⟩
    | 2 => cases hk; exact ⟨hA2, hR2⟩
    | 3 => cases hk; exact ⟨hA3, hR3⟩
    | n + 4 => exact absurd hk (by simp [jT])
  · simp only [jX3, List.mem_cons, List.not_mem_nil, or_false] at hE
    rcases hE with rfl | rfl | rfl <;> exact va_Nw.of rfl (hts _ (by decide +kernel))
  · simp only [jX3, List.mem_cons, List.not_mem_nil, or_false] at hE hF
    rcases hE with rfl | rfl | rfl <;> rcases hF with rfl | rfl | rfl <;> first | exact absurd rfl hne | exact va_Nc.of (hs _ (by decide +kernel))
  · simp only [jNl, List.mem_cons, List.not_mem_nil, or_false] at hq
    rcases hq with rfl | rfl | rfl | rfl | rfl | rfl | rfl | rfl | rfl | rfl <;> exact va_Nw.of rfl (hts _ (by decide +kernel))
  · simp only [jDc, List.mem_cons, List.not_mem_nil, or_false] at hY
    rcases hY with rfl | rfl | rfl <;> exact va_Nw.of rfl (hts _ (by decide +kernel))
theorem jz_all {s : State} {A : Array Value} (hts : ∀ w ∈ lw_tbl, w.before A s = true) (hg : (Jvm.Cond.and given_1 narrow_1).before A s = true) : jZ (fun q => s.heap.size ≤ q) s s.heap := by
  have hs := flat_of_before _ hg
  exact ⟨vx_Zqof (hts _ (by decide +kernel)) (hts _ (by decide +kernel)) (hs _ (by decide +kernel)) (fun a h => Nat.not_le.mpr h), vx_Zqof (hts _ (by decide +kernel)) (hts _ (by decide +kernel)) (hs _ (by decide +kernel)) (fun a h => Nat.not_le.mpr h)⟩
