set_option maxRecDepth 20000 in
theorem jg_all {l : Launch} {s : State} {A : Array Value} (hts : ∀ w ∈ lw_tbl, w.before A s = true) (hg : (Jvm.Cond.and given_1 narrow_1).before A s = true) : ∃ U : jU, U.1 = l ∧ jG U s := by
  obtain ⟨D, hD⟩ := cl_all hts
  obtain ⟨a0, hA0, hR0⟩ := arr_i (ty := .int) (by intro C h; cases h) (hts (.arrayClass .int) (by decide +kernel))
  obtain ⟨a1, hA1, hR1⟩ := arr_i (ty := .char) (by intro C h; cases h) (hts (.arrayClass .char) (by decide +kernel))
  have hov := hts (.arrayOver (.object "BoothOtters$State")) (by decide +kernel)
  obtain ⟨a3, hA3, hR3⟩ := arr_q hov
  refine ⟨(l, D, (fun i => match i with | 0 => a0 | 1 => a1 | 2 => a0 | _ => a3), fun _ => 0), rfl, ⟨hD, fun k q hk => ?_⟩, fun q hq => absurd hq List.not_mem_nil, fun E hE => absurd hE List.not_mem_nil, fun E hE => absurd hE List.not_mem_nil, fun q hq => ?_, va_AO.of hov, fun Y hY => absurd hY List.not_mem_nil⟩
  · match k with
    | 0 => cases hk; exact ⟨hA0, hR0⟩
    | 1 => cases hk; exact ⟨hA1, hR1⟩
    | 2 => cases hk; exact ⟨hA0, hR0⟩
    | 3 => cases hk; exact ⟨hA3, hR3⟩
    | n + 4 => exact absurd hk (by simp [jT])
  · simp only [jNl, List.mem_cons, List.not_mem_nil, or_false] at hq
    rcases hq with rfl | rfl | rfl | rfl | rfl | rfl | rfl | rfl | rfl | rfl <;> exact va_Nw.of rfl (hts _ (by decide +kernel))
theorem jz_all {s : State} {A : Array Value} (hts : ∀ w ∈ lw_tbl, w.before A s = true) (hg : (Jvm.Cond.and given_1 narrow_1).before A s = true) : jZ (fun q => s.heap.size ≤ q) s s.heap := by
  have hs := flat_of_before _ hg
  exact ⟨vx_Zqof (hts _ (by decide +kernel)) (hts _ (by decide +kernel)) (hs _ (by decide +kernel)) (fun a h => Nat.not_le.mpr h), vx_Zqof (hts _ (by decide +kernel)) (hts _ (by decide +kernel)) (hs _ (by decide +kernel)) (fun a h => Nat.not_le.mpr h)⟩
