/-! ===== longs in the locals ===== -/
section JLg
variable {U : jU} {k : jK} {cc : ByteArray} {own : String} {Ts : List Cond} {rm : Room} {cells slots mc ms pc : Nat} {ws W1 : va_W} {L : List (Option Value)} {st : List Value} {r : Option Value}
theorem jL_set2 {ls : Array Slot} {nL : Nat} {L L' : List (Option Value)} {i : Nat} {v : Value} (hc : jcb L i = true) (hL : (L.set i (some v)).set (i + 1) none = L')
    (h : lv_has ls nL ((i, v) :: (jL 0 L).filter (fun q => !(q.1 == i) && (!(q.1 == i + 1) && !(q.1 + 1 == i && q.2.category == 2))))) : lv_has ls nL (jL 0 L') := by
  subst hL
  refine ⟨h.1, h.2.1, fun q hq => ?_⟩
  obtain ⟨j, h1, h2⟩ := (jL_mem q _ 0).mp hq
  rw [Nat.zero_add] at h1
  by_cases hi1 : j = i + 1
  · subst hi1
    by_cases hl : i + 1 < (L.set i (some v)).length
    · rw [List.getElem?_set_self hl] at h2
      cases h2
    · rw [List.getElem?_eq_none (by rw [List.length_set]; omega)] at h2
      cases h2
  rw [List.getElem?_set_ne (Ne.symm hi1)] at h2
  by_cases hij : j = i
  · subst hij
    have hl : j < (L.set j (some v)).length := (List.getElem?_eq_some_iff.mp h2).1
    rw [List.getElem?_set_self (by simpa using hl)] at h2
    have e : q.2 = v := (Option.some.inj (Option.some.inj h2)).symm
    have := h.2.2 (j, v) List.mem_cons_self
    rw [h1, e]
    exact this
  · rw [List.getElem?_set_ne (Ne.symm hij)] at h2
    refine h.2.2 q (List.mem_cons_of_mem _ (List.mem_filter.mpr ⟨(jL_mem q L 0).mpr ⟨j, by omega, h2⟩, ?_⟩))
    by_cases hji : j + 1 = i
    · subst hji
      have hcat : q.2.category = 1 := by simpa [jcb, h2] using hc
      simp [hcat, h1, hi1]
    · simp [h1, hij, hji, hi1]
theorem J_lload_n (C : Cx U k cc own Ts rm) {j : Fin 4} {i : Nat} {x : Int64} (hdg : decode cc pc = .ok (.lload_n j, 1)) (hi : (j : Nat) = i) (hx : L[i]? = some (some (.long x))) (kk : J U k cells slots ws L (pc + 1) (.long x :: st)) : J U k cells slots ws L pc st := fun H locs ls hP hD hS hl hc => lv_lload_n C.1.1 C.1.2.1 hdg hi (jL_get hl hx) (kk H locs ls hP hD hS hl hc)
theorem J_lload (C : Cx U k cc own Ts rm) {i : Nat} {x : Int64} (hdg : decode cc pc = .ok (.lload i, 2)) (hx : L[i]? = some (some (.long x))) (kk : J U k cells slots ws L (pc + 2) (.long x :: st)) : J U k cells slots ws L pc st := fun H locs ls hP hD hS hl hc => lv_lload C.1.1 C.1.2.1 hdg (jL_get hl hx) (kk H locs ls hP hD hS hl hc)
theorem J_lstore_n (C : Cx U k cc own Ts rm) {j : Fin 4} {i : Nat} {x : Int64} (L' : List (Option Value)) (hdg : decode cc pc = .ok (.lstore_n j, 1)) (hi : (j : Nat) = i) (hn : i + 1 < k.2.2.2.2.2.2.2.2.2.2.2.1) (hL : (L.set i (some (.long x))).set (i + 1) none = L') (hq9 : jcb L i = true) (kk : J U k cells slots ws L' (pc + 1) st) : J U k cells slots ws L pc (.long x :: st) := fun H locs ls hP hD hS hl hc => lv_lstore_n C.1.1 C.1.2.1 hdg hi hl hn rfl (fun ls' hl' => kk H locs ls' hP hD hS (jL_set2 hq9 hL hl') trivial)
theorem J_lstore (C : Cx U k cc own Ts rm) {i : Nat} {x : Int64} (L' : List (Option Value)) (hdg : decode cc pc = .ok (.lstore i, 2)) (hn : i + 1 < k.2.2.2.2.2.2.2.2.2.2.2.1) (hL : (L.set i (some (.long x))).set (i + 1) none = L') (hq9 : jcb L i = true) (kk : J U k cells slots ws L' (pc + 2) st) : J U k cells slots ws L pc (.long x :: st) := fun H locs ls hP hD hS hl hc => lv_lstore C.1.1 C.1.2.1 hdg hl hn rfl (fun ls' hl' => kk H locs ls' hP hD hS (jL_set2 hq9 hL hl') trivial)
theorem J_ladd (C : Cx U k cc own Ts rm) {x y v : Int64} (hdg : decode cc pc = .ok (.ladd, 1)) (hv : x + y = v) (kk : J U k cells slots ws L (pc + 1) (.long v :: st)) : J U k cells slots ws L pc (.long y :: .long x :: st) := fun H locs ls hP hD hS hl hc => lv_ladd C.1.1 C.1.2.1 hdg (by rw [hv]; exact (kk H locs ls hP hD hS hl hc))
theorem J_lmul (C : Cx U k cc own Ts rm) {x y v : Int64} (hdg : decode cc pc = .ok (.lmul, 1)) (hv : x * y = v) (kk : J U k cells slots ws L (pc + 1) (.long v :: st)) : J U k cells slots ws L pc (.long y :: .long x :: st) := fun H locs ls hP hD hS hl hc => lv_lmul C.1.1 C.1.2.1 hdg (by rw [hv]; exact (kk H locs ls hP hD hS hl hc))
theorem J_ldc2 (C : Cx U k cc own Ts rm) {index : Nat} {v : Int64} (hdg : decode cc pc = .ok (.ldc2_w index, 3)) (hw : Cond.constantLong own index v ∈ Ts) (kk : J U k cells slots ws L (pc + 3) (.long v :: st)) : J U k cells slots ws L pc st := fun H locs ls hP hD hS hl hc => lv_ldc2 C.1.1 C.1.2.1 C.1.2.2.2.1 (C.1.2.2.2.2 _ hw) hdg (kk H locs ls hP hD hS hl hc)
theorem J_lret (C : Cx U k cc own Ts rm) {x : Int64} (R : RetOk U k (some .long) mc ms r W1) (hdg : decode cc pc = .ok (.lreturn, 1)) (h1 : cells ≤ mc) (h2 : slots ≤ ms) (hr : r = some (.long x)) (hw : ws = W1) : J U k cells slots ws L pc [.long x] := by
  intro H locs ls hP hD hS hl hc
  obtain ⟨hQ, hret, hlocks, hH⟩ := R
  rw [hQ]
  refine W.widen (k := mc) (n := ms) h1 h2 ?_
  refine W.lret C.1.1 C.1.2.1 hret (fun t ht hW => ⟨⟨by rw [hr], by rw [ht, ← hw]; exact hP, by rw [← hw]; exact hD⟩, ?_⟩) hS.2.2 hdg hlocks
  rw [hH] at hS
  exact hS.F ht
theorem lgS (a : Int64) : lg_cmp a a = 0 := by
  unfold lg_cmp
  simp
end JLg
