/-! ===== a reference returned ===== -/
section JA
variable {U : jU} {k : jK} {cc : ByteArray} {own : String} {Ts : List Cond} {rm : Room} {cells slots mc ms pc : Nat} {ws W1 : va_W} {L : List (Option Value)} {r : Option Value}
theorem J_aret (C : Cx U k cc own Ts rm) {a : Nat} {ty : FieldType} (R : RetOk U k (some ty) mc ms r W1) (hty : ∃ n, ty = .object n) (hdg : decode cc pc = .ok (.areturn, 1)) (h1 : cells ≤ mc) (h2 : slots ≤ ms) (hr : r = some (.ref a)) (hw : ws = W1) : J U k cells slots ws L pc [.ref a] := by
  intro H locs ls hP hD hS hl hc
  obtain ⟨hQ, hret, hlocks, hH⟩ := R
  rw [hQ]
  refine W.widen (k := mc) (n := ms) h1 h2 ?_
  refine W.aret C.1.1 C.1.2.1 hret (Or.inl hty) (Or.inr ⟨a, rfl⟩) (fun t ht hW => ⟨⟨by rw [hr], by rw [ht, ← hw]; exact hP, by rw [← hw]; exact hD⟩, ?_⟩) hS.2.2 hdg hlocks
  rw [hH] at hS
  exact hS.F ht
end JA
