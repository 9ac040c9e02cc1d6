/-! ===== a reference returned ===== -/
section JA
variable {U : jU} {k : jK} {cc : ByteArray} {own : String} {Ts : List Cond} {rm : Room} {cells slots mc ms pc : Nat} {ws W1 : va_W} {L : List (Option Value)} {r : Option Value}
theorem J_aret (C : Cx U k cc own Ts rm) {a : Nat} {ty : FieldType} (R : RetOk U k (some ty) mc ms r W1) (hty : ∃ n, ty = .object n) (hdg : decode cc pc = .ok (.areturn, 1)) (h1 : cells ≤ mc) (h2 : slots ≤ ms) (hr : r = some (.ref a)) (hw : ws = W1) : J U k cells slots ws L pc [.ref a] := by
  intro H locs ls hP hD hS hl hc
  obtain ⟨hQ, hret, hlocks, hH⟩ := R
  rw [hQ]
  refine W.widen (k := mc) (n := ms) h1 h2 ?_
  refine W.aret C.1.1 C.1.2.1 hret (Or.inl hty) (Or.inr ⟨a, rfl⟩) (fun t ht hW => ⟨⟨by rw [hr], by rw [ht, ← hw]; exact hP, by rw [← hw]; exact hD⟩, ?_⟩) hS.2.2 hdg hlocks
  rw [hH] at hS
  exact hS.F ht
variable {y : MethodName} {maxL : Nat} {ret : Option FieldType} {wy wy' : List Cond}
/-- the same road for a method of a class of which the machine runs some methods itself, but not this one -/
theorem Met_ofWF {l : Launch} {y : MethodName} {ws ws' : List Cond} {rm : Room} {Pc : Array Value → State → Prop} {Qc : Array Value → State → Outcome → State → Prop} {mc ms : Nat} {free : Addr → Prop} {cc : ByteArray} {maxL : Nat} {ret : Option FieldType}
    (hy : plainFor y = true) (hw : ws = Cond.code y cc maxL ret :: ws')
    (body : ∀ p e s m args below meth c s₁, BodyLoose p l y (headSpec ws rm) cc maxL ret e s m args below meth c s₁ → c.maxLocals = maxL → Pc args s →
      W p l e (headSpec ws rm).room s m args below meth c s.heap [] 0 0 (MQ below Qc args s mc ms free) (entryFrame m args maxL)) : Met l y ws rm Pc Qc mc ms free := by
  refine MetFree.of_bodySF (code := cc) (maxLocals := maxL) (ret := ret) hy ?_ ?_
  · intro args s m h hn
    obtain ⟨meth, c, h1, h2, h3, h4, h5, h6, -, -⟩ := Cond.code_spec hn (atoms_spec (ws := ws) h _ (by rw [hw]; exact List.mem_cons_self))
    exact ⟨meth, c, h1, h2, h3, h4, h5, h6⟩
  · intro p e s m args below meth c s₁ B hml hP _
    have hh0 : s₁.heap = s.heap := by rw [B.state]; rfl
    obtain ⟨t, a1, o, b1, b2, b3⟩ := body p e s m args below meth c s₁ B hml hP s₁ hh0 (Stand.of_body B)
    exact ⟨t, o, a1, b1, b2, ⟨b3.1, b3.2⟩⟩
theorem Fn_ofF {W0 : va_W} {av : List Value} (L0 : List (Option Value)) (hy : plainFor y = true) (hw : wy = Cond.code y cc maxL ret :: wy') (hcat : ∀ v ∈ av, v.category = 1) (hlen : av.length ≤ maxL) (hL0 : L0 = av.map some ++ List.replicate (maxL - av.length) none)
    (body : ∀ k : jK, Cx U k cc y.cls wy rm → RetOk U k ret mc ms r W1 → k.2.2.2.2.2.2.2.1.name = y.name → k.2.2.2.2.2.2.2.2.2.2.2.1 = maxL → J U k 0 0 W0 L0 0 []) : Fn U y wy rm av W0 r W1 mc ms := by
  intro hst sz
  refine Met_ofWF (cc := cc) (maxL := maxL) (ret := ret) hy hw ?_
  intro p e s m args below meth c s₁ B hml hv
  obtain ⟨rfl, hsz, hP, hD0, hG, hZ⟩ := hv
  subst hsz
  have hts := atoms_spec (ws := wy) B.pre
  have hown : s.vm.findClass y.cls = some m.cls := findClass_of_methodNamed B.named
  refine jEntry hcat hlen hL0 (fun ls hl hc => ?_)
  exact body (p, e, rm, s, m, av.toArray, below, meth, c, va_A W0 s.heap.size, s.heap, maxL, MQ below (jQc U r W1 (va_A W0 s.heap.size)) av.toArray s mc ms (va_A W0 s.heap.size))
    ⟨⟨B.exec, B.bytes, hml, hown, hts⟩, hG, fun q h => Or.inr h, rfl, hZ, hst⟩ ⟨rfl, B.returns, B.notSynchronized, rfl⟩ (name_of_methodNamed B.named B.method).1 rfl s.heap [] ls hP (hD0.self) va_S.rf hl hc
end JA
