/-! ===== methods with an exception table ===== -/
section JW
variable {U : jU} {k : jK} {cc : ByteArray} {own : String} {Ts : List Cond} {rm : Room} {cells slots : Nat} {ws : va_W} {L : List (Option Value)} {pc : Nat} {st0 rest : List Value}
variable {y : MethodName} {bytes : ByteArray} {maxL index n mc ms b ci N : Nat} {ret : Option FieldType} {wy wy' : List Cond} {rmY : Room} {As fs : List Value} {wc wr : va_W} {r : Option Value} {w1 W1 : va_W} {hh : List (Nat × Nat × Nat × Nat)} {E : String}
abbrev Tab (k : jK) (hh : List (Nat × Nat × Nat × Nat)) : Prop := k.2.2.2.2.2.2.2.2.1.exceptionTable.toList = tableOf hh
theorem FnW_of {W0 : va_W} {av : List Value} (L0 : List (Option Value)) (hy : plainName y.cls = true) (hw : wy = Cond.codeWith y cc maxL ret hh :: wy') (hcat : ∀ v ∈ av, v.category = 1) (hlen : av.length ≤ maxL) (hL0 : L0 = av.map some ++ List.replicate (maxL - av.length) none)
    (body : ∀ k : jK, Cx U k cc y.cls wy rm → RetOk U k ret mc ms r W1 → Tab k hh → k.2.2.2.2.2.2.2.2.2.2.2.1 = maxL → J U k 0 0 W0 L0 0 []) : Fn U y wy rm av W0 r W1 mc ms := by
  intro hst sz
  refine va_MetW (cc := cc) (maxL := maxL) (ret := ret) hy hw ?_
  intro p e s m args below meth c s₁ B hml hv
  obtain ⟨rfl, hsz, hP, hD0, hG, hZ⟩ := hv
  subst hsz
  have hts := atoms_spec (ws := wy) B.pre
  have hown : s.vm.findClass y.cls = some m.cls := findClass_of_methodNamed B.named
  refine jEntry hcat hlen hL0 (fun ls hl hc => ?_)
  exact body (p, e, rm, s, m, av.toArray, below, meth, c, va_A W0 s.heap.size, s.heap, maxL, MQ below (jQc U r W1 (va_A W0 s.heap.size)) av.toArray s mc ms (va_A W0 s.heap.size))
    ⟨⟨B.exec, B.bytes, hml, hown, hts⟩, hG, fun q h => Or.inr h, rfl, hZ, hst⟩ ⟨rfl, B.returns, B.notSynchronized, rfl⟩ (vx_table (x := y) B (hts _ (by rw [hw]; exact List.mem_cons_self))) rfl s.heap [] ls hP (hD0.self) va_S.rf hl hc
theorem JX_catch (C : Cx U k cc own Ts rm) (tab : Tab k hh) (pre : List (Nat × Nat × Nat × Nat)) (x : Nat × Nat × Nat × Nat) (suf : List (Nat × Nat × Nat × Nat)) (hs : hh = pre ++ x :: suf) (hpass : ∀ z ∈ pre, z.2.2.2 ≠ 0 ∧ ∃ nm : String, Cond.classLink own z.2.2.2 nm ∈ Ts ∧ nm ∈ jX3 ∧ E ≠ nm) (hE : E ∈ jX3)
    (hcov : covers ⟨x.1, x.2.1, x.2.2.1, x.2.2.2⟩ pc = true) (h0 : x.2.2.2 ≠ 0) (hlk : Cond.classLink own x.2.2.2 E ∈ Ts) (kk : ∀ q : Nat, J U k cells slots ws L x.2.2.1 [.ref q]) : JX U k cells slots ws L pc E := by
  intro H locs ls ce q rest hP hD hS hl hc hce hcv hcl
  have hts : ∀ w ∈ Ts, w.before k.2.2.2.2.2.1 k.2.2.2.1 = true := C.1.2.2.2.2
  refine vx_catch (own := own) (name := E) (E := E) C.1.2.2.2.1 (tableOf pre) ⟨x.1, x.2.1, x.2.2.1, x.2.2.2⟩ (tableOf suf) (by rw [tab, hs]; simp [tableOf]) ?_ hcov h0 (hts _ hlk) (va_Nw.use rfl (C.2.1.2.2.1 E hE)) hce hcv hcl (kk q H locs ls hP hD hS hl hc)
  intro z hz
  obtain ⟨z0, hz0, rfl⟩ := List.mem_map.mp hz
  obtain ⟨h1, nm, h2, h3, h4⟩ := hpass z0 hz0
  exact Or.inr ⟨h1, nm, hts _ h2, C.2.1.2.2.2.1 E hE nm h3 h4⟩
theorem J_callSW (C : Cx U k cc own Ts rm) (hM : Fn U y wy rmY As wc r w1 mc ms) (hT : GoodIn Ts (va_wsS own index y wy)) (hw : wy = Cond.codeWith y bytes maxL ret hh :: wy') (hrc : rmY.cells = mc) (hrs : rmY.slots = ms)
    (hd : y.cls ≠ "java/lang/invoke/MethodHandle" ∧ y.cls ≠ "java/lang/invoke/VarHandle" ∧ (parseMethodDescriptor y.desc).map (fun d => d.parameters.length) = some n) (hRm : rmY.frames + 1 ≤ rm.frames ∧ 8 + (maxL + 11) + rmY.locals ≤ rm.locals)
    (hnA : As.length = n) (hst : st0 = As.reverse ++ rest) (hW : (rest.map fun v => v.category).sum ≤ 8)
    (ws' : va_W) (isC isR is' : List Nat) (hC : isC.map (fun i => ws[i]?) = wc.map some) (hnC : va_nd isC = true) (hR : isR.map (fun i => ws[i]?) = wr.map some) (hn : va_nd isR = true) (hdis : ∀ i ∈ isR, i ∉ isC) (h9 : is'.map (fun i => (wr ++ w1)[i]?) = ws'.map some) (hn9 : va_nd is' = true)
    (hdg : decode cc pc = .ok (.invokestatic index, 3)) (hf : cells + mc ≤ rm.cells ∧ slots + ms ≤ rm.slots) (st1 : List Value) (hs1 : r.toList ++ rest = st1) (kk : J U k (cells + mc) (slots + ms) ws' L (pc + 3) st1) : J U k cells slots ws L pc st0 :=
  J_run C ws' isC isR is' hC hR hn hdis h9 hn9 (fun H locs ls hP hD hS hl => by
    have hR9 : k.2.2.1 = rm := C.2.2.2.1
    refine vx_runSW (As := As) (rest := rest) C.1 (hM C.2.2.2.2.2 H.size) (vx_cwSW n C.1.2.2.2.2 hT hw hrc hrs hd (by rw [hR9]; exact hRm)) ⟨jPc_blind, J_pre C hP hD hS isC hC hnC⟩ rfl hnA hl.1 hst (J_room hW) hdg (by rw [hR9]; exact hf)) (hs1.symm ▸ kk)
end JW
