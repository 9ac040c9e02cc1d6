/-! ===== contracts whose end is told by a property ===== -/
def jQcP {γ : Type} (U : jU) (P : γ → Prop) (r : γ → Option Value) (W1 : γ → va_W) (A : Nat → Prop) : Array Value → State → Outcome → State → Prop := fun _ st o t => (∃ x : γ, P x ∧ o = .returned (r x) ∧ va_P U.2.1 vwCl (W1 x) t.heap ∧ va_D A (W1 x)) ∧ va_F A st t
def FnP {γ : Type} (U : jU) (y : MethodName) (wy : List Cond) (rm : Room) (av : List Value) (W0 : va_W) (P : γ → Prop) (r : γ → Option Value) (W1 : γ → va_W) (mc ms : Nat) : Prop :=
  U.1.stackTraces = false → ∀ sz, Met U.1 y wy rm (jPc U av W0 sz) (jQcP U P r W1 (va_A W0 sz)) mc ms (va_A W0 sz)
section JP
variable {γ : Type} {U : jU} {k : jK} {cc : ByteArray} {own : String} {Ts : List Cond} {rm : Room} {cells slots : Nat} {ws : va_W} {L : List (Option Value)} {pc : Nat} {st0 rest : List Value}
variable {y : MethodName} {bytes : ByteArray} {maxL index n mc ms b ci N : Nat} {ret : Option FieldType} {wy wy' : List Cond} {rmY : Room} {As fs : List Value} {wc wr : va_W} {P : γ → Prop} {r : γ → Option Value} {w1 : γ → va_W} {Cn : String} {T : u_T}
theorem J_runP (C : Cx U k cc own Ts rm) (ws' : γ → va_W) {av : Array Value} (isC isR is' : List Nat) (hC : isC.map (fun i => ws[i]?) = wc.map some) (hR : isR.map (fun i => ws[i]?) = wr.map some) (hn : va_nd isR = true) (hdis : ∀ i ∈ isR, i ∉ isC) (h9 : ∀ z, is'.map (fun i => (wr ++ w1 z)[i]?) = (ws' z).map some) (hn9 : va_nd is' = true)
    (hr : ∀ (H : Heap) (locs : List Loc) (ls : Array Slot), va_P U.2.1 vwCl ws H → va_D k.2.2.2.2.2.2.2.2.2.1 ws → va_S k.2.2.2.2.2.2.2.2.2.1 k.2.2.2.2.2.2.2.2.2.2.1 H locs → lv_has ls k.2.2.2.2.2.2.2.2.2.2.2.1 (jL 0 L) →
      va_Run k.1 U.1 k.2.1 k.2.2.1 k.2.2.2.1 k.2.2.2.2.1 k.2.2.2.2.2.1 k.2.2.2.2.2.2.1 k.2.2.2.2.2.2.2.1 k.2.2.2.2.2.2.2.2.1 H locs cells slots mc ms (F0 k.2.2.2.2.1 pc ls st0) rest (jQcP U P r w1 (va_A wc H.size) av) (va_A wc H.size))
    (kk : ∀ z : γ, P z → J U k (cells + mc) (slots + ms) (ws' z) L (pc + 3) ((r z).toList ++ rest)) : J U k cells slots ws L pc st0 := by
  intro H locs ls hP hD hS hl hc T9 hT X
  obtain ⟨v, st₀, t, T', L9, h0, X', hL, e1, e2, ⟨⟨z, hz9, hv, hP1, hD1⟩, hz, hk⟩, st⟩ := hr H locs ls hP hD hS hl T9 hT X
  cases hv
  rw [h0] at hz hk
  rw [← e1] at hP1 hz hk
  have hFc := va_free (wc := wc) hD hS C.2.2.1 isC hC
  obtain ⟨hP2, hD2⟩ := va_join (wr := wr) (w1 := w1 z) hP hD isC isR hC hR hn hdis hk hFc hP1 hD1
  obtain ⟨t2, a1, b1⟩ := kk z hz9 T'.heap (locs ++ L9) ls (hP2.sub (ws' := ws' z) is' (jfm (h9 z))) (hD2.sub (ws' := ws' z) is' hn9 (h9 z))
    ⟨Nat.le_trans hS.1 hz, fun q h1 h2 => by rw [hk q (Nat.lt_of_lt_of_le h1 hS.1) (fun z => h2 (hFc q z))]; exact hS.2.1 q h1 h2, fun q hq => by
      rcases List.mem_append.mp hq with h | h
      · exact hS.2.2 q h
      · exact hFc _ (hL q h)⟩ hl hc T' rfl X'
  exact ⟨t2, st t2 a1, b1⟩
theorem J_callVP (C : Cx U k cc own Ts rm) (hM : FnP U y wy rmY (.ref b :: As) wc P r w1 mc ms) (hT : GoodIn Ts (wsV own index Cn y wy)) (hw : wy = Cond.code y bytes maxL ret :: wy') (hrc : rmY.cells = mc) (hrs : rmY.slots = ms)
    (hd : y.cls = Cn ∧ y.cls ≠ "java/lang/invoke/MethodHandle" ∧ y.cls ≠ "java/lang/invoke/VarHandle" ∧ (parseMethodDescriptor y.desc).map (fun d => d.parameters.length) = some n) (hRm : rmY.frames + 1 ≤ rm.frames ∧ 8 + (maxL + 11) + rmY.locals ≤ rm.locals)
    (q0 : Nat) (hcl : vwCl[ci]? = some (Cn, T, N)) (hq : ws[q0]? = some (b, .inr (ci, fs))) (hnA : As.length = n) (hst : st0 = As.reverse ++ .ref b :: rest) (hW : (rest.map fun v => v.category).sum ≤ 8)
    (ws' : γ → va_W) (isC isR is' : List Nat) (hC : isC.map (fun i => ws[i]?) = wc.map some) (hnC : va_nd isC = true) (hR : isR.map (fun i => ws[i]?) = wr.map some) (hn : va_nd isR = true) (hdis : ∀ i ∈ isR, i ∉ isC) (h9 : ∀ z, is'.map (fun i => (wr ++ w1 z)[i]?) = (ws' z).map some) (hn9 : va_nd is' = true)
    (hdg : decode cc pc = .ok (.invokevirtual index, 3)) (hf : cells + mc ≤ rm.cells ∧ slots + ms ≤ rm.slots) (kk : ∀ z : γ, P z → J U k (cells + mc) (slots + ms) (ws' z) L (pc + 3) ((r z).toList ++ rest)) : J U k cells slots ws L pc st0 :=
  J_runP C ws' isC isR is' hC hR hn hdis h9 hn9 (fun H locs ls hP hD hS hl => by
    have hR9 : k.2.2.1 = rm := C.2.2.2.1
    refine va_runV (As := As) (rest := rest) C.1 (hM C.2.2.2.2.2 H.size) (cwV n C.1.2.2.2.2 hT hw hrc hrs hd (by rw [hR9]; exact hRm)) ⟨jPc_blind, va_recv C.2.1.1 hP hcl hq, J_pre C hP hD hS isC hC hnC⟩ rfl hnA hl.1 hst (J_room hW) hdg (by rw [hR9]; exact hf)) kk
def RetP (U : jU) (k : jK) (ret : Option FieldType) (mc ms : Nat) (P : γ → Prop) (r : γ → Option Value) (W1 : γ → va_W) : Prop :=
  k.2.2.2.2.2.2.2.2.2.2.2.2 = MQ k.2.2.2.2.2.2.1 (jQcP U P r W1 k.2.2.2.2.2.2.2.2.2.1) k.2.2.2.2.2.1 k.2.2.2.1 mc ms k.2.2.2.2.2.2.2.2.2.1 ∧ k.2.2.2.2.2.2.2.1.sig.returnType = ret ∧ k.2.2.2.2.2.2.2.1.locks = false ∧ k.2.2.2.2.2.2.2.2.2.2.1 = k.2.2.2.1.heap
variable {W1 : γ → va_W}
theorem J_iretP (C : Cx U k cc own Ts rm) {x : Int32} (R : RetP U k (some .int) mc ms P r W1) (z : γ) (hz : P z) (hdg : decode cc pc = .ok (.ireturn, 1)) (h1 : cells ≤ mc) (h2 : slots ≤ ms) (hr : r z = some (.int x)) (hw : ws = W1 z) : J U k cells slots ws L pc [.int x] := by
  intro H locs ls hP hD hS hl hc
  obtain ⟨hQ, hret, hlocks, hH⟩ := R
  rw [hQ]
  refine W.widen (k := mc) (n := ms) h1 h2 ?_
  refine W.zret C.1.1 C.1.2.1 hret rfl (fun t ht hW => ⟨⟨z, hz, by rw [hr], by rw [ht, ← hw]; exact hP, by rw [← hw]; exact hD⟩, ?_⟩) hS.2.2 hdg hlocks
  rw [hH] at hS
  exact hS.F ht
theorem FnP_of {W0 : va_W} {av : List Value} (L0 : List (Option Value)) (hy : plainName y.cls = true) (hw : wy = Cond.code y cc maxL ret :: wy') (hcat : ∀ v ∈ av, v.category = 1) (hlen : av.length ≤ maxL) (hL0 : L0 = av.map some ++ List.replicate (maxL - av.length) none)
    (body : ∀ k : jK, Cx U k cc y.cls wy rm → RetP U k ret mc ms P r W1 → k.2.2.2.2.2.2.2.1.name = y.name → k.2.2.2.2.2.2.2.2.2.2.2.1 = maxL → J U k 0 0 W0 L0 0 []) : FnP U y wy rm av W0 P r W1 mc ms := by
  intro hst sz
  refine Met.ofW (cc := cc) (maxL := maxL) (ret := ret) hy hw ?_
  intro p e s m args below meth c s₁ B hml hv
  obtain ⟨rfl, hsz, hP, hD0, hG, hZ⟩ := hv
  subst hsz
  have hts := atoms_spec (ws := wy) B.pre
  have hown : s.vm.findClass y.cls = some m.cls := findClass_of_methodNamed B.named
  refine jEntry hcat hlen hL0 (fun ls hl hc => ?_)
  exact body (p, e, rm, s, m, av.toArray, below, meth, c, va_A W0 s.heap.size, s.heap, maxL, MQ below (jQcP U P r W1 (va_A W0 s.heap.size)) av.toArray s mc ms (va_A W0 s.heap.size))
    ⟨⟨B.exec, B.bytes, hml, hown, hts⟩, hG, fun q h => Or.inr h, rfl, hZ, hst⟩ ⟨rfl, B.returns, B.notSynchronized, rfl⟩ (name_of_methodNamed B.named B.method).1 rfl s.heap [] ls hP (hD0.self) va_S.rf hl hc
end JP
