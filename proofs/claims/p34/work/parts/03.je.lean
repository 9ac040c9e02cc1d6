/-! ===== constructors that make cells: their addresses come with the end ===== -/
def jz (l : List Nat) : Nat → Nat := fun i => l.getD i 0
def jQcE (U : jU) (W1 : (Nat → Nat) → va_W) (A : Nat → Prop) : Array Value → State → Outcome → State → Prop := fun _ st o t => (∃ z : Nat → Nat, o = .returned none ∧ va_P U.2.1 vwCl (W1 z) t.heap ∧ va_D A (W1 z)) ∧ va_F A st t
def FnE (U : jU) (y : MethodName) (wy : List Cond) (rm : Room) (av : List Value) (W0 : va_W) (W1 : (Nat → Nat) → va_W) (mc ms : Nat) : Prop :=
  U.1.stackTraces = false → ∀ sz, Met U.1 y wy rm (jPc U av W0 sz) (jQcE U W1 (va_A W0 sz)) mc ms (va_A W0 sz)
section JE
variable {U : jU} {k : jK} {cc : ByteArray} {own : String} {Ts : List Cond} {rm : Room} {cells slots : Nat} {ws : va_W} {L : List (Option Value)} {pc : Nat} {st0 rest : List Value}
variable {y : MethodName} {bytes : ByteArray} {maxL index n mc ms b ci N : Nat} {ret : Option FieldType} {wy wy' : List Cond} {rmY : Room} {As fs : List Value} {wc wr : va_W} {w1 : (Nat → Nat) → va_W} {Cn : String} {T : u_T}
theorem J_runE (C : Cx U k cc own Ts rm) (ws' : (Nat → Nat) → va_W) {av : Array Value} (isC isR is' : List Nat) (hC : isC.map (fun i => ws[i]?) = wc.map some) (hR : isR.map (fun i => ws[i]?) = wr.map some) (hn : va_nd isR = true) (hdis : ∀ i ∈ isR, i ∉ isC) (h9 : ∀ z, is'.map (fun i => (wr ++ w1 z)[i]?) = (ws' z).map some) (hn9 : va_nd is' = true)
    (hr : ∀ (H : Heap) (locs : List Loc) (ls : Array Slot), va_P U.2.1 vwCl ws H → va_D k.2.2.2.2.2.2.2.2.2.1 ws → va_S k.2.2.2.2.2.2.2.2.2.1 k.2.2.2.2.2.2.2.2.2.2.1 H locs → lv_has ls k.2.2.2.2.2.2.2.2.2.2.2.1 (jL 0 L) →
      va_Run k.1 U.1 k.2.1 k.2.2.1 k.2.2.2.1 k.2.2.2.2.1 k.2.2.2.2.2.1 k.2.2.2.2.2.2.1 k.2.2.2.2.2.2.2.1 k.2.2.2.2.2.2.2.2.1 H locs cells slots mc ms (F0 k.2.2.2.2.1 pc ls st0) rest (jQcE U w1 (va_A wc H.size) av) (va_A wc H.size))
    (kk : ∀ z : Nat → Nat, J U k (cells + mc) (slots + ms) (ws' z) L (pc + 3) rest) : J U k cells slots ws L pc st0 := by
  intro H locs ls hP hD hS hl hc T9 hT X
  obtain ⟨v, st₀, t, T', L9, h0, X', hL, e1, e2, ⟨⟨z, hv, hP1, hD1⟩, hz, hk⟩, st⟩ := hr H locs ls hP hD hS hl T9 hT X
  cases hv
  rw [h0] at hz hk
  rw [← e1] at hP1 hz hk
  have hFc := va_free (wc := wc) hD hS C.2.2.1 isC hC
  obtain ⟨hP2, hD2⟩ := va_join (wr := wr) (w1 := w1 z) hP hD isC isR hC hR hn hdis hk hFc hP1 hD1
  obtain ⟨t2, a1, b1⟩ := kk z T'.heap (locs ++ L9) ls (hP2.sub (ws' := ws' z) is' (jfm (h9 z))) (hD2.sub (ws' := ws' z) is' hn9 (h9 z))
    ⟨Nat.le_trans hS.1 hz, fun q h1 h2 => by rw [hk q (Nat.lt_of_lt_of_le h1 hS.1) (fun z => h2 (hFc q z))]; exact hS.2.1 q h1 h2, fun q hq => by
      rcases List.mem_append.mp hq with h | h
      · exact hS.2.2 q h
      · exact hFc _ (hL q h)⟩ hl hc T' rfl X'
  exact ⟨t2, st t2 a1, b1⟩
theorem J_callINE (C : Cx U k cc own Ts rm) (hM : FnE U y wy rmY (.ref b :: As) wc w1 mc ms) (hT : GoodIn Ts wy) (hNl : (own, index, y) ∈ jNl) (hini : Cond.initialized y.cls ∈ Ts) (hinst : Cond.instanceMethod y ∈ Ts) (hyi : y.name = "<init>") (hw : wy = Cond.code y bytes maxL none :: wy') (hrc : rmY.cells = mc) (hrs : rmY.slots = ms)
    (hd : y.cls ≠ "java/lang/invoke/MethodHandle" ∧ y.cls ≠ "java/lang/invoke/VarHandle" ∧ (parseMethodDescriptor y.desc).map (fun d => d.parameters.length) = some n) (hRm : rmY.frames + 1 ≤ rm.frames ∧ 8 + (maxL + 11) + rmY.locals ≤ rm.locals)
    (hnA : As.length = n) (hst : st0 = As.reverse ++ .ref b :: rest) (hW : (rest.map fun v => v.category).sum ≤ 8)
    (ws' : (Nat → Nat) → va_W) (isC isR is' : List Nat) (hC : isC.map (fun i => ws[i]?) = wc.map some) (hnC : va_nd isC = true) (hR : isR.map (fun i => ws[i]?) = wr.map some) (hn : va_nd isR = true) (hdis : ∀ i ∈ isR, i ∉ isC) (h9 : ∀ z, is'.map (fun i => (wr ++ w1 z)[i]?) = (ws' z).map some) (hn9 : va_nd is' = true)
    (hdg : decode cc pc = .ok (.invokespecial index, 3)) (hf : cells + mc ≤ rm.cells ∧ slots + ms ≤ rm.slots) (kk : ∀ z : Nat → Nat, J U k (cells + mc) (slots + ms) (ws' z) L (pc + 3) rest) : J U k cells slots ws L pc st0 :=
  J_runE C ws' isC isR is' hC hR hn hdis h9 hn9 (fun H locs ls hP hD hS hl => by
    have hR9 : k.2.2.1 = rm := C.2.2.2.1
    refine va_runIN (As := As) (rest := rest) C.1 (hM C.2.2.2.2.2 H.size) ⟨va_cnB (host := "BoothOtters") n C.1.2.2.2.2 hT hw hrc hrs (C.2.1.2.2.2.2.1 _ hNl) (C.1.2.2.2.2 _ hini) hd (by rw [hR9]; exact hRm), hyi, C.1.2.2.2.2 _ hinst⟩ ⟨jPc_blind, J_pre C hP hD hS isC hC hnC⟩ rfl hnA hl.1 hst (J_room hW) hdg (by rw [hR9]; exact hf)) kk
theorem J_callIE (C : Cx U k cc own Ts rm) (hM : FnE U y wy rmY (.ref b :: As) wc w1 mc ms) (hT : GoodIn Ts wy) (hlk : Cond.methodLink own index y ∈ Ts) (hini : Cond.initialized y.cls ∈ Ts) (hinst : Cond.instanceMethod y ∈ Ts) (hyi : y.name = "<init>") (hw : wy = Cond.code y bytes maxL none :: wy') (hrc : rmY.cells = mc) (hrs : rmY.slots = ms)
    (hd : y.cls ≠ "java/lang/invoke/MethodHandle" ∧ y.cls ≠ "java/lang/invoke/VarHandle" ∧ (parseMethodDescriptor y.desc).map (fun d => d.parameters.length) = some n) (hRm : rmY.frames + 1 ≤ rm.frames ∧ 8 + (maxL + 11) + rmY.locals ≤ rm.locals)
    (hnA : As.length = n) (hst : st0 = As.reverse ++ .ref b :: rest) (hW : (rest.map fun v => v.category).sum ≤ 8)
    (ws' : (Nat → Nat) → va_W) (isC isR is' : List Nat) (hC : isC.map (fun i => ws[i]?) = wc.map some) (hnC : va_nd isC = true) (hR : isR.map (fun i => ws[i]?) = wr.map some) (hn : va_nd isR = true) (hdis : ∀ i ∈ isR, i ∉ isC) (h9 : ∀ z, is'.map (fun i => (wr ++ w1 z)[i]?) = (ws' z).map some) (hn9 : va_nd is' = true)
    (hdg : decode cc pc = .ok (.invokespecial index, 3)) (hf : cells + mc ≤ rm.cells ∧ slots + ms ≤ rm.slots) (kk : ∀ z : Nat → Nat, J U k (cells + mc) (slots + ms) (ws' z) L (pc + 3) rest) : J U k cells slots ws L pc st0 :=
  J_runE C ws' isC isR is' hC hR hn hdis h9 hn9 (fun H locs ls hP hD hS hl => by
    have hR9 : k.2.2.1 = rm := C.2.2.2.1
    refine va_runI (As := As) (rest := rest) C.1 (hM C.2.2.2.2.2 H.size) (cwI n C.1.2.2.2.2 hT hw hrc hrs (C.1.2.2.2.2 _ hini) (C.1.2.2.2.2 _ hlk) (C.1.2.2.2.2 _ hinst) hyi hd (by rw [hR9]; exact hRm)) ⟨jPc_blind, J_pre C hP hD hS isC hC hnC⟩ rfl hnA hl.1 hst (J_room hW) hdg (by rw [hR9]; exact hf)) kk
def RetE (U : jU) (k : jK) (mc ms : Nat) (W1 : (Nat → Nat) → va_W) : Prop :=
  k.2.2.2.2.2.2.2.2.2.2.2.2 = MQ k.2.2.2.2.2.2.1 (jQcE U W1 k.2.2.2.2.2.2.2.2.2.1) k.2.2.2.2.2.1 k.2.2.2.1 mc ms k.2.2.2.2.2.2.2.2.2.1 ∧ k.2.2.2.2.2.2.2.1.sig.returnType = none ∧ k.2.2.2.2.2.2.2.1.locks = false ∧ k.2.2.2.2.2.2.2.2.2.2.1 = k.2.2.2.1.heap
variable {W1 : (Nat → Nat) → va_W}
theorem J_vretE (C : Cx U k cc own Ts rm) (R : RetE U k mc ms W1) (z : Nat → Nat) (hdg : decode cc pc = .ok (.return_, 1)) (h1 : cells ≤ mc) (h2 : slots ≤ ms) (hw : ws = W1 z) : J U k cells slots ws L pc [] := by
  intro H locs ls hP hD hS hl hc
  obtain ⟨hQ, hret, hlocks, hH⟩ := R
  rw [hQ]
  refine W.widen (k := mc) (n := ms) h1 h2 ?_
  refine W.vret C.1.1 C.1.2.1 hret (fun t ht hW => ⟨⟨z, rfl, by rw [ht, ← hw]; exact hP, by rw [← hw]; exact hD⟩, ?_⟩) hS.2.2 hdg hlocks
  rw [hH] at hS
  exact hS.F ht
theorem FnE_of {W0 : va_W} {av : List Value} (L0 : List (Option Value)) (hy : plainName y.cls = true) (hw : wy = Cond.code y cc maxL none :: wy') (hcat : ∀ v ∈ av, v.category = 1) (hlen : av.length ≤ maxL) (hL0 : L0 = av.map some ++ List.replicate (maxL - av.length) none)
    (body : ∀ k : jK, Cx U k cc y.cls wy rm → RetE U k mc ms W1 → k.2.2.2.2.2.2.2.1.name = y.name → k.2.2.2.2.2.2.2.2.2.2.2.1 = maxL → J U k 0 0 W0 L0 0 []) : FnE U y wy rm av W0 W1 mc ms := by
  intro hst sz
  refine Met.ofW (cc := cc) (maxL := maxL) (ret := none) hy hw ?_
  intro p e s m args below meth c s₁ B hml hv
  obtain ⟨rfl, hsz, hP, hD0, hG, hZ⟩ := hv
  subst hsz
  have hts := atoms_spec (ws := wy) B.pre
  have hown : s.vm.findClass y.cls = some m.cls := findClass_of_methodNamed B.named
  refine jEntry hcat hlen hL0 (fun ls hl hc => ?_)
  exact body (p, e, rm, s, m, av.toArray, below, meth, c, va_A W0 s.heap.size, s.heap, maxL, MQ below (jQcE U W1 (va_A W0 s.heap.size)) av.toArray s mc ms (va_A W0 s.heap.size))
    ⟨⟨B.exec, B.bytes, hml, hown, hts⟩, hG, fun q h => Or.inr h, rfl, hZ, hst⟩ ⟨rfl, B.returns, B.notSynchronized, rfl⟩ (name_of_methodNamed B.named B.method).1 rfl s.heap [] ls hP (hD0.self) va_S.rf hl hc
end JE
section JAr
variable {U : jU} {k : jK} {cells slots : Nat} {ws : va_W} {L : List (Option Value)} {pc : Nat} {st : List Value}
/-- an array is what it holds below its length -/
theorem J_arr {a n : Nat} {cA : ClassId} {f : Nat → Int32} (f' : Nat → Int32) (q0 : Nat) (ws' : va_W) (hq : ws[q0]? = some (a, .inl (cA, n, .inl f))) (h : ∀ j, j < n → f' j = f j) (hw : ws.set q0 (a, .inl (cA, n, .inl f')) = ws') (kk : J U k cells slots ws' L pc st) : J U k cells slots ws L pc st := by
  intro H locs ls hP hD hS hl hc
  have e : vp_cell cA (n, .inl f') = vp_cell cA (n, .inl f) := by
    rw [vp_cell_i, vp_cell_i]
    unfold arrV
    have : (fun j : Fin n => Value.int (f' j.val)) = (fun j : Fin n => Value.int (f j.val)) := funext fun j => by rw [h j.val j.isLt]
    rw [this]
  exact kk H locs ls (hw ▸ hP.set hD hq (show H[a]? = some (vp_cell cA (n, .inl f')) by rw [e]; exact hP q0 _ hq) (fun _ _ => rfl)) (hw ▸ hD.set hq) hS hl hc
theorem J_arrO {a n : Nat} {cA : ClassId} {f : Nat → Option Nat} (f' : Nat → Option Nat) (q0 : Nat) (ws' : va_W) (hq : ws[q0]? = some (a, .inl (cA, n, .inr (.inr (.inr (.inr f)))))) (h : ∀ j, j < n → f' j = f j) (hw : ws.set q0 (a, .inl (cA, n, .inr (.inr (.inr (.inr f'))))) = ws') (kk : J U k cells slots ws' L pc st) : J U k cells slots ws L pc st := by
  intro H locs ls hP hD hS hl hc
  have e : vp_cell cA (n, .inr (.inr (.inr (.inr f')))) = vp_cell cA (n, .inr (.inr (.inr (.inr f)))) := by
    rw [vp_cell_q, vp_cell_q]
    unfold arrV
    have : (fun j : Fin n => va_rf (f' j.val)) = (fun j : Fin n => va_rf (f j.val)) := funext fun j => by rw [h j.val j.isLt]
    rw [this]
  exact kk H locs ls (hw ▸ hP.set hD hq (show H[a]? = some (vp_cell cA (n, .inr (.inr (.inr (.inr f'))))) by rw [e]; exact hP q0 _ hq) (fun _ _ => rfl)) (hw ▸ hD.set hq) hS hl hc
end JAr
