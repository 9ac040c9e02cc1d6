/-! ===== throws in the judgement ===== -/
section JT
variable {U : jU} {k : jK} {cc : ByteArray} {own : String} {Ts : List Cond} {rm : Room} {cells slots : Nat} {ws : va_W} {L : List (Option Value)} {pc : Nat} {st0 rest : List Value}
variable {y : MethodName} {bytes : ByteArray} {maxL index n mc ms b ci N : Nat} {ret : Option FieldType} {wy wy' : List Cond} {rmY : Room} {As fs : List Value} {wc wr w1 : va_W} {r : Option Value} {Cn E : String} {T : u_T}
def RetT (U : jU) (k : jK) (mc ms : Nat) (E : String) (W1 : va_W) : Prop :=
  k.2.2.2.2.2.2.2.2.2.2.2.2 = vx_MQ k.2.2.2.2.2.2.1 jNo (jXC U E W1 k.2.2.2.2.2.2.2.2.2.1) k.2.2.2.2.2.1 k.2.2.2.1 mc ms k.2.2.2.2.2.2.2.2.2.1 ∧ k.2.2.2.2.2.2.2.1.locks = false ∧ k.2.2.2.2.2.2.2.2.2.2.1 = k.2.2.2.1.heap ∧ (∀ x ∈ k.2.2.2.2.2.2.2.2.1.exceptionTable.toList, False)
theorem J_runX (C : Cx U k cc own Ts rm) (ws' : va_W) {av : Array Value} (isC isR is' : List Nat) (hC : isC.map (fun i => ws[i]?) = wc.map some) (hR : isR.map (fun i => ws[i]?) = wr.map some) (hn : va_nd isR = true) (hdis : ∀ i ∈ isR, i ∉ isC) (h9 : is'.map (fun i => (wr ++ w1)[i]?) = ws'.map some) (hn9 : va_nd is' = true)
    (hr : ∀ (H : Heap) (locs : List Loc) (ls : Array Slot), va_P U.2.1 vwCl ws H → va_D k.2.2.2.2.2.2.2.2.2.1 ws → va_S k.2.2.2.2.2.2.2.2.2.1 k.2.2.2.2.2.2.2.2.2.2.1 H locs → lv_has ls k.2.2.2.2.2.2.2.2.2.2.2.1 (jL 0 L) →
      vx_Run k.1 U.1 k.2.1 k.2.2.1 k.2.2.2.1 k.2.2.2.2.1 k.2.2.2.2.2.1 k.2.2.2.2.2.2.1 k.2.2.2.2.2.2.2.1 k.2.2.2.2.2.2.2.2.1 H locs cells slots mc ms (F0 k.2.2.2.2.1 pc ls st0) rest (jNo av) (jXC U E w1 (va_A wc H.size)) (va_A wc H.size))
    (kk : JX U k (cells + mc) (slots + ms) ws' L pc E) : J U k cells slots ws L pc st0 := by
  intro H locs ls hP hD hS hl hc T9 hT X
  rcases hr H locs ls hP hD hS hl T9 hT X with ⟨v, st₀, t, T', L9, h0, X', hL, e1, e2, hno, st⟩ | ⟨q, st₀, t, T', L9, E', ce, h0, X', hL, e1, e2, ⟨hE, ⟨hP1, hD1⟩, hz, hk⟩, hce, hcv, hcl, st⟩
  · exact absurd hno id
  · subst hE
    rw [h0] at hz hk
    rw [← e1] at hP1 hz hk hce
    have hFc := va_free (wc := wc) hD hS C.2.2.1 isC hC
    obtain ⟨hP2, hD2⟩ := va_join (wr := wr) (w1 := w1) hP hD isC isR hC hR hn hdis hk hFc hP1 hD1
    obtain ⟨t2, a1, b1⟩ := kk T'.heap (locs ++ L9) ls ce q rest (hP2.sub (ws' := ws') is' (jfm h9)) (hD2.sub (ws' := ws') is' hn9 h9)
      ⟨Nat.le_trans hS.1 hz, fun q h1 h2 => by rw [hk q (Nat.lt_of_lt_of_le h1 hS.1) (fun z => h2 (hFc q z))]; exact hS.2.1 q h1 h2, fun q hq => by
        rcases List.mem_append.mp hq with h | h
        · exact hS.2.2 q h
        · exact hFc _ (hL q h)⟩ hl hc hce hcv hcl T' rfl X'
    exact ⟨t2, st.trans a1, b1⟩
theorem J_callXV (C : Cx U k cc own Ts rm) (hM : FnT U y wy rmY (.ref b :: As) wc E w1 mc ms) (hT : GoodIn Ts (wsV own index Cn y wy)) (hw : wy = Cond.code y bytes maxL ret :: wy') (hrc : rmY.cells = mc) (hrs : rmY.slots = ms)
    (hd : y.cls = Cn ∧ y.cls ≠ "java/lang/invoke/MethodHandle" ∧ y.cls ≠ "java/lang/invoke/VarHandle" ∧ (parseMethodDescriptor y.desc).map (fun d => d.parameters.length) = some n) (hRm : rmY.frames + 1 ≤ rm.frames ∧ 8 + (maxL + 11) + rmY.locals ≤ rm.locals)
    (q0 : Nat) (hcl : vwCl[ci]? = some (Cn, T, N)) (hq : ws[q0]? = some (b, .inr (ci, fs))) (hnA : As.length = n) (hst : st0 = As.reverse ++ .ref b :: rest) (hW : (rest.map fun v => v.category).sum ≤ 8)
    (ws' : va_W) (isC isR is' : List Nat) (hC : isC.map (fun i => ws[i]?) = wc.map some) (hnC : va_nd isC = true) (hR : isR.map (fun i => ws[i]?) = wr.map some) (hn : va_nd isR = true) (hdis : ∀ i ∈ isR, i ∉ isC) (h9 : is'.map (fun i => (wr ++ w1)[i]?) = ws'.map some) (hn9 : va_nd is' = true)
    (hdg : decode cc pc = .ok (.invokevirtual index, 3)) (hf : cells + mc ≤ rm.cells ∧ slots + ms ≤ rm.slots) (kk : JX U k (cells + mc) (slots + ms) ws' L pc E) : J U k cells slots ws L pc st0 :=
  J_runX C ws' isC isR is' hC hR hn hdis h9 hn9 (fun H locs ls hP hD hS hl => by
    have hR9 : k.2.2.1 = rm := C.2.2.2.1
    refine vx_runV (As := As) (rest := rest) C.1 (hM C.2.2.2.2.2 H.size) (cwV n C.1.2.2.2.2 hT hw hrc hrs hd (by rw [hR9]; exact hRm)) ⟨jPc_blind, va_recv C.2.1.1 hP hcl hq, J_pre C hP hD hS isC hC hnC⟩ rfl hnA hl.1 hst (J_room hW) hdg (by rw [hR9]; exact hf)) kk
theorem J_callXS (C : Cx U k cc own Ts rm) (hM : FnT U y wy rmY As wc E w1 mc ms) (hT : GoodIn Ts (va_wsS own index y wy)) (hw : wy = Cond.code y bytes maxL ret :: wy') (hrc : rmY.cells = mc) (hrs : rmY.slots = ms)
    (hd : y.cls ≠ "java/lang/invoke/MethodHandle" ∧ y.cls ≠ "java/lang/invoke/VarHandle" ∧ (parseMethodDescriptor y.desc).map (fun d => d.parameters.length) = some n) (hRm : rmY.frames + 1 ≤ rm.frames ∧ 8 + (maxL + 11) + rmY.locals ≤ rm.locals)
    (hnA : As.length = n) (hst : st0 = As.reverse ++ rest) (hW : (rest.map fun v => v.category).sum ≤ 8)
    (ws' : va_W) (isC isR is' : List Nat) (hC : isC.map (fun i => ws[i]?) = wc.map some) (hnC : va_nd isC = true) (hR : isR.map (fun i => ws[i]?) = wr.map some) (hn : va_nd isR = true) (hdis : ∀ i ∈ isR, i ∉ isC) (h9 : is'.map (fun i => (wr ++ w1)[i]?) = ws'.map some) (hn9 : va_nd is' = true)
    (hdg : decode cc pc = .ok (.invokestatic index, 3)) (hf : cells + mc ≤ rm.cells ∧ slots + ms ≤ rm.slots) (kk : JX U k (cells + mc) (slots + ms) ws' L pc E) : J U k cells slots ws L pc st0 :=
  J_runX C ws' isC isR is' hC hR hn hdis h9 hn9 (fun H locs ls hP hD hS hl => by
    have hR9 : k.2.2.1 = rm := C.2.2.2.1
    refine vx_runS (As := As) (rest := rest) C.1 (hM C.2.2.2.2.2 H.size) (va_cwS n C.1.2.2.2.2 hT hw hrc hrs hd (by rw [hR9]; exact hRm)) ⟨jPc_blind, J_pre C hP hD hS isC hC hnC⟩ rfl hnA hl.1 hst (J_room hW) hdg (by rw [hR9]; exact hf)) kk
variable {W1 : va_W}
/-- not caught: on to the caller -/
theorem JX_out (C : Cx U k cc own Ts rm) (R : RetT U k mc ms E W1) (h1 : cells ≤ mc) (h2 : slots ≤ ms) (hw : ws = W1) : JX U k cells slots ws L pc E := by
  intro H locs ls ce q rest hP hD hS hl hc hce hcv hcl
  obtain ⟨hQ, hlocks, hH, htab⟩ := R
  rw [hQ]
  refine vx_out (fun x hx => (htab x hx).elim) hlocks hce hcv hcl (fun t ht hA => ⟨rfl, ⟨by rw [ht, ← hw]; exact hP, by rw [← hw]; exact hD⟩, ?_⟩) hS.2.2 h1 h2
  rw [hH] at hS
  exact hS.F ht
def jNm : List String := ["java/lang/RuntimeException", "java/lang/Exception"]
/-- throw new E("..") -/
theorem J_throwS (C : Cx U k cc own Ts rm) (R : RetT U k mc ms E W1) {ik is ic : Nat} (text : String) (hX : E ∈ jX3) (htx : (is, text) ∈ jTexts) (hown : own = "BoothOtters") (hfit : Bundle.fit E = true) (hlk : Cond.classLink own ik E ∈ Ts) (hini : Cond.initialized E ∈ Ts) (hat : ∀ w ∈ (vx_atS own ic E jNm).filter goodWord, w ∈ Ts) (hat2 : ∀ w ∈ (vx_atS own ic E jNm).filter (fun w => !goodWord w), w ∈ [Cond.castable E E, .declares (Bundle.initS "java/lang/RuntimeException"), .declares (Bundle.initS "java/lang/Exception"), .declares (Bundle.initS "java/lang/Throwable")])
    (hgood : ∀ w ∈ Cond.classLink own ik E :: Cond.initialized E :: vx_atS own ic E jNm, vx_ot w = true)
    (d0 : decode cc pc = .ok (.new ik, 3)) (d3 : decode cc (pc + 3) = .ok (.dup, 1)) (d4 : decode cc (pc + 4) = .ok (.ldc is, 2)) (d6 : decode cc (pc + 6) = .ok (.invokespecial ic, 3)) (d9 : decode cc (pc + 9) = .ok (.athrow, 1))
    (hRf : 5 < rm.frames) (hRl : (st0.map fun v => v.category).sum + 82 ≤ rm.locals) (hRc : cells + 1 ≤ rm.cells) (hRs : slots + 6 ≤ rm.slots) (h1 : cells + 1 ≤ mc) (h2 : slots + 6 ≤ ms) (hw : ws = W1) : J U k cells slots ws L pc st0 := by
  intro H locs ls hP hD hS hl hc
  obtain ⟨hQ, hlocks, hH, htab⟩ := R
  have hR9 : k.2.2.1 = rm := C.2.2.2.1
  have hZ := C.2.2.2.2.1
  have hS' := hS
  rw [hH] at hZ hS'
  rw [hQ]
  subst hown
  refine vx_throwS C.1.1 C.1.2.1 C.2.2.2.2.2 (names := jNm) C.1.2.2.2.1 hfit (by decide +kernel) (C.1.2.2.2.2 _ hlk) (C.1.2.2.2.2 _ hini) (C.2.1.2.1 _ htx)
    (vx_hat (fun w hw => C.1.2.2.2.2 w (hat w hw)) hat2 (vx_c (va_Nw.use rfl (C.2.1.2.2.1 E hX)) (vx_c (va_Nw.use rfl (C.2.1.2.2.2.2.2.2 _ (List.mem_of_getElem? (i := 0) rfl))) (vx_c (va_Nw.use rfl (C.2.1.2.2.2.2.2.2 _ (List.mem_of_getElem? (i := 1) rfl))) (vx_c (va_Nw.use rfl (C.2.1.2.2.2.2.2.2 _ (List.mem_of_getElem? (i := 2) rfl))) vx_n))))) hgood hZ.1 hZ.2 hS' (hl.1.trans C.1.2.2.1.symm) d0 d3 d4 d6 d9 (fun x hx => (htab x hx).elim)
    (by rw [hR9]; exact hRf) (by rw [hR9]; exact hRl) (by rw [hR9]; exact hRc) (by rw [hR9]; exact hRs) hlocks ?_ hS.2.2 h1 h2
  intro t hA hz hk
  refine ⟨rfl, ⟨by rw [← hw]; exact hP.kept (fun i q h => hk q.1 (hP i q h).lt), by rw [← hw]; exact hD⟩, Nat.le_trans hS'.1 hz, fun q g1 g2 => (hk q (Nat.lt_of_lt_of_le g1 hS'.1)).trans (hS'.2.1 q g1 g2)⟩
/-- throw new E("..") -/
theorem J_throwSW (C : Cx U k cc own Ts rm) (R : RetT U k mc ms E W1) {ik is ic : Nat} (text : String) (hX : E ∈ jX3) (htx : (is, text) ∈ jTexts) (hown : own = "BoothOtters") (hfit : Bundle.fit E = true) (hlk : Cond.classLink own ik E ∈ Ts) (hini : Cond.initialized E ∈ Ts) (hat : ∀ w ∈ (vx_atS own ic E jNm).filter goodWord, w ∈ Ts) (hat2 : ∀ w ∈ (vx_atS own ic E jNm).filter (fun w => !goodWord w), w ∈ [Cond.castable E E, .declares (Bundle.initS "java/lang/RuntimeException"), .declares (Bundle.initS "java/lang/Exception"), .declares (Bundle.initS "java/lang/Throwable")])
    (hgood : ∀ w ∈ Cond.classLink own ik E :: Cond.initialized E :: vx_atS own ic E jNm, vx_ot w = true)
    (d0 : decode cc pc = .ok (.new ik, 3)) (d3 : decode cc (pc + 3) = .ok (.dup, 1)) (d4 : decode cc (pc + 4) = .ok (.ldc_w is, 3)) (d7 : decode cc (pc + 7) = .ok (.invokespecial ic, 3)) (d10 : decode cc (pc + 10) = .ok (.athrow, 1))
    (hRf : 5 < rm.frames) (hRl : (st0.map fun v => v.category).sum + 82 ≤ rm.locals) (hRc : cells + 1 ≤ rm.cells) (hRs : slots + 6 ≤ rm.slots) (h1 : cells + 1 ≤ mc) (h2 : slots + 6 ≤ ms) (hw : ws = W1) : J U k cells slots ws L pc st0 := by
  intro H locs ls hP hD hS hl hc
  obtain ⟨hQ, hlocks, hH, htab⟩ := R
  have hR9 : k.2.2.1 = rm := C.2.2.2.1
  have hZ := C.2.2.2.2.1
  have hS' := hS
  rw [hH] at hZ hS'
  rw [hQ]
  subst hown
  refine vx_throwSW C.1.1 C.1.2.1 C.2.2.2.2.2 (names := jNm) C.1.2.2.2.1 hfit (by decide +kernel) (C.1.2.2.2.2 _ hlk) (C.1.2.2.2.2 _ hini) (C.2.1.2.1 _ htx)
    (vx_hat (fun w hw => C.1.2.2.2.2 w (hat w hw)) hat2 (vx_c (va_Nw.use rfl (C.2.1.2.2.1 E hX)) (vx_c (va_Nw.use rfl (C.2.1.2.2.2.2.2.2 _ (List.mem_of_getElem? (i := 0) rfl))) (vx_c (va_Nw.use rfl (C.2.1.2.2.2.2.2.2 _ (List.mem_of_getElem? (i := 1) rfl))) (vx_c (va_Nw.use rfl (C.2.1.2.2.2.2.2.2 _ (List.mem_of_getElem? (i := 2) rfl))) vx_n))))) hgood hZ.1 hZ.2 hS' (hl.1.trans C.1.2.2.1.symm) d0 d3 d4 d7 d10 (fun x hx => (htab x hx).elim)
    (by rw [hR9]; exact hRf) (by rw [hR9]; exact hRl) (by rw [hR9]; exact hRc) (by rw [hR9]; exact hRs) hlocks ?_ hS.2.2 h1 h2
  intro t hA hz hk
  refine ⟨rfl, ⟨by rw [← hw]; exact hP.kept (fun i q h => hk q.1 (hP i q h).lt), by rw [← hw]; exact hD⟩, Nat.le_trans hS'.1 hz, fun q g1 g2 => (hk q (Nat.lt_of_lt_of_le g1 hS'.1)).trans (hS'.2.1 q g1 g2)⟩
theorem FnT_of {W0 : va_W} {av : List Value} (L0 : List (Option Value)) (hy : plainName y.cls = true) (hw : wy = Cond.code y cc maxL ret :: wy') (hcat : ∀ v ∈ av, v.category = 1) (hlen : av.length ≤ maxL) (hL0 : L0 = av.map some ++ List.replicate (maxL - av.length) none)
    (body : ∀ k : jK, Cx U k cc y.cls wy rm → RetT U k mc ms E W1 → k.2.2.2.2.2.2.2.2.2.2.2.1 = maxL → J U k 0 0 W0 L0 0 []) : FnT U y wy rm av W0 E W1 mc ms := by
  intro hst sz
  refine vx_ofW (cc := cc) (maxL := maxL) (ret := ret) hy hw ?_
  intro p e s m args below meth c s₁ B hml htab hv
  obtain ⟨rfl, hsz, hP, hD0, hG, hZ⟩ := hv
  subst hsz
  have hts := atoms_spec (ws := wy) B.pre
  have hown : s.vm.findClass y.cls = some m.cls := findClass_of_methodNamed B.named
  refine jEntry hcat hlen hL0 (fun ls hl hc => ?_)
  exact body (p, e, rm, s, m, av.toArray, below, meth, c, va_A W0 s.heap.size, s.heap, maxL, vx_MQ below jNo (jXC U E W1 (va_A W0 s.heap.size)) av.toArray s mc ms (va_A W0 s.heap.size))
    ⟨⟨B.exec, B.bytes, hml, hown, hts⟩, hG, fun q h => Or.inr h, rfl, hZ, hst⟩ ⟨rfl, B.notSynchronized, rfl, htab⟩ rfl s.heap [] ls hP (hD0.self) va_S.rf hl hc
end JT
