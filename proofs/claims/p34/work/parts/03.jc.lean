/-! ===== calls, ends and beginnings in the judgement ===== -/
theorem jfm {α β : Type} {f : α → Option β} : ∀ {is : List α} {l : List β}, is.map f = l.map some → is.filterMap f = l
  | [], l, h => by
    cases l with
    | nil => rfl
    | cons _ _ => simp at h
  | a :: is, l, h => by
    cases l with
    | nil => simp at h
    | cons b l =>
      simp only [List.map_cons, List.cons.injEq] at h
      simp [List.filterMap_cons, h.1, jfm h.2]
section JS
variable {U : jU} {k : jK} {cc : ByteArray} {own : String} {Ts : List Cond} {rm : Room} {cells slots : Nat} {ws : va_W} {L : List (Option Value)} {pc : Nat} {st0 rest : List Value}
variable {y : MethodName} {bytes : ByteArray} {maxL index n mc ms b ci N : Nat} {ret : Option FieldType} {wy wy' : List Cond} {rmY : Room} {As fs : List Value} {wc wr w1 : va_W} {r : Option Value} {Cn : String} {T : u_T}
theorem J_run (C : Cx U k cc own Ts rm) (ws' : va_W) {av : Array Value} (isC isR is' : List Nat) (hC : isC.map (fun i => ws[i]?) = wc.map some) (hR : isR.map (fun i => ws[i]?) = wr.map some) (hn : va_nd isR = true) (hdis : ∀ i ∈ isR, i ∉ isC) (h9 : is'.map (fun i => (wr ++ w1)[i]?) = ws'.map some) (hn9 : va_nd is' = true)
    (hr : ∀ (H : Heap) (locs : List Loc) (ls : Array Slot), va_P U.2.1 vwCl ws H → va_D k.2.2.2.2.2.2.2.2.2.1 ws → va_S k.2.2.2.2.2.2.2.2.2.1 k.2.2.2.2.2.2.2.2.2.2.1 H locs → lv_has ls k.2.2.2.2.2.2.2.2.2.2.2.1 (jL 0 L) →
      va_Run k.1 U.1 k.2.1 k.2.2.1 k.2.2.2.1 k.2.2.2.2.1 k.2.2.2.2.2.1 k.2.2.2.2.2.2.1 k.2.2.2.2.2.2.2.1 k.2.2.2.2.2.2.2.2.1 H locs cells slots mc ms (F0 k.2.2.2.2.1 pc ls st0) rest (jQc U r w1 (va_A wc H.size) av) (va_A wc H.size))
    (kk : J U k (cells + mc) (slots + ms) ws' L (pc + 3) (r.toList ++ rest)) : J U k cells slots ws L pc st0 := by
  intro H locs ls hP hD hS hl hc T9 hT X
  obtain ⟨v, st₀, t, T', L9, h0, X', hL, e1, e2, ⟨⟨hv, hP1, hD1⟩, hz, hk⟩, st⟩ := hr H locs ls hP hD hS hl T9 hT X
  cases hv
  rw [h0] at hz hk
  rw [← e1] at hP1 hz hk
  have hFc := va_free (wc := wc) hD hS C.2.2.1 isC hC
  obtain ⟨hP2, hD2⟩ := va_join (wr := wr) (w1 := w1) hP hD isC isR hC hR hn hdis hk hFc hP1 hD1
  obtain ⟨t2, a1, b1⟩ := kk T'.heap (locs ++ L9) ls (hP2.sub (ws' := ws') is' (jfm h9)) (hD2.sub (ws' := ws') is' hn9 h9)
    ⟨Nat.le_trans hS.1 hz, fun q h1 h2 => by rw [hk q (Nat.lt_of_lt_of_le h1 hS.1) (fun z => h2 (hFc q z))]; exact hS.2.1 q h1 h2, fun q hq => by
      rcases List.mem_append.mp hq with h | h
      · exact hS.2.2 q h
      · exact hFc _ (hL q h)⟩ hl hc T' rfl X'
  exact ⟨t2, st t2 a1, b1⟩
theorem J_pre (C : Cx U k cc own Ts rm) {H : Heap} {locs : List Loc} {av : List Value} (hP : va_P U.2.1 vwCl ws H) (hD : va_D k.2.2.2.2.2.2.2.2.2.1 ws) (hS : va_S k.2.2.2.2.2.2.2.2.2.1 k.2.2.2.2.2.2.2.2.2.2.1 H locs) (isC : List Nat) (hC : isC.map (fun i => ws[i]?) = wc.map some) (hnC : va_nd isC = true) :
    ∀ V : State, V.heap = H → k.2.2.2.1.WarmedH V.vm → jPc U av wc H.size av.toArray V := by
  intro V hV hW
  refine ⟨rfl, by rw [hV], by rw [hV]; exact hP.sub isC (jfm hC), (hD.sub isC hnC hC).weaken (fun _ _ _ _ => trivial), jG.warm hW C.2.1, ?_⟩
  rw [hV]
  exact jZ.narrow (jZ.moved hW.alike (jZ.kept C.2.2.2.2.1 hS.2.1)) (va_free (wc := wc) hD hS C.2.2.1 isC hC)
theorem J_room {pc : Nat} {ls : Array Slot} {m : MethodId} {st0 st : List Value} (h : (st.map fun v => v.category).sum ≤ 8) : 2 * (F0 m pc ls st0).monitorRoom + (st.map fun v => v.category).sum ≤ 8 := by
  have e0 : (F0 m pc ls st0).monitorRoom = 0 := rfl
  rw [e0]; omega
theorem J_callV (C : Cx U k cc own Ts rm) (hM : Fn U y wy rmY (.ref b :: As) wc r w1 mc ms) (hT : GoodIn Ts (wsV own index Cn y wy)) (hw : wy = Cond.code y bytes maxL ret :: wy') (hrc : rmY.cells = mc) (hrs : rmY.slots = ms)
    (hd : y.cls = Cn ∧ y.cls ≠ "java/lang/invoke/MethodHandle" ∧ y.cls ≠ "java/lang/invoke/VarHandle" ∧ (parseMethodDescriptor y.desc).map (fun d => d.parameters.length) = some n) (hRm : rmY.frames + 1 ≤ rm.frames ∧ 8 + (maxL + 11) + rmY.locals ≤ rm.locals)
    (q0 : Nat) (hcl : vwCl[ci]? = some (Cn, T, N)) (hq : ws[q0]? = some (b, .inr (ci, fs))) (hnA : As.length = n) (hst : st0 = As.reverse ++ .ref b :: rest) (hW : (rest.map fun v => v.category).sum ≤ 8)
    (ws' : va_W) (isC isR is' : List Nat) (hC : isC.map (fun i => ws[i]?) = wc.map some) (hnC : va_nd isC = true) (hR : isR.map (fun i => ws[i]?) = wr.map some) (hn : va_nd isR = true) (hdis : ∀ i ∈ isR, i ∉ isC) (h9 : is'.map (fun i => (wr ++ w1)[i]?) = ws'.map some) (hn9 : va_nd is' = true)
    (hdg : decode cc pc = .ok (.invokevirtual index, 3)) (hf : cells + mc ≤ rm.cells ∧ slots + ms ≤ rm.slots) (st1 : List Value) (hs1 : r.toList ++ rest = st1) (kk : J U k (cells + mc) (slots + ms) ws' L (pc + 3) st1) : J U k cells slots ws L pc st0 :=
  J_run C ws' isC isR is' hC hR hn hdis h9 hn9 (fun H locs ls hP hD hS hl => by
    have hR9 : k.2.2.1 = rm := C.2.2.2.1
    refine va_runV (As := As) (rest := rest) C.1 (hM C.2.2.2.2.2 H.size) (cwV n C.1.2.2.2.2 hT hw hrc hrs hd (by rw [hR9]; exact hRm)) ⟨jPc_blind, va_recv C.2.1.1 hP hcl hq, J_pre C hP hD hS isC hC hnC⟩ rfl hnA hl.1 hst (J_room hW) hdg (by rw [hR9]; exact hf)) (hs1.symm ▸ kk)
theorem J_callS (C : Cx U k cc own Ts rm) (hM : Fn U y wy rmY As wc r w1 mc ms) (hT : GoodIn Ts (va_wsS own index y wy)) (hw : wy = Cond.code y bytes maxL ret :: wy') (hrc : rmY.cells = mc) (hrs : rmY.slots = ms)
    (hd : y.cls ≠ "java/lang/invoke/MethodHandle" ∧ y.cls ≠ "java/lang/invoke/VarHandle" ∧ (parseMethodDescriptor y.desc).map (fun d => d.parameters.length) = some n) (hRm : rmY.frames + 1 ≤ rm.frames ∧ 8 + (maxL + 11) + rmY.locals ≤ rm.locals)
    (hnA : As.length = n) (hst : st0 = As.reverse ++ rest) (hW : (rest.map fun v => v.category).sum ≤ 8)
    (ws' : va_W) (isC isR is' : List Nat) (hC : isC.map (fun i => ws[i]?) = wc.map some) (hnC : va_nd isC = true) (hR : isR.map (fun i => ws[i]?) = wr.map some) (hn : va_nd isR = true) (hdis : ∀ i ∈ isR, i ∉ isC) (h9 : is'.map (fun i => (wr ++ w1)[i]?) = ws'.map some) (hn9 : va_nd is' = true)
    (hdg : decode cc pc = .ok (.invokestatic index, 3)) (hf : cells + mc ≤ rm.cells ∧ slots + ms ≤ rm.slots) (st1 : List Value) (hs1 : r.toList ++ rest = st1) (kk : J U k (cells + mc) (slots + ms) ws' L (pc + 3) st1) : J U k cells slots ws L pc st0 :=
  J_run C ws' isC isR is' hC hR hn hdis h9 hn9 (fun H locs ls hP hD hS hl => by
    have hR9 : k.2.2.1 = rm := C.2.2.2.1
    refine va_runS (As := As) (rest := rest) C.1 (hM C.2.2.2.2.2 H.size) (va_cwS n C.1.2.2.2.2 hT hw hrc hrs hd (by rw [hR9]; exact hRm)) ⟨jPc_blind, J_pre C hP hD hS isC hC hnC⟩ rfl hnA hl.1 hst (J_room hW) hdg (by rw [hR9]; exact hf)) (hs1.symm ▸ kk)
theorem J_callSN (C : Cx U k cc own Ts rm) (hM : Fn U y wy rmY As wc r w1 mc ms) (hT : GoodIn Ts wy) (hNl : (own, index, y) ∈ jNl) (hini : Cond.initialized y.cls ∈ Ts) (hstat : Cond.static y ∈ Ts) (hw : wy = Cond.code y bytes maxL ret :: wy') (hrc : rmY.cells = mc) (hrs : rmY.slots = ms)
    (hd : y.cls ≠ "java/lang/invoke/MethodHandle" ∧ y.cls ≠ "java/lang/invoke/VarHandle" ∧ (parseMethodDescriptor y.desc).map (fun d => d.parameters.length) = some n) (hRm : rmY.frames + 1 ≤ rm.frames ∧ 8 + (maxL + 11) + rmY.locals ≤ rm.locals)
    (hnA : As.length = n) (hst : st0 = As.reverse ++ rest) (hW : (rest.map fun v => v.category).sum ≤ 8)
    (ws' : va_W) (isC isR is' : List Nat) (hC : isC.map (fun i => ws[i]?) = wc.map some) (hnC : va_nd isC = true) (hR : isR.map (fun i => ws[i]?) = wr.map some) (hn : va_nd isR = true) (hdis : ∀ i ∈ isR, i ∉ isC) (h9 : is'.map (fun i => (wr ++ w1)[i]?) = ws'.map some) (hn9 : va_nd is' = true)
    (hdg : decode cc pc = .ok (.invokestatic index, 3)) (hf : cells + mc ≤ rm.cells ∧ slots + ms ≤ rm.slots) (st1 : List Value) (hs1 : r.toList ++ rest = st1) (kk : J U k (cells + mc) (slots + ms) ws' L (pc + 3) st1) : J U k cells slots ws L pc st0 :=
  J_run C ws' isC isR is' hC hR hn hdis h9 hn9 (fun H locs ls hP hD hS hl => by
    have hR9 : k.2.2.1 = rm := C.2.2.2.1
    refine va_runSN (As := As) (rest := rest) C.1 (hM C.2.2.2.2.2 H.size) ⟨va_cnB (host := "BoothOtters") n C.1.2.2.2.2 hT hw hrc hrs (C.2.1.2.2.2.2.1 _ hNl) (C.1.2.2.2.2 _ hini) hd (by rw [hR9]; exact hRm), C.1.2.2.2.2 _ hstat, trivial⟩ ⟨jPc_blind, J_pre C hP hD hS isC hC hnC⟩ rfl hnA hl.1 hst (J_room hW) hdg (by rw [hR9]; exact hf)) (hs1.symm ▸ kk)
theorem J_callIN (C : Cx U k cc own Ts rm) (hM : Fn U y wy rmY (.ref b :: As) wc r w1 mc ms) (hT : GoodIn Ts wy) (hNl : (own, index, y) ∈ jNl) (hini : Cond.initialized y.cls ∈ Ts) (hinst : Cond.instanceMethod y ∈ Ts) (hyi : y.name = "<init>") (hw : wy = Cond.code y bytes maxL none :: wy') (hrc : rmY.cells = mc) (hrs : rmY.slots = ms)
    (hd : y.cls ≠ "java/lang/invoke/MethodHandle" ∧ y.cls ≠ "java/lang/invoke/VarHandle" ∧ (parseMethodDescriptor y.desc).map (fun d => d.parameters.length) = some n) (hRm : rmY.frames + 1 ≤ rm.frames ∧ 8 + (maxL + 11) + rmY.locals ≤ rm.locals)
    (hnA : As.length = n) (hst : st0 = As.reverse ++ .ref b :: rest) (hW : (rest.map fun v => v.category).sum ≤ 8)
    (ws' : va_W) (isC isR is' : List Nat) (hC : isC.map (fun i => ws[i]?) = wc.map some) (hnC : va_nd isC = true) (hR : isR.map (fun i => ws[i]?) = wr.map some) (hn : va_nd isR = true) (hdis : ∀ i ∈ isR, i ∉ isC) (h9 : is'.map (fun i => (wr ++ w1)[i]?) = ws'.map some) (hn9 : va_nd is' = true)
    (hdg : decode cc pc = .ok (.invokespecial index, 3)) (hf : cells + mc ≤ rm.cells ∧ slots + ms ≤ rm.slots) (st1 : List Value) (hs1 : r.toList ++ rest = st1) (kk : J U k (cells + mc) (slots + ms) ws' L (pc + 3) st1) : J U k cells slots ws L pc st0 :=
  J_run C ws' isC isR is' hC hR hn hdis h9 hn9 (fun H locs ls hP hD hS hl => by
    have hR9 : k.2.2.1 = rm := C.2.2.2.1
    refine va_runIN (As := As) (rest := rest) C.1 (hM C.2.2.2.2.2 H.size) ⟨va_cnB (host := "BoothOtters") n C.1.2.2.2.2 hT hw hrc hrs (C.2.1.2.2.2.2.1 _ hNl) (C.1.2.2.2.2 _ hini) hd (by rw [hR9]; exact hRm), hyi, C.1.2.2.2.2 _ hinst⟩ ⟨jPc_blind, J_pre C hP hD hS isC hC hnC⟩ rfl hnA hl.1 hst (J_room hW) hdg (by rw [hR9]; exact hf)) (hs1.symm ▸ kk)
theorem J_callI (C : Cx U k cc own Ts rm) (hM : Fn U y wy rmY (.ref b :: As) wc r w1 mc ms) (hT : GoodIn Ts wy) (hlk : Cond.methodLink own index y ∈ Ts) (hini : Cond.initialized y.cls ∈ Ts) (hinst : Cond.instanceMethod y ∈ Ts) (hyi : y.name = "<init>") (hw : wy = Cond.code y bytes maxL none :: wy') (hrc : rmY.cells = mc) (hrs : rmY.slots = ms)
    (hd : y.cls ≠ "java/lang/invoke/MethodHandle" ∧ y.cls ≠ "java/lang/invoke/VarHandle" ∧ (parseMethodDescriptor y.desc).map (fun d => d.parameters.length) = some n) (hRm : rmY.frames + 1 ≤ rm.frames ∧ 8 + (maxL + 11) + rmY.locals ≤ rm.locals)
    (hnA : As.length = n) (hst : st0 = As.reverse ++ .ref b :: rest) (hW : (rest.map fun v => v.category).sum ≤ 8)
    (ws' : va_W) (isC isR is' : List Nat) (hC : isC.map (fun i => ws[i]?) = wc.map some) (hnC : va_nd isC = true) (hR : isR.map (fun i => ws[i]?) = wr.map some) (hn : va_nd isR = true) (hdis : ∀ i ∈ isR, i ∉ isC) (h9 : is'.map (fun i => (wr ++ w1)[i]?) = ws'.map some) (hn9 : va_nd is' = true)
    (hdg : decode cc pc = .ok (.invokespecial index, 3)) (hf : cells + mc ≤ rm.cells ∧ slots + ms ≤ rm.slots) (st1 : List Value) (hs1 : r.toList ++ rest = st1) (kk : J U k (cells + mc) (slots + ms) ws' L (pc + 3) st1) : J U k cells slots ws L pc st0 :=
  J_run C ws' isC isR is' hC hR hn hdis h9 hn9 (fun H locs ls hP hD hS hl => by
    have hR9 : k.2.2.1 = rm := C.2.2.2.1
    refine va_runI (As := As) (rest := rest) C.1 (hM C.2.2.2.2.2 H.size) (cwI n C.1.2.2.2.2 hT hw hrc hrs (C.1.2.2.2.2 _ hini) (C.1.2.2.2.2 _ hlk) (C.1.2.2.2.2 _ hinst) hyi hd (by rw [hR9]; exact hRm)) ⟨jPc_blind, J_pre C hP hD hS isC hC hnC⟩ rfl hnA hl.1 hst (J_room hW) hdg (by rw [hR9]; exact hf)) (hs1.symm ▸ kk)
theorem jcat {av : List Value} (h : av.all (fun v => v.category == 1) = true) : ∀ v ∈ av, v.category = 1 := fun v hv => by simpa using (List.all_eq_true.mp h v hv)
/-- what a walk may end with -/
def RetOk (U : jU) (k : jK) (ret : Option FieldType) (mc ms : Nat) (r : Option Value) (W1 : va_W) : Prop :=
  k.2.2.2.2.2.2.2.2.2.2.2.2 = MQ k.2.2.2.2.2.2.1 (jQc U r W1 k.2.2.2.2.2.2.2.2.2.1) k.2.2.2.2.2.1 k.2.2.2.1 mc ms k.2.2.2.2.2.2.2.2.2.1 ∧ k.2.2.2.2.2.2.2.1.sig.returnType = ret ∧ k.2.2.2.2.2.2.2.1.locks = false ∧ k.2.2.2.2.2.2.2.2.2.2.1 = k.2.2.2.1.heap
variable {W1 : va_W}
theorem J_zret (C : Cx U k cc own Ts rm) {x : Int32} {ty : FieldType} (R : RetOk U k (some ty) mc ms r W1) (hn : narrow ty (.int x) = .int x) (hdg : decode cc pc = .ok (.ireturn, 1)) (h1 : cells ≤ mc) (h2 : slots ≤ ms) (hr : r = some (.int x)) (hw : ws = W1) : J U k cells slots ws L pc [.int x] := by
  intro H locs ls hP hD hS hl hc
  obtain ⟨hQ, hret, hlocks, hH⟩ := R
  rw [hQ]
  refine W.widen (k := mc) (n := ms) h1 h2 ?_
  refine W.zret C.1.1 C.1.2.1 hret hn (fun t ht hW => ⟨⟨by rw [hr], by rw [ht, ← hw]; exact hP, by rw [← hw]; exact hD⟩, ?_⟩) hS.2.2 hdg hlocks
  rw [hH] at hS
  exact hS.F ht
theorem J_iret (C : Cx U k cc own Ts rm) {x : Int32} (R : RetOk U k (some .int) mc ms r W1) (hdg : decode cc pc = .ok (.ireturn, 1)) (h1 : cells ≤ mc) (h2 : slots ≤ ms) (hr : r = some (.int x)) (hw : ws = W1) : J U k cells slots ws L pc [.int x] := J_zret C R rfl hdg h1 h2 hr hw
theorem J_vret (C : Cx U k cc own Ts rm) (R : RetOk U k none mc ms r W1) (hdg : decode cc pc = .ok (.return_, 1)) (h1 : cells ≤ mc) (h2 : slots ≤ ms) (hr : r = none) (hw : ws = W1) : J U k cells slots ws L pc [] := by
  intro H locs ls hP hD hS hl hc
  obtain ⟨hQ, hret, hlocks, hH⟩ := R
  rw [hQ]
  refine W.widen (k := mc) (n := ms) h1 h2 ?_
  refine W.vret C.1.1 C.1.2.1 hret (fun t ht hW => ⟨⟨by rw [hr], by rw [ht, ← hw]; exact hP, by rw [← hw]; exact hD⟩, ?_⟩) hS.2.2 hdg hlocks
  rw [hH] at hS
  exact hS.F ht
theorem jEntry {m : MethodId} {H : Heap} {locs : List Loc} {p : Program} {l : Launch} {e : Env} {R : Room} {s : State} {args : Array Value} {below : List Frame} {meth : Method} {c : Code} {Q : State → Prop} {av : List Value} {L0 : List (Option Value)} (hcat : ∀ v ∈ av, v.category = 1) (hlen : av.length ≤ maxL) (hL0 : L0 = av.map some ++ List.replicate (maxL - av.length) none)
    (kk : ∀ ls : Array Slot, lv_has ls maxL (jL 0 L0) → jC L0 → W p l e R s m args below meth c H locs cells slots Q (F0 m 0 ls [])) : W p l e R s m args below meth c H locs cells slots Q (entryFrame m av.toArray maxL) := by
  have hsl : ∀ vs : List Value, (∀ v ∈ vs, v.category = 1) → lg_sl vs = vs.map Slot.val := by
    intro vs h
    induction vs with
    | nil => rfl
    | cons v vs ih =>
      have h1 : v.category = 1 := h v List.mem_cons_self
      have h2 := ih (fun w hw => h w (List.mem_cons_of_mem _ hw))
      simp only [lg_sl, List.flatMap_cons, List.map_cons] at h2 ⊢
      rw [if_neg (by rw [h1]; decide), h2]
      rfl
  have hla : ∀ (vs : List Value) (i n : Nat), (∀ v ∈ vs, v.category = 1) → ∀ q ∈ jL i (vs.map some ++ List.replicate n none), q ∈ lv_args i vs := by
    intro vs
    induction vs with
    | nil =>
      intro i n _ q hq
      obtain ⟨j, h1, h2⟩ := (jL_mem q _ i).mp hq
      simp [List.getElem?_replicate] at h2
    | cons v vs ih =>
      intro i n h q hq
      have h1 : v.category = 1 := h v List.mem_cons_self
      have h2 := ih (i + 1) n (fun w hw => h w (List.mem_cons_of_mem _ hw)) q
      simp only [List.map_cons, List.cons_append, jL, List.mem_cons] at hq
      simp only [lv_args, h1, List.mem_cons]
      rcases hq with hq | hq
      · exact Or.inl hq
      · exact Or.inr (h2 hq)
  have he := lv_entry av (n := maxL) (by rw [hsl av hcat, List.length_map]; exact hlen)
  rw [lg_entry_eq]
  exact kk _ ⟨he.1, he.2.1, fun q hq => he.2.2 q (hla av 0 (maxL - av.length) hcat q (hL0 ▸ hq))⟩ trivial
theorem Fn_of {W0 : va_W} {av : List Value} (L0 : List (Option Value)) (hy : plainName y.cls = true) (hw : wy = Cond.code y cc maxL ret :: wy') (hcat : ∀ v ∈ av, v.category = 1) (hlen : av.length ≤ maxL) (hL0 : L0 = av.map some ++ List.replicate (maxL - av.length) none)
    (body : ∀ k : jK, Cx U k cc y.cls wy rm → RetOk U k ret mc ms r W1 → k.2.2.2.2.2.2.2.1.name = y.name → k.2.2.2.2.2.2.2.2.2.2.2.1 = maxL → J U k 0 0 W0 L0 0 []) : Fn U y wy rm av W0 r W1 mc ms := by
  intro hst sz
  refine Met.ofW (cc := cc) (maxL := maxL) (ret := ret) hy hw ?_
  intro p e s m args below meth c s₁ B hml hv
  obtain ⟨rfl, hsz, hP, hD0, hG, hZ⟩ := hv
  subst hsz
  have hts := atoms_spec (ws := wy) B.pre
  have hown : s.vm.findClass y.cls = some m.cls := findClass_of_methodNamed B.named
  refine jEntry hcat hlen hL0 (fun ls hl hc => ?_)
  exact body (p, e, rm, s, m, av.toArray, below, meth, c, va_A W0 s.heap.size, s.heap, maxL, MQ below (jQc U r W1 (va_A W0 s.heap.size)) av.toArray s mc ms (va_A W0 s.heap.size))
    ⟨⟨B.exec, B.bytes, hml, hown, hts⟩, hG, fun q h => Or.inr h, rfl, hZ, hst⟩ ⟨rfl, B.returns, B.notSynchronized, rfl⟩ (name_of_methodNamed B.named B.method).1 rfl s.heap [] ls hP (hD0.self) va_S.rf hl hc
end JS
theorem vpl {i : Int32} {j n : Nat} (e : i.toNatClampNeg = j) (h0 : ¬ i < 0) (h : j < n) : vp_in i n := by
  intro q
  rcases q with q | q
  · exact h0 q
  · rw [e] at q; omega
def isCh (x : Int32) : Prop := narrow .char (.int x) = .int x ∧ fits .char (.int x) = true ∧ vp_nar .char x = x
theorem b2i_fit {P : Prop} [Decidable P] : fits .boolean (.int (b2i P)) = true := by
  by_cases h : P
  · rw [b2i_t h]; rfl
  · rw [b2i_f h]; rfl
theorem n_0 : (0 : Int32).toNatClampNeg = 0 := by decide +kernel
theorem n_1 : (1 : Int32).toNatClampNeg = 1 := by decide +kernel
theorem n_2 : (2 : Int32).toNatClampNeg = 2 := by decide +kernel
theorem n_3 : (3 : Int32).toNatClampNeg = 3 := by decide +kernel
theorem n_4 : (4 : Int32).toNatClampNeg = 4 := by decide +kernel
theorem n_5 : (5 : Int32).toNatClampNeg = 5 := by decide +kernel
theorem n_6 : (6 : Int32).toNatClampNeg = 6 := by decide +kernel
theorem n_7 : (7 : Int32).toNatClampNeg = 7 := by decide +kernel
theorem n_8 : (8 : Int32).toNatClampNeg = 8 := by decide +kernel
theorem n_9 : (9 : Int32).toNatClampNeg = 9 := by decide +kernel
theorem n_10 : (10 : Int32).toNatClampNeg = 10 := by decide +kernel
theorem n_11 : (11 : Int32).toNatClampNeg = 11 := by decide +kernel
theorem n_12 : (12 : Int32).toNatClampNeg = 12 := by decide +kernel
theorem n_13 : (13 : Int32).toNatClampNeg = 13 := by decide +kernel
theorem n_14 : (14 : Int32).toNatClampNeg = 14 := by decide +kernel
theorem n_15 : (15 : Int32).toNatClampNeg = 15 := by decide +kernel
theorem n_16 : (16 : Int32).toNatClampNeg = 16 := by decide +kernel
theorem n_17 : (17 : Int32).toNatClampNeg = 17 := by decide +kernel
theorem n_18 : (18 : Int32).toNatClampNeg = 18 := by decide +kernel
theorem n_19 : (19 : Int32).toNatClampNeg = 19 := by decide +kernel
theorem n_20 : (20 : Int32).toNatClampNeg = 20 := by decide +kernel
theorem n_21 : (21 : Int32).toNatClampNeg = 21 := by decide +kernel
theorem n_22 : (22 : Int32).toNatClampNeg = 22 := by decide +kernel
theorem n_23 : (23 : Int32).toNatClampNeg = 23 := by decide +kernel
theorem n_24 : (24 : Int32).toNatClampNeg = 24 := by decide +kernel
theorem n_25 : (25 : Int32).toNatClampNeg = 25 := by decide +kernel
theorem n_26 : (26 : Int32).toNatClampNeg = 26 := by decide +kernel
theorem n_27 : (27 : Int32).toNatClampNeg = 27 := by decide +kernel
theorem n_28 : (28 : Int32).toNatClampNeg = 28 := by decide +kernel
theorem n_29 : (29 : Int32).toNatClampNeg = 29 := by decide +kernel
theorem n_30 : (30 : Int32).toNatClampNeg = 30 := by decide +kernel
theorem n_31 : (31 : Int32).toNatClampNeg = 31 := by decide +kernel
theorem n_32 : (32 : Int32).toNatClampNeg = 32 := by decide +kernel
theorem n_33 : (33 : Int32).toNatClampNeg = 33 := by decide +kernel
theorem n_34 : (34 : Int32).toNatClampNeg = 34 := by decide +kernel
theorem n_35 : (35 : Int32).toNatClampNeg = 35 := by decide +kernel
theorem n_36 : (36 : Int32).toNatClampNeg = 36 := by decide +kernel
theorem n_37 : (37 : Int32).toNatClampNeg = 37 := by decide +kernel
theorem n_38 : (38 : Int32).toNatClampNeg = 38 := by decide +kernel
theorem n_39 : (39 : Int32).toNatClampNeg = 39 := by decide +kernel
theorem n_40 : (40 : Int32).toNatClampNeg = 40 := by decide +kernel
theorem n_41 : (41 : Int32).toNatClampNeg = 41 := by decide +kernel
theorem n_42 : (42 : Int32).toNatClampNeg = 42 := by decide +kernel
theorem n_43 : (43 : Int32).toNatClampNeg = 43 := by decide +kernel
theorem n_44 : (44 : Int32).toNatClampNeg = 44 := by decide +kernel
theorem n_45 : (45 : Int32).toNatClampNeg = 45 := by decide +kernel
theorem n_46 : (46 : Int32).toNatClampNeg = 46 := by decide +kernel
theorem n_47 : (47 : Int32).toNatClampNeg = 47 := by decide +kernel
theorem n_48 : (48 : Int32).toNatClampNeg = 48 := by decide +kernel
theorem n_49 : (49 : Int32).toNatClampNeg = 49 := by decide +kernel
theorem n_50 : (50 : Int32).toNatClampNeg = 50 := by decide +kernel
theorem n_51 : (51 : Int32).toNatClampNeg = 51 := by decide +kernel
theorem n_52 : (52 : Int32).toNatClampNeg = 52 := by decide +kernel
theorem n_53 : (53 : Int32).toNatClampNeg = 53 := by decide +kernel
theorem n_54 : (54 : Int32).toNatClampNeg = 54 := by decide +kernel
theorem n_55 : (55 : Int32).toNatClampNeg = 55 := by decide +kernel
theorem n_56 : (56 : Int32).toNatClampNeg = 56 := by decide +kernel
theorem n_57 : (57 : Int32).toNatClampNeg = 57 := by decide +kernel
theorem n_58 : (58 : Int32).toNatClampNeg = 58 := by decide +kernel
theorem n_59 : (59 : Int32).toNatClampNeg = 59 := by decide +kernel
theorem n_60 : (60 : Int32).toNatClampNeg = 60 := by decide +kernel
theorem n_61 : (61 : Int32).toNatClampNeg = 61 := by decide +kernel
theorem n_62 : (62 : Int32).toNatClampNeg = 62 := by decide +kernel
theorem n_63 : (63 : Int32).toNatClampNeg = 63 := by decide +kernel
theorem n_64 : (64 : Int32).toNatClampNeg = 64 := by decide +kernel

