/-! ===== a method that reads the script ===== -/
def jPcS (U : jU) (av : List Value) (b N : Nat) (xs : Nat → Int32) (sz : Nat) : Array Value → State → Prop := va_Pc av (fun V => V.heap.size = sz ∧ va_X b N xs V V.heap ∧ b < V.heap.size ∧ jG U V ∧ jZ (va_A [] sz) V V.heap)
def FnS (U : jU) (y : MethodName) (wy : List Cond) (rm : Room) (av : List Value) (b N : Nat) (xs : Nat → Int32) (r : Option Value) : Prop :=
  U.1.stackTraces = false → ∀ sz, Met U.1 y wy rm (jPcS U av b N xs sz) (jQc U r [] (va_A [] sz)) 0 0 (va_A [] sz)
theorem jPcS_blind {U : jU} {av : List Value} {b N : Nat} {xs : Nat → Int32} {sz : Nat} : FrameBlind (jPcS U av b N xs sz) := by
  intro a V g mk h
  obtain ⟨h0, h1, h2, h3, h4, h5⟩ := h
  exact ⟨h0, h1, h2.moved (Vm.Alike.refl V.vm), h3, jG.same (V := V.calling g mk a) rfl h4, jZ.moved (V := V.calling g mk a) (Vm.Alike.refl V.vm) h5⟩
section JSS
variable {U : jU} {k : jK} {cc : ByteArray} {own : String} {Ts : List Cond} {rm : Room} {cells slots : Nat} {ws : va_W} {L : List (Option Value)} {pc : Nat} {st0 rest : List Value}
variable {y : MethodName} {bytes : ByteArray} {maxL index n b N : Nat} {xs : Nat → Int32} {ret : Option FieldType} {wy wy' : List Cond} {rmY : Room} {As : List Value} {wr : va_W} {r : Option Value}
theorem J_preS (C : Cx U k cc own Ts rm) (S : jScr k b N xs) {H : Heap} {locs : List Loc} {av : List Value} (hS : va_S k.2.2.2.2.2.2.2.2.2.1 k.2.2.2.2.2.2.2.2.2.2.1 H locs) :
    ∀ V : State, V.heap = H → k.2.2.2.1.WarmedH V.vm → jPcS U av b N xs H.size av.toArray V := by
  intro V hV hW
  refine ⟨rfl, by rw [hV], by rw [hV]; exact (S.1.kept (hS.2.1 b S.2.1 S.2.2)).moved hW.alike, by rw [hV]; exact Nat.lt_of_lt_of_le S.2.1 hS.1, jG.warm hW C.2.1, ?_⟩
  rw [hV]
  exact jZ.narrow (jZ.moved hW.alike (jZ.kept C.2.2.2.2.1 hS.2.1)) (fun q hq => by
    rcases hq with ⟨j, e, hj⟩ | hq
    · simp at hj
    · exact C.2.2.1 q (Nat.le_trans hS.1 hq))
theorem J_callSS (C : Cx U k cc own Ts rm) (S : jScr k b N xs) (hM : FnS U y wy rmY As b N xs r) (hT : GoodIn Ts (va_wsS own index y wy)) (hw : wy = Cond.code y bytes maxL ret :: wy') (hrc : rmY.cells = 0) (hrs : rmY.slots = 0)
    (hd : y.cls ≠ "java/lang/invoke/MethodHandle" ∧ y.cls ≠ "java/lang/invoke/VarHandle" ∧ (parseMethodDescriptor y.desc).map (fun d => d.parameters.length) = some n) (hRm : rmY.frames + 1 ≤ rm.frames ∧ 8 + (maxL + 11) + rmY.locals ≤ rm.locals)
    (hnA : As.length = n) (hst : st0 = As.reverse ++ rest) (hW : (rest.map fun v => v.category).sum ≤ 8)
    (isR is' : List Nat) (hR : isR.map (fun i => ws[i]?) = wr.map some) (hn : va_nd isR = true) (h9 : is'.map (fun i => (wr ++ ([] : va_W))[i]?) = ws.map some) (hn9 : va_nd is' = true)
    (hdg : decode cc pc = .ok (.invokestatic index, 3)) (hf : cells + 0 ≤ rm.cells ∧ slots + 0 ≤ rm.slots) (st1 : List Value) (hs1 : r.toList ++ rest = st1) (kk : J U k cells slots ws L (pc + 3) st1) : J U k cells slots ws L pc st0 :=
  J_run (wc := []) (w1 := []) (mc := 0) (ms := 0) C ws [] isR is' rfl hR hn (fun i _ h => by simp at h) h9 hn9 (fun H locs ls hP hD hS hl => by
    have hR9 : k.2.2.1 = rm := C.2.2.2.1
    refine va_runS (As := As) (rest := rest) C.1 (hM C.2.2.2.2.2 H.size) (va_cwS n C.1.2.2.2.2 hT hw hrc hrs hd (by rw [hR9]; exact hRm)) ⟨jPcS_blind, J_preS C S hS⟩ rfl hnA hl.1 hst (J_room hW) hdg (by rw [hR9]; exact hf)) (hs1.symm ▸ kk)
theorem FnS_of {av : List Value} (L0 : List (Option Value)) (hy : plainName y.cls = true) (hw : wy = Cond.code y cc maxL ret :: wy') (hcat : ∀ v ∈ av, v.category = 1) (hlen : av.length ≤ maxL) (hL0 : L0 = av.map some ++ List.replicate (maxL - av.length) none)
    (body : ∀ k : jK, Cx U k cc y.cls wy rm → RetOk U k ret 0 0 r [] → jScr k b N xs → k.2.2.2.2.2.2.2.2.2.2.2.1 = maxL → J U k 0 0 [] L0 0 []) : FnS U y wy rm av b N xs r := by
  intro hst sz
  refine Met.ofW (cc := cc) (maxL := maxL) (ret := ret) hy hw ?_
  intro p e s m args below meth c s₁ B hml hv
  obtain ⟨rfl, hsz, hX, hbl, hG, hZ⟩ := hv
  subst hsz
  have hts := atoms_spec (ws := wy) B.pre
  have hown : s.vm.findClass y.cls = some m.cls := findClass_of_methodNamed B.named
  refine jEntry hcat hlen hL0 (fun ls hl hc => ?_)
  exact body (p, e, rm, s, m, av.toArray, below, meth, c, va_A [] s.heap.size, s.heap, maxL, MQ below (jQc U r [] (va_A [] s.heap.size)) av.toArray s 0 0 (va_A [] s.heap.size))
    ⟨⟨B.exec, B.bytes, hml, hown, hts⟩, hG, fun q h => Or.inr h, rfl, hZ, hst⟩ ⟨rfl, B.returns, B.notSynchronized, rfl⟩ ⟨hX, hbl, fun q => by
      rcases q with ⟨j, e9, hj⟩ | q
      · simp at hj
      · exact absurd q (by omega)⟩ rfl s.heap [] ls (fun k q hk => by simp at hk) ⟨fun i j p q h => by simp at h, fun k q h => by simp at h⟩ va_S.rf hl hc
end JSS
/-- what the script says at a place, or what stands for it behind its end -/
def clF (xs : Nat → Int32) (N j : Nat) : Int32 := if nI N ≤ nI j then (7919 : Int32) * (nI j + 3) * (nI j + 11) else xs j
theorem cell_all (U : jU) (b N j : Nat) (xs : Nat → Int32) (hN : N ≤ 260) (hj : j < 200) : FnS U yL_cell wsL_cell { frames := 0, cells := 0, slots := 0, locals := 0 } [.ref b, .int (nI j)] b N xs (some (.int (clF xs N j))) := by
  refine FnS_of (cc := cL_cell) (maxL := 2) (ret := some .int) [some (.ref b), some (.int (nI j))] (by decide +kernel) rfl (jcat rfl) (Nat.le_of_ble_eq_true rfl) rfl (fun k C R S hnL => ?_)
  refine J_iload_n C dL_cell_0 rfl rfl ?_
  refine J_aload_n C dL_cell_1 rfl rfl ?_
  refine J_slen C S (v := nI N) rfl dL_cell_2 ?_
  refine J_icmp_ge C 12 dL_cell_3 (by decide) (fun h => ?_) (fun h => ?_)
  · refine J_sipush C (v := (7919 : Int32)) dL_cell_12 (by decide) ?_
    refine J_iload_n C dL_cell_15 rfl rfl ?_
    refine J_iconst C (v := (3 : Int32)) dL_cell_16 (by decide) ?_
    refine J_iadd C (v := nI j + 3) dL_cell_17 rfl ?_
    refine J_imul C (v := (7919 : Int32) * (nI j + 3)) dL_cell_18 rfl ?_
    refine J_iload_n C dL_cell_19 rfl rfl ?_
    refine J_bipush C (v := (11 : Int32)) dL_cell_20 (by decide) ?_
    refine J_iadd C (v := nI j + 11) dL_cell_22 rfl ?_
    refine J_imul C (v := (7919 : Int32) * (nI j + 3) * (nI j + 11)) dL_cell_23 rfl ?_
    exact J_iret C R dL_cell_24 (Nat.le_of_ble_eq_true rfl) (Nat.le_of_ble_eq_true rfl) (by rw [clF, if_pos h]) rfl
  · have hlt : j < N := Nat.not_le.mp (fun q => h (nI_le q (by omega)))
    refine J_aload_n C dL_cell_6 rfl rfl ?_
    refine J_iload_n C dL_cell_7 rfl rfl ?_
    refine J_sld C S (vp_in_nI (n := j) hlt (by omega)) (congrArg xs (nI_clamp (n := j) (by omega))) dL_cell_8 ?_
    refine J_goto C 24 dL_cell_9 (by decide) ?_
    exact J_iret C R dL_cell_24 (Nat.le_of_ble_eq_true rfl) (Nat.le_of_ble_eq_true rfl) (by rw [clF, if_neg h]) rfl
