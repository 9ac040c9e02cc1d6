/-! ===== the judgement over a picture: a world, the locals by place, a stack ===== -/
def jL : Nat → List (Option Value) → List (Nat × Value)
  | _, [] => []
  | k, none :: r => jL (k + 1) r
  | k, some v :: r => (k, v) :: jL (k + 1) r
theorem jL_mem (q : Nat × Value) : ∀ (L : List (Option Value)) (k : Nat), q ∈ jL k L ↔ ∃ j : Nat, q.1 = k + j ∧ L[j]? = some (some q.2)
  | [], k => by simp [jL]
  | none :: r, k => by
    rw [jL, jL_mem q r (k + 1)]
    constructor
    · rintro ⟨j, h1, h2⟩
      exact ⟨j + 1, by omega, by simpa using h2⟩
    · rintro ⟨j, h1, h2⟩
      cases j with
      | zero => simp at h2
      | succ j => exact ⟨j, by omega, by simpa using h2⟩
  | some v :: r, k => by
    rw [jL, List.mem_cons, jL_mem q r (k + 1)]
    constructor
    · rintro (h | ⟨j, h1, h2⟩)
      · exact ⟨0, by simp [h], by simp [h]⟩
      · exact ⟨j + 1, by omega, by simpa using h2⟩
    · rintro ⟨j, h1, h2⟩
      cases j with
      | zero =>
        left
        simp at h2
        exact Prod.ext (by simpa using h1) h2.symm
      | succ j => exact Or.inr ⟨j, by omega, by simpa using h2⟩
def jC (_ : List (Option Value)) : Prop := True
/-- a store at i breaks no long that lies at i - 1 -/
def jcb (L : List (Option Value)) : Nat → Bool
  | 0 => true
  | i + 1 => match L[i]? with
    | some (some v) => v.category == 1
    | _ => true
theorem jL_get {ls : Array Slot} {nL : Nat} {L : List (Option Value)} {i : Nat} {v : Value} (h : lv_has ls nL (jL 0 L)) (hl : L[i]? = some (some v)) : ls[i]? = some (.val v) :=
  h.2.2 (i, v) ((jL_mem (i, v) L 0).mpr ⟨i, by simp, hl⟩)
theorem jL_set {ls : Array Slot} {nL : Nat} {L L' : List (Option Value)} {i : Nat} {v : Value} (hc : jcb L i = true) (hL : L.set i (some v) = L')
    (h : lv_has ls nL ((i, v) :: (jL 0 L).filter (fun q => !(q.1 == i) && !(q.1 + 1 == i && q.2.category == 2)))) : lv_has ls nL (jL 0 L') := by
  subst hL
  refine ⟨h.1, h.2.1, fun q hq => ?_⟩
  obtain ⟨j, h1, h2⟩ := (jL_mem q _ 0).mp hq
  rw [Nat.zero_add] at h1
  by_cases hij : j = i
  · subst hij
    have hl : j < (L.set j (some v)).length := (List.getElem?_eq_some_iff.mp h2).1
    rw [List.getElem?_set_self (by simpa using hl)] at h2
    have e : q.2 = v := (Option.some.inj (Option.some.inj h2)).symm
    have := h.2.2 (j, v) List.mem_cons_self
    rw [h1, e]
    exact this
  · rw [List.getElem?_set_ne (Ne.symm hij)] at h2
    refine h.2.2 q (List.mem_cons_of_mem _ (List.mem_filter.mpr ⟨(jL_mem q L 0).mpr ⟨j, by omega, h2⟩, ?_⟩))
    by_cases hji : j + 1 = i
    · subst hji
      have hcat : q.2.category = 1 := by simpa [jcb, h2] using hc
      simp [hcat, h1]
    · simp [h1, hij, hji]
theorem jC_set {L L' : List (Option Value)} {i : Nat} {v : Value} (_ : jC L) (_ : v.category = 1) (_ : L.set i (some v) = L') : jC L' := trivial
/-- what is one and the same for all methods: the launch; the classes and their slots; the arrays' classes; where the texts lie -/
abbrev jU : Type := Launch × va_G × (Nat → ClassId) × (Nat → Nat)
/-- what is one and the same in one walk -/
abbrev jK : Type := Program × Env × Room × State × MethodId × Array Value × List Frame × Method × Code × (Nat → Prop) × Heap × Nat × (State → Prop)
abbrev jT (U : jU) : List (ClassId × FieldType) := [(U.2.2.1 0, .int), (U.2.2.1 1, .char), (U.2.2.1 2, .int), (U.2.2.1 3, .object "BoothOtters$State")]
def jTexts : List (Nat × String) := []
def jX3 : List String := []
def jNl : List (String × Nat × MethodName) := [(RX5, 18, yX0_init), (RX5, 28, yX2_init), (RX5, 9, yX3_init), (RX0, 11, yX3_init), (RX1, 33, yX5_digitCount), (RX1, 37, yX5_bitsPerDigit), (RX1, 45, yX5_bit), (RX2, 17, yX4_init), (RX3, 17, yX1_init), (RX3, 36, yX5_isRegister)]
def jDc : List String := []
/-- what the tables say, in every state that a walk comes to -/
def jG (U : jU) (V : State) : Prop := va_K U.2.1 vwCl (jT U) V ∧ (∀ q ∈ jTexts, vk_R "BoothOtters" q.1 q.2 (U.2.2.2 q.1) V) ∧ (∀ E ∈ jX3, va_Nw (.castable E E) V) ∧ (∀ E ∈ jX3, ∀ F ∈ jX3, E ≠ F → va_Nc E F V) ∧ (∀ q ∈ jNl, va_Nw (.methodLinkNest q.1 q.2.1 q.2.2 "BoothOtters") V) ∧ va_AO "BoothOtters$State" V ∧ (∀ Y ∈ jDc, va_Nw (.declares (Bundle.initS Y)) V)
theorem jG.warm {U : jU} {s V : State} (hW : s.WarmedH V.vm) (h : jG U s) : jG U V :=
  ⟨va_K.moved hW.alike h.1, fun q hq => vk_R.warm hW (h.2.1 q hq), fun E hE => va_Nw.warmC hW (h.2.2.1 E hE), fun E hE F hF hne => va_Nc.moved hW.alike (h.2.2.2.1 E hE F hF hne), fun q hq => va_Nw.warmM hW (h.2.2.2.2.1 q hq), va_AO.moved hW.alike h.2.2.2.2.2.1, fun Y hY => va_Nw.warmD hW (h.2.2.2.2.2.2 Y hY)⟩
theorem jG.same {U : jU} {s V : State} (hv : s.vm = V.vm) (h : jG U s) : jG U V :=
  ⟨va_K.moved (by rw [hv]; exact Vm.Alike.refl _) h.1, fun q hq => vk_R.same hv.symm (h.2.1 q hq), fun E hE => va_Nw.same rfl hv (h.2.2.1 E hE), fun E hE F hF hne => va_Nc.moved (by rw [hv]; exact Vm.Alike.refl _) (h.2.2.2.1 E hE F hF hne), fun q hq => va_Nw.same rfl hv (h.2.2.2.2.1 q hq), va_AO.moved (by rw [hv]; exact Vm.Alike.refl _) h.2.2.2.2.2.1, fun Y hY => va_Nw.same rfl hv (h.2.2.2.2.2.2 Y hY)⟩
/-- the two statics that a throw reads -/
def jZ (A : Nat → Prop) (V : State) (H : Heap) : Prop := vx_Zq Bundle.tN "UNASSIGNED_STACK" Bundle.steD A V H ∧ vx_Zq Bundle.tN "SUPPRESSED_SENTINEL" Bundle.listD A V H
theorem jZ.moved {A : Nat → Prop} {u V : State} {H : Heap} (hvm : u.vm.Alike V.vm) (h : jZ A u H) : jZ A V H := ⟨vx_Zq.moved hvm h.1, vx_Zq.moved hvm h.2⟩
theorem jZ.kept {A : Nat → Prop} {V : State} {H H1 : Heap} (h : jZ A V H) (hq : ∀ a : Nat, a < H.size → ¬ A a → H1[a]? = H[a]?) : jZ A V H1 := ⟨vx_Zq.kept h.1 hq, vx_Zq.kept h.2 hq⟩
theorem jZ.narrow {A B : Nat → Prop} {V : State} {H : Heap} (h : jZ A V H) (hAB : ∀ q, B q → A q) : jZ B V H := ⟨vx_Zq.narrow h.1 hAB, vx_Zq.narrow h.2 hAB⟩
/-- a method's start -/
def jPc (U : jU) (av : List Value) (W0 : va_W) (sz : Nat) : Array Value → State → Prop := va_Pc av (fun V => V.heap.size = sz ∧ va_P U.2.1 vwCl W0 V.heap ∧ va_D (fun _ => True) W0 ∧ jG U V ∧ jZ (va_A W0 sz) V V.heap)
/-- its end: the answer, the world -/
def jQc (U : jU) (r : Option Value) (W1 : va_W) (A : Nat → Prop) : Array Value → State → Outcome → State → Prop := fun _ st o t => (o = .returned r ∧ va_P U.2.1 vwCl W1 t.heap ∧ va_D A W1) ∧ va_F A st t
/-- its end by a throw -/
def jXC (U : jU) (E : String) (W1 : va_W) (A : Nat → Prop) : String → State → State → Prop := fun F st t => F = E ∧ (va_P U.2.1 vwCl W1 t.heap ∧ va_D A W1) ∧ va_F A st t
def jNo : Array Value → State → Outcome → State → Prop := fun _ _ _ _ => False
/-- the method y: from the world W0 it returns r, and leaves W1 -/
def Fn (U : jU) (y : MethodName) (wy : List Cond) (rm : Room) (av : List Value) (W0 : va_W) (r : Option Value) (W1 : va_W) (mc ms : Nat) : Prop :=
  U.1.stackTraces = false → ∀ sz, Met U.1 y wy rm (jPc U av W0 sz) (jQc U r W1 (va_A W0 sz)) mc ms (va_A W0 sz)
/-- .. it throws E, and leaves W1 -/
def FnT (U : jU) (y : MethodName) (wy : List Cond) (rm : Room) (av : List Value) (W0 : va_W) (E : String) (W1 : va_W) (mc ms : Nat) : Prop :=
  U.1.stackTraces = false → ∀ sz, vx_Met U.1 y wy rm (jPc U av W0 sz) jNo (jXC U E W1 (va_A W0 sz)) mc ms (va_A W0 sz)
theorem jPc_blind {U : jU} {av : List Value} {W0 : va_W} {sz : Nat} : FrameBlind (jPc U av W0 sz) := by
  intro a V g mk h
  obtain ⟨h0, h1, h2, h3, h4, h5⟩ := h
  exact ⟨h0, h1, h2, h3, jG.same (V := V.calling g mk a) rfl h4, jZ.moved (V := V.calling g mk a) (Vm.Alike.refl V.vm) h5⟩
/-- the judgement -/
def J (U : jU) (k : jK) (cells slots : Nat) (ws : va_W) (L : List (Option Value)) (pc : Nat) (st : List Value) : Prop :=
  ∀ (H : Heap) (locs : List Loc) (ls : Array Slot), va_P U.2.1 vwCl ws H → va_D k.2.2.2.2.2.2.2.2.2.1 ws → va_S k.2.2.2.2.2.2.2.2.2.1 k.2.2.2.2.2.2.2.2.2.2.1 H locs → lv_has ls k.2.2.2.2.2.2.2.2.2.2.2.1 (jL 0 L) → jC L →
    W k.1 U.1 k.2.1 k.2.2.1 k.2.2.2.1 k.2.2.2.2.1 k.2.2.2.2.2.1 k.2.2.2.2.2.2.1 k.2.2.2.2.2.2.2.1 k.2.2.2.2.2.2.2.2.1 H locs cells slots k.2.2.2.2.2.2.2.2.2.2.2.2 (F0 k.2.2.2.2.1 pc ls st)
/-- .. and with q thrown over the frame -/
def JX (U : jU) (k : jK) (cells slots : Nat) (ws : va_W) (L : List (Option Value)) (pc : Nat) (E : String) : Prop :=
  ∀ (H : Heap) (locs : List Loc) (ls : Array Slot) (ce : Cell) (q : Addr) (rest : List Value), va_P U.2.1 vwCl ws H → va_D k.2.2.2.2.2.2.2.2.2.1 ws → va_S k.2.2.2.2.2.2.2.2.2.1 k.2.2.2.2.2.2.2.2.2.2.1 H locs → lv_has ls k.2.2.2.2.2.2.2.2.2.2.2.1 (jL 0 L) → jC L →
    H[q]? = some ce → ce.vm = .none → k.2.2.2.1.vm.findClass E = some ce.cls →
    vx_W k.1 U.1 k.2.1 k.2.2.1 k.2.2.2.1 k.2.2.2.2.1 k.2.2.2.2.2.1 k.2.2.2.2.2.2.1 k.2.2.2.2.2.2.2.1 k.2.2.2.2.2.2.2.2.1 H locs cells slots k.2.2.2.2.2.2.2.2.2.2.2.2 (F0 k.2.2.2.2.1 pc ls rest) q
/-- what a walk stands on -/
def Cx (U : jU) (k : jK) (cc : ByteArray) (own : String) (Ts : List Cond) (rm : Room) : Prop :=
  CallFix k.1 k.2.2.2.2.1 k.2.2.2.2.2.2.2.2.1 cc k.2.2.2.2.2.2.2.2.2.2.2.1 k.2.2.2.1 k.2.2.2.2.2.1 Ts own ∧ jG U k.2.2.2.1 ∧ (∀ q, k.2.2.2.2.2.2.2.2.2.2.1.size ≤ q → k.2.2.2.2.2.2.2.2.2.1 q) ∧ k.2.2.1 = rm ∧ jZ k.2.2.2.2.2.2.2.2.2.1 k.2.2.2.1 k.2.2.2.2.2.2.2.2.2.2.1 ∧ U.1.stackTraces = false
