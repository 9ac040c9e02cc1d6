set_option maxHeartbeats 4000000 in
set_option maxRecDepth 100000 in
theorem c_X5_checkRegister_ok (U : jU) (p0 : Int32) (v_h : isReg p0) : Fn U yX5_checkRegister wsX5_checkRegister { frames := 6, cells := 0, slots := 0, locals := 90 } [.int p0] [] none [] 0 0 := by
  refine Fn_of (cc := cX5_checkRegister) (maxL := 1) (ret := none) [some (.int p0)] (by decide +kernel) rfl (jcat rfl) (Nat.le_of_ble_eq_true rfl) rfl (fun k C R hin hnL => ?_)
  have hN : ∀ i, i < 1 → i < k.2.2.2.2.2.2.2.2.2.2.2.1 := fun i h => by rw [hnL]; exact h
  refine J_iload_n C dX5_checkRegister_0 rfl rfl ?_
  refine J_callS C (c_X5_isRegister U p0 ) gX5_checkRegister_X5_isRegister (n := 1) rfl rfl rfl (by decide +kernel) ⟨Nat.le_of_ble_eq_true rfl, Nat.le_of_ble_eq_true rfl⟩ rfl (rest := []) rfl (Nat.le_of_ble_eq_true rfl) [] [] [] [] (wr := []) rfl rfl rfl rfl (by decide) rfl rfl  dX5_checkRegister_1 ⟨Nat.le_of_ble_eq_true rfl, Nat.le_of_ble_eq_true rfl⟩ [.int (b2i (isReg p0))] rfl ?_
  refine J_if_ne_b C 17 dX5_checkRegister_4 (by decide) (fun _ => ?_) (fun h => absurd v_h h)
  exact J_vret C R dX5_checkRegister_17 (Nat.le_of_ble_eq_true rfl) (Nat.le_of_ble_eq_true rfl) rfl rfl
set_option maxHeartbeats 4000000 in
set_option maxRecDepth 100000 in
theorem c_X5_checkRecoding_ok (U : jU) (p0 : Int32) (v_h : isRec p0) : Fn U yX5_checkRecoding wsX5_checkRecoding { frames := 6, cells := 0, slots := 0, locals := 90 } [.int p0] [] none [] 0 0 := by
  refine Fn_of (cc := cX5_checkRecoding) (maxL := 1) (ret := none) [some (.int p0)] (by decide +kernel) rfl (jcat rfl) (Nat.le_of_ble_eq_true rfl) rfl (fun k C R hin hnL => ?_)
  have hN : ∀ i, i < 1 → i < k.2.2.2.2.2.2.2.2.2.2.2.1 := fun i h => by rw [hnL]; exact h
  refine J_iload_n C dX5_checkRecoding_0 rfl rfl ?_
  refine J_callS C (c_X5_isRecoding U p0 ) gX5_checkRecoding_X5_isRecoding (n := 1) rfl rfl rfl (by decide +kernel) ⟨Nat.le_of_ble_eq_true rfl, Nat.le_of_ble_eq_true rfl⟩ rfl (rest := []) rfl (Nat.le_of_ble_eq_true rfl) [] [] [] [] (wr := []) rfl rfl rfl rfl (by decide) rfl rfl  dX5_checkRecoding_1 ⟨Nat.le_of_ble_eq_true rfl, Nat.le_of_ble_eq_true rfl⟩ [.int (b2i (isRec p0))] rfl ?_
  refine J_if_ne_b C 17 dX5_checkRecoding_4 (by decide) (fun _ => ?_) (fun h => absurd v_h h)
  exact J_vret C R dX5_checkRecoding_17 (Nat.le_of_ble_eq_true rfl) (Nat.le_of_ble_eq_true rfl) rfl rfl
theorem k_X5_checkRecodingSuitsWidth_10 : Cond.fieldLink RX5 10 "BoothOtters" "now" "LBoothOtters$State;" ∈ wsX5_checkRecodingSuitsWidth := List.mem_of_getElem? (i := 3) rfl
theorem i_X5_checkRecodingSuitsWidth_X5 : ∀ w ∈ wsX50, w ∈ wsX5_checkRecodingSuitsWidth := fun _ h => List.mem_cons_of_mem _ (List.mem_append_left _ (List.mem_append_left _ (List.mem_append_right _ h)))
theorem k_X5_checkRecodingSuitsWidth_47 : Cond.fieldLink RX5 47 "BoothOtters$State" "width" "I" ∈ wsX5_checkRecodingSuitsWidth := List.mem_of_getElem? (i := 4) rfl
theorem i_X5_checkRecodingSuitsWidth_X3 : ∀ w ∈ wsX30, w ∈ wsX5_checkRecodingSuitsWidth := fun _ h => List.mem_cons_of_mem _ (List.mem_append_left _ (List.mem_append_right _ h))
set_option maxHeartbeats 4000000 in
set_option maxRecDepth 100000 in
theorem c_X5_checkRecodingSuitsWidth_ok1 (U : jU) (b a h sa pa ta : Nat) (tk : Int32) (v m : Nat) (w o t : Int32) (p0 : Int32) (v_1 : p0 = 1) (v_2 : rem2 w = 0) : Fn U yX5_checkRecodingSuitsWidth wsX5_checkRecodingSuitsWidth { frames := 6, cells := 0, slots := 0, locals := 90 } [.ref b, .int p0] [(b, .inr (5, [.ref a, .ref h, .ref sa, .int tk, .ref pa, .ref ta])), (a, .inr (3, [.ref v, .ref m, .int w, .int o, .int t]))] none [(b, .inr (5, [.ref a, .ref h, .ref sa, .int tk, .ref pa, .ref ta])), (a, .inr (3, [.ref v, .ref m, .int w, .int o, .int t]))] 0 0 := by
  refine Fn_of (cc := cX5_checkRecodingSuitsWidth) (maxL := 2) (ret := none) [some (.ref b), some (.int p0)] (by decide +kernel) rfl (jcat rfl) (Nat.le_of_ble_eq_true rfl) rfl (fun k C R hin hnL => ?_)
  have hN : ∀ i, i < 2 → i < k.2.2.2.2.2.2.2.2.2.2.2.1 := fun i h => by rw [hnL]; exact h
  refine J_iload_n C dX5_checkRecodingSuitsWidth_0 rfl rfl ?_
  refine J_iconst C (v := (1 : Int32)) dX5_checkRecodingSuitsWidth_1 (by decide) ?_
  refine J_icmp_ne C 27 dX5_checkRecodingSuitsWidth_2 (by decide) (fun h => absurd h (fun hh => hh v_1)) (fun _ => ?_)
  refine J_aload_n C dX5_checkRecodingSuitsWidth_5 rfl rfl ?_
  refine J_get C 0 0 rfl rfl i_X5_checkRecodingSuitsWidth_X5 (by decide) k_X5_checkRecodingSuitsWidth_10 rfl rfl dX5_checkRecodingSuitsWidth_6 ?_
  refine J_get C 1 2 rfl rfl i_X5_checkRecodingSuitsWidth_X3 (by decide) k_X5_checkRecodingSuitsWidth_47 rfl rfl dX5_checkRecodingSuitsWidth_9 ?_
  refine J_iconst C (v := (2 : Int32)) dX5_checkRecodingSuitsWidth_12 (by decide) ?_
  refine J_irem C (v := rem2 w) dX5_checkRecodingSuitsWidth_13 (by decide) rfl ?_
  refine J_if_eq C 27 dX5_checkRecodingSuitsWidth_14 (by decide) (fun _ => ?_) (fun h => absurd v_2 h)
  exact J_vret C R dX5_checkRecodingSuitsWidth_27 (Nat.le_of_ble_eq_true rfl) (Nat.le_of_ble_eq_true rfl) rfl rfl
set_option maxHeartbeats 4000000 in
set_option maxRecDepth 100000 in
theorem c_X5_checkRecodingSuitsWidth_ok2 (U : jU) (b a h sa pa ta : Nat) (tk : Int32) (v m : Nat) (w o t : Int32) (p0 : Int32) (v_1 : ¬ p0 = 1) : Fn U yX5_checkRecodingSuitsWidth wsX5_checkRecodingSuitsWidth { frames := 6, cells := 0, slots := 0, locals := 90 } [.ref b, .int p0] [(b, .inr (5, [.ref a, .ref h, .ref sa, .int tk, .ref pa, .ref ta])), (a, .inr (3, [.ref v, .ref m, .int w, .int o, .int t]))] none [(b, .inr (5, [.ref a, .ref h, .ref sa, .int tk, .ref pa, .ref ta])), (a, .inr (3, [.ref v, .ref m, .int w, .int o, .int t]))] 0 0 := by
  refine Fn_of (cc := cX5_checkRecodingSuitsWidth) (maxL := 2) (ret := none) [some (.ref b), some (.int p0)] (by decide +kernel) rfl (jcat rfl) (Nat.le_of_ble_eq_true rfl) rfl (fun k C R hin hnL => ?_)
  have hN : ∀ i, i < 2 → i < k.2.2.2.2.2.2.2.2.2.2.2.1 := fun i h => by rw [hnL]; exact h
  refine J_iload_n C dX5_checkRecodingSuitsWidth_0 rfl rfl ?_
  refine J_iconst C (v := (1 : Int32)) dX5_checkRecodingSuitsWidth_1 (by decide) ?_
  refine J_icmp_ne C 27 dX5_checkRecodingSuitsWidth_2 (by decide) (fun _ => ?_) (fun h => absurd h v_1)
  exact J_vret C R dX5_checkRecodingSuitsWidth_27 (Nat.le_of_ble_eq_true rfl) (Nat.le_of_ble_eq_true rfl) rfl rfl
theorem k_X5_checkMultiplying_10 : Cond.fieldLink RX5 10 "BoothOtters" "now" "LBoothOtters$State;" ∈ wsX5_checkMultiplying := List.mem_of_getElem? (i := 3) rfl
theorem i_X5_checkMultiplying_X5 : ∀ w ∈ wsX50, w ∈ wsX5_checkMultiplying := fun _ h => List.mem_cons_of_mem _ (List.mem_append_left _ (List.mem_append_left _ (List.mem_append_left _ (List.mem_append_right _ h))))
theorem k_X5_checkMultiplying_77 : Cond.fieldLink RX5 77 "BoothOtters$State" "multiplication" "LBoothOtters$Multiplication;" ∈ wsX5_checkMultiplying := List.mem_of_getElem? (i := 4) rfl
theorem i_X5_checkMultiplying_X3 : ∀ w ∈ wsX30, w ∈ wsX5_checkMultiplying := fun _ h => List.mem_cons_of_mem _ (List.mem_append_left _ (List.mem_append_left _ (List.mem_append_right _ h)))
theorem k_X5_checkMultiplying_90 : Cond.fieldLink RX5 90 "BoothOtters$Multiplication" "stepsLeft" "I" ∈ wsX5_checkMultiplying := List.mem_of_getElem? (i := 5) rfl
theorem i_X5_checkMultiplying_X1 : ∀ w ∈ wsX10, w ∈ wsX5_checkMultiplying := fun _ h => List.mem_cons_of_mem _ (List.mem_append_left _ (List.mem_append_right _ h))
set_option maxHeartbeats 4000000 in
set_option maxRecDepth 100000 in
theorem c_X5_checkMultiplying_ok (U : jU) (b a h sa pa ta : Nat) (tk : Int32) (v m : Nat) (w o t sl bp mw mc hi lo ex : Int32) (v_h : ¬ sl = -1) : Fn U yX5_checkMultiplying wsX5_checkMultiplying { frames := 6, cells := 0, slots := 0, locals := 90 } [.ref b] [(b, .inr (5, [.ref a, .ref h, .ref sa, .int tk, .ref pa, .ref ta])), (a, .inr (3, [.ref v, .ref m, .int w, .int o, .int t])), (m, .inr (1, [.int sl, .int bp, .int mw, .int mc, .int hi, .int lo, .int ex]))] none [(b, .inr (5, [.ref a, .ref h, .ref sa, .int tk, .ref pa, .ref ta])), (a, .inr (3, [.ref v, .ref m, .int w, .int o, .int t])), (m, .inr (1, [.int sl, .int bp, .int mw, .int mc, .int hi, .int lo, .int ex]))] 0 0 := by
  refine Fn_of (cc := cX5_checkMultiplying) (maxL := 1) (ret := none) [some (.ref b)] (by decide +kernel) rfl (jcat rfl) (Nat.le_of_ble_eq_true rfl) rfl (fun k C R hin hnL => ?_)
  have hN : ∀ i, i < 1 → i < k.2.2.2.2.2.2.2.2.2.2.2.1 := fun i h => by rw [hnL]; exact h
  refine J_aload_n C dX5_checkMultiplying_0 rfl rfl ?_
  refine J_get C 0 0 rfl rfl i_X5_checkMultiplying_X5 (by decide) k_X5_checkMultiplying_10 rfl rfl dX5_checkMultiplying_1 ?_
  refine J_get C 1 1 rfl rfl i_X5_checkMultiplying_X3 (by decide) k_X5_checkMultiplying_77 rfl rfl dX5_checkMultiplying_4 ?_
  refine J_get C 2 0 rfl rfl i_X5_checkMultiplying_X1 (by decide) k_X5_checkMultiplying_90 rfl rfl dX5_checkMultiplying_7 ?_
  refine J_iconst C (v := (-1 : Int32)) dX5_checkMultiplying_10 (by decide) ?_
  refine J_icmp_ne C 24 dX5_checkMultiplying_11 (by decide) (fun _ => ?_) (fun h => absurd h v_h)
  exact J_vret C R dX5_checkMultiplying_24 (Nat.le_of_ble_eq_true rfl) (Nat.le_of_ble_eq_true rfl) rfl rfl
