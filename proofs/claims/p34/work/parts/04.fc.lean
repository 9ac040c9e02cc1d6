theorem k_X3_init_9 : Cond.fieldLink RX3 9 "BoothOtters$State" "values" "[I" ∈ wsX3_init := List.mem_of_getElem? (i := 5) rfl
theorem i_X3_init_X3 : ∀ w ∈ wsX30, w ∈ wsX3_init := fun _ h => List.mem_cons_of_mem _ (List.mem_append_left _ (List.mem_append_right _ h))
theorem i_X3_init_X1 : ∀ w ∈ wsX10, w ∈ wsX3_init := fun _ h => List.mem_cons_of_mem _ (List.mem_append_right _ h)
theorem k_X3_init_18 : Cond.fieldLink RX3 18 "BoothOtters$State" "multiplication" "LBoothOtters$Multiplication;" ∈ wsX3_init := List.mem_of_getElem? (i := 9) rfl
theorem k_X3_init_22 : Cond.fieldLink RX3 22 "BoothOtters$State" "width" "I" ∈ wsX3_init := List.mem_of_getElem? (i := 10) rfl
set_option maxHeartbeats 4000000 in
set_option maxRecDepth 100000 in
theorem c_X3_init (U : jU) (a : Nat)  : FnE U yX3_init wsX3_init { frames := 2, cells := 2, slots := 13, locals := 34 } [.ref a] [(a, .inr (3, [.null, .null, .int (0 : Int32), .int (0 : Int32), .int (0 : Int32)]))] (fun z => [(a, .inr (3, [.ref (z 0), .ref (z 1), .int (8 : Int32), .int (0 : Int32), .int (0 : Int32)])), ((z 0), .inl (U.2.2.1 0, 6, .inl (fun _ => 0))), ((z 1), .inr (1, [.int (-1 : Int32), .int (1 : Int32), .int (8 : Int32), .int (0 : Int32), .int (0 : Int32), .int (0 : Int32), .int (0 : Int32)]))]) 2 13 := by
  refine FnE_of (cc := cX3_init) (maxL := 1) [some (.ref a)] (by decide +kernel) rfl (jcat rfl) (Nat.le_of_ble_eq_true rfl) rfl (fun k C R hin hnL => ?_)
  have hN : ∀ i, i < 1 → i < k.2.2.2.2.2.2.2.2.2.2.2.1 := fun i h => by rw [hnL]; exact h
  refine J_aload_n C dX3_init_0 rfl rfl ?_
  refine J_objInit C (List.mem_of_getElem? (i := 1) rfl) (List.mem_of_getElem? (i := 2) rfl) (List.mem_of_getElem? (i := 3) rfl) (Nat.le_of_ble_eq_true rfl) (Nat.le_of_ble_eq_true rfl) dX3_init_1 ?_
  refine J_aload_n C dX3_init_4 rfl rfl ?_
  refine J_bipush C (v := (6 : Int32)) dX3_init_5 (by decide) ?_
  refine J_newa C (atype := .int) .int (6, .inl (fun _ => 0)) 6 0 _ rfl (fun _ h => by cases h) (List.mem_of_getElem? (i := 4) rfl) rfl (fun cA => by rw [vp_cell_i]; rfl) (by decide) (by decide) (by decide) (Nat.le_of_ble_eq_true rfl) (Nat.le_of_ble_eq_true rfl) dX3_init_7 (fun q_7 => ?_)
  refine J_putF C tyX3 0 0 [(a, .inr (3, [.ref q_7, .null, .int (0 : Int32), .int (0 : Int32), .int (0 : Int32)])), (q_7, .inl (U.2.2.1 0, 6, .inl (fun _ => 0)))] rfl rfl i_X3_init_X3 tyX3_ok nmX3 (by decide) k_X3_init_9 rfl rfl hin rfl rfl rfl (Nat.le_of_ble_eq_true rfl) rfl dX3_init_9 ?_
  refine J_aload_n C dX3_init_12 rfl rfl ?_
  refine J_new C (ci := 1) tyX1 [.int (0 : Int32), .int (0 : Int32), .int (0 : Int32), .int (0 : Int32), .int (0 : Int32), .int (0 : Int32), .int (0 : Int32)] i_X3_init_X1 tyX1_ok rfl (List.mem_of_getElem? (i := 6) rfl) (List.mem_of_getElem? (i := 7) rfl) (List.mem_of_getElem? (i := 8) rfl) (fun j hj => by rcases (show j = 0 ∨ j = 1 ∨ j = 2 ∨ j = 3 ∨ j = 4 ∨ j = 5 ∨ j = 6 by omega) with rfl | rfl | rfl | rfl | rfl | rfl | rfl <;> rfl) (Nat.le_of_ble_eq_true rfl) (Nat.le_of_ble_eq_true rfl) dX3_init_13 (fun q_13 => ?_)
  refine J_dup C dX3_init_16 rfl ?_
  refine J_callIN C (c_X1_init U q_13 (0 : Int32) (0 : Int32) (0 : Int32) (0 : Int32) (0 : Int32) (0 : Int32) (0 : Int32) ) gX3_init_X1_init_n17 (List.mem_of_getElem? (i := 8) rfl) (List.mem_of_getElem? (i := 8) rfl) (List.mem_of_getElem? (i := 11) rfl) rfl (n := 0) rfl rfl rfl (by decide +kernel) ⟨Nat.le_of_ble_eq_true rfl, Nat.le_of_ble_eq_true rfl⟩ rfl (rest := [.ref q_13, .ref a]) rfl (Nat.le_of_ble_eq_true rfl) [(a, .inr (3, [.ref q_7, .null, .int (0 : Int32), .int (0 : Int32), .int (0 : Int32)])), (q_7, .inl (U.2.2.1 0, 6, .inl (fun _ => 0))), (q_13, .inr (1, [.int (-1 : Int32), .int (1 : Int32), .int (8 : Int32), .int (0 : Int32), .int (0 : Int32), .int (0 : Int32), .int (0 : Int32)]))] [2] [0, 1] [0, 1, 2] (wr := [(a, .inr (3, [.ref q_7, .null, .int (0 : Int32), .int (0 : Int32), .int (0 : Int32)])), (q_7, .inl (U.2.2.1 0, 6, .inl (fun _ => 0)))]) rfl rfl rfl rfl (by decide) rfl rfl  dX3_init_17 ⟨Nat.le_of_ble_eq_true rfl, Nat.le_of_ble_eq_true rfl⟩ [.ref q_13, .ref a] rfl ?_
  refine J_putF C tyX3 0 1 [(a, .inr (3, [.ref q_7, .ref q_13, .int (0 : Int32), .int (0 : Int32), .int (0 : Int32)])), (q_7, .inl (U.2.2.1 0, 6, .inl (fun _ => 0))), (q_13, .inr (1, [.int (-1 : Int32), .int (1 : Int32), .int (8 : Int32), .int (0 : Int32), .int (0 : Int32), .int (0 : Int32), .int (0 : Int32)]))] rfl rfl i_X3_init_X3 tyX3_ok nmX3 (by decide) k_X3_init_18 rfl rfl hin rfl rfl rfl (Nat.le_of_ble_eq_true rfl) rfl dX3_init_20 ?_
  refine J_aload_n C dX3_init_23 rfl rfl ?_
  refine J_bipush C (v := (8 : Int32)) dX3_init_24 (by decide) ?_
  refine J_put C tyX3 0 2 [(a, .inr (3, [.ref q_7, .ref q_13, .int (8 : Int32), .int (0 : Int32), .int (0 : Int32)])), (q_7, .inl (U.2.2.1 0, 6, .inl (fun _ => 0))), (q_13, .inr (1, [.int (-1 : Int32), .int (1 : Int32), .int (8 : Int32), .int (0 : Int32), .int (0 : Int32), .int (0 : Int32), .int (0 : Int32)]))] rfl rfl i_X3_init_X3 tyX3_ok nmX3 (by decide) k_X3_init_22 rfl rfl rfl rfl (Nat.le_of_ble_eq_true rfl) rfl dX3_init_26 ?_
  exact J_vretE C R (jz [q_7, q_13]) dX3_init_29 (Nat.le_of_ble_eq_true rfl) (Nat.le_of_ble_eq_true rfl) rfl
theorem k_X3_wrapped_22 : Cond.fieldLink RX3 22 "BoothOtters$State" "width" "I" ∈ wsX3_wrapped := List.mem_of_getElem? (i := 1) rfl
theorem i_X3_wrapped_X3 : ∀ w ∈ wsX30, w ∈ wsX3_wrapped := fun _ h => List.mem_cons_of_mem _ (List.mem_append_right _ h)
set_option maxHeartbeats 4000000 in
set_option maxRecDepth 100000 in
theorem c_X3_wrapped (U : jU) (a v m : Nat) (w o t : Int32) (p0 : Int32)  : Fn U yX3_wrapped wsX3_wrapped { frames := 0, cells := 0, slots := 0, locals := 0 } [.ref a, .int p0] [(a, .inr (3, [.ref v, .ref m, .int w, .int o, .int t]))] (some (.int (wrapF w p0))) [(a, .inr (3, [.ref v, .ref m, .int w, .int o, .int t]))] 0 0 := by
  refine Fn_of (cc := cX3_wrapped) (maxL := 3) (ret := (some .int)) [some (.ref a), some (.int p0), none] (by decide +kernel) rfl (jcat rfl) (Nat.le_of_ble_eq_true rfl) rfl (fun k C R hin hnL => ?_)
  have hN : ∀ i, i < 3 → i < k.2.2.2.2.2.2.2.2.2.2.2.1 := fun i h => by rw [hnL]; exact h
  refine J_bipush C (v := (32 : Int32)) dX3_wrapped_0 (by decide) ?_
  refine J_aload_n C dX3_wrapped_2 rfl rfl ?_
  refine J_get C 0 2 rfl rfl i_X3_wrapped_X3 (by decide) k_X3_wrapped_22 rfl rfl dX3_wrapped_3 ?_
  refine J_isub C (v := (32 : Int32) - w) dX3_wrapped_6 rfl ?_
  refine J_istore_n C [some (.ref a), some (.int p0), some (.int ((32 : Int32) - w))] dX3_wrapped_7 rfl (hN 2 (by decide)) rfl rfl ?_
  refine J_iload_n C dX3_wrapped_8 rfl rfl ?_
  refine J_iload_n C dX3_wrapped_9 rfl rfl ?_
  refine J_ishl C (v := p0 <<< (((32 : Int32) - w) &&& 31)) dX3_wrapped_10 rfl ?_
  refine J_iload_n C dX3_wrapped_11 rfl rfl ?_
  refine J_ishr C (v := (p0 <<< (((32 : Int32) - w) &&& 31)) >>> (((32 : Int32) - w) &&& 31)) dX3_wrapped_12 rfl ?_
  exact J_iret C R dX3_wrapped_13 (Nat.le_of_ble_eq_true rfl) (Nat.le_of_ble_eq_true rfl) rfl rfl
set_option maxHeartbeats 4000000 in
set_option maxRecDepth 100000 in
theorem c_X3_isValue (U : jU) (a v m : Nat) (w o t : Int32) (p0 : Int32)  : Fn U yX3_isValue wsX3_isValue { frames := 1, cells := 0, slots := 0, locals := 22 } [.ref a, .int p0] [(a, .inr (3, [.ref v, .ref m, .int w, .int o, .int t]))] (some (.int (b2i (wrapF w p0 = p0)))) [(a, .inr (3, [.ref v, .ref m, .int w, .int o, .int t]))] 0 0 := by
  refine Fn_of (cc := cX3_isValue) (maxL := 2) (ret := (some .boolean)) [some (.ref a), some (.int p0)] (by decide +kernel) rfl (jcat rfl) (Nat.le_of_ble_eq_true rfl) rfl (fun k C R hin hnL => ?_)
  have hN : ∀ i, i < 2 → i < k.2.2.2.2.2.2.2.2.2.2.2.1 := fun i h => by rw [hnL]; exact h
  refine J_aload_n C dX3_isValue_0 rfl rfl ?_
  refine J_iload_n C dX3_isValue_1 rfl rfl ?_
  refine J_callV C (c_X3_wrapped U a v m w o t p0 ) gX3_isValue_X3_wrapped (n := 1) rfl rfl rfl (by decide +kernel) ⟨Nat.le_of_ble_eq_true rfl, Nat.le_of_ble_eq_true rfl⟩ 0 rfl rfl rfl (rest := []) rfl (Nat.le_of_ble_eq_true rfl) [(a, .inr (3, [.ref v, .ref m, .int w, .int o, .int t]))] [0] [] [0] (wr := []) rfl rfl rfl rfl (by decide) rfl rfl  dX3_isValue_2 ⟨Nat.le_of_ble_eq_true rfl, Nat.le_of_ble_eq_true rfl⟩ [.int (wrapF w p0)] rfl ?_
  refine J_iload_n C dX3_isValue_5 rfl rfl ?_
  refine J_icmp_ne C 13 dX3_isValue_6 (by decide) (fun c_6_1 => ?_) (fun c_6_1 => ?_)
  · refine J_iconst C (v := (0 : Int32)) dX3_isValue_13 (by decide) ?_
    exact J_zret C R rfl dX3_isValue_14 (Nat.le_of_ble_eq_true rfl) (Nat.le_of_ble_eq_true rfl) (congrArg (fun z => some (Value.int z)) (b2i_f (P := wrapF w p0 = p0) (by simp_all [isReg, isRec, isLet, isDig]))) rfl
  · refine J_iconst C (v := (1 : Int32)) dX3_isValue_9 (by decide) ?_
    refine J_goto C 14 dX3_isValue_10 (by decide) ?_
    exact J_zret C R rfl dX3_isValue_14 (Nat.le_of_ble_eq_true rfl) (Nat.le_of_ble_eq_true rfl) (congrArg (fun z => some (Value.int z)) (b2i_t (P := wrapF w p0 = p0) (by simp_all [isReg, isRec, isLet, isDig]))) rfl
theorem k_X3_valueIn_9 : Cond.fieldLink RX3 9 "BoothOtters$State" "values" "[I" ∈ wsX3_valueIn := List.mem_of_getElem? (i := 1) rfl
theorem i_X3_valueIn_X3 : ∀ w ∈ wsX30, w ∈ wsX3_valueIn := fun _ h => List.mem_cons_of_mem _ (List.mem_append_right _ h)
set_option maxHeartbeats 4000000 in
set_option maxRecDepth 100000 in
theorem c_X3_valueIn (U : jU) (a v m : Nat) (f : Nat → Int32) (w o t : Int32) (p0 : Int32)  : Fn U yX3_valueIn wsX3_valueIn { frames := 1, cells := 0, slots := 0, locals := 20 } [.ref a, .int p0] [(a, .inr (3, [.ref v, .ref m, .int w, .int o, .int t])), (v, .inl (U.2.2.1 0, 6, .inl f))] (some (.int (valF f p0))) [(a, .inr (3, [.ref v, .ref m, .int w, .int o, .int t])), (v, .inl (U.2.2.1 0, 6, .inl f))] 0 0 := by
  refine Fn_of (cc := cX3_valueIn) (maxL := 2) (ret := (some .int)) [some (.ref a), some (.int p0)] (by decide +kernel) rfl (jcat rfl) (Nat.le_of_ble_eq_true rfl) rfl (fun k C R hin hnL => ?_)
  have hN : ∀ i, i < 2 → i < k.2.2.2.2.2.2.2.2.2.2.2.1 := fun i h => by rw [hnL]; exact h
  refine J_iload_n C dX3_valueIn_0 rfl rfl ?_
  refine J_callSN C (c_X5_isRegister U p0 ) gX3_valueIn_X5_isRegister_n36 (List.mem_of_getElem? (i := 9) rfl) (List.mem_of_getElem? (i := 3) rfl) (List.mem_of_getElem? (i := 2) rfl) (n := 1) rfl rfl rfl (by decide +kernel) ⟨Nat.le_of_ble_eq_true rfl, Nat.le_of_ble_eq_true rfl⟩ rfl (rest := []) rfl (Nat.le_of_ble_eq_true rfl) [(a, .inr (3, [.ref v, .ref m, .int w, .int o, .int t])), (v, .inl (U.2.2.1 0, 6, .inl f))] [] [0, 1] [0, 1] (wr := [(a, .inr (3, [.ref v, .ref m, .int w, .int o, .int t])), (v, .inl (U.2.2.1 0, 6, .inl f))]) rfl rfl rfl rfl (by decide) rfl rfl  dX3_valueIn_1 ⟨Nat.le_of_ble_eq_true rfl, Nat.le_of_ble_eq_true rfl⟩ [.int (b2i (isReg p0))] rfl ?_
  refine J_if_eq_b C 16 dX3_valueIn_4 (by decide) (fun c_4_1 => ?_) (fun c_4_1 => ?_)
  · refine J_iconst C (v := (0 : Int32)) dX3_valueIn_16 (by decide) ?_
    exact J_iret C R dX3_valueIn_17 (Nat.le_of_ble_eq_true rfl) (Nat.le_of_ble_eq_true rfl) (by simp [valF, c_4_1]) rfl
  · refine J_aload_n C dX3_valueIn_7 rfl rfl ?_
    refine J_get C 0 0 rfl rfl i_X3_valueIn_X3 (by decide) k_X3_valueIn_9 rfl rfl dX3_valueIn_8 ?_
    refine J_iload_n C dX3_valueIn_11 rfl rfl ?_
    refine J_iald C 1 rfl (isReg_in c_4_1) rfl dX3_valueIn_12 ?_
    refine J_goto C 17 dX3_valueIn_13 (by decide) ?_
    exact J_iret C R dX3_valueIn_17 (Nat.le_of_ble_eq_true rfl) (Nat.le_of_ble_eq_true rfl) (by simp [valF, c_4_1]) rfl
theorem k_X3_bitsIn_22 : Cond.fieldLink RX3 22 "BoothOtters$State" "width" "I" ∈ wsX3_bitsIn := List.mem_of_getElem? (i := 1) rfl
theorem i_X3_bitsIn_X3 : ∀ w ∈ wsX30, w ∈ wsX3_bitsIn := fun _ h => List.mem_cons_of_mem _ (List.mem_append_right _ h)
set_option maxHeartbeats 4000000 in
set_option maxRecDepth 100000 in
theorem c_X3_bitsIn (U : jU) (a v m : Nat) (f : Nat → Int32) (w o t : Int32) (p0 : Int32)  : Fn U yX3_bitsIn wsX3_bitsIn { frames := 2, cells := 0, slots := 0, locals := 41 } [.ref a, .int p0] [(a, .inr (3, [.ref v, .ref m, .int w, .int o, .int t])), (v, .inl (U.2.2.1 0, 6, .inl f))] (some (.int (bitsF w (valF f p0)))) [(a, .inr (3, [.ref v, .ref m, .int w, .int o, .int t])), (v, .inl (U.2.2.1 0, 6, .inl f))] 0 0 := by
  refine Fn_of (cc := cX3_bitsIn) (maxL := 2) (ret := (some .int)) [some (.ref a), some (.int p0)] (by decide +kernel) rfl (jcat rfl) (Nat.le_of_ble_eq_true rfl) rfl (fun k C R hin hnL => ?_)
  have hN : ∀ i, i < 2 → i < k.2.2.2.2.2.2.2.2.2.2.2.1 := fun i h => by rw [hnL]; exact h
  refine J_aload_n C dX3_bitsIn_0 rfl rfl ?_
  refine J_iload_n C dX3_bitsIn_1 rfl rfl ?_
  refine J_callV C (c_X3_valueIn U a v m f w o t p0 ) gX3_bitsIn_X3_valueIn (n := 1) rfl rfl rfl (by decide +kernel) ⟨Nat.le_of_ble_eq_true rfl, Nat.le_of_ble_eq_true rfl⟩ 0 rfl rfl rfl (rest := []) rfl (Nat.le_of_ble_eq_true rfl) [(a, .inr (3, [.ref v, .ref m, .int w, .int o, .int t])), (v, .inl (U.2.2.1 0, 6, .inl f))] [0, 1] [] [0, 1] (wr := []) rfl rfl rfl rfl (by decide) rfl rfl  dX3_bitsIn_2 ⟨Nat.le_of_ble_eq_true rfl, Nat.le_of_ble_eq_true rfl⟩ [.int (valF f p0)] rfl ?_
  refine J_iconst C (v := (1 : Int32)) dX3_bitsIn_5 (by decide) ?_
  refine J_aload_n C dX3_bitsIn_6 rfl rfl ?_
  refine J_get C 0 2 rfl rfl i_X3_bitsIn_X3 (by decide) k_X3_bitsIn_22 rfl rfl dX3_bitsIn_7 ?_
  refine J_ishl C (v := (1 : Int32) <<< (w &&& 31)) dX3_bitsIn_10 rfl ?_
  refine J_iconst C (v := (1 : Int32)) dX3_bitsIn_11 (by decide) ?_
  refine J_isub C (v := ((1 : Int32) <<< (w &&& 31)) - (1 : Int32)) dX3_bitsIn_12 rfl ?_
  refine J_iand C (v := (valF f p0) &&& (((1 : Int32) <<< (w &&& 31)) - (1 : Int32))) dX3_bitsIn_13 rfl ?_
  exact J_iret C R dX3_bitsIn_14 (Nat.le_of_ble_eq_true rfl) (Nat.le_of_ble_eq_true rfl) rfl rfl
theorem k_X3_put_9 : Cond.fieldLink RX3 9 "BoothOtters$State" "values" "[I" ∈ wsX3_put := List.mem_of_getElem? (i := 2) rfl
theorem i_X3_put_X3 : ∀ w ∈ wsX30, w ∈ wsX3_put := fun _ h => List.mem_cons_of_mem _ (List.mem_append_right _ h)
theorem k_X3_put_30 : Cond.fieldLink RX3 30 "BoothOtters$State" "overflows" "I" ∈ wsX3_put := List.mem_of_getElem? (i := 1) rfl
set_option maxHeartbeats 4000000 in
set_option maxRecDepth 100000 in
theorem c_X3_put (U : jU) (a v m : Nat) (f : Nat → Int32) (w o t : Int32) (p0 p1 : Int32)  : Fn U yX3_put wsX3_put { frames := 1, cells := 0, slots := 0, locals := 22 } [.ref a, .int p0, .int p1] [(a, .inr (3, [.ref v, .ref m, .int w, .int o, .int t])), (v, .inl (U.2.2.1 0, 6, .inl f))] (some (.int (wrapF w p1))) [(a, .inr (3, [.ref v, .ref m, .int w, .int (ovF w p1 o), .int t])), (v, .inl (U.2.2.1 0, 6, .inl (putF f p0 (wrapF w p1))))] 0 0 := by
  refine Fn_of (cc := cX3_put) (maxL := 4) (ret := (some .int)) [some (.ref a), some (.int p0), some (.int p1), none] (by decide +kernel) rfl (jcat rfl) (Nat.le_of_ble_eq_true rfl) rfl (fun k C R hin hnL => ?_)
  have hN : ∀ i, i < 4 → i < k.2.2.2.2.2.2.2.2.2.2.2.1 := fun i h => by rw [hnL]; exact h
  refine J_aload_n C dX3_put_0 rfl rfl ?_
  refine J_iload_n C dX3_put_1 rfl rfl ?_
  refine J_callV C (c_X3_wrapped U a v m w o t p1 ) gX3_put_X3_wrapped (n := 1) rfl rfl rfl (by decide +kernel) ⟨Nat.le_of_ble_eq_true rfl, Nat.le_of_ble_eq_true rfl⟩ 0 rfl rfl rfl (rest := []) rfl (Nat.le_of_ble_eq_true rfl) [(a, .inr (3, [.ref v, .ref m, .int w, .int o, .int t])), (v, .inl (U.2.2.1 0, 6, .inl f))] [0] [1] [1, 0] (wr := [(v, .inl (U.2.2.1 0, 6, .inl f))]) rfl rfl rfl rfl (by decide) rfl rfl  dX3_put_2 ⟨Nat.le_of_ble_eq_true rfl, Nat.le_of_ble_eq_true rfl⟩ [.int (wrapF w p1)] rfl ?_
  refine J_istore_n C [some (.ref a), some (.int p0), some (.int p1), some (.int (wrapF w p1))] dX3_put_5 rfl (hN 3 (by decide)) rfl rfl ?_
  refine J_iload_n C dX3_put_6 rfl rfl ?_
  refine J_iload_n C dX3_put_7 rfl rfl ?_
  refine J_icmp_eq C 21 dX3_put_8 (by decide) (fun c_8_1 => ?_) (fun c_8_1 => ?_)
  · refine J_iload_n C dX3_put_21 rfl rfl ?_
    refine J_callSN C (c_X5_isRegister U p0 ) gX3_put_X5_isRegister_n36 (List.mem_of_getElem? (i := 9) rfl) (List.mem_of_getElem? (i := 10) rfl) (List.mem_of_getElem? (i := 9) rfl) (n := 1) rfl rfl rfl (by decide +kernel) ⟨Nat.le_of_ble_eq_true rfl, Nat.le_of_ble_eq_true rfl⟩ rfl (rest := []) rfl (Nat.le_of_ble_eq_true rfl) [(a, .inr (3, [.ref v, .ref m, .int w, .int o, .int t])), (v, .inl (U.2.2.1 0, 6, .inl f))] [] [0, 1] [0, 1] (wr := [(a, .inr (3, [.ref v, .ref m, .int w, .int o, .int t])), (v, .inl (U.2.2.1 0, 6, .inl f))]) rfl rfl rfl rfl (by decide) rfl rfl  dX3_put_22 ⟨Nat.le_of_ble_eq_true rfl, Nat.le_of_ble_eq_true rfl⟩ [.int (b2i (isReg p0))] rfl ?_
    refine J_if_eq_b C 35 dX3_put_25 (by decide) (fun c_25_2 => ?_) (fun c_25_2 => ?_)
    · refine J_iload_n C dX3_put_35 rfl rfl ?_
      exact J_iret C R dX3_put_36 (Nat.le_of_ble_eq_true rfl) (Nat.le_of_ble_eq_true rfl) rfl (by simp [ovF, putF, c_8_1, c_25_2])
    · refine J_aload_n C dX3_put_28 rfl rfl ?_
      refine J_get C 0 0 rfl rfl i_X3_put_X3 (by decide) k_X3_put_9 rfl rfl dX3_put_29 ?_
      refine J_iload_n C dX3_put_32 rfl rfl ?_
      refine J_iload_n C dX3_put_33 rfl rfl ?_
      refine J_iast C 1 [(a, .inr (3, [.ref v, .ref m, .int w, .int o, .int t])), (v, .inl (U.2.2.1 0, 6, .inl (upd f p0.toNatClampNeg (wrapF w p1))))] rfl (isReg_in c_25_2) rfl dX3_put_34 ?_
      refine J_iload_n C dX3_put_35 rfl rfl ?_
      exact J_iret C R dX3_put_36 (Nat.le_of_ble_eq_true rfl) (Nat.le_of_ble_eq_true rfl) rfl (by simp [ovF, putF, c_8_1, c_25_2])
  · refine J_aload_n C dX3_put_11 rfl rfl ?_
    refine J_dup C dX3_put_12 rfl ?_
    refine J_get C 0 3 rfl rfl i_X3_put_X3 (by decide) k_X3_put_30 rfl rfl dX3_put_13 ?_
    refine J_iconst C (v := (1 : Int32)) dX3_put_16 (by decide) ?_
    refine J_iadd C (v := o + (1 : Int32)) dX3_put_17 rfl ?_
    refine J_put C tyX3 0 3 [(a, .inr (3, [.ref v, .ref m, .int w, .int (o + (1 : Int32)), .int t])), (v, .inl (U.2.2.1 0, 6, .inl f))] rfl rfl i_X3_put_X3 tyX3_ok nmX3 (by decide) k_X3_put_30 rfl rfl rfl rfl (Nat.le_of_ble_eq_true rfl) rfl dX3_put_18 ?_
    refine J_iload_n C dX3_put_21 rfl rfl ?_
    refine J_callSN C (c_X5_isRegister U p0 ) gX3_put_X5_isRegister_n36 (List.mem_of_getElem? (i := 9) rfl) (List.mem_of_getElem? (i := 10) rfl) (List.mem_of_getElem? (i := 9) rfl) (n := 1) rfl rfl rfl (by decide +kernel) ⟨Nat.le_of_ble_eq_true rfl, Nat.le_of_ble_eq_true rfl⟩ rfl (rest := []) rfl (Nat.le_of_ble_eq_true rfl) [(a, .inr (3, [.ref v, .ref m, .int w, .int (o + (1 : Int32)), .int t])), (v, .inl (U.2.2.1 0, 6, .inl f))] [] [0, 1] [0, 1] (wr := [(a, .inr (3, [.ref v, .ref m, .int w, .int (o + (1 : Int32)), .int t])), (v, .inl (U.2.2.1 0, 6, .inl f))]) rfl rfl rfl rfl (by decide) rfl rfl  dX3_put_22 ⟨Nat.le_of_ble_eq_true rfl, Nat.le_of_ble_eq_true rfl⟩ [.int (b2i (isReg p0))] rfl ?_
    refine J_if_eq_b C 35 dX3_put_25 (by decide) (fun c_25_3 => ?_) (fun c_25_3 => ?_)
    · refine J_iload_n C dX3_put_35 rfl rfl ?_
      exact J_iret C R dX3_put_36 (Nat.le_of_ble_eq_true rfl) (Nat.le_of_ble_eq_true rfl) rfl (by simp [ovF, putF, c_8_1, c_25_3])
    · refine J_aload_n C dX3_put_28 rfl rfl ?_
      refine J_get C 0 0 rfl rfl i_X3_put_X3 (by decide) k_X3_put_9 rfl rfl dX3_put_29 ?_
      refine J_iload_n C dX3_put_32 rfl rfl ?_
      refine J_iload_n C dX3_put_33 rfl rfl ?_
      refine J_iast C 1 [(a, .inr (3, [.ref v, .ref m, .int w, .int (o + (1 : Int32)), .int t])), (v, .inl (U.2.2.1 0, 6, .inl (upd f p0.toNatClampNeg (wrapF w p1))))] rfl (isReg_in c_25_3) rfl dX3_put_34 ?_
      refine J_iload_n C dX3_put_35 rfl rfl ?_
      exact J_iret C R dX3_put_36 (Nat.le_of_ble_eq_true rfl) (Nat.le_of_ble_eq_true rfl) rfl (by simp [ovF, putF, c_8_1, c_25_3])
