theorem k_X6_init_7 : Cond.fieldLink RX6 7 "BoothOttersModel" "s" "[I" ∈ wsX6_init := List.mem_of_getElem? (i := 5) rfl
theorem i_X6_init_X6 : ∀ w ∈ wsX60, w ∈ wsX6_init := fun _ h => List.mem_cons_of_mem _ (List.mem_append_right _ h)
theorem k_X6_init_13 : Cond.fieldLink RX6 13 "BoothOttersModel" "aside" "[I" ∈ wsX6_init := List.mem_of_getElem? (i := 6) rfl
theorem k_X6_init_16 : Cond.fieldLink RX6 16 "BoothOttersModel" "states" "[I" ∈ wsX6_init := List.mem_of_getElem? (i := 7) rfl
theorem k_X6_init_19 : Cond.fieldLink RX6 19 "BoothOttersModel" "snapshot" "[I" ∈ wsX6_init := List.mem_of_getElem? (i := 8) rfl
theorem k_X6_init_22 : Cond.fieldLink RX6 22 "BoothOttersModel" "text" "[I" ∈ wsX6_init := List.mem_of_getElem? (i := 9) rfl
theorem k_X6_init_25 : Cond.fieldLink RX6 25 "BoothOttersModel" "read" "[I" ∈ wsX6_init := List.mem_of_getElem? (i := 10) rfl
theorem k_X6_init_28 : Cond.fieldLink RX6 28 "BoothOttersModel" "digit" "[I" ∈ wsX6_init := List.mem_of_getElem? (i := 11) rfl
theorem k_X6_init_31 : Cond.fieldLink RX6 31 "BoothOttersModel" "thrown" "I" ∈ wsX6_init := List.mem_of_getElem? (i := 12) rfl
set_option maxHeartbeats 4000000 in
set_option maxRecDepth 100000 in
theorem c_X6_init (U : jU) (m : Nat)  : FnE U yX6_init wsX6_init { frames := 1, cells := 7, slots := 253, locals := 14 } [.ref m] [(m, .inr (6, [.int (0 : Int32), .null, .null, .null, .int (0 : Int32), .null, .int (0 : Int32), .null, .int (0 : Int32), .int (0 : Int32), .int (0 : Int32), .null, .int (0 : Int32), .int (0 : Int32), .int (0 : Int32), .null, .int (0 : Int32)]))] (fun z => [(m, .inr (6, [.int (0 : Int32), .ref (z 0), .ref (z 1), .ref (z 2), .int (0 : Int32), .ref (z 3), .int (0 : Int32), .ref (z 4), .int (0 : Int32), .int (0 : Int32), .int (0 : Int32), .ref (z 5), .int (0 : Int32), .int (0 : Int32), .int (0 : Int32), .ref (z 6), .int (0 : Int32)])), ((z 0), .inl (U.2.2.1 0, 16, .inl (upd (upd (fun _ => 0) 0 (8 : Int32)) 7 (-1 : Int32)))), ((z 1), .inl (U.2.2.1 0, 16, .inl (fun _ => 0))), ((z 2), .inl (U.2.2.1 0, 64, .inl (fun _ => 0))), ((z 3), .inl (U.2.2.1 0, 16, .inl (fun _ => 0))), ((z 4), .inl (U.2.2.1 0, 60, .inl (fun _ => 0))), ((z 5), .inl (U.2.2.1 0, 64, .inl (fun _ => 0))), ((z 6), .inl (U.2.2.1 0, 17, .inl (fun _ => 0)))]) 7 253 := by
  refine FnE_of (cc := cX6_init) (maxL := 1) [some (.ref m)] (by decide +kernel) rfl (jcat rfl) (Nat.le_of_ble_eq_true rfl) rfl (fun k C R hin hnL => ?_)
  have hN : ∀ i, i < 1 → i < k.2.2.2.2.2.2.2.2.2.2.2.1 := fun i h => by rw [hnL]; exact h
  refine J_aload_n C dX6_init_0 rfl rfl ?_
  refine J_objInit C (List.mem_of_getElem? (i := 1) rfl) (List.mem_of_getElem? (i := 2) rfl) (List.mem_of_getElem? (i := 3) rfl) (Nat.le_of_ble_eq_true rfl) (Nat.le_of_ble_eq_true rfl) dX6_init_1 ?_
  refine J_aload_n C dX6_init_4 rfl rfl ?_
  refine J_bipush C (v := (16 : Int32)) dX6_init_5 (by decide) ?_
  refine J_newa C (atype := .int) .int (16, .inl (fun _ => 0)) 16 0 _ rfl (fun _ h => by cases h) (List.mem_of_getElem? (i := 4) rfl) rfl (fun cA => by rw [vp_cell_i]; rfl) (by decide) (by decide) (by decide) (Nat.le_of_ble_eq_true rfl) (Nat.le_of_ble_eq_true rfl) dX6_init_7 (fun q_7 => ?_)
  refine J_putF C tyX6 0 1 [(m, .inr (6, [.int (0 : Int32), .ref q_7, .null, .null, .int (0 : Int32), .null, .int (0 : Int32), .null, .int (0 : Int32), .int (0 : Int32), .int (0 : Int32), .null, .int (0 : Int32), .int (0 : Int32), .int (0 : Int32), .null, .int (0 : Int32)])), (q_7, .inl (U.2.2.1 0, 16, .inl (fun _ => 0)))] rfl rfl i_X6_init_X6 tyX6_ok nmX6 (by decide) k_X6_init_7 rfl rfl hin rfl rfl rfl (Nat.le_of_ble_eq_true rfl) rfl dX6_init_9 ?_
  refine J_aload_n C dX6_init_12 rfl rfl ?_
  refine J_bipush C (v := (16 : Int32)) dX6_init_13 (by decide) ?_
  refine J_newa C (atype := .int) .int (16, .inl (fun _ => 0)) 16 0 _ rfl (fun _ h => by cases h) (List.mem_of_getElem? (i := 4) rfl) rfl (fun cA => by rw [vp_cell_i]; rfl) (by decide) (by decide) (by decide) (Nat.le_of_ble_eq_true rfl) (Nat.le_of_ble_eq_true rfl) dX6_init_15 (fun q_15 => ?_)
  refine J_putF C tyX6 0 2 [(m, .inr (6, [.int (0 : Int32), .ref q_7, .ref q_15, .null, .int (0 : Int32), .null, .int (0 : Int32), .null, .int (0 : Int32), .int (0 : Int32), .int (0 : Int32), .null, .int (0 : Int32), .int (0 : Int32), .int (0 : Int32), .null, .int (0 : Int32)])), (q_7, .inl (U.2.2.1 0, 16, .inl (fun _ => 0))), (q_15, .inl (U.2.2.1 0, 16, .inl (fun _ => 0)))] rfl rfl i_X6_init_X6 tyX6_ok nmX6 (by decide) k_X6_init_13 rfl rfl hin rfl rfl rfl (Nat.le_of_ble_eq_true rfl) rfl dX6_init_17 ?_
  refine J_aload_n C dX6_init_20 rfl rfl ?_
  refine J_bipush C (v := (64 : Int32)) dX6_init_21 (by decide) ?_
  refine J_newa C (atype := .int) .int (64, .inl (fun _ => 0)) 64 0 _ rfl (fun _ h => by cases h) (List.mem_of_getElem? (i := 4) rfl) rfl (fun cA => by rw [vp_cell_i]; rfl) (by decide) (by decide) (by decide) (Nat.le_of_ble_eq_true rfl) (Nat.le_of_ble_eq_true rfl) dX6_init_23 (fun q_23 => ?_)
  refine J_putF C tyX6 0 3 [(m, .inr (6, [.int (0 : Int32), .ref q_7, .ref q_15, .ref q_23, .int (0 : Int32), .null, .int (0 : Int32), .null, .int (0 : Int32), .int (0 : Int32), .int (0 : Int32), .null, .int (0 : Int32), .int (0 : Int32), .int (0 : Int32), .null, .int (0 : Int32)])), (q_7, .inl (U.2.2.1 0, 16, .inl (fun _ => 0))), (q_15, .inl (U.2.2.1 0, 16, .inl (fun _ => 0))), (q_23, .inl (U.2.2.1 0, 64, .inl (fun _ => 0)))] rfl rfl i_X6_init_X6 tyX6_ok nmX6 (by decide) k_X6_init_16 rfl rfl hin rfl rfl rfl (Nat.le_of_ble_eq_true rfl) rfl dX6_init_25 ?_
  refine J_aload_n C dX6_init_28 rfl rfl ?_
  refine J_bipush C (v := (16 : Int32)) dX6_init_29 (by decide) ?_
  refine J_newa C (atype := .int) .int (16, .inl (fun _ => 0)) 16 0 _ rfl (fun _ h => by cases h) (List.mem_of_getElem? (i := 4) rfl) rfl (fun cA => by rw [vp_cell_i]; rfl) (by decide) (by decide) (by decide) (Nat.le_of_ble_eq_true rfl) (Nat.le_of_ble_eq_true rfl) dX6_init_31 (fun q_31 => ?_)
  refine J_putF C tyX6 0 5 [(m, .inr (6, [.int (0 : Int32), .ref q_7, .ref q_15, .ref q_23, .int (0 : Int32), .ref q_31, .int (0 : Int32), .null, .int (0 : Int32), .int (0 : Int32), .int (0 : Int32), .null, .int (0 : Int32), .int (0 : Int32), .int (0 : Int32), .null, .int (0 : Int32)])), (q_7, .inl (U.2.2.1 0, 16, .inl (fun _ => 0))), (q_15, .inl (U.2.2.1 0, 16, .inl (fun _ => 0))), (q_23, .inl (U.2.2.1 0, 64, .inl (fun _ => 0))), (q_31, .inl (U.2.2.1 0, 16, .inl (fun _ => 0)))] rfl rfl i_X6_init_X6 tyX6_ok nmX6 (by decide) k_X6_init_19 rfl rfl hin rfl rfl rfl (Nat.le_of_ble_eq_true rfl) rfl dX6_init_33 ?_
  refine J_aload_n C dX6_init_36 rfl rfl ?_
  refine J_bipush C (v := (60 : Int32)) dX6_init_37 (by decide) ?_
  refine J_newa C (atype := .int) .int (60, .inl (fun _ => 0)) 60 0 _ rfl (fun _ h => by cases h) (List.mem_of_getElem? (i := 4) rfl) rfl (fun cA => by rw [vp_cell_i]; rfl) (by decide) (by decide) (by decide) (Nat.le_of_ble_eq_true rfl) (Nat.le_of_ble_eq_true rfl) dX6_init_39 (fun q_39 => ?_)
  refine J_putF C tyX6 0 7 [(m, .inr (6, [.int (0 : Int32), .ref q_7, .ref q_15, .ref q_23, .int (0 : Int32), .ref q_31, .int (0 : Int32), .ref q_39, .int (0 : Int32), .int (0 : Int32), .int (0 : Int32), .null, .int (0 : Int32), .int (0 : Int32), .int (0 : Int32), .null, .int (0 : Int32)])), (q_7, .inl (U.2.2.1 0, 16, .inl (fun _ => 0))), (q_15, .inl (U.2.2.1 0, 16, .inl (fun _ => 0))), (q_23, .inl (U.2.2.1 0, 64, .inl (fun _ => 0))), (q_31, .inl (U.2.2.1 0, 16, .inl (fun _ => 0))), (q_39, .inl (U.2.2.1 0, 60, .inl (fun _ => 0)))] rfl rfl i_X6_init_X6 tyX6_ok nmX6 (by decide) k_X6_init_22 rfl rfl hin rfl rfl rfl (Nat.le_of_ble_eq_true rfl) rfl dX6_init_41 ?_
  refine J_aload_n C dX6_init_44 rfl rfl ?_
  refine J_bipush C (v := (64 : Int32)) dX6_init_45 (by decide) ?_
  refine J_newa C (atype := .int) .int (64, .inl (fun _ => 0)) 64 0 _ rfl (fun _ h => by cases h) (List.mem_of_getElem? (i := 4) rfl) rfl (fun cA => by rw [vp_cell_i]; rfl) (by decide) (by decide) (by decide) (Nat.le_of_ble_eq_true rfl) (Nat.le_of_ble_eq_true rfl) dX6_init_47 (fun q_47 => ?_)
  refine J_putF C tyX6 0 11 [(m, .inr (6, [.int (0 : Int32), .ref q_7, .ref q_15, .ref q_23, .int (0 : Int32), .ref q_31, .int (0 : Int32), .ref q_39, .int (0 : Int32), .int (0 : Int32), .int (0 : Int32), .ref q_47, .int (0 : Int32), .int (0 : Int32), .int (0 : Int32), .null, .int (0 : Int32)])), (q_7, .inl (U.2.2.1 0, 16, .inl (fun _ => 0))), (q_15, .inl (U.2.2.1 0, 16, .inl (fun _ => 0))), (q_23, .inl (U.2.2.1 0, 64, .inl (fun _ => 0))), (q_31, .inl (U.2.2.1 0, 16, .inl (fun _ => 0))), (q_39, .inl (U.2.2.1 0, 60, .inl (fun _ => 0))), (q_47, .inl (U.2.2.1 0, 64, .inl (fun _ => 0)))] rfl rfl i_X6_init_X6 tyX6_ok nmX6 (by decide) k_X6_init_25 rfl rfl hin rfl rfl rfl (Nat.le_of_ble_eq_true rfl) rfl dX6_init_49 ?_
  refine J_aload_n C dX6_init_52 rfl rfl ?_
  refine J_bipush C (v := (17 : Int32)) dX6_init_53 (by decide) ?_
  refine J_newa C (atype := .int) .int (17, .inl (fun _ => 0)) 17 0 _ rfl (fun _ h => by cases h) (List.mem_of_getElem? (i := 4) rfl) rfl (fun cA => by rw [vp_cell_i]; rfl) (by decide) (by decide) (by decide) (Nat.le_of_ble_eq_true rfl) (Nat.le_of_ble_eq_true rfl) dX6_init_55 (fun q_55 => ?_)
  refine J_putF C tyX6 0 15 [(m, .inr (6, [.int (0 : Int32), .ref q_7, .ref q_15, .ref q_23, .int (0 : Int32), .ref q_31, .int (0 : Int32), .ref q_39, .int (0 : Int32), .int (0 : Int32), .int (0 : Int32), .ref q_47, .int (0 : Int32), .int (0 : Int32), .int (0 : Int32), .ref q_55, .int (0 : Int32)])), (q_7, .inl (U.2.2.1 0, 16, .inl (fun _ => 0))), (q_15, .inl (U.2.2.1 0, 16, .inl (fun _ => 0))), (q_23, .inl (U.2.2.1 0, 64, .inl (fun _ => 0))), (q_31, .inl (U.2.2.1 0, 16, .inl (fun _ => 0))), (q_39, .inl (U.2.2.1 0, 60, .inl (fun _ => 0))), (q_47, .inl (U.2.2.1 0, 64, .inl (fun _ => 0))), (q_55, .inl (U.2.2.1 0, 17, .inl (fun _ => 0)))] rfl rfl i_X6_init_X6 tyX6_ok nmX6 (by decide) k_X6_init_28 rfl rfl hin rfl rfl rfl (Nat.le_of_ble_eq_true rfl) rfl dX6_init_57 ?_
  refine J_aload_n C dX6_init_60 rfl rfl ?_
  refine J_iconst C (v := (0 : Int32)) dX6_init_61 (by decide) ?_
  refine J_put C tyX6 0 0 [(m, .inr (6, [.int (0 : Int32), .ref q_7, .ref q_15, .ref q_23, .int (0 : Int32), .ref q_31, .int (0 : Int32), .ref q_39, .int (0 : Int32), .int (0 : Int32), .int (0 : Int32), .ref q_47, .int (0 : Int32), .int (0 : Int32), .int (0 : Int32), .ref q_55, .int (0 : Int32)])), (q_7, .inl (U.2.2.1 0, 16, .inl (fun _ => 0))), (q_15, .inl (U.2.2.1 0, 16, .inl (fun _ => 0))), (q_23, .inl (U.2.2.1 0, 64, .inl (fun _ => 0))), (q_31, .inl (U.2.2.1 0, 16, .inl (fun _ => 0))), (q_39, .inl (U.2.2.1 0, 60, .inl (fun _ => 0))), (q_47, .inl (U.2.2.1 0, 64, .inl (fun _ => 0))), (q_55, .inl (U.2.2.1 0, 17, .inl (fun _ => 0)))] rfl rfl i_X6_init_X6 tyX6_ok nmX6 (by decide) k_X6_init_31 rfl rfl rfl rfl (Nat.le_of_ble_eq_true rfl) rfl dX6_init_62 ?_
  refine J_aload_n C dX6_init_65 rfl rfl ?_
  refine J_get C 0 1 rfl rfl i_X6_init_X6 (by decide) k_X6_init_7 rfl rfl dX6_init_66 ?_
  refine J_iconst C (v := (0 : Int32)) dX6_init_69 (by decide) ?_
  refine J_bipush C (v := (8 : Int32)) dX6_init_70 (by decide) ?_
  refine J_iast C 1 [(m, .inr (6, [.int (0 : Int32), .ref q_7, .ref q_15, .ref q_23, .int (0 : Int32), .ref q_31, .int (0 : Int32), .ref q_39, .int (0 : Int32), .int (0 : Int32), .int (0 : Int32), .ref q_47, .int (0 : Int32), .int (0 : Int32), .int (0 : Int32), .ref q_55, .int (0 : Int32)])), (q_7, .inl (U.2.2.1 0, 16, .inl (upd (fun _ => 0) 0 (8 : Int32)))), (q_15, .inl (U.2.2.1 0, 16, .inl (fun _ => 0))), (q_23, .inl (U.2.2.1 0, 64, .inl (fun _ => 0))), (q_31, .inl (U.2.2.1 0, 16, .inl (fun _ => 0))), (q_39, .inl (U.2.2.1 0, 60, .inl (fun _ => 0))), (q_47, .inl (U.2.2.1 0, 64, .inl (fun _ => 0))), (q_55, .inl (U.2.2.1 0, 17, .inl (fun _ => 0)))] rfl (vpl n_0 (by decide) (by decide)) (by rw [n_0]; rfl) dX6_init_72 ?_
  refine J_aload_n C dX6_init_73 rfl rfl ?_
  refine J_get C 0 1 rfl rfl i_X6_init_X6 (by decide) k_X6_init_7 rfl rfl dX6_init_74 ?_
  refine J_bipush C (v := (7 : Int32)) dX6_init_77 (by decide) ?_
  refine J_iconst C (v := (-1 : Int32)) dX6_init_79 (by decide) ?_
  refine J_iast C 1 [(m, .inr (6, [.int (0 : Int32), .ref q_7, .ref q_15, .ref q_23, .int (0 : Int32), .ref q_31, .int (0 : Int32), .ref q_39, .int (0 : Int32), .int (0 : Int32), .int (0 : Int32), .ref q_47, .int (0 : Int32), .int (0 : Int32), .int (0 : Int32), .ref q_55, .int (0 : Int32)])), (q_7, .inl (U.2.2.1 0, 16, .inl (upd (upd (fun _ => 0) 0 (8 : Int32)) 7 (-1 : Int32)))), (q_15, .inl (U.2.2.1 0, 16, .inl (fun _ => 0))), (q_23, .inl (U.2.2.1 0, 64, .inl (fun _ => 0))), (q_31, .inl (U.2.2.1 0, 16, .inl (fun _ => 0))), (q_39, .inl (U.2.2.1 0, 60, .inl (fun _ => 0))), (q_47, .inl (U.2.2.1 0, 64, .inl (fun _ => 0))), (q_55, .inl (U.2.2.1 0, 17, .inl (fun _ => 0)))] rfl (vpl n_7 (by decide) (by decide)) (by rw [n_7]; rfl) dX6_init_80 ?_
  exact J_vretE C R (jz [q_7, q_15, q_23, q_31, q_39, q_47, q_55]) dX6_init_81 (Nat.le_of_ble_eq_true rfl) (Nat.le_of_ble_eq_true rfl) rfl
theorem k_X6_thrown_31 : Cond.fieldLink RX6 31 "BoothOttersModel" "thrown" "I" ∈ wsX6_thrown := List.mem_of_getElem? (i := 1) rfl
theorem i_X6_thrown_X6 : ∀ w ∈ wsX60, w ∈ wsX6_thrown := fun _ h => List.mem_cons_of_mem _ (List.mem_append_right _ h)
set_option maxHeartbeats 4000000 in
set_option maxRecDepth 100000 in
theorem c_X6_thrown (U : jU) (m ys ya yt yn yx yr yd : Nat) (xth xsm xhs xln xat xiw xrm xfb xlr xdm : Int32)  : Fn U yX6_thrown wsX6_thrown { frames := 0, cells := 0, slots := 0, locals := 0 } [.ref m] [(m, .inr (6, [.int xth, .ref ys, .ref ya, .ref yt, .int xsm, .ref yn, .int xhs, .ref yx, .int xln, .int xat, .int xiw, .ref yr, .int xrm, .int xfb, .int xlr, .ref yd, .int xdm]))] (some (.int xth)) [(m, .inr (6, [.int xth, .ref ys, .ref ya, .ref yt, .int xsm, .ref yn, .int xhs, .ref yx, .int xln, .int xat, .int xiw, .ref yr, .int xrm, .int xfb, .int xlr, .ref yd, .int xdm]))] 0 0 := by
  refine Fn_of (cc := cX6_thrown) (maxL := 1) (ret := (some .int)) [some (.ref m)] (by decide +kernel) rfl (jcat rfl) (Nat.le_of_ble_eq_true rfl) rfl (fun k C R hin hnL => ?_)
  have hN : ∀ i, i < 1 → i < k.2.2.2.2.2.2.2.2.2.2.2.1 := fun i h => by rw [hnL]; exact h
  refine J_aload_n C dX6_thrown_0 rfl rfl ?_
  refine J_get C 0 0 rfl rfl i_X6_thrown_X6 (by decide) k_X6_thrown_31 rfl rfl dX6_thrown_1 ?_
  exact J_iret C R dX6_thrown_4 (Nat.le_of_ble_eq_true rfl) (Nat.le_of_ble_eq_true rfl) rfl rfl
theorem k_X6_fails_31 : Cond.fieldLink RX6 31 "BoothOttersModel" "thrown" "I" ∈ wsX6_fails := List.mem_of_getElem? (i := 1) rfl
theorem i_X6_fails_X6 : ∀ w ∈ wsX60, w ∈ wsX6_fails := fun _ h => List.mem_cons_of_mem _ (List.mem_append_right _ h)
set_option maxHeartbeats 4000000 in
set_option maxRecDepth 100000 in
theorem c_X6_fails (U : jU) (m ys ya yt yn yx yr yd : Nat) (xth xsm xhs xln xat xiw xrm xfb xlr xdm : Int32) (p0 : Int32)  : Fn U yX6_fails wsX6_fails { frames := 0, cells := 0, slots := 0, locals := 0 } [.ref m, .int p0] [(m, .inr (6, [.int xth, .ref ys, .ref ya, .ref yt, .int xsm, .ref yn, .int xhs, .ref yx, .int xln, .int xat, .int xiw, .ref yr, .int xrm, .int xfb, .int xlr, .ref yd, .int xdm]))] (some (.int (0 : Int32))) [(m, .inr (6, [.int p0, .ref ys, .ref ya, .ref yt, .int xsm, .ref yn, .int xhs, .ref yx, .int xln, .int xat, .int xiw, .ref yr, .int xrm, .int xfb, .int xlr, .ref yd, .int xdm]))] 0 0 := by
  refine Fn_of (cc := cX6_fails) (maxL := 2) (ret := (some .int)) [some (.ref m), some (.int p0)] (by decide +kernel) rfl (jcat rfl) (Nat.le_of_ble_eq_true rfl) rfl (fun k C R hin hnL => ?_)
  have hN : ∀ i, i < 2 → i < k.2.2.2.2.2.2.2.2.2.2.2.1 := fun i h => by rw [hnL]; exact h
  refine J_aload_n C dX6_fails_0 rfl rfl ?_
  refine J_iload_n C dX6_fails_1 rfl rfl ?_
  refine J_put C tyX6 0 0 [(m, .inr (6, [.int p0, .ref ys, .ref ya, .ref yt, .int xsm, .ref yn, .int xhs, .ref yx, .int xln, .int xat, .int xiw, .ref yr, .int xrm, .int xfb, .int xlr, .ref yd, .int xdm]))] rfl rfl i_X6_fails_X6 tyX6_ok nmX6 (by decide) k_X6_fails_31 rfl rfl rfl rfl (Nat.le_of_ble_eq_true rfl) rfl dX6_fails_2 ?_
  refine J_iconst C (v := (0 : Int32)) dX6_fails_5 (by decide) ?_
  exact J_iret C R dX6_fails_6 (Nat.le_of_ble_eq_true rfl) (Nat.le_of_ble_eq_true rfl) rfl rfl
set_option maxHeartbeats 4000000 in
set_option maxRecDepth 100000 in
theorem c_X6_in (U : jU) (p0 p1 p2 : Int32)  : Fn U yX6_in wsX6_in { frames := 0, cells := 0, slots := 0, locals := 0 } [.int p0, .int p1, .int p2] [] (some (.int (b2i (inF p0 p1 p2)))) [] 0 0 := by
  refine Fn_of (cc := cX6_in) (maxL := 3) (ret := (some .boolean)) [some (.int p0), some (.int p1), some (.int p2)] (by decide +kernel) rfl (jcat rfl) (Nat.le_of_ble_eq_true rfl) rfl (fun k C R hin hnL => ?_)
  have hN : ∀ i, i < 3 → i < k.2.2.2.2.2.2.2.2.2.2.2.1 := fun i h => by rw [hnL]; exact h
  refine J_iload_n C dX6_in_0 rfl rfl ?_
  refine J_iload_n C dX6_in_1 rfl rfl ?_
  refine J_icmp_lt C 14 dX6_in_2 (by decide) (fun c_2_1 => ?_) (fun c_2_1 => ?_)
  · refine J_iconst C (v := (0 : Int32)) dX6_in_14 (by decide) ?_
    exact J_zret C R rfl dX6_in_15 (Nat.le_of_ble_eq_true rfl) (Nat.le_of_ble_eq_true rfl) (congrArg (fun z => some (Value.int z)) (b2i_f (P := inF p0 p1 p2) (by simp_all [isReg, isRec, isLet, isDig, inF]))) rfl
  · refine J_iload_n C dX6_in_5 rfl rfl ?_
    refine J_iload_n C dX6_in_6 rfl rfl ?_
    refine J_icmp_gt C 14 dX6_in_7 (by decide) (fun c_7_2 => ?_) (fun c_7_2 => ?_)
    · refine J_iconst C (v := (0 : Int32)) dX6_in_14 (by decide) ?_
      exact J_zret C R rfl dX6_in_15 (Nat.le_of_ble_eq_true rfl) (Nat.le_of_ble_eq_true rfl) (congrArg (fun z => some (Value.int z)) (b2i_f (P := inF p0 p1 p2) (by simp_all [isReg, isRec, isLet, isDig, inF]))) rfl
    · refine J_iconst C (v := (1 : Int32)) dX6_in_10 (by decide) ?_
      refine J_goto C 15 dX6_in_11 (by decide) ?_
      exact J_zret C R rfl dX6_in_15 (Nat.le_of_ble_eq_true rfl) (Nat.le_of_ble_eq_true rfl) (congrArg (fun z => some (Value.int z)) (b2i_t (P := inF p0 p1 p2) (by simp_all [isReg, isRec, isLet, isDig, inF]))) rfl
set_option maxHeartbeats 4000000 in
set_option maxRecDepth 100000 in
theorem c_X6_isRegister (U : jU) (p0 : Int32)  : Fn U yX6_isRegister wsX6_isRegister { frames := 1, cells := 0, slots := 0, locals := 22 } [.int p0] [] (some (.int (b2i (isReg p0)))) [] 0 0 := by
  refine Fn_of (cc := cX6_isRegister) (maxL := 1) (ret := (some .boolean)) [some (.int p0)] (by decide +kernel) rfl (jcat rfl) (Nat.le_of_ble_eq_true rfl) rfl (fun k C R hin hnL => ?_)
  have hN : ∀ i, i < 1 → i < k.2.2.2.2.2.2.2.2.2.2.2.1 := fun i h => by rw [hnL]; exact h
  refine J_iload_n C dX6_isRegister_0 rfl rfl ?_
  refine J_iconst C (v := (0 : Int32)) dX6_isRegister_1 (by decide) ?_
  refine J_iconst C (v := (5 : Int32)) dX6_isRegister_2 (by decide) ?_
  refine J_callS C (c_X6_in U p0 (0 : Int32) (5 : Int32) ) gX6_isRegister_X6_in (n := 3) rfl rfl rfl (by decide +kernel) ⟨Nat.le_of_ble_eq_true rfl, Nat.le_of_ble_eq_true rfl⟩ rfl (rest := []) rfl (Nat.le_of_ble_eq_true rfl) [] [] [] [] (wr := []) rfl rfl rfl rfl (by decide) rfl rfl  dX6_isRegister_3 ⟨Nat.le_of_ble_eq_true rfl, Nat.le_of_ble_eq_true rfl⟩ [.int (b2i (inF p0 (0 : Int32) (5 : Int32)))] rfl ?_
  exact J_zret C R b2i_nar dX6_isRegister_6 (Nat.le_of_ble_eq_true rfl) (Nat.le_of_ble_eq_true rfl) (by rw [← b2i_c (inReg p0)]) rfl
set_option maxHeartbeats 4000000 in
set_option maxRecDepth 100000 in
theorem c_X6_isRecoding (U : jU) (p0 : Int32)  : Fn U yX6_isRecoding wsX6_isRecoding { frames := 1, cells := 0, slots := 0, locals := 22 } [.int p0] [] (some (.int (b2i (isRec p0)))) [] 0 0 := by
  refine Fn_of (cc := cX6_isRecoding) (maxL := 1) (ret := (some .boolean)) [some (.int p0)] (by decide +kernel) rfl (jcat rfl) (Nat.le_of_ble_eq_true rfl) rfl (fun k C R hin hnL => ?_)
  have hN : ∀ i, i < 1 → i < k.2.2.2.2.2.2.2.2.2.2.2.1 := fun i h => by rw [hnL]; exact h
  refine J_iload_n C dX6_isRecoding_0 rfl rfl ?_
  refine J_iconst C (v := (0 : Int32)) dX6_isRecoding_1 (by decide) ?_
  refine J_iconst C (v := (2 : Int32)) dX6_isRecoding_2 (by decide) ?_
  refine J_callS C (c_X6_in U p0 (0 : Int32) (2 : Int32) ) gX6_isRecoding_X6_in (n := 3) rfl rfl rfl (by decide +kernel) ⟨Nat.le_of_ble_eq_true rfl, Nat.le_of_ble_eq_true rfl⟩ rfl (rest := []) rfl (Nat.le_of_ble_eq_true rfl) [] [] [] [] (wr := []) rfl rfl rfl rfl (by decide) rfl rfl  dX6_isRecoding_3 ⟨Nat.le_of_ble_eq_true rfl, Nat.le_of_ble_eq_true rfl⟩ [.int (b2i (inF p0 (0 : Int32) (2 : Int32)))] rfl ?_
  exact J_zret C R b2i_nar dX6_isRecoding_6 (Nat.le_of_ble_eq_true rfl) (Nat.le_of_ble_eq_true rfl) (by rw [← b2i_c (inRec p0)]) rfl
set_option maxHeartbeats 4000000 in
set_option maxRecDepth 100000 in
theorem c_X6_areRegisters (U : jU) (p0 p1 : Int32)  : Fn U yX6_areRegisters wsX6_areRegisters { frames := 2, cells := 0, slots := 0, locals := 42 } [.int p0, .int p1] [] (some (.int (b2i (isReg p0 ∧ isReg p1)))) [] 0 0 := by
  refine Fn_of (cc := cX6_areRegisters) (maxL := 2) (ret := (some .boolean)) [some (.int p0), some (.int p1)] (by decide +kernel) rfl (jcat rfl) (Nat.le_of_ble_eq_true rfl) rfl (fun k C R hin hnL => ?_)
  have hN : ∀ i, i < 2 → i < k.2.2.2.2.2.2.2.2.2.2.2.1 := fun i h => by rw [hnL]; exact h
  refine J_iload_n C dX6_areRegisters_0 rfl rfl ?_
  refine J_callS C (c_X6_isRegister U p0 ) gX6_areRegisters_X6_isRegister (n := 1) rfl rfl rfl (by decide +kernel) ⟨Nat.le_of_ble_eq_true rfl, Nat.le_of_ble_eq_true rfl⟩ rfl (rest := []) rfl (Nat.le_of_ble_eq_true rfl) [] [] [] [] (wr := []) rfl rfl rfl rfl (by decide) rfl rfl  dX6_areRegisters_1 ⟨Nat.le_of_ble_eq_true rfl, Nat.le_of_ble_eq_true rfl⟩ [.int (b2i (isReg p0))] rfl ?_
  refine J_if_eq_b C 18 dX6_areRegisters_4 (by decide) (fun c_4_1 => ?_) (fun c_4_1 => ?_)
  · refine J_iconst C (v := (0 : Int32)) dX6_areRegisters_18 (by decide) ?_
    exact J_zret C R rfl dX6_areRegisters_19 (Nat.le_of_ble_eq_true rfl) (Nat.le_of_ble_eq_true rfl) (congrArg (fun z => some (Value.int z)) (b2i_f (P := isReg p0 ∧ isReg p1) (fun hh => c_4_1 hh.1))) rfl
  · refine J_iload_n C dX6_areRegisters_7 rfl rfl ?_
    refine J_callS C (c_X6_isRegister U p1 ) gX6_areRegisters_X6_isRegister (n := 1) rfl rfl rfl (by decide +kernel) ⟨Nat.le_of_ble_eq_true rfl, Nat.le_of_ble_eq_true rfl⟩ rfl (rest := []) rfl (Nat.le_of_ble_eq_true rfl) [] [] [] [] (wr := []) rfl rfl rfl rfl (by decide) rfl rfl  dX6_areRegisters_8 ⟨Nat.le_of_ble_eq_true rfl, Nat.le_of_ble_eq_true rfl⟩ [.int (b2i (isReg p1))] rfl ?_
    refine J_if_eq_b C 18 dX6_areRegisters_11 (by decide) (fun c_11_2 => ?_) (fun c_11_2 => ?_)
    · refine J_iconst C (v := (0 : Int32)) dX6_areRegisters_18 (by decide) ?_
      exact J_zret C R rfl dX6_areRegisters_19 (Nat.le_of_ble_eq_true rfl) (Nat.le_of_ble_eq_true rfl) (congrArg (fun z => some (Value.int z)) (b2i_f (P := isReg p0 ∧ isReg p1) (fun hh => c_11_2 hh.2))) rfl
    · refine J_iconst C (v := (1 : Int32)) dX6_areRegisters_14 (by decide) ?_
      refine J_goto C 19 dX6_areRegisters_15 (by decide) ?_
      exact J_zret C R rfl dX6_areRegisters_19 (Nat.le_of_ble_eq_true rfl) (Nat.le_of_ble_eq_true rfl) (congrArg (fun z => some (Value.int z)) (b2i_t (P := isReg p0 ∧ isReg p1) ⟨c_4_1, c_11_2⟩)) rfl
theorem k_X6_of_7 : Cond.fieldLink RX6 7 "BoothOttersModel" "s" "[I" ∈ wsX6_of := List.mem_of_getElem? (i := 1) rfl
theorem i_X6_of_X6 : ∀ w ∈ wsX60, w ∈ wsX6_of := fun _ h => List.mem_cons_of_mem _ (List.mem_append_right _ h)
set_option maxHeartbeats 4000000 in
set_option maxRecDepth 100000 in
theorem c_X6_of_lit (U : jU) (m ys ya yt yn yx yr yd : Nat) (xth xsm xhs xln xat xiw xrm xfb xlr xdm : Int32) (gs : Nat → Int32) (j : Nat) (hj : j < 6) : Fn U yX6_of wsX6_of { frames := 0, cells := 0, slots := 0, locals := 0 } [.ref m, .int (nI j)] [(m, .inr (6, [.int xth, .ref ys, .ref ya, .ref yt, .int xsm, .ref yn, .int xhs, .ref yx, .int xln, .int xat, .int xiw, .ref yr, .int xrm, .int xfb, .int xlr, .ref yd, .int xdm])), (ys, .inl (U.2.2.1 0, 16, .inl gs))] (some (.int (gs (1 + j)))) [(m, .inr (6, [.int xth, .ref ys, .ref ya, .ref yt, .int xsm, .ref yn, .int xhs, .ref yx, .int xln, .int xat, .int xiw, .ref yr, .int xrm, .int xfb, .int xlr, .ref yd, .int xdm])), (ys, .inl (U.2.2.1 0, 16, .inl gs))] 0 0 := by
  refine Fn_of (cc := cX6_of) (maxL := 2) (ret := (some .int)) [some (.ref m), some (.int (nI j))] (by decide +kernel) rfl (jcat rfl) (Nat.le_of_ble_eq_true rfl) rfl (fun k C R hin hnL => ?_)
  have hN : ∀ i, i < 2 → i < k.2.2.2.2.2.2.2.2.2.2.2.1 := fun i h => by rw [hnL]; exact h
  refine J_aload_n C dX6_of_0 rfl rfl ?_
  refine J_get C 0 1 rfl rfl i_X6_of_X6 (by decide) k_X6_of_7 rfl rfl dX6_of_1 ?_
  refine J_iconst C (v := (1 : Int32)) dX6_of_4 (by decide) ?_
  refine J_iload_n C dX6_of_5 rfl rfl ?_
  refine J_iadd C (v := nI (1 + j)) dX6_of_6 (nI_add 1 j) ?_
  refine J_iald C 1 rfl (vp_in_nI (n := 1 + j) (by omega) (by decide)) (congrArg gs (nI_clamp (n := 1 + j) (by omega))) dX6_of_7 ?_
  exact J_iret C R dX6_of_8 (Nat.le_of_ble_eq_true rfl) (Nat.le_of_ble_eq_true rfl) rfl rfl
set_option maxHeartbeats 4000000 in
set_option maxRecDepth 100000 in
theorem c_X6_of (U : jU) (m ys ya yt yn yx yr yd : Nat) (xth xsm xhs xln xat xiw xrm xfb xlr xdm : Int32) (gs : Nat → Int32) (p0 : Int32) (hr : isReg p0) : Fn U yX6_of wsX6_of { frames := 0, cells := 0, slots := 0, locals := 0 } [.ref m, .int p0] [(m, .inr (6, [.int xth, .ref ys, .ref ya, .ref yt, .int xsm, .ref yn, .int xhs, .ref yx, .int xln, .int xat, .int xiw, .ref yr, .int xrm, .int xfb, .int xlr, .ref yd, .int xdm])), (ys, .inl (U.2.2.1 0, 16, .inl gs))] (some (.int (gs (1 + p0.toNatClampNeg)))) [(m, .inr (6, [.int xth, .ref ys, .ref ya, .ref yt, .int xsm, .ref yn, .int xhs, .ref yx, .int xln, .int xat, .int xiw, .ref yr, .int xrm, .int xfb, .int xlr, .ref yd, .int xdm])), (ys, .inl (U.2.2.1 0, 16, .inl gs))] 0 0 := by
  refine Fn_of (cc := cX6_of) (maxL := 2) (ret := (some .int)) [some (.ref m), some (.int p0)] (by decide +kernel) rfl (jcat rfl) (Nat.le_of_ble_eq_true rfl) rfl (fun k C R hin hnL => ?_)
  have hN : ∀ i, i < 2 → i < k.2.2.2.2.2.2.2.2.2.2.2.1 := fun i h => by rw [hnL]; exact h
  refine J_aload_n C dX6_of_0 rfl rfl ?_
  refine J_get C 0 1 rfl rfl i_X6_of_X6 (by decide) k_X6_of_7 rfl rfl dX6_of_1 ?_
  refine J_iconst C (v := (1 : Int32)) dX6_of_4 (by decide) ?_
  refine J_iload_n C dX6_of_5 rfl rfl ?_
  refine J_iadd C (v := (1 : Int32) + p0) dX6_of_6 rfl ?_
  refine J_iald C 1 rfl (i1in hr) (congrArg gs (i1r hr)) dX6_of_7 ?_
  exact J_iret C R dX6_of_8 (Nat.le_of_ble_eq_true rfl) (Nat.le_of_ble_eq_true rfl) rfl rfl
theorem k_X6_isValue_7 : Cond.fieldLink RX6 7 "BoothOttersModel" "s" "[I" ∈ wsX6_isValue := List.mem_of_getElem? (i := 1) rfl
theorem i_X6_isValue_X6 : ∀ w ∈ wsX60, w ∈ wsX6_isValue := fun _ h => List.mem_cons_of_mem _ (List.mem_append_right _ h)
set_option maxHeartbeats 4000000 in
set_option maxRecDepth 100000 in
theorem c_X6_isValue (U : jU) (m ys ya yt yn yx yr yd : Nat) (xth xsm xhs xln xat xiw xrm xfb xlr xdm : Int32) (gs : Nat → Int32) (p0 : Int32)  : Fn U yX6_isValue wsX6_isValue { frames := 1, cells := 0, slots := 0, locals := 22 } [.ref m, .int p0] [(m, .inr (6, [.int xth, .ref ys, .ref ya, .ref yt, .int xsm, .ref yn, .int xhs, .ref yx, .int xln, .int xat, .int xiw, .ref yr, .int xrm, .int xfb, .int xlr, .ref yd, .int xdm])), (ys, .inl (U.2.2.1 0, 16, .inl gs))] (some (.int (b2i (isVal (gs 0) p0)))) [(m, .inr (6, [.int xth, .ref ys, .ref ya, .ref yt, .int xsm, .ref yn, .int xhs, .ref yx, .int xln, .int xat, .int xiw, .ref yr, .int xrm, .int xfb, .int xlr, .ref yd, .int xdm])), (ys, .inl (U.2.2.1 0, 16, .inl gs))] 0 0 := by
  refine Fn_of (cc := cX6_isValue) (maxL := 2) (ret := (some .boolean)) [some (.ref m), some (.int p0)] (by decide +kernel) rfl (jcat rfl) (Nat.le_of_ble_eq_true rfl) rfl (fun k C R hin hnL => ?_)
  have hN : ∀ i, i < 2 → i < k.2.2.2.2.2.2.2.2.2.2.2.1 := fun i h => by rw [hnL]; exact h
  refine J_iload_n C dX6_isValue_0 rfl rfl ?_
  refine J_iconst C (v := (1 : Int32)) dX6_isValue_1 (by decide) ?_
  refine J_aload_n C dX6_isValue_2 rfl rfl ?_
  refine J_get C 0 1 rfl rfl i_X6_isValue_X6 (by decide) k_X6_isValue_7 rfl rfl dX6_isValue_3 ?_
  refine J_iconst C (v := (0 : Int32)) dX6_isValue_6 (by decide) ?_
  refine J_iald C 1 rfl (vpl n_0 (by decide) (by decide)) (congrArg gs n_0) dX6_isValue_7 ?_
  refine J_iconst C (v := (1 : Int32)) dX6_isValue_8 (by decide) ?_
  refine J_isub C (v := (gs 0) - (1 : Int32)) dX6_isValue_9 rfl ?_
  refine J_ishl C (v := (1 : Int32) <<< (((gs 0) - (1 : Int32)) &&& 31)) dX6_isValue_10 rfl ?_
  refine J_ineg C dX6_isValue_11 rfl ?_
  refine J_iconst C (v := (1 : Int32)) dX6_isValue_12 (by decide) ?_
  refine J_aload_n C dX6_isValue_13 rfl rfl ?_
  refine J_get C 0 1 rfl rfl i_X6_isValue_X6 (by decide) k_X6_isValue_7 rfl rfl dX6_isValue_14 ?_
  refine J_iconst C (v := (0 : Int32)) dX6_isValue_17 (by decide) ?_
  refine J_iald C 1 rfl (vpl n_0 (by decide) (by decide)) (congrArg gs n_0) dX6_isValue_18 ?_
  refine J_iconst C (v := (1 : Int32)) dX6_isValue_19 (by decide) ?_
  refine J_isub C (v := (gs 0) - (1 : Int32)) dX6_isValue_20 rfl ?_
  refine J_ishl C (v := (1 : Int32) <<< (((gs 0) - (1 : Int32)) &&& 31)) dX6_isValue_21 rfl ?_
  refine J_iconst C (v := (1 : Int32)) dX6_isValue_22 (by decide) ?_
  refine J_isub C (v := ((1 : Int32) <<< (((gs 0) - (1 : Int32)) &&& 31)) - (1 : Int32)) dX6_isValue_23 rfl ?_
  refine J_callS C (c_X6_in U p0 (-((1 : Int32) <<< (((gs 0) - (1 : Int32)) &&& 31))) (((1 : Int32) <<< (((gs 0) - (1 : Int32)) &&& 31)) - (1 : Int32)) ) gX6_isValue_X6_in (n := 3) rfl rfl rfl (by decide +kernel) ⟨Nat.le_of_ble_eq_true rfl, Nat.le_of_ble_eq_true rfl⟩ rfl (rest := []) rfl (Nat.le_of_ble_eq_true rfl) [(m, .inr (6, [.int xth, .ref ys, .ref ya, .ref yt, .int xsm, .ref yn, .int xhs, .ref yx, .int xln, .int xat, .int xiw, .ref yr, .int xrm, .int xfb, .int xlr, .ref yd, .int xdm])), (ys, .inl (U.2.2.1 0, 16, .inl gs))] [] [0, 1] [0, 1] (wr := [(m, .inr (6, [.int xth, .ref ys, .ref ya, .ref yt, .int xsm, .ref yn, .int xhs, .ref yx, .int xln, .int xat, .int xiw, .ref yr, .int xrm, .int xfb, .int xlr, .ref yd, .int xdm])), (ys, .inl (U.2.2.1 0, 16, .inl gs))]) rfl rfl rfl rfl (by decide) rfl rfl  dX6_isValue_24 ⟨Nat.le_of_ble_eq_true rfl, Nat.le_of_ble_eq_true rfl⟩ [.int (b2i (inF p0 (-((1 : Int32) <<< (((gs 0) - (1 : Int32)) &&& 31))) (((1 : Int32) <<< (((gs 0) - (1 : Int32)) &&& 31)) - (1 : Int32))))] rfl ?_
  exact J_zret C R b2i_nar dX6_isValue_27 (Nat.le_of_ble_eq_true rfl) (Nat.le_of_ble_eq_true rfl) rfl rfl
theorem k_X6_wrapped_7 : Cond.fieldLink RX6 7 "BoothOttersModel" "s" "[I" ∈ wsX6_wrapped := List.mem_of_getElem? (i := 1) rfl
theorem i_X6_wrapped_X6 : ∀ w ∈ wsX60, w ∈ wsX6_wrapped := fun _ h => List.mem_cons_of_mem _ (List.mem_append_right _ h)
set_option maxHeartbeats 4000000 in
set_option maxRecDepth 100000 in
theorem c_X6_wrapped (U : jU) (m ys ya yt yn yx yr yd : Nat) (xth xsm xhs xln xat xiw xrm xfb xlr xdm : Int32) (gs : Nat → Int32) (p0 : Int32)  : Fn U yX6_wrapped wsX6_wrapped { frames := 0, cells := 0, slots := 0, locals := 0 } [.ref m, .int p0] [(m, .inr (6, [.int xth, .ref ys, .ref ya, .ref yt, .int xsm, .ref yn, .int xhs, .ref yx, .int xln, .int xat, .int xiw, .ref yr, .int xrm, .int xfb, .int xlr, .ref yd, .int xdm])), (ys, .inl (U.2.2.1 0, 16, .inl gs))] (some (.int (mwF (gs 0) p0))) [(m, .inr (6, [.int xth, .ref ys, .ref ya, .ref yt, .int xsm, .ref yn, .int xhs, .ref yx, .int xln, .int xat, .int xiw, .ref yr, .int xrm, .int xfb, .int xlr, .ref yd, .int xdm])), (ys, .inl (U.2.2.1 0, 16, .inl gs))] 0 0 := by
  refine Fn_of (cc := cX6_wrapped) (maxL := 3) (ret := (some .int)) [some (.ref m), some (.int p0), none] (by decide +kernel) rfl (jcat rfl) (Nat.le_of_ble_eq_true rfl) rfl (fun k C R hin hnL => ?_)
  have hN : ∀ i, i < 3 → i < k.2.2.2.2.2.2.2.2.2.2.2.1 := fun i h => by rw [hnL]; exact h
  refine J_iload_n C dX6_wrapped_0 rfl rfl ?_
  refine J_iconst C (v := (1 : Int32)) dX6_wrapped_1 (by decide) ?_
  refine J_aload_n C dX6_wrapped_2 rfl rfl ?_
  refine J_get C 0 1 rfl rfl i_X6_wrapped_X6 (by decide) k_X6_wrapped_7 rfl rfl dX6_wrapped_3 ?_
  refine J_iconst C (v := (0 : Int32)) dX6_wrapped_6 (by decide) ?_
  refine J_iald C 1 rfl (vpl n_0 (by decide) (by decide)) (congrArg gs n_0) dX6_wrapped_7 ?_
  refine J_ishl C (v := (1 : Int32) <<< ((gs 0) &&& 31)) dX6_wrapped_8 rfl ?_
  refine J_iconst C (v := (1 : Int32)) dX6_wrapped_9 (by decide) ?_
  refine J_isub C (v := ((1 : Int32) <<< ((gs 0) &&& 31)) - (1 : Int32)) dX6_wrapped_10 rfl ?_
  refine J_iand C (v := p0 &&& (((1 : Int32) <<< ((gs 0) &&& 31)) - (1 : Int32))) dX6_wrapped_11 rfl ?_
  refine J_istore_n C [some (.ref m), some (.int p0), some (.int (p0 &&& (((1 : Int32) <<< ((gs 0) &&& 31)) - (1 : Int32))))] dX6_wrapped_12 rfl (hN 2 (by decide)) rfl ?_
  refine J_iload_n C dX6_wrapped_13 rfl rfl ?_
  refine J_iconst C (v := (1 : Int32)) dX6_wrapped_14 (by decide) ?_
  refine J_aload_n C dX6_wrapped_15 rfl rfl ?_
  refine J_get C 0 1 rfl rfl i_X6_wrapped_X6 (by decide) k_X6_wrapped_7 rfl rfl dX6_wrapped_16 ?_
  refine J_iconst C (v := (0 : Int32)) dX6_wrapped_19 (by decide) ?_
  refine J_iald C 1 rfl (vpl n_0 (by decide) (by decide)) (congrArg gs n_0) dX6_wrapped_20 ?_
  refine J_iconst C (v := (1 : Int32)) dX6_wrapped_21 (by decide) ?_
  refine J_isub C (v := (gs 0) - (1 : Int32)) dX6_wrapped_22 rfl ?_
  refine J_ishl C (v := (1 : Int32) <<< (((gs 0) - (1 : Int32)) &&& 31)) dX6_wrapped_23 rfl ?_
  refine J_icmp_lt C 40 dX6_wrapped_24 (by decide) (fun c_24_1 => ?_) (fun c_24_1 => ?_)
  · refine J_iload_n C dX6_wrapped_40 rfl rfl ?_
    exact J_iret C R dX6_wrapped_41 (Nat.le_of_ble_eq_true rfl) (Nat.le_of_ble_eq_true rfl) (by simp [mwF, bitsF, c_24_1]) rfl
  · refine J_iload_n C dX6_wrapped_27 rfl rfl ?_
    refine J_iconst C (v := (1 : Int32)) dX6_wrapped_28 (by decide) ?_
    refine J_aload_n C dX6_wrapped_29 rfl rfl ?_
    refine J_get C 0 1 rfl rfl i_X6_wrapped_X6 (by decide) k_X6_wrapped_7 rfl rfl dX6_wrapped_30 ?_
    refine J_iconst C (v := (0 : Int32)) dX6_wrapped_33 (by decide) ?_
    refine J_iald C 1 rfl (vpl n_0 (by decide) (by decide)) (congrArg gs n_0) dX6_wrapped_34 ?_
    refine J_ishl C (v := (1 : Int32) <<< ((gs 0) &&& 31)) dX6_wrapped_35 rfl ?_
    refine J_isub C (v := (p0 &&& (((1 : Int32) <<< ((gs 0) &&& 31)) - (1 : Int32))) - ((1 : Int32) <<< ((gs 0) &&& 31))) dX6_wrapped_36 rfl ?_
    refine J_goto C 41 dX6_wrapped_37 (by decide) ?_
    exact J_iret C R dX6_wrapped_41 (Nat.le_of_ble_eq_true rfl) (Nat.le_of_ble_eq_true rfl) (by simp [mwF, bitsF, c_24_1]) rfl
theorem k_X6_bitsOf_7 : Cond.fieldLink RX6 7 "BoothOttersModel" "s" "[I" ∈ wsX6_bitsOf := List.mem_of_getElem? (i := 1) rfl
theorem i_X6_bitsOf_X6 : ∀ w ∈ wsX60, w ∈ wsX6_bitsOf := fun _ h => List.mem_cons_of_mem _ (List.mem_append_right _ h)
set_option maxHeartbeats 4000000 in
set_option maxRecDepth 100000 in
theorem c_X6_bitsOf (U : jU) (m ys ya yt yn yx yr yd : Nat) (xth xsm xhs xln xat xiw xrm xfb xlr xdm : Int32) (gs : Nat → Int32) (p0 : Int32)  : Fn U yX6_bitsOf wsX6_bitsOf { frames := 0, cells := 0, slots := 0, locals := 0 } [.ref m, .int p0] [(m, .inr (6, [.int xth, .ref ys, .ref ya, .ref yt, .int xsm, .ref yn, .int xhs, .ref yx, .int xln, .int xat, .int xiw, .ref yr, .int xrm, .int xfb, .int xlr, .ref yd, .int xdm])), (ys, .inl (U.2.2.1 0, 16, .inl gs))] (some (.int (bitsF (gs 0) p0))) [(m, .inr (6, [.int xth, .ref ys, .ref ya, .ref yt, .int xsm, .ref yn, .int xhs, .ref yx, .int xln, .int xat, .int xiw, .ref yr, .int xrm, .int xfb, .int xlr, .ref yd, .int xdm])), (ys, .inl (U.2.2.1 0, 16, .inl gs))] 0 0 := by
  refine Fn_of (cc := cX6_bitsOf) (maxL := 2) (ret := (some .int)) [some (.ref m), some (.int p0)] (by decide +kernel) rfl (jcat rfl) (Nat.le_of_ble_eq_true rfl) rfl (fun k C R hin hnL => ?_)
  have hN : ∀ i, i < 2 → i < k.2.2.2.2.2.2.2.2.2.2.2.1 := fun i h => by rw [hnL]; exact h
  refine J_iload_n C dX6_bitsOf_0 rfl rfl ?_
  refine J_iconst C (v := (1 : Int32)) dX6_bitsOf_1 (by decide) ?_
  refine J_aload_n C dX6_bitsOf_2 rfl rfl ?_
  refine J_get C 0 1 rfl rfl i_X6_bitsOf_X6 (by decide) k_X6_bitsOf_7 rfl rfl dX6_bitsOf_3 ?_
  refine J_iconst C (v := (0 : Int32)) dX6_bitsOf_6 (by decide) ?_
  refine J_iald C 1 rfl (vpl n_0 (by decide) (by decide)) (congrArg gs n_0) dX6_bitsOf_7 ?_
  refine J_ishl C (v := (1 : Int32) <<< ((gs 0) &&& 31)) dX6_bitsOf_8 rfl ?_
  refine J_iconst C (v := (1 : Int32)) dX6_bitsOf_9 (by decide) ?_
  refine J_isub C (v := ((1 : Int32) <<< ((gs 0) &&& 31)) - (1 : Int32)) dX6_bitsOf_10 rfl ?_
  refine J_iand C (v := p0 &&& (((1 : Int32) <<< ((gs 0) &&& 31)) - (1 : Int32))) dX6_bitsOf_11 rfl ?_
  exact J_iret C R dX6_bitsOf_12 (Nat.le_of_ble_eq_true rfl) (Nat.le_of_ble_eq_true rfl) rfl rfl
set_option maxHeartbeats 4000000 in
set_option maxRecDepth 100000 in
theorem c_X6_bit (U : jU) (p0 p1 : Int32)  : Fn U yX6_bit wsX6_bit { frames := 0, cells := 0, slots := 0, locals := 0 } [.int p0, .int p1] [] (some (.int (mbF p0 p1))) [] 0 0 := by
  refine Fn_of (cc := cX6_bit) (maxL := 2) (ret := (some .int)) [some (.int p0), some (.int p1)] (by decide +kernel) rfl (jcat rfl) (Nat.le_of_ble_eq_true rfl) rfl (fun k C R hin hnL => ?_)
  have hN : ∀ i, i < 2 → i < k.2.2.2.2.2.2.2.2.2.2.2.1 := fun i h => by rw [hnL]; exact h
  refine J_iload_n C dX6_bit_0 rfl rfl ?_
  refine J_if_ge C 8 dX6_bit_1 (by decide) (fun c_1_1 => ?_) (fun c_1_1 => ?_)
  · refine J_iload_n C dX6_bit_8 rfl rfl ?_
    refine J_iload_n C dX6_bit_9 rfl rfl ?_
    refine J_ishr C (v := p0 >>> (p1 &&& 31)) dX6_bit_10 rfl ?_
    refine J_iconst C (v := (1 : Int32)) dX6_bit_11 (by decide) ?_
    refine J_iand C (v := (p0 >>> (p1 &&& 31)) &&& (1 : Int32)) dX6_bit_12 rfl ?_
    exact J_iret C R dX6_bit_13 (Nat.le_of_ble_eq_true rfl) (Nat.le_of_ble_eq_true rfl) (by simp [mbF, bitF, c_1_1]) rfl
  · refine J_iconst C (v := (0 : Int32)) dX6_bit_4 (by decide) ?_
    refine J_goto C 13 dX6_bit_5 (by decide) ?_
    exact J_iret C R dX6_bit_13 (Nat.le_of_ble_eq_true rfl) (Nat.le_of_ble_eq_true rfl) (by simp [mbF, bitF, c_1_1]) rfl
theorem k_X6_isOdd_7 : Cond.fieldLink RX6 7 "BoothOttersModel" "s" "[I" ∈ wsX6_isOdd := List.mem_of_getElem? (i := 1) rfl
theorem i_X6_isOdd_X6 : ∀ w ∈ wsX60, w ∈ wsX6_isOdd := fun _ h => List.mem_cons_of_mem _ (List.mem_append_right _ h)
set_option maxHeartbeats 4000000 in
set_option maxRecDepth 100000 in
theorem c_X6_isOdd (U : jU) (m ys ya yt yn yx yr yd : Nat) (xth xsm xhs xln xat xiw xrm xfb xlr xdm : Int32) (gs : Nat → Int32) (p0 : Int32)  : Fn U yX6_isOdd wsX6_isOdd { frames := 0, cells := 0, slots := 0, locals := 0 } [.ref m, .int p0] [(m, .inr (6, [.int xth, .ref ys, .ref ya, .ref yt, .int xsm, .ref yn, .int xhs, .ref yx, .int xln, .int xat, .int xiw, .ref yr, .int xrm, .int xfb, .int xlr, .ref yd, .int xdm])), (ys, .inl (U.2.2.1 0, 16, .inl gs))] (some (.int (b2i (p0 = 1 ∧ rem2 (gs 0) = 1)))) [(m, .inr (6, [.int xth, .ref ys, .ref ya, .ref yt, .int xsm, .ref yn, .int xhs, .ref yx, .int xln, .int xat, .int xiw, .ref yr, .int xrm, .int xfb, .int xlr, .ref yd, .int xdm])), (ys, .inl (U.2.2.1 0, 16, .inl gs))] 0 0 := by
  refine Fn_of (cc := cX6_isOdd) (maxL := 2) (ret := (some .boolean)) [some (.ref m), some (.int p0)] (by decide +kernel) rfl (jcat rfl) (Nat.le_of_ble_eq_true rfl) rfl (fun k C R hin hnL => ?_)
  have hN : ∀ i, i < 2 → i < k.2.2.2.2.2.2.2.2.2.2.2.1 := fun i h => by rw [hnL]; exact h
  refine J_iload_n C dX6_isOdd_0 rfl rfl ?_
  refine J_iconst C (v := (1 : Int32)) dX6_isOdd_1 (by decide) ?_
  refine J_icmp_ne C 21 dX6_isOdd_2 (by decide) (fun c_2_1 => ?_) (fun c_2_1 => ?_)
  · refine J_iconst C (v := (0 : Int32)) dX6_isOdd_21 (by decide) ?_
    exact J_zret C R rfl dX6_isOdd_22 (Nat.le_of_ble_eq_true rfl) (Nat.le_of_ble_eq_true rfl) (congrArg (fun z => some (Value.int z)) (b2i_f (P := p0 = 1 ∧ rem2 (gs 0) = 1) (by simp_all [isReg, isRec, isLet, isDig]))) rfl
  · refine J_aload_n C dX6_isOdd_5 rfl rfl ?_
    refine J_get C 0 1 rfl rfl i_X6_isOdd_X6 (by decide) k_X6_isOdd_7 rfl rfl dX6_isOdd_6 ?_
    refine J_iconst C (v := (0 : Int32)) dX6_isOdd_9 (by decide) ?_
    refine J_iald C 1 rfl (vpl n_0 (by decide) (by decide)) (congrArg gs n_0) dX6_isOdd_10 ?_
    refine J_iconst C (v := (2 : Int32)) dX6_isOdd_11 (by decide) ?_
    refine J_irem C (v := rem2 (gs 0)) dX6_isOdd_12 (by decide) rfl ?_
    refine J_iconst C (v := (1 : Int32)) dX6_isOdd_13 (by decide) ?_
    refine J_icmp_ne C 21 dX6_isOdd_14 (by decide) (fun c_14_2 => ?_) (fun c_14_2 => ?_)
    · refine J_iconst C (v := (0 : Int32)) dX6_isOdd_21 (by decide) ?_
      exact J_zret C R rfl dX6_isOdd_22 (Nat.le_of_ble_eq_true rfl) (Nat.le_of_ble_eq_true rfl) (congrArg (fun z => some (Value.int z)) (b2i_f (P := p0 = 1 ∧ rem2 (gs 0) = 1) (by simp_all [isReg, isRec, isLet, isDig]))) rfl
    · refine J_iconst C (v := (1 : Int32)) dX6_isOdd_17 (by decide) ?_
      refine J_goto C 22 dX6_isOdd_18 (by decide) ?_
      exact J_zret C R rfl dX6_isOdd_22 (Nat.le_of_ble_eq_true rfl) (Nat.le_of_ble_eq_true rfl) (congrArg (fun z => some (Value.int z)) (b2i_t (P := p0 = 1 ∧ rem2 (gs 0) = 1) (by simp_all [isReg, isRec, isLet, isDig]))) rfl
theorem k_X6_stepMany_7 : Cond.fieldLink RX6 7 "BoothOttersModel" "s" "[I" ∈ wsX6_stepMany := List.mem_of_getElem? (i := 1) rfl
theorem i_X6_stepMany_X6 : ∀ w ∈ wsX60, w ∈ wsX6_stepMany := fun _ h => List.mem_cons_of_mem _ (List.mem_append_right _ h)
set_option maxHeartbeats 4000000 in
set_option maxRecDepth 100000 in
theorem c_X6_stepMany (U : jU) (m ys ya yt yn yx yr yd : Nat) (xth xsm xhs xln xat xiw xrm xfb xlr xdm : Int32) (gs : Nat → Int32) (p0 : Int32)  : Fn U yX6_stepMany wsX6_stepMany { frames := 0, cells := 0, slots := 0, locals := 0 } [.ref m, .int p0] [(m, .inr (6, [.int xth, .ref ys, .ref ya, .ref yt, .int xsm, .ref yn, .int xhs, .ref yx, .int xln, .int xat, .int xiw, .ref yr, .int xrm, .int xfb, .int xlr, .ref yd, .int xdm])), (ys, .inl (U.2.2.1 0, 16, .inl gs))] (some (.int (smF p0 (gs 0)))) [(m, .inr (6, [.int xth, .ref ys, .ref ya, .ref yt, .int xsm, .ref yn, .int xhs, .ref yx, .int xln, .int xat, .int xiw, .ref yr, .int xrm, .int xfb, .int xlr, .ref yd, .int xdm])), (ys, .inl (U.2.2.1 0, 16, .inl gs))] 0 0 := by
  refine Fn_of (cc := cX6_stepMany) (maxL := 2) (ret := (some .int)) [some (.ref m), some (.int p0)] (by decide +kernel) rfl (jcat rfl) (Nat.le_of_ble_eq_true rfl) rfl (fun k C R hin hnL => ?_)
  have hN : ∀ i, i < 2 → i < k.2.2.2.2.2.2.2.2.2.2.2.1 := fun i h => by rw [hnL]; exact h
  refine J_iload_n C dX6_stepMany_0 rfl rfl ?_
  refine J_if_ne C 13 dX6_stepMany_1 (by decide) (fun c_1_1 => ?_) (fun c_1_1 => ?_)
  · refine J_aload_n C dX6_stepMany_13 rfl rfl ?_
    refine J_get C 0 1 rfl rfl i_X6_stepMany_X6 (by decide) k_X6_stepMany_7 rfl rfl dX6_stepMany_14 ?_
    refine J_iconst C (v := (0 : Int32)) dX6_stepMany_17 (by decide) ?_
    refine J_iald C 1 rfl (vpl n_0 (by decide) (by decide)) (congrArg gs n_0) dX6_stepMany_18 ?_
    refine J_iconst C (v := (2 : Int32)) dX6_stepMany_19 (by decide) ?_
    refine J_idiv C (v := (gs 0) / (2 : Int32)) dX6_stepMany_20 (by decide) rfl ?_
    exact J_iret C R dX6_stepMany_21 (Nat.le_of_ble_eq_true rfl) (Nat.le_of_ble_eq_true rfl) (by simp [smF, c_1_1]) rfl
  · refine J_aload_n C dX6_stepMany_4 rfl rfl ?_
    refine J_get C 0 1 rfl rfl i_X6_stepMany_X6 (by decide) k_X6_stepMany_7 rfl rfl dX6_stepMany_5 ?_
    refine J_iconst C (v := (0 : Int32)) dX6_stepMany_8 (by decide) ?_
    refine J_iald C 1 rfl (vpl n_0 (by decide) (by decide)) (congrArg gs n_0) dX6_stepMany_9 ?_
    refine J_goto C 21 dX6_stepMany_10 (by decide) ?_
    exact J_iret C R dX6_stepMany_21 (Nat.le_of_ble_eq_true rfl) (Nat.le_of_ble_eq_true rfl) (by simp [smF, c_1_1]) rfl
theorem k_X6_product_7 : Cond.fieldLink RX6 7 "BoothOttersModel" "s" "[I" ∈ wsX6_product := List.mem_of_getElem? (i := 1) rfl
theorem i_X6_product_X6 : ∀ w ∈ wsX60, w ∈ wsX6_product := fun _ h => List.mem_cons_of_mem _ (List.mem_append_right _ h)
set_option maxHeartbeats 4000000 in
set_option maxRecDepth 100000 in
theorem c_X6_product (U : jU) (m ys ya yt yn yx yr yd : Nat) (xth xsm xhs xln xat xiw xrm xfb xlr xdm : Int32) (gs : Nat → Int32)  : Fn U yX6_product wsX6_product { frames := 0, cells := 0, slots := 0, locals := 0 } [.ref m] [(m, .inr (6, [.int xth, .ref ys, .ref ya, .ref yt, .int xsm, .ref yn, .int xhs, .ref yx, .int xln, .int xat, .int xiw, .ref yr, .int xrm, .int xfb, .int xlr, .ref yd, .int xdm])), (ys, .inl (U.2.2.1 0, 16, .inl gs))] (some (.int (gs 9 <<< (gs 0 &&& 31) + gs 10))) [(m, .inr (6, [.int xth, .ref ys, .ref ya, .ref yt, .int xsm, .ref yn, .int xhs, .ref yx, .int xln, .int xat, .int xiw, .ref yr, .int xrm, .int xfb, .int xlr, .ref yd, .int xdm])), (ys, .inl (U.2.2.1 0, 16, .inl gs))] 0 0 := by
  refine Fn_of (cc := cX6_product) (maxL := 1) (ret := (some .int)) [some (.ref m)] (by decide +kernel) rfl (jcat rfl) (Nat.le_of_ble_eq_true rfl) rfl (fun k C R hin hnL => ?_)
  have hN : ∀ i, i < 1 → i < k.2.2.2.2.2.2.2.2.2.2.2.1 := fun i h => by rw [hnL]; exact h
  refine J_aload_n C dX6_product_0 rfl rfl ?_
  refine J_get C 0 1 rfl rfl i_X6_product_X6 (by decide) k_X6_product_7 rfl rfl dX6_product_1 ?_
  refine J_bipush C (v := (9 : Int32)) dX6_product_4 (by decide) ?_
  refine J_iald C 1 rfl (vpl n_9 (by decide) (by decide)) (congrArg gs n_9) dX6_product_6 ?_
  refine J_aload_n C dX6_product_7 rfl rfl ?_
  refine J_get C 0 1 rfl rfl i_X6_product_X6 (by decide) k_X6_product_7 rfl rfl dX6_product_8 ?_
  refine J_iconst C (v := (0 : Int32)) dX6_product_11 (by decide) ?_
  refine J_iald C 1 rfl (vpl n_0 (by decide) (by decide)) (congrArg gs n_0) dX6_product_12 ?_
  refine J_ishl C (v := (gs 9) <<< ((gs 0) &&& 31)) dX6_product_13 rfl ?_
  refine J_aload_n C dX6_product_14 rfl rfl ?_
  refine J_get C 0 1 rfl rfl i_X6_product_X6 (by decide) k_X6_product_7 rfl rfl dX6_product_15 ?_
  refine J_bipush C (v := (10 : Int32)) dX6_product_18 (by decide) ?_
  refine J_iald C 1 rfl (vpl n_10 (by decide) (by decide)) (congrArg gs n_10) dX6_product_20 ?_
  refine J_iadd C (v := ((gs 9) <<< ((gs 0) &&& 31)) + (gs 10)) dX6_product_21 rfl ?_
  exact J_iret C R dX6_product_22 (Nat.le_of_ble_eq_true rfl) (Nat.le_of_ble_eq_true rfl) rfl rfl
theorem k_X6_stepsOnce_7 : Cond.fieldLink RX6 7 "BoothOttersModel" "s" "[I" ∈ wsX6_stepsOnce := List.mem_of_getElem? (i := 1) rfl
theorem i_X6_stepsOnce_X6 : ∀ w ∈ wsX60, w ∈ wsX6_stepsOnce := fun _ h => List.mem_cons_of_mem _ (List.mem_append_right _ h)
set_option maxHeartbeats 4000000 in
set_option maxRecDepth 100000 in
theorem c_X6_stepsOnce (U : jU) (m ys ya yt yn yx yr yd : Nat) (xth xsm xhs xln xat xiw xrm xfb xlr xdm : Int32) (gs : Nat → Int32)  : Fn U yX6_stepsOnce wsX6_stepsOnce { frames := 0, cells := 0, slots := 0, locals := 0 } [.ref m] [(m, .inr (6, [.int xth, .ref ys, .ref ya, .ref yt, .int xsm, .ref yn, .int xhs, .ref yx, .int xln, .int xat, .int xiw, .ref yr, .int xrm, .int xfb, .int xlr, .ref yd, .int xdm])), (ys, .inl (U.2.2.1 0, 16, .inl gs))] (some (.int (mdg gs))) [(m, .inr (6, [.int xth, .ref ys, .ref ya, .ref yt, .int xsm, .ref yn, .int xhs, .ref yx, .int xln, .int xat, .int xiw, .ref yr, .int xrm, .int xfb, .int xlr, .ref yd, .int xdm])), (ys, .inl (U.2.2.1 0, 16, .inl (soF gs)))] 0 0 := by
  refine Fn_of (cc := cX6_stepsOnce) (maxL := 5) (ret := (some .int)) [some (.ref m), none, none, none, none] (by decide +kernel) rfl (jcat rfl) (Nat.le_of_ble_eq_true rfl) rfl (fun k C R hin hnL => ?_)
  have hN : ∀ i, i < 5 → i < k.2.2.2.2.2.2.2.2.2.2.2.1 := fun i h => by rw [hnL]; exact h
  refine J_aload_n C dX6_stepsOnce_0 rfl rfl ?_
  refine J_get C 0 1 rfl rfl i_X6_stepsOnce_X6 (by decide) k_X6_stepsOnce_7 rfl rfl dX6_stepsOnce_1 ?_
  refine J_bipush C (v := (10 : Int32)) dX6_stepsOnce_4 (by decide) ?_
  refine J_iald C 1 rfl (vpl n_10 (by decide) (by decide)) (congrArg gs n_10) dX6_stepsOnce_6 ?_
  refine J_istore_n C [some (.ref m), some (.int (gs 10)), none, none, none] dX6_stepsOnce_7 rfl (hN 1 (by decide)) rfl ?_
  refine J_aload_n C dX6_stepsOnce_8 rfl rfl ?_
  refine J_get C 0 1 rfl rfl i_X6_stepsOnce_X6 (by decide) k_X6_stepsOnce_7 rfl rfl dX6_stepsOnce_9 ?_
  refine J_bipush C (v := (8 : Int32)) dX6_stepsOnce_12 (by decide) ?_
  refine J_iald C 1 rfl (vpl n_8 (by decide) (by decide)) (congrArg gs n_8) dX6_stepsOnce_14 ?_
  refine J_iconst C (v := (1 : Int32)) dX6_stepsOnce_15 (by decide) ?_
  refine J_iadd C (v := (gs 8) + (1 : Int32)) dX6_stepsOnce_16 rfl ?_
  refine J_istore_n C [some (.ref m), some (.int (gs 10)), some (.int ((gs 8) + (1 : Int32))), none, none] dX6_stepsOnce_17 rfl (hN 2 (by decide)) rfl ?_
  refine J_aload_n C dX6_stepsOnce_18 rfl rfl ?_
  refine J_get C 0 1 rfl rfl i_X6_stepsOnce_X6 (by decide) k_X6_stepsOnce_7 rfl rfl dX6_stepsOnce_19 ?_
  refine J_bipush C (v := (8 : Int32)) dX6_stepsOnce_22 (by decide) ?_
  refine J_iald C 1 rfl (vpl n_8 (by decide) (by decide)) (congrArg gs n_8) dX6_stepsOnce_24 ?_
  refine J_if_ne C 42 dX6_stepsOnce_25 (by decide) (fun c_25_1 => ?_) (fun c_25_1 => ?_)
  · refine J_aload_n C dX6_stepsOnce_42 rfl rfl ?_
    refine J_get C 0 1 rfl rfl i_X6_stepsOnce_X6 (by decide) k_X6_stepsOnce_7 rfl rfl dX6_stepsOnce_43 ?_
    refine J_bipush C (v := (11 : Int32)) dX6_stepsOnce_46 (by decide) ?_
    refine J_iald C 1 rfl (vpl n_11 (by decide) (by decide)) (congrArg gs n_11) dX6_stepsOnce_48 ?_
    refine J_iload_n C dX6_stepsOnce_49 rfl rfl ?_
    refine J_iconst C (v := (1 : Int32)) dX6_stepsOnce_50 (by decide) ?_
    refine J_iand C (v := (gs 10) &&& (1 : Int32)) dX6_stepsOnce_51 rfl ?_
    refine J_iadd C (v := (gs 11) + ((gs 10) &&& (1 : Int32))) dX6_stepsOnce_52 rfl ?_
    refine J_iload_n C dX6_stepsOnce_53 rfl rfl ?_
    refine J_iconst C (v := (2 : Int32)) dX6_stepsOnce_54 (by decide) ?_
    refine J_iand C (v := (gs 10) &&& (2 : Int32)) dX6_stepsOnce_55 rfl ?_
    refine J_isub C (v := ((gs 11) + ((gs 10) &&& (1 : Int32))) - ((gs 10) &&& (2 : Int32))) dX6_stepsOnce_56 rfl ?_
    refine J_istore_n C [some (.ref m), some (.int (gs 10)), some (.int ((gs 8) + (1 : Int32))), some (.int (((gs 11) + ((gs 10) &&& (1 : Int32))) - ((gs 10) &&& (2 : Int32)))), none] dX6_stepsOnce_57 rfl (hN 3 (by decide)) rfl ?_
    refine J_aload_n C dX6_stepsOnce_58 rfl rfl ?_
    refine J_get C 0 1 rfl rfl i_X6_stepsOnce_X6 (by decide) k_X6_stepsOnce_7 rfl rfl dX6_stepsOnce_59 ?_
    refine J_bipush C (v := (9 : Int32)) dX6_stepsOnce_62 (by decide) ?_
    refine J_iald C 1 rfl (vpl n_9 (by decide) (by decide)) (congrArg gs n_9) dX6_stepsOnce_64 ?_
    refine J_iload_n C dX6_stepsOnce_65 rfl rfl ?_
    refine J_aload_n C dX6_stepsOnce_66 rfl rfl ?_
    refine J_get C 0 1 rfl rfl i_X6_stepsOnce_X6 (by decide) k_X6_stepsOnce_7 rfl rfl dX6_stepsOnce_67 ?_
    refine J_bipush C (v := (12 : Int32)) dX6_stepsOnce_70 (by decide) ?_
    refine J_iald C 1 rfl (vpl n_12 (by decide) (by decide)) (congrArg gs n_12) dX6_stepsOnce_72 ?_
    refine J_imul C (v := (((gs 11) + ((gs 10) &&& (1 : Int32))) - ((gs 10) &&& (2 : Int32))) * (gs 12)) dX6_stepsOnce_73 rfl ?_
    refine J_iadd C (v := (gs 9) + ((((gs 11) + ((gs 10) &&& (1 : Int32))) - ((gs 10) &&& (2 : Int32))) * (gs 12))) dX6_stepsOnce_74 rfl ?_
    refine J_istore C [some (.ref m), some (.int (gs 10)), some (.int ((gs 8) + (1 : Int32))), some (.int (((gs 11) + ((gs 10) &&& (1 : Int32))) - ((gs 10) &&& (2 : Int32)))), some (.int ((gs 9) + ((((gs 11) + ((gs 10) &&& (1 : Int32))) - ((gs 10) &&& (2 : Int32))) * (gs 12))))] dX6_stepsOnce_75 (hN 4 (by decide)) rfl ?_
    refine J_aload_n C dX6_stepsOnce_77 rfl rfl ?_
    refine J_get C 0 1 rfl rfl i_X6_stepsOnce_X6 (by decide) k_X6_stepsOnce_7 rfl rfl dX6_stepsOnce_78 ?_
    refine J_bipush C (v := (11 : Int32)) dX6_stepsOnce_81 (by decide) ?_
    refine J_iload_n C dX6_stepsOnce_83 rfl rfl ?_
    refine J_iload_n C dX6_stepsOnce_84 rfl rfl ?_
    refine J_iconst C (v := (1 : Int32)) dX6_stepsOnce_85 (by decide) ?_
    refine J_isub C (v := ((gs 8) + (1 : Int32)) - (1 : Int32)) dX6_stepsOnce_86 rfl ?_
    refine J_ishr C (v := (gs 10) >>> ((((gs 8) + (1 : Int32)) - (1 : Int32)) &&& 31)) dX6_stepsOnce_87 rfl ?_
    refine J_iconst C (v := (1 : Int32)) dX6_stepsOnce_88 (by decide) ?_
    refine J_iand C (v := ((gs 10) >>> ((((gs 8) + (1 : Int32)) - (1 : Int32)) &&& 31)) &&& (1 : Int32)) dX6_stepsOnce_89 rfl ?_
    refine J_iast C 1 [(m, .inr (6, [.int xth, .ref ys, .ref ya, .ref yt, .int xsm, .ref yn, .int xhs, .ref yx, .int xln, .int xat, .int xiw, .ref yr, .int xrm, .int xfb, .int xlr, .ref yd, .int xdm])), (ys, .inl (U.2.2.1 0, 16, .inl (upd gs 11 (((gs 10) >>> ((((gs 8) + (1 : Int32)) - (1 : Int32)) &&& 31)) &&& (1 : Int32)))))] rfl (vpl n_11 (by decide) (by decide)) (by rw [n_11]; rfl) dX6_stepsOnce_90 ?_
    refine J_aload_n C dX6_stepsOnce_91 rfl rfl ?_
    refine J_get C 0 1 rfl rfl i_X6_stepsOnce_X6 (by decide) k_X6_stepsOnce_7 rfl rfl dX6_stepsOnce_92 ?_
    refine J_bipush C (v := (10 : Int32)) dX6_stepsOnce_95 (by decide) ?_
    refine J_iload_n C dX6_stepsOnce_97 rfl rfl ?_
    refine J_iload_n C dX6_stepsOnce_98 rfl rfl ?_
    refine J_ishr C (v := (gs 10) >>> (((gs 8) + (1 : Int32)) &&& 31)) dX6_stepsOnce_99 rfl ?_
    refine J_iload C dX6_stepsOnce_100 rfl ?_
    refine J_iconst C (v := (1 : Int32)) dX6_stepsOnce_102 (by decide) ?_
    refine J_iload_n C dX6_stepsOnce_103 rfl rfl ?_
    refine J_ishl C (v := (1 : Int32) <<< (((gs 8) + (1 : Int32)) &&& 31)) dX6_stepsOnce_104 rfl ?_
    refine J_iconst C (v := (1 : Int32)) dX6_stepsOnce_105 (by decide) ?_
    refine J_isub C (v := ((1 : Int32) <<< (((gs 8) + (1 : Int32)) &&& 31)) - (1 : Int32)) dX6_stepsOnce_106 rfl ?_
    refine J_iand C (v := ((gs 9) + ((((gs 11) + ((gs 10) &&& (1 : Int32))) - ((gs 10) &&& (2 : Int32))) * (gs 12))) &&& (((1 : Int32) <<< (((gs 8) + (1 : Int32)) &&& 31)) - (1 : Int32))) dX6_stepsOnce_107 rfl ?_
    refine J_aload_n C dX6_stepsOnce_108 rfl rfl ?_
    refine J_get C 0 1 rfl rfl i_X6_stepsOnce_X6 (by decide) k_X6_stepsOnce_7 rfl rfl dX6_stepsOnce_109 ?_
    refine J_iconst C (v := (0 : Int32)) dX6_stepsOnce_112 (by decide) ?_
    refine J_iald C 1 rfl (vpl n_0 (by decide) (by decide)) (congrArg (upd gs 11 (((gs 10) >>> ((((gs 8) + (1 : Int32)) - (1 : Int32)) &&& 31)) &&& (1 : Int32))) n_0) dX6_stepsOnce_113 ?_
    show J U k _ _ _ _ _ (.int (gs 0) :: _)
    refine J_iload_n C dX6_stepsOnce_114 rfl rfl ?_
    refine J_isub C (v := (gs 0) - ((gs 8) + (1 : Int32))) dX6_stepsOnce_115 rfl ?_
    refine J_ishl C (v := (((gs 9) + ((((gs 11) + ((gs 10) &&& (1 : Int32))) - ((gs 10) &&& (2 : Int32))) * (gs 12))) &&& (((1 : Int32) <<< (((gs 8) + (1 : Int32)) &&& 31)) - (1 : Int32))) <<< (((gs 0) - ((gs 8) + (1 : Int32))) &&& 31)) dX6_stepsOnce_116 rfl ?_
    refine J_ior C (v := ((gs 10) >>> (((gs 8) + (1 : Int32)) &&& 31)) ||| ((((gs 9) + ((((gs 11) + ((gs 10) &&& (1 : Int32))) - ((gs 10) &&& (2 : Int32))) * (gs 12))) &&& (((1 : Int32) <<< (((gs 8) + (1 : Int32)) &&& 31)) - (1 : Int32))) <<< (((gs 0) - ((gs 8) + (1 : Int32))) &&& 31))) dX6_stepsOnce_117 rfl ?_
    refine J_iast C 1 [(m, .inr (6, [.int xth, .ref ys, .ref ya, .ref yt, .int xsm, .ref yn, .int xhs, .ref yx, .int xln, .int xat, .int xiw, .ref yr, .int xrm, .int xfb, .int xlr, .ref yd, .int xdm])), (ys, .inl (U.2.2.1 0, 16, .inl (upd (upd gs 11 (((gs 10) >>> ((((gs 8) + (1 : Int32)) - (1 : Int32)) &&& 31)) &&& (1 : Int32))) 10 (((gs 10) >>> (((gs 8) + (1 : Int32)) &&& 31)) ||| ((((gs 9) + ((((gs 11) + ((gs 10) &&& (1 : Int32))) - ((gs 10) &&& (2 : Int32))) * (gs 12))) &&& (((1 : Int32) <<< (((gs 8) + (1 : Int32)) &&& 31)) - (1 : Int32))) <<< (((gs 0) - ((gs 8) + (1 : Int32))) &&& 31))))))] rfl (vpl n_10 (by decide) (by decide)) (by rw [n_10]; rfl) dX6_stepsOnce_118 ?_
    refine J_aload_n C dX6_stepsOnce_119 rfl rfl ?_
    refine J_get C 0 1 rfl rfl i_X6_stepsOnce_X6 (by decide) k_X6_stepsOnce_7 rfl rfl dX6_stepsOnce_120 ?_
    refine J_bipush C (v := (9 : Int32)) dX6_stepsOnce_123 (by decide) ?_
    refine J_iload C dX6_stepsOnce_125 rfl ?_
    refine J_iload_n C dX6_stepsOnce_127 rfl rfl ?_
    refine J_ishr C (v := ((gs 9) + ((((gs 11) + ((gs 10) &&& (1 : Int32))) - ((gs 10) &&& (2 : Int32))) * (gs 12))) >>> (((gs 8) + (1 : Int32)) &&& 31)) dX6_stepsOnce_128 rfl ?_
    refine J_iast C 1 [(m, .inr (6, [.int xth, .ref ys, .ref ya, .ref yt, .int xsm, .ref yn, .int xhs, .ref yx, .int xln, .int xat, .int xiw, .ref yr, .int xrm, .int xfb, .int xlr, .ref yd, .int xdm])), (ys, .inl (U.2.2.1 0, 16, .inl (upd (upd (upd gs 11 (((gs 10) >>> ((((gs 8) + (1 : Int32)) - (1 : Int32)) &&& 31)) &&& (1 : Int32))) 10 (((gs 10) >>> (((gs 8) + (1 : Int32)) &&& 31)) ||| ((((gs 9) + ((((gs 11) + ((gs 10) &&& (1 : Int32))) - ((gs 10) &&& (2 : Int32))) * (gs 12))) &&& (((1 : Int32) <<< (((gs 8) + (1 : Int32)) &&& 31)) - (1 : Int32))) <<< (((gs 0) - ((gs 8) + (1 : Int32))) &&& 31)))) 9 (((gs 9) + ((((gs 11) + ((gs 10) &&& (1 : Int32))) - ((gs 10) &&& (2 : Int32))) * (gs 12))) >>> (((gs 8) + (1 : Int32)) &&& 31)))))] rfl (vpl n_9 (by decide) (by decide)) (by rw [n_9]; rfl) dX6_stepsOnce_129 ?_
    refine J_aload_n C dX6_stepsOnce_130 rfl rfl ?_
    refine J_get C 0 1 rfl rfl i_X6_stepsOnce_X6 (by decide) k_X6_stepsOnce_7 rfl rfl dX6_stepsOnce_131 ?_
    refine J_bipush C (v := (7 : Int32)) dX6_stepsOnce_134 (by decide) ?_
    refine J_dup2 C dX6_stepsOnce_136 rfl rfl ?_
    refine J_iald C 1 rfl (vpl n_7 (by decide) (by decide)) (congrArg (upd (upd (upd gs 11 (((gs 10) >>> ((((gs 8) + (1 : Int32)) - (1 : Int32)) &&& 31)) &&& (1 : Int32))) 10 (((gs 10) >>> (((gs 8) + (1 : Int32)) &&& 31)) ||| ((((gs 9) + ((((gs 11) + ((gs 10) &&& (1 : Int32))) - ((gs 10) &&& (2 : Int32))) * (gs 12))) &&& (((1 : Int32) <<< (((gs 8) + (1 : Int32)) &&& 31)) - (1 : Int32))) <<< (((gs 0) - ((gs 8) + (1 : Int32))) &&& 31)))) 9 (((gs 9) + ((((gs 11) + ((gs 10) &&& (1 : Int32))) - ((gs 10) &&& (2 : Int32))) * (gs 12))) >>> (((gs 8) + (1 : Int32)) &&& 31))) n_7) dX6_stepsOnce_137 ?_
    refine J_iconst C (v := (1 : Int32)) dX6_stepsOnce_138 (by decide) ?_
    refine J_isub C (v := ((upd (upd (upd gs 11 (((gs 10) >>> ((((gs 8) + (1 : Int32)) - (1 : Int32)) &&& 31)) &&& (1 : Int32))) 10 (((gs 10) >>> (((gs 8) + (1 : Int32)) &&& 31)) ||| ((((gs 9) + ((((gs 11) + ((gs 10) &&& (1 : Int32))) - ((gs 10) &&& (2 : Int32))) * (gs 12))) &&& (((1 : Int32) <<< (((gs 8) + (1 : Int32)) &&& 31)) - (1 : Int32))) <<< (((gs 0) - ((gs 8) + (1 : Int32))) &&& 31)))) 9 (((gs 9) + ((((gs 11) + ((gs 10) &&& (1 : Int32))) - ((gs 10) &&& (2 : Int32))) * (gs 12))) >>> (((gs 8) + (1 : Int32)) &&& 31))) 7) - (1 : Int32)) dX6_stepsOnce_139 rfl ?_
    refine J_iast C 1 [(m, .inr (6, [.int xth, .ref ys, .ref ya, .ref yt, .int xsm, .ref yn, .int xhs, .ref yx, .int xln, .int xat, .int xiw, .ref yr, .int xrm, .int xfb, .int xlr, .ref yd, .int xdm])), (ys, .inl (U.2.2.1 0, 16, .inl (upd (upd (upd (upd gs 11 (((gs 10) >>> ((((gs 8) + (1 : Int32)) - (1 : Int32)) &&& 31)) &&& (1 : Int32))) 10 (((gs 10) >>> (((gs 8) + (1 : Int32)) &&& 31)) ||| ((((gs 9) + ((((gs 11) + ((gs 10) &&& (1 : Int32))) - ((gs 10) &&& (2 : Int32))) * (gs 12))) &&& (((1 : Int32) <<< (((gs 8) + (1 : Int32)) &&& 31)) - (1 : Int32))) <<< (((gs 0) - ((gs 8) + (1 : Int32))) &&& 31)))) 9 (((gs 9) + ((((gs 11) + ((gs 10) &&& (1 : Int32))) - ((gs 10) &&& (2 : Int32))) * (gs 12))) >>> (((gs 8) + (1 : Int32)) &&& 31))) 7 (((upd (upd (upd gs 11 (((gs 10) >>> ((((gs 8) + (1 : Int32)) - (1 : Int32)) &&& 31)) &&& (1 : Int32))) 10 (((gs 10) >>> (((gs 8) + (1 : Int32)) &&& 31)) ||| ((((gs 9) + ((((gs 11) + ((gs 10) &&& (1 : Int32))) - ((gs 10) &&& (2 : Int32))) * (gs 12))) &&& (((1 : Int32) <<< (((gs 8) + (1 : Int32)) &&& 31)) - (1 : Int32))) <<< (((gs 0) - ((gs 8) + (1 : Int32))) &&& 31)))) 9 (((gs 9) + ((((gs 11) + ((gs 10) &&& (1 : Int32))) - ((gs 10) &&& (2 : Int32))) * (gs 12))) >>> (((gs 8) + (1 : Int32)) &&& 31))) 7) - (1 : Int32)))))] rfl (vpl n_7 (by decide) (by decide)) (by rw [n_7]; rfl) dX6_stepsOnce_140 ?_
    refine J_aload_n C dX6_stepsOnce_141 rfl rfl ?_
    refine J_get C 0 1 rfl rfl i_X6_stepsOnce_X6 (by decide) k_X6_stepsOnce_7 rfl rfl dX6_stepsOnce_142 ?_
    refine J_bipush C (v := (14 : Int32)) dX6_stepsOnce_145 (by decide) ?_
    refine J_dup2 C dX6_stepsOnce_147 rfl rfl ?_
    refine J_iald C 1 rfl (vpl n_14 (by decide) (by decide)) (congrArg (upd (upd (upd (upd gs 11 (((gs 10) >>> ((((gs 8) + (1 : Int32)) - (1 : Int32)) &&& 31)) &&& (1 : Int32))) 10 (((gs 10) >>> (((gs 8) + (1 : Int32)) &&& 31)) ||| ((((gs 9) + ((((gs 11) + ((gs 10) &&& (1 : Int32))) - ((gs 10) &&& (2 : Int32))) * (gs 12))) &&& (((1 : Int32) <<< (((gs 8) + (1 : Int32)) &&& 31)) - (1 : Int32))) <<< (((gs 0) - ((gs 8) + (1 : Int32))) &&& 31)))) 9 (((gs 9) + ((((gs 11) + ((gs 10) &&& (1 : Int32))) - ((gs 10) &&& (2 : Int32))) * (gs 12))) >>> (((gs 8) + (1 : Int32)) &&& 31))) 7 (((upd (upd (upd gs 11 (((gs 10) >>> ((((gs 8) + (1 : Int32)) - (1 : Int32)) &&& 31)) &&& (1 : Int32))) 10 (((gs 10) >>> (((gs 8) + (1 : Int32)) &&& 31)) ||| ((((gs 9) + ((((gs 11) + ((gs 10) &&& (1 : Int32))) - ((gs 10) &&& (2 : Int32))) * (gs 12))) &&& (((1 : Int32) <<< (((gs 8) + (1 : Int32)) &&& 31)) - (1 : Int32))) <<< (((gs 0) - ((gs 8) + (1 : Int32))) &&& 31)))) 9 (((gs 9) + ((((gs 11) + ((gs 10) &&& (1 : Int32))) - ((gs 10) &&& (2 : Int32))) * (gs 12))) >>> (((gs 8) + (1 : Int32)) &&& 31))) 7) - (1 : Int32))) n_14) dX6_stepsOnce_148 ?_
    refine J_iconst C (v := (1 : Int32)) dX6_stepsOnce_149 (by decide) ?_
    refine J_iadd C (v := ((upd (upd (upd (upd gs 11 (((gs 10) >>> ((((gs 8) + (1 : Int32)) - (1 : Int32)) &&& 31)) &&& (1 : Int32))) 10 (((gs 10) >>> (((gs 8) + (1 : Int32)) &&& 31)) ||| ((((gs 9) + ((((gs 11) + ((gs 10) &&& (1 : Int32))) - ((gs 10) &&& (2 : Int32))) * (gs 12))) &&& (((1 : Int32) <<< (((gs 8) + (1 : Int32)) &&& 31)) - (1 : Int32))) <<< (((gs 0) - ((gs 8) + (1 : Int32))) &&& 31)))) 9 (((gs 9) + ((((gs 11) + ((gs 10) &&& (1 : Int32))) - ((gs 10) &&& (2 : Int32))) * (gs 12))) >>> (((gs 8) + (1 : Int32)) &&& 31))) 7 (((upd (upd (upd gs 11 (((gs 10) >>> ((((gs 8) + (1 : Int32)) - (1 : Int32)) &&& 31)) &&& (1 : Int32))) 10 (((gs 10) >>> (((gs 8) + (1 : Int32)) &&& 31)) ||| ((((gs 9) + ((((gs 11) + ((gs 10) &&& (1 : Int32))) - ((gs 10) &&& (2 : Int32))) * (gs 12))) &&& (((1 : Int32) <<< (((gs 8) + (1 : Int32)) &&& 31)) - (1 : Int32))) <<< (((gs 0) - ((gs 8) + (1 : Int32))) &&& 31)))) 9 (((gs 9) + ((((gs 11) + ((gs 10) &&& (1 : Int32))) - ((gs 10) &&& (2 : Int32))) * (gs 12))) >>> (((gs 8) + (1 : Int32)) &&& 31))) 7) - (1 : Int32))) 14) + (1 : Int32)) dX6_stepsOnce_150 rfl ?_
    refine J_iast C 1 [(m, .inr (6, [.int xth, .ref ys, .ref ya, .ref yt, .int xsm, .ref yn, .int xhs, .ref yx, .int xln, .int xat, .int xiw, .ref yr, .int xrm, .int xfb, .int xlr, .ref yd, .int xdm])), (ys, .inl (U.2.2.1 0, 16, .inl (upd (upd (upd (upd (upd gs 11 (((gs 10) >>> ((((gs 8) + (1 : Int32)) - (1 : Int32)) &&& 31)) &&& (1 : Int32))) 10 (((gs 10) >>> (((gs 8) + (1 : Int32)) &&& 31)) ||| ((((gs 9) + ((((gs 11) + ((gs 10) &&& (1 : Int32))) - ((gs 10) &&& (2 : Int32))) * (gs 12))) &&& (((1 : Int32) <<< (((gs 8) + (1 : Int32)) &&& 31)) - (1 : Int32))) <<< (((gs 0) - ((gs 8) + (1 : Int32))) &&& 31)))) 9 (((gs 9) + ((((gs 11) + ((gs 10) &&& (1 : Int32))) - ((gs 10) &&& (2 : Int32))) * (gs 12))) >>> (((gs 8) + (1 : Int32)) &&& 31))) 7 (((upd (upd (upd gs 11 (((gs 10) >>> ((((gs 8) + (1 : Int32)) - (1 : Int32)) &&& 31)) &&& (1 : Int32))) 10 (((gs 10) >>> (((gs 8) + (1 : Int32)) &&& 31)) ||| ((((gs 9) + ((((gs 11) + ((gs 10) &&& (1 : Int32))) - ((gs 10) &&& (2 : Int32))) * (gs 12))) &&& (((1 : Int32) <<< (((gs 8) + (1 : Int32)) &&& 31)) - (1 : Int32))) <<< (((gs 0) - ((gs 8) + (1 : Int32))) &&& 31)))) 9 (((gs 9) + ((((gs 11) + ((gs 10) &&& (1 : Int32))) - ((gs 10) &&& (2 : Int32))) * (gs 12))) >>> (((gs 8) + (1 : Int32)) &&& 31))) 7) - (1 : Int32))) 14 (((upd (upd (upd (upd gs 11 (((gs 10) >>> ((((gs 8) + (1 : Int32)) - (1 : Int32)) &&& 31)) &&& (1 : Int32))) 10 (((gs 10) >>> (((gs 8) + (1 : Int32)) &&& 31)) ||| ((((gs 9) + ((((gs 11) + ((gs 10) &&& (1 : Int32))) - ((gs 10) &&& (2 : Int32))) * (gs 12))) &&& (((1 : Int32) <<< (((gs 8) + (1 : Int32)) &&& 31)) - (1 : Int32))) <<< (((gs 0) - ((gs 8) + (1 : Int32))) &&& 31)))) 9 (((gs 9) + ((((gs 11) + ((gs 10) &&& (1 : Int32))) - ((gs 10) &&& (2 : Int32))) * (gs 12))) >>> (((gs 8) + (1 : Int32)) &&& 31))) 7 (((upd (upd (upd gs 11 (((gs 10) >>> ((((gs 8) + (1 : Int32)) - (1 : Int32)) &&& 31)) &&& (1 : Int32))) 10 (((gs 10) >>> (((gs 8) + (1 : Int32)) &&& 31)) ||| ((((gs 9) + ((((gs 11) + ((gs 10) &&& (1 : Int32))) - ((gs 10) &&& (2 : Int32))) * (gs 12))) &&& (((1 : Int32) <<< (((gs 8) + (1 : Int32)) &&& 31)) - (1 : Int32))) <<< (((gs 0) - ((gs 8) + (1 : Int32))) &&& 31)))) 9 (((gs 9) + ((((gs 11) + ((gs 10) &&& (1 : Int32))) - ((gs 10) &&& (2 : Int32))) * (gs 12))) >>> (((gs 8) + (1 : Int32)) &&& 31))) 7) - (1 : Int32))) 14) + (1 : Int32)))))] rfl (vpl n_14 (by decide) (by decide)) (by rw [n_14]; rfl) dX6_stepsOnce_151 ?_
    refine J_iload_n C dX6_stepsOnce_152 rfl rfl ?_
    exact J_iret C R dX6_stepsOnce_153 (Nat.le_of_ble_eq_true rfl) (Nat.le_of_ble_eq_true rfl) (by simp only [mdg, if_neg c_25_1] <;> rfl) (by simp only [soF, mhi, mlo, mex, mdg, if_neg c_25_1] <;> rfl)
  · refine J_aload_n C dX6_stepsOnce_28 rfl rfl ?_
    refine J_get C 0 1 rfl rfl i_X6_stepsOnce_X6 (by decide) k_X6_stepsOnce_7 rfl rfl dX6_stepsOnce_29 ?_
    refine J_bipush C (v := (11 : Int32)) dX6_stepsOnce_32 (by decide) ?_
    refine J_iald C 1 rfl (vpl n_11 (by decide) (by decide)) (congrArg gs n_11) dX6_stepsOnce_34 ?_
    refine J_iload_n C dX6_stepsOnce_35 rfl rfl ?_
    refine J_iconst C (v := (1 : Int32)) dX6_stepsOnce_36 (by decide) ?_
    refine J_iand C (v := (gs 10) &&& (1 : Int32)) dX6_stepsOnce_37 rfl ?_
    refine J_isub C (v := (gs 11) - ((gs 10) &&& (1 : Int32))) dX6_stepsOnce_38 rfl ?_
    refine J_goto C 57 dX6_stepsOnce_39 (by decide) ?_
    refine J_istore_n C [some (.ref m), some (.int (gs 10)), some (.int ((gs 8) + (1 : Int32))), some (.int ((gs 11) - ((gs 10) &&& (1 : Int32)))), none] dX6_stepsOnce_57 rfl (hN 3 (by decide)) rfl ?_
    refine J_aload_n C dX6_stepsOnce_58 rfl rfl ?_
    refine J_get C 0 1 rfl rfl i_X6_stepsOnce_X6 (by decide) k_X6_stepsOnce_7 rfl rfl dX6_stepsOnce_59 ?_
    refine J_bipush C (v := (9 : Int32)) dX6_stepsOnce_62 (by decide) ?_
    refine J_iald C 1 rfl (vpl n_9 (by decide) (by decide)) (congrArg gs n_9) dX6_stepsOnce_64 ?_
    refine J_iload_n C dX6_stepsOnce_65 rfl rfl ?_
    refine J_aload_n C dX6_stepsOnce_66 rfl rfl ?_
    refine J_get C 0 1 rfl rfl i_X6_stepsOnce_X6 (by decide) k_X6_stepsOnce_7 rfl rfl dX6_stepsOnce_67 ?_
    refine J_bipush C (v := (12 : Int32)) dX6_stepsOnce_70 (by decide) ?_
    refine J_iald C 1 rfl (vpl n_12 (by decide) (by decide)) (congrArg gs n_12) dX6_stepsOnce_72 ?_
    refine J_imul C (v := ((gs 11) - ((gs 10) &&& (1 : Int32))) * (gs 12)) dX6_stepsOnce_73 rfl ?_
    refine J_iadd C (v := (gs 9) + (((gs 11) - ((gs 10) &&& (1 : Int32))) * (gs 12))) dX6_stepsOnce_74 rfl ?_
    refine J_istore C [some (.ref m), some (.int (gs 10)), some (.int ((gs 8) + (1 : Int32))), some (.int ((gs 11) - ((gs 10) &&& (1 : Int32)))), some (.int ((gs 9) + (((gs 11) - ((gs 10) &&& (1 : Int32))) * (gs 12))))] dX6_stepsOnce_75 (hN 4 (by decide)) rfl ?_
    refine J_aload_n C dX6_stepsOnce_77 rfl rfl ?_
    refine J_get C 0 1 rfl rfl i_X6_stepsOnce_X6 (by decide) k_X6_stepsOnce_7 rfl rfl dX6_stepsOnce_78 ?_
    refine J_bipush C (v := (11 : Int32)) dX6_stepsOnce_81 (by decide) ?_
    refine J_iload_n C dX6_stepsOnce_83 rfl rfl ?_
    refine J_iload_n C dX6_stepsOnce_84 rfl rfl ?_
    refine J_iconst C (v := (1 : Int32)) dX6_stepsOnce_85 (by decide) ?_
    refine J_isub C (v := ((gs 8) + (1 : Int32)) - (1 : Int32)) dX6_stepsOnce_86 rfl ?_
    refine J_ishr C (v := (gs 10) >>> ((((gs 8) + (1 : Int32)) - (1 : Int32)) &&& 31)) dX6_stepsOnce_87 rfl ?_
    refine J_iconst C (v := (1 : Int32)) dX6_stepsOnce_88 (by decide) ?_
    refine J_iand C (v := ((gs 10) >>> ((((gs 8) + (1 : Int32)) - (1 : Int32)) &&& 31)) &&& (1 : Int32)) dX6_stepsOnce_89 rfl ?_
    refine J_iast C 1 [(m, .inr (6, [.int xth, .ref ys, .ref ya, .ref yt, .int xsm, .ref yn, .int xhs, .ref yx, .int xln, .int xat, .int xiw, .ref yr, .int xrm, .int xfb, .int xlr, .ref yd, .int xdm])), (ys, .inl (U.2.2.1 0, 16, .inl (upd gs 11 (((gs 10) >>> ((((gs 8) + (1 : Int32)) - (1 : Int32)) &&& 31)) &&& (1 : Int32)))))] rfl (vpl n_11 (by decide) (by decide)) (by rw [n_11]; rfl) dX6_stepsOnce_90 ?_
    refine J_aload_n C dX6_stepsOnce_91 rfl rfl ?_
    refine J_get C 0 1 rfl rfl i_X6_stepsOnce_X6 (by decide) k_X6_stepsOnce_7 rfl rfl dX6_stepsOnce_92 ?_
    refine J_bipush C (v := (10 : Int32)) dX6_stepsOnce_95 (by decide) ?_
    refine J_iload_n C dX6_stepsOnce_97 rfl rfl ?_
    refine J_iload_n C dX6_stepsOnce_98 rfl rfl ?_
    refine J_ishr C (v := (gs 10) >>> (((gs 8) + (1 : Int32)) &&& 31)) dX6_stepsOnce_99 rfl ?_
    refine J_iload C dX6_stepsOnce_100 rfl ?_
    refine J_iconst C (v := (1 : Int32)) dX6_stepsOnce_102 (by decide) ?_
    refine J_iload_n C dX6_stepsOnce_103 rfl rfl ?_
    refine J_ishl C (v := (1 : Int32) <<< (((gs 8) + (1 : Int32)) &&& 31)) dX6_stepsOnce_104 rfl ?_
    refine J_iconst C (v := (1 : Int32)) dX6_stepsOnce_105 (by decide) ?_
    refine J_isub C (v := ((1 : Int32) <<< (((gs 8) + (1 : Int32)) &&& 31)) - (1 : Int32)) dX6_stepsOnce_106 rfl ?_
    refine J_iand C (v := ((gs 9) + (((gs 11) - ((gs 10) &&& (1 : Int32))) * (gs 12))) &&& (((1 : Int32) <<< (((gs 8) + (1 : Int32)) &&& 31)) - (1 : Int32))) dX6_stepsOnce_107 rfl ?_
    refine J_aload_n C dX6_stepsOnce_108 rfl rfl ?_
    refine J_get C 0 1 rfl rfl i_X6_stepsOnce_X6 (by decide) k_X6_stepsOnce_7 rfl rfl dX6_stepsOnce_109 ?_
    refine J_iconst C (v := (0 : Int32)) dX6_stepsOnce_112 (by decide) ?_
    refine J_iald C 1 rfl (vpl n_0 (by decide) (by decide)) (congrArg (upd gs 11 (((gs 10) >>> ((((gs 8) + (1 : Int32)) - (1 : Int32)) &&& 31)) &&& (1 : Int32))) n_0) dX6_stepsOnce_113 ?_
    show J U k _ _ _ _ _ (.int (gs 0) :: _)
    refine J_iload_n C dX6_stepsOnce_114 rfl rfl ?_
    refine J_isub C (v := (gs 0) - ((gs 8) + (1 : Int32))) dX6_stepsOnce_115 rfl ?_
    refine J_ishl C (v := (((gs 9) + (((gs 11) - ((gs 10) &&& (1 : Int32))) * (gs 12))) &&& (((1 : Int32) <<< (((gs 8) + (1 : Int32)) &&& 31)) - (1 : Int32))) <<< (((gs 0) - ((gs 8) + (1 : Int32))) &&& 31)) dX6_stepsOnce_116 rfl ?_
    refine J_ior C (v := ((gs 10) >>> (((gs 8) + (1 : Int32)) &&& 31)) ||| ((((gs 9) + (((gs 11) - ((gs 10) &&& (1 : Int32))) * (gs 12))) &&& (((1 : Int32) <<< (((gs 8) + (1 : Int32)) &&& 31)) - (1 : Int32))) <<< (((gs 0) - ((gs 8) + (1 : Int32))) &&& 31))) dX6_stepsOnce_117 rfl ?_
    refine J_iast C 1 [(m, .inr (6, [.int xth, .ref ys, .ref ya, .ref yt, .int xsm, .ref yn, .int xhs, .ref yx, .int xln, .int xat, .int xiw, .ref yr, .int xrm, .int xfb, .int xlr, .ref yd, .int xdm])), (ys, .inl (U.2.2.1 0, 16, .inl (upd (upd gs 11 (((gs 10) >>> ((((gs 8) + (1 : Int32)) - (1 : Int32)) &&& 31)) &&& (1 : Int32))) 10 (((gs 10) >>> (((gs 8) + (1 : Int32)) &&& 31)) ||| ((((gs 9) + (((gs 11) - ((gs 10) &&& (1 : Int32))) * (gs 12))) &&& (((1 : Int32) <<< (((gs 8) + (1 : Int32)) &&& 31)) - (1 : Int32))) <<< (((gs 0) - ((gs 8) + (1 : Int32))) &&& 31))))))] rfl (vpl n_10 (by decide) (by decide)) (by rw [n_10]; rfl) dX6_stepsOnce_118 ?_
    refine J_aload_n C dX6_stepsOnce_119 rfl rfl ?_
    refine J_get C 0 1 rfl rfl i_X6_stepsOnce_X6 (by decide) k_X6_stepsOnce_7 rfl rfl dX6_stepsOnce_120 ?_
    refine J_bipush C (v := (9 : Int32)) dX6_stepsOnce_123 (by decide) ?_
    refine J_iload C dX6_stepsOnce_125 rfl ?_
    refine J_iload_n C dX6_stepsOnce_127 rfl rfl ?_
    refine J_ishr C (v := ((gs 9) + (((gs 11) - ((gs 10) &&& (1 : Int32))) * (gs 12))) >>> (((gs 8) + (1 : Int32)) &&& 31)) dX6_stepsOnce_128 rfl ?_
    refine J_iast C 1 [(m, .inr (6, [.int xth, .ref ys, .ref ya, .ref yt, .int xsm, .ref yn, .int xhs, .ref yx, .int xln, .int xat, .int xiw, .ref yr, .int xrm, .int xfb, .int xlr, .ref yd, .int xdm])), (ys, .inl (U.2.2.1 0, 16, .inl (upd (upd (upd gs 11 (((gs 10) >>> ((((gs 8) + (1 : Int32)) - (1 : Int32)) &&& 31)) &&& (1 : Int32))) 10 (((gs 10) >>> (((gs 8) + (1 : Int32)) &&& 31)) ||| ((((gs 9) + (((gs 11) - ((gs 10) &&& (1 : Int32))) * (gs 12))) &&& (((1 : Int32) <<< (((gs 8) + (1 : Int32)) &&& 31)) - (1 : Int32))) <<< (((gs 0) - ((gs 8) + (1 : Int32))) &&& 31)))) 9 (((gs 9) + (((gs 11) - ((gs 10) &&& (1 : Int32))) * (gs 12))) >>> (((gs 8) + (1 : Int32)) &&& 31)))))] rfl (vpl n_9 (by decide) (by decide)) (by rw [n_9]; rfl) dX6_stepsOnce_129 ?_
    refine J_aload_n C dX6_stepsOnce_130 rfl rfl ?_
    refine J_get C 0 1 rfl rfl i_X6_stepsOnce_X6 (by decide) k_X6_stepsOnce_7 rfl rfl dX6_stepsOnce_131 ?_
    refine J_bipush C (v := (7 : Int32)) dX6_stepsOnce_134 (by decide) ?_
    refine J_dup2 C dX6_stepsOnce_136 rfl rfl ?_
    refine J_iald C 1 rfl (vpl n_7 (by decide) (by decide)) (congrArg (upd (upd (upd gs 11 (((gs 10) >>> ((((gs 8) + (1 : Int32)) - (1 : Int32)) &&& 31)) &&& (1 : Int32))) 10 (((gs 10) >>> (((gs 8) + (1 : Int32)) &&& 31)) ||| ((((gs 9) + (((gs 11) - ((gs 10) &&& (1 : Int32))) * (gs 12))) &&& (((1 : Int32) <<< (((gs 8) + (1 : Int32)) &&& 31)) - (1 : Int32))) <<< (((gs 0) - ((gs 8) + (1 : Int32))) &&& 31)))) 9 (((gs 9) + (((gs 11) - ((gs 10) &&& (1 : Int32))) * (gs 12))) >>> (((gs 8) + (1 : Int32)) &&& 31))) n_7) dX6_stepsOnce_137 ?_
    refine J_iconst C (v := (1 : Int32)) dX6_stepsOnce_138 (by decide) ?_
    refine J_isub C (v := ((upd (upd (upd gs 11 (((gs 10) >>> ((((gs 8) + (1 : Int32)) - (1 : Int32)) &&& 31)) &&& (1 : Int32))) 10 (((gs 10) >>> (((gs 8) + (1 : Int32)) &&& 31)) ||| ((((gs 9) + (((gs 11) - ((gs 10) &&& (1 : Int32))) * (gs 12))) &&& (((1 : Int32) <<< (((gs 8) + (1 : Int32)) &&& 31)) - (1 : Int32))) <<< (((gs 0) - ((gs 8) + (1 : Int32))) &&& 31)))) 9 (((gs 9) + (((gs 11) - ((gs 10) &&& (1 : Int32))) * (gs 12))) >>> (((gs 8) + (1 : Int32)) &&& 31))) 7) - (1 : Int32)) dX6_stepsOnce_139 rfl ?_
    refine J_iast C 1 [(m, .inr (6, [.int xth, .ref ys, .ref ya, .ref yt, .int xsm, .ref yn, .int xhs, .ref yx, .int xln, .int xat, .int xiw, .ref yr, .int xrm, .int xfb, .int xlr, .ref yd, .int xdm])), (ys, .inl (U.2.2.1 0, 16, .inl (upd (upd (upd (upd gs 11 (((gs 10) >>> ((((gs 8) + (1 : Int32)) - (1 : Int32)) &&& 31)) &&& (1 : Int32))) 10 (((gs 10) >>> (((gs 8) + (1 : Int32)) &&& 31)) ||| ((((gs 9) + (((gs 11) - ((gs 10) &&& (1 : Int32))) * (gs 12))) &&& (((1 : Int32) <<< (((gs 8) + (1 : Int32)) &&& 31)) - (1 : Int32))) <<< (((gs 0) - ((gs 8) + (1 : Int32))) &&& 31)))) 9 (((gs 9) + (((gs 11) - ((gs 10) &&& (1 : Int32))) * (gs 12))) >>> (((gs 8) + (1 : Int32)) &&& 31))) 7 (((upd (upd (upd gs 11 (((gs 10) >>> ((((gs 8) + (1 : Int32)) - (1 : Int32)) &&& 31)) &&& (1 : Int32))) 10 (((gs 10) >>> (((gs 8) + (1 : Int32)) &&& 31)) ||| ((((gs 9) + (((gs 11) - ((gs 10) &&& (1 : Int32))) * (gs 12))) &&& (((1 : Int32) <<< (((gs 8) + (1 : Int32)) &&& 31)) - (1 : Int32))) <<< (((gs 0) - ((gs 8) + (1 : Int32))) &&& 31)))) 9 (((gs 9) + (((gs 11) - ((gs 10) &&& (1 : Int32))) * (gs 12))) >>> (((gs 8) + (1 : Int32)) &&& 31))) 7) - (1 : Int32)))))] rfl (vpl n_7 (by decide) (by decide)) (by rw [n_7]; rfl) dX6_stepsOnce_140 ?_
    refine J_aload_n C dX6_stepsOnce_141 rfl rfl ?_
    refine J_get C 0 1 rfl rfl i_X6_stepsOnce_X6 (by decide) k_X6_stepsOnce_7 rfl rfl dX6_stepsOnce_142 ?_
    refine J_bipush C (v := (14 : Int32)) dX6_stepsOnce_145 (by decide) ?_
    refine J_dup2 C dX6_stepsOnce_147 rfl rfl ?_
    refine J_iald C 1 rfl (vpl n_14 (by decide) (by decide)) (congrArg (upd (upd (upd (upd gs 11 (((gs 10) >>> ((((gs 8) + (1 : Int32)) - (1 : Int32)) &&& 31)) &&& (1 : Int32))) 10 (((gs 10) >>> (((gs 8) + (1 : Int32)) &&& 31)) ||| ((((gs 9) + (((gs 11) - ((gs 10) &&& (1 : Int32))) * (gs 12))) &&& (((1 : Int32) <<< (((gs 8) + (1 : Int32)) &&& 31)) - (1 : Int32))) <<< (((gs 0) - ((gs 8) + (1 : Int32))) &&& 31)))) 9 (((gs 9) + (((gs 11) - ((gs 10) &&& (1 : Int32))) * (gs 12))) >>> (((gs 8) + (1 : Int32)) &&& 31))) 7 (((upd (upd (upd gs 11 (((gs 10) >>> ((((gs 8) + (1 : Int32)) - (1 : Int32)) &&& 31)) &&& (1 : Int32))) 10 (((gs 10) >>> (((gs 8) + (1 : Int32)) &&& 31)) ||| ((((gs 9) + (((gs 11) - ((gs 10) &&& (1 : Int32))) * (gs 12))) &&& (((1 : Int32) <<< (((gs 8) + (1 : Int32)) &&& 31)) - (1 : Int32))) <<< (((gs 0) - ((gs 8) + (1 : Int32))) &&& 31)))) 9 (((gs 9) + (((gs 11) - ((gs 10) &&& (1 : Int32))) * (gs 12))) >>> (((gs 8) + (1 : Int32)) &&& 31))) 7) - (1 : Int32))) n_14) dX6_stepsOnce_148 ?_
    refine J_iconst C (v := (1 : Int32)) dX6_stepsOnce_149 (by decide) ?_
    refine J_iadd C (v := ((upd (upd (upd (upd gs 11 (((gs 10) >>> ((((gs 8) + (1 : Int32)) - (1 : Int32)) &&& 31)) &&& (1 : Int32))) 10 (((gs 10) >>> (((gs 8) + (1 : Int32)) &&& 31)) ||| ((((gs 9) + (((gs 11) - ((gs 10) &&& (1 : Int32))) * (gs 12))) &&& (((1 : Int32) <<< (((gs 8) + (1 : Int32)) &&& 31)) - (1 : Int32))) <<< (((gs 0) - ((gs 8) + (1 : Int32))) &&& 31)))) 9 (((gs 9) + (((gs 11) - ((gs 10) &&& (1 : Int32))) * (gs 12))) >>> (((gs 8) + (1 : Int32)) &&& 31))) 7 (((upd (upd (upd gs 11 (((gs 10) >>> ((((gs 8) + (1 : Int32)) - (1 : Int32)) &&& 31)) &&& (1 : Int32))) 10 (((gs 10) >>> (((gs 8) + (1 : Int32)) &&& 31)) ||| ((((gs 9) + (((gs 11) - ((gs 10) &&& (1 : Int32))) * (gs 12))) &&& (((1 : Int32) <<< (((gs 8) + (1 : Int32)) &&& 31)) - (1 : Int32))) <<< (((gs 0) - ((gs 8) + (1 : Int32))) &&& 31)))) 9 (((gs 9) + (((gs 11) - ((gs 10) &&& (1 : Int32))) * (gs 12))) >>> (((gs 8) + (1 : Int32)) &&& 31))) 7) - (1 : Int32))) 14) + (1 : Int32)) dX6_stepsOnce_150 rfl ?_
    refine J_iast C 1 [(m, .inr (6, [.int xth, .ref ys, .ref ya, .ref yt, .int xsm, .ref yn, .int xhs, .ref yx, .int xln, .int xat, .int xiw, .ref yr, .int xrm, .int xfb, .int xlr, .ref yd, .int xdm])), (ys, .inl (U.2.2.1 0, 16, .inl (upd (upd (upd (upd (upd gs 11 (((gs 10) >>> ((((gs 8) + (1 : Int32)) - (1 : Int32)) &&& 31)) &&& (1 : Int32))) 10 (((gs 10) >>> (((gs 8) + (1 : Int32)) &&& 31)) ||| ((((gs 9) + (((gs 11) - ((gs 10) &&& (1 : Int32))) * (gs 12))) &&& (((1 : Int32) <<< (((gs 8) + (1 : Int32)) &&& 31)) - (1 : Int32))) <<< (((gs 0) - ((gs 8) + (1 : Int32))) &&& 31)))) 9 (((gs 9) + (((gs 11) - ((gs 10) &&& (1 : Int32))) * (gs 12))) >>> (((gs 8) + (1 : Int32)) &&& 31))) 7 (((upd (upd (upd gs 11 (((gs 10) >>> ((((gs 8) + (1 : Int32)) - (1 : Int32)) &&& 31)) &&& (1 : Int32))) 10 (((gs 10) >>> (((gs 8) + (1 : Int32)) &&& 31)) ||| ((((gs 9) + (((gs 11) - ((gs 10) &&& (1 : Int32))) * (gs 12))) &&& (((1 : Int32) <<< (((gs 8) + (1 : Int32)) &&& 31)) - (1 : Int32))) <<< (((gs 0) - ((gs 8) + (1 : Int32))) &&& 31)))) 9 (((gs 9) + (((gs 11) - ((gs 10) &&& (1 : Int32))) * (gs 12))) >>> (((gs 8) + (1 : Int32)) &&& 31))) 7) - (1 : Int32))) 14 (((upd (upd (upd (upd gs 11 (((gs 10) >>> ((((gs 8) + (1 : Int32)) - (1 : Int32)) &&& 31)) &&& (1 : Int32))) 10 (((gs 10) >>> (((gs 8) + (1 : Int32)) &&& 31)) ||| ((((gs 9) + (((gs 11) - ((gs 10) &&& (1 : Int32))) * (gs 12))) &&& (((1 : Int32) <<< (((gs 8) + (1 : Int32)) &&& 31)) - (1 : Int32))) <<< (((gs 0) - ((gs 8) + (1 : Int32))) &&& 31)))) 9 (((gs 9) + (((gs 11) - ((gs 10) &&& (1 : Int32))) * (gs 12))) >>> (((gs 8) + (1 : Int32)) &&& 31))) 7 (((upd (upd (upd gs 11 (((gs 10) >>> ((((gs 8) + (1 : Int32)) - (1 : Int32)) &&& 31)) &&& (1 : Int32))) 10 (((gs 10) >>> (((gs 8) + (1 : Int32)) &&& 31)) ||| ((((gs 9) + (((gs 11) - ((gs 10) &&& (1 : Int32))) * (gs 12))) &&& (((1 : Int32) <<< (((gs 8) + (1 : Int32)) &&& 31)) - (1 : Int32))) <<< (((gs 0) - ((gs 8) + (1 : Int32))) &&& 31)))) 9 (((gs 9) + (((gs 11) - ((gs 10) &&& (1 : Int32))) * (gs 12))) >>> (((gs 8) + (1 : Int32)) &&& 31))) 7) - (1 : Int32))) 14) + (1 : Int32)))))] rfl (vpl n_14 (by decide) (by decide)) (by rw [n_14]; rfl) dX6_stepsOnce_151 ?_
    refine J_iload_n C dX6_stepsOnce_152 rfl rfl ?_
    exact J_iret C R dX6_stepsOnce_153 (Nat.le_of_ble_eq_true rfl) (Nat.le_of_ble_eq_true rfl) (by simp only [mdg, if_pos c_25_1] <;> rfl) (by simp only [soF, mhi, mlo, mex, mdg, if_pos c_25_1] <;> rfl)
theorem k_X6_lays_7 : Cond.fieldLink RX6 7 "BoothOttersModel" "s" "[I" ∈ wsX6_lays := List.mem_of_getElem? (i := 1) rfl
theorem i_X6_lays_X6 : ∀ w ∈ wsX60, w ∈ wsX6_lays := fun _ h => List.mem_cons_of_mem _ (List.mem_append_right _ h)
set_option maxHeartbeats 4000000 in
set_option maxRecDepth 100000 in
theorem c_X6_lays (U : jU) (m ys ya yt yn yx yr yd : Nat) (xth xsm xhs xln xat xiw xrm xfb xlr xdm : Int32) (gs : Nat → Int32) (p0 p1 : Int32) (hr : isReg p0) : Fn U yX6_lays wsX6_lays { frames := 2, cells := 0, slots := 0, locals := 43 } [.ref m, .int p0, .int p1] [(m, .inr (6, [.int xth, .ref ys, .ref ya, .ref yt, .int xsm, .ref yn, .int xhs, .ref yx, .int xln, .int xat, .int xiw, .ref yr, .int xrm, .int xfb, .int xlr, .ref yd, .int xdm])), (ys, .inl (U.2.2.1 0, 16, .inl gs))] (some (.int (mwF (gs 0) p1))) [(m, .inr (6, [.int xth, .ref ys, .ref ya, .ref yt, .int xsm, .ref yn, .int xhs, .ref yx, .int xln, .int xat, .int xiw, .ref yr, .int xrm, .int xfb, .int xlr, .ref yd, .int xdm])), (ys, .inl (U.2.2.1 0, 16, .inl (laF gs p0 p1)))] 0 0 := by
  refine Fn_of (cc := cX6_lays) (maxL := 3) (ret := (some .int)) [some (.ref m), some (.int p0), some (.int p1)] (by decide +kernel) rfl (jcat rfl) (Nat.le_of_ble_eq_true rfl) rfl (fun k C R hin hnL => ?_)
  have hN : ∀ i, i < 3 → i < k.2.2.2.2.2.2.2.2.2.2.2.1 := fun i h => by rw [hnL]; exact h
  refine J_aload_n C dX6_lays_0 rfl rfl ?_
  refine J_get C 0 1 rfl rfl i_X6_lays_X6 (by decide) k_X6_lays_7 rfl rfl dX6_lays_1 ?_
  refine J_bipush C (v := (13 : Int32)) dX6_lays_4 (by decide) ?_
  refine J_dup2 C dX6_lays_6 rfl rfl ?_
  refine J_iald C 1 rfl (vpl n_13 (by decide) (by decide)) (congrArg gs n_13) dX6_lays_7 ?_
  refine J_aload_n C dX6_lays_8 rfl rfl ?_
  refine J_iload_n C dX6_lays_9 rfl rfl ?_
  refine J_callV C (c_X6_isValue U m ys ya yt yn yx yr yd xth xsm xhs xln xat xiw xrm xfb xlr xdm gs p1 ) gX6_lays_X6_isValue (n := 1) rfl rfl rfl (by decide +kernel) ⟨Nat.le_of_ble_eq_true rfl, Nat.le_of_ble_eq_true rfl⟩ 0 rfl rfl rfl (rest := [.int (gs 13), .int (13 : Int32), .ref ys]) rfl (Nat.le_of_ble_eq_true rfl) [(m, .inr (6, [.int xth, .ref ys, .ref ya, .ref yt, .int xsm, .ref yn, .int xhs, .ref yx, .int xln, .int xat, .int xiw, .ref yr, .int xrm, .int xfb, .int xlr, .ref yd, .int xdm])), (ys, .inl (U.2.2.1 0, 16, .inl gs))] [0, 1] [] [0, 1] (wr := []) rfl rfl rfl rfl (by decide) rfl rfl  dX6_lays_10 ⟨Nat.le_of_ble_eq_true rfl, Nat.le_of_ble_eq_true rfl⟩ [.int (b2i (isVal (gs 0) p1)), .int (gs 13), .int (13 : Int32), .ref ys] rfl ?_
  refine J_if_eq_b C 20 dX6_lays_13 (by decide) (fun c_13_1 => ?_) (fun c_13_1 => ?_)
  · refine J_iconst C (v := (1 : Int32)) dX6_lays_20 (by decide) ?_
    refine J_iadd C (v := (gs 13) + (1 : Int32)) dX6_lays_21 rfl ?_
    refine J_iast C 1 [(m, .inr (6, [.int xth, .ref ys, .ref ya, .ref yt, .int xsm, .ref yn, .int xhs, .ref yx, .int xln, .int xat, .int xiw, .ref yr, .int xrm, .int xfb, .int xlr, .ref yd, .int xdm])), (ys, .inl (U.2.2.1 0, 16, .inl (upd gs 13 ((gs 13) + (1 : Int32)))))] rfl (vpl n_13 (by decide) (by decide)) (by rw [n_13]; rfl) dX6_lays_22 ?_
    refine J_aload_n C dX6_lays_23 rfl rfl ?_
    refine J_get C 0 1 rfl rfl i_X6_lays_X6 (by decide) k_X6_lays_7 rfl rfl dX6_lays_24 ?_
    refine J_iconst C (v := (1 : Int32)) dX6_lays_27 (by decide) ?_
    refine J_iload_n C dX6_lays_28 rfl rfl ?_
    refine J_iadd C (v := (1 : Int32) + p0) dX6_lays_29 rfl ?_
    refine J_aload_n C dX6_lays_30 rfl rfl ?_
    refine J_iload_n C dX6_lays_31 rfl rfl ?_
    refine J_callV C (c_X6_wrapped U m ys ya yt yn yx yr yd xth xsm xhs xln xat xiw xrm xfb xlr xdm (upd gs 13 ((gs 13) + (1 : Int32))) p1 ) gX6_lays_X6_wrapped (n := 1) rfl rfl rfl (by decide +kernel) ⟨Nat.le_of_ble_eq_true rfl, Nat.le_of_ble_eq_true rfl⟩ 0 rfl rfl rfl (rest := [.int ((1 : Int32) + p0), .ref ys]) rfl (Nat.le_of_ble_eq_true rfl) [(m, .inr (6, [.int xth, .ref ys, .ref ya, .ref yt, .int xsm, .ref yn, .int xhs, .ref yx, .int xln, .int xat, .int xiw, .ref yr, .int xrm, .int xfb, .int xlr, .ref yd, .int xdm])), (ys, .inl (U.2.2.1 0, 16, .inl (upd gs 13 ((gs 13) + (1 : Int32)))))] [0, 1] [] [0, 1] (wr := []) rfl rfl rfl rfl (by decide) rfl rfl  dX6_lays_32 ⟨Nat.le_of_ble_eq_true rfl, Nat.le_of_ble_eq_true rfl⟩ [.int (mwF ((upd gs 13 ((gs 13) + (1 : Int32))) 0) p1), .int ((1 : Int32) + p0), .ref ys] rfl ?_
    refine J_iast C 1 [(m, .inr (6, [.int xth, .ref ys, .ref ya, .ref yt, .int xsm, .ref yn, .int xhs, .ref yx, .int xln, .int xat, .int xiw, .ref yr, .int xrm, .int xfb, .int xlr, .ref yd, .int xdm])), (ys, .inl (U.2.2.1 0, 16, .inl (upd (upd gs 13 ((gs 13) + (1 : Int32))) (1 + p0.toNatClampNeg) (mwF ((upd gs 13 ((gs 13) + (1 : Int32))) 0) p1))))] rfl (i1in hr) (by rw [(i1r hr)]; rfl) dX6_lays_35 ?_
    refine J_aload_n C dX6_lays_36 rfl rfl ?_
    refine J_iload_n C dX6_lays_37 rfl rfl ?_
    refine J_callV C (c_X6_of U m ys ya yt yn yx yr yd xth xsm xhs xln xat xiw xrm xfb xlr xdm (upd (upd gs 13 ((gs 13) + (1 : Int32))) (1 + p0.toNatClampNeg) (mwF ((upd gs 13 ((gs 13) + (1 : Int32))) 0) p1)) p0 hr) gX6_lays_X6_of (n := 1) rfl rfl rfl (by decide +kernel) ⟨Nat.le_of_ble_eq_true rfl, Nat.le_of_ble_eq_true rfl⟩ 0 rfl rfl rfl (rest := []) rfl (Nat.le_of_ble_eq_true rfl) [(m, .inr (6, [.int xth, .ref ys, .ref ya, .ref yt, .int xsm, .ref yn, .int xhs, .ref yx, .int xln, .int xat, .int xiw, .ref yr, .int xrm, .int xfb, .int xlr, .ref yd, .int xdm])), (ys, .inl (U.2.2.1 0, 16, .inl (upd (upd gs 13 ((gs 13) + (1 : Int32))) (1 + p0.toNatClampNeg) (mwF ((upd gs 13 ((gs 13) + (1 : Int32))) 0) p1))))] [0, 1] [] [0, 1] (wr := []) rfl rfl rfl rfl (by decide) rfl rfl  dX6_lays_38 ⟨Nat.le_of_ble_eq_true rfl, Nat.le_of_ble_eq_true rfl⟩ [.int ((upd (upd gs 13 ((gs 13) + (1 : Int32))) (1 + p0.toNatClampNeg) (mwF ((upd gs 13 ((gs 13) + (1 : Int32))) 0) p1)) (1 + p0.toNatClampNeg))] rfl ?_
    exact J_iret C R dX6_lays_41 (Nat.le_of_ble_eq_true rfl) (Nat.le_of_ble_eq_true rfl) (by simp [upd]) (by simp only [laF, if_neg c_13_1] <;> rfl)
  · refine J_iconst C (v := (0 : Int32)) dX6_lays_16 (by decide) ?_
    refine J_goto C 21 dX6_lays_17 (by decide) ?_
    refine J_iadd C (v := (gs 13) + (0 : Int32)) dX6_lays_21 rfl ?_
    refine J_iast C 1 [(m, .inr (6, [.int xth, .ref ys, .ref ya, .ref yt, .int xsm, .ref yn, .int xhs, .ref yx, .int xln, .int xat, .int xiw, .ref yr, .int xrm, .int xfb, .int xlr, .ref yd, .int xdm])), (ys, .inl (U.2.2.1 0, 16, .inl (upd gs 13 ((gs 13) + (0 : Int32)))))] rfl (vpl n_13 (by decide) (by decide)) (by rw [n_13]; rfl) dX6_lays_22 ?_
    refine J_aload_n C dX6_lays_23 rfl rfl ?_
    refine J_get C 0 1 rfl rfl i_X6_lays_X6 (by decide) k_X6_lays_7 rfl rfl dX6_lays_24 ?_
    refine J_iconst C (v := (1 : Int32)) dX6_lays_27 (by decide) ?_
    refine J_iload_n C dX6_lays_28 rfl rfl ?_
    refine J_iadd C (v := (1 : Int32) + p0) dX6_lays_29 rfl ?_
    refine J_aload_n C dX6_lays_30 rfl rfl ?_
    refine J_iload_n C dX6_lays_31 rfl rfl ?_
    refine J_callV C (c_X6_wrapped U m ys ya yt yn yx yr yd xth xsm xhs xln xat xiw xrm xfb xlr xdm (upd gs 13 ((gs 13) + (0 : Int32))) p1 ) gX6_lays_X6_wrapped (n := 1) rfl rfl rfl (by decide +kernel) ⟨Nat.le_of_ble_eq_true rfl, Nat.le_of_ble_eq_true rfl⟩ 0 rfl rfl rfl (rest := [.int ((1 : Int32) + p0), .ref ys]) rfl (Nat.le_of_ble_eq_true rfl) [(m, .inr (6, [.int xth, .ref ys, .ref ya, .ref yt, .int xsm, .ref yn, .int xhs, .ref yx, .int xln, .int xat, .int xiw, .ref yr, .int xrm, .int xfb, .int xlr, .ref yd, .int xdm])), (ys, .inl (U.2.2.1 0, 16, .inl (upd gs 13 ((gs 13) + (0 : Int32)))))] [0, 1] [] [0, 1] (wr := []) rfl rfl rfl rfl (by decide) rfl rfl  dX6_lays_32 ⟨Nat.le_of_ble_eq_true rfl, Nat.le_of_ble_eq_true rfl⟩ [.int (mwF ((upd gs 13 ((gs 13) + (0 : Int32))) 0) p1), .int ((1 : Int32) + p0), .ref ys] rfl ?_
    refine J_iast C 1 [(m, .inr (6, [.int xth, .ref ys, .ref ya, .ref yt, .int xsm, .ref yn, .int xhs, .ref yx, .int xln, .int xat, .int xiw, .ref yr, .int xrm, .int xfb, .int xlr, .ref yd, .int xdm])), (ys, .inl (U.2.2.1 0, 16, .inl (upd (upd gs 13 ((gs 13) + (0 : Int32))) (1 + p0.toNatClampNeg) (mwF ((upd gs 13 ((gs 13) + (0 : Int32))) 0) p1))))] rfl (i1in hr) (by rw [(i1r hr)]; rfl) dX6_lays_35 ?_
    refine J_aload_n C dX6_lays_36 rfl rfl ?_
    refine J_iload_n C dX6_lays_37 rfl rfl ?_
    refine J_callV C (c_X6_of U m ys ya yt yn yx yr yd xth xsm xhs xln xat xiw xrm xfb xlr xdm (upd (upd gs 13 ((gs 13) + (0 : Int32))) (1 + p0.toNatClampNeg) (mwF ((upd gs 13 ((gs 13) + (0 : Int32))) 0) p1)) p0 hr) gX6_lays_X6_of (n := 1) rfl rfl rfl (by decide +kernel) ⟨Nat.le_of_ble_eq_true rfl, Nat.le_of_ble_eq_true rfl⟩ 0 rfl rfl rfl (rest := []) rfl (Nat.le_of_ble_eq_true rfl) [(m, .inr (6, [.int xth, .ref ys, .ref ya, .ref yt, .int xsm, .ref yn, .int xhs, .ref yx, .int xln, .int xat, .int xiw, .ref yr, .int xrm, .int xfb, .int xlr, .ref yd, .int xdm])), (ys, .inl (U.2.2.1 0, 16, .inl (upd (upd gs 13 ((gs 13) + (0 : Int32))) (1 + p0.toNatClampNeg) (mwF ((upd gs 13 ((gs 13) + (0 : Int32))) 0) p1))))] [0, 1] [] [0, 1] (wr := []) rfl rfl rfl rfl (by decide) rfl rfl  dX6_lays_38 ⟨Nat.le_of_ble_eq_true rfl, Nat.le_of_ble_eq_true rfl⟩ [.int ((upd (upd gs 13 ((gs 13) + (0 : Int32))) (1 + p0.toNatClampNeg) (mwF ((upd gs 13 ((gs 13) + (0 : Int32))) 0) p1)) (1 + p0.toNatClampNeg))] rfl ?_
    exact J_iret C R dX6_lays_41 (Nat.le_of_ble_eq_true rfl) (Nat.le_of_ble_eq_true rfl) (by simp [upd]) (by simp only [laF, if_pos c_13_1] <;> rfl)
