theorem k_X6_digitAt_31 : Cond.fieldLink RX6 31 "BoothOttersModel" "thrown" "I" ∈ wsX6_digitAt := List.mem_of_getElem? (i := 1) rfl
theorem i_X6_digitAt_X6 : ∀ w ∈ wsX60, w ∈ wsX6_digitAt := fun _ h => List.mem_cons_of_mem _ (List.mem_append_right _ h)
theorem k_X6_digitAt_7 : Cond.fieldLink RX6 7 "BoothOttersModel" "s" "[I" ∈ wsX6_digitAt := List.mem_of_getElem? (i := 2) rfl
set_option maxHeartbeats 4000000 in
set_option maxRecDepth 100000 in
theorem c_X6_digitAt_no1t (U : jU) (m ys ya yt yn yx yr yd : Nat) (xth xsm xhs xln xat xiw xrm xfb xlr xdm : Int32) (gs : Nat → Int32) (p0 p1 p2 : Int32) (v_0 : p1 = 1) (v_1 : ¬ isReg p0) : Fn U yX6_digitAt wsX6_digitAt { frames := 2, cells := 0, slots := 0, locals := 47 } [.ref m, .int p0, .int p1, .int p2] [(m, .inr (6, [.int xth, .ref ys, .ref ya, .ref yt, .int xsm, .ref yn, .int xhs, .ref yx, .int xln, .int xat, .int xiw, .ref yr, .int xrm, .int xfb, .int xlr, .ref yd, .int xdm])), (ys, .inl (U.2.2.1 0, 16, .inl gs))] (some (.int (0 : Int32))) [(m, .inr (6, [.int (1 : Int32), .ref ys, .ref ya, .ref yt, .int xsm, .ref yn, .int xhs, .ref yx, .int xln, .int xat, .int xiw, .ref yr, .int xrm, .int xfb, .int xlr, .ref yd, .int xdm])), (ys, .inl (U.2.2.1 0, 16, .inl gs))] 0 0 := by
  refine Fn_of (cc := cX6_digitAt) (maxL := 5) (ret := (some .int)) [some (.ref m), some (.int p0), some (.int p1), some (.int p2), none] (by decide +kernel) rfl (jcat rfl) (Nat.le_of_ble_eq_true rfl) rfl (fun k C R hin hnL => ?_)
  have hN : ∀ i, i < 5 → i < k.2.2.2.2.2.2.2.2.2.2.2.1 := fun i h => by rw [hnL]; exact h
  refine J_aload_n C dX6_digitAt_0 rfl rfl ?_
  refine J_iconst C (v := (0 : Int32)) dX6_digitAt_1 (by decide) ?_
  refine J_put C tyX6 0 0 [(m, .inr (6, [.int (0 : Int32), .ref ys, .ref ya, .ref yt, .int xsm, .ref yn, .int xhs, .ref yx, .int xln, .int xat, .int xiw, .ref yr, .int xrm, .int xfb, .int xlr, .ref yd, .int xdm])), (ys, .inl (U.2.2.1 0, 16, .inl gs))] rfl rfl i_X6_digitAt_X6 tyX6_ok nmX6 (by decide) k_X6_digitAt_31 rfl rfl rfl rfl (Nat.le_of_ble_eq_true rfl) rfl dX6_digitAt_2 ?_
  refine J_iload_n C dX6_digitAt_5 rfl rfl ?_
  refine J_iconst C (v := (1 : Int32)) dX6_digitAt_6 (by decide) ?_
  refine J_icmp_ne C 21 dX6_digitAt_7 (by decide) (fun h => absurd h (fun hh => hh v_0)) (fun _ => ?_)
  refine J_aload_n C dX6_digitAt_10 rfl rfl ?_
  refine J_get C 0 1 rfl rfl i_X6_digitAt_X6 (by decide) k_X6_digitAt_7 rfl rfl dX6_digitAt_11 ?_
  refine J_iconst C (v := (0 : Int32)) dX6_digitAt_14 (by decide) ?_
  refine J_iald C 1 rfl (vpl n_0 (by decide) (by decide)) (congrArg gs n_0) dX6_digitAt_15 ?_
  refine J_iconst C (v := (2 : Int32)) dX6_digitAt_16 (by decide) ?_
  refine J_idiv C (v := (gs 0) / (2 : Int32)) dX6_digitAt_17 (by decide) rfl ?_
  refine J_goto C 27 dX6_digitAt_18 (by decide) ?_
  refine J_istore C [some (.ref m), some (.int p0), some (.int p1), some (.int p2), some (.int ((gs 0) / (2 : Int32)))] dX6_digitAt_27 (hN 4 (by decide)) rfl ?_
  refine J_iload_n C dX6_digitAt_29 rfl rfl ?_
  refine J_callS C (c_X6_isRegister U p0 ) gX6_digitAt_X6_isRegister (n := 1) rfl rfl rfl (by decide +kernel) ⟨Nat.le_of_ble_eq_true rfl, Nat.le_of_ble_eq_true rfl⟩ rfl (rest := []) rfl (Nat.le_of_ble_eq_true rfl) [(m, .inr (6, [.int (0 : Int32), .ref ys, .ref ya, .ref yt, .int xsm, .ref yn, .int xhs, .ref yx, .int xln, .int xat, .int xiw, .ref yr, .int xrm, .int xfb, .int xlr, .ref yd, .int xdm])), (ys, .inl (U.2.2.1 0, 16, .inl gs))] [] [0, 1] [0, 1] (wr := [(m, .inr (6, [.int (0 : Int32), .ref ys, .ref ya, .ref yt, .int xsm, .ref yn, .int xhs, .ref yx, .int xln, .int xat, .int xiw, .ref yr, .int xrm, .int xfb, .int xlr, .ref yd, .int xdm])), (ys, .inl (U.2.2.1 0, 16, .inl gs))]) rfl rfl rfl rfl (by decide) rfl rfl  dX6_digitAt_30 ⟨Nat.le_of_ble_eq_true rfl, Nat.le_of_ble_eq_true rfl⟩ [.int (b2i (isReg p0))] rfl ?_
  refine J_if_eq_b C 55 dX6_digitAt_33 (by decide) (fun _ => ?_) (fun h => absurd h v_1)
  refine J_aload_n C dX6_digitAt_55 rfl rfl ?_
  refine J_iconst C (v := (1 : Int32)) dX6_digitAt_56 (by decide) ?_
  refine J_callV C (c_X6_fails U m ys ya yt yn yx yr yd (0 : Int32) xsm xhs xln xat xiw xrm xfb xlr xdm (1 : Int32) ) gX6_digitAt_X6_fails (n := 1) rfl rfl rfl (by decide +kernel) ⟨Nat.le_of_ble_eq_true rfl, Nat.le_of_ble_eq_true rfl⟩ 0 rfl rfl rfl (rest := []) rfl (Nat.le_of_ble_eq_true rfl) [(m, .inr (6, [.int (1 : Int32), .ref ys, .ref ya, .ref yt, .int xsm, .ref yn, .int xhs, .ref yx, .int xln, .int xat, .int xiw, .ref yr, .int xrm, .int xfb, .int xlr, .ref yd, .int xdm])), (ys, .inl (U.2.2.1 0, 16, .inl gs))] [0] [1] [1, 0] (wr := [(ys, .inl (U.2.2.1 0, 16, .inl gs))]) rfl rfl rfl rfl (by decide) rfl rfl  dX6_digitAt_57 ⟨Nat.le_of_ble_eq_true rfl, Nat.le_of_ble_eq_true rfl⟩ [.int (0 : Int32)] rfl ?_
  exact J_iret C R dX6_digitAt_60 (Nat.le_of_ble_eq_true rfl) (Nat.le_of_ble_eq_true rfl) rfl rfl
set_option maxHeartbeats 4000000 in
set_option maxRecDepth 100000 in
theorem c_X6_digitAt_no2t (U : jU) (m ys ya yt yn yx yr yd : Nat) (xth xsm xhs xln xat xiw xrm xfb xlr xdm : Int32) (gs : Nat → Int32) (p0 p1 p2 : Int32) (v_0 : p1 = 1) (v_1 : isReg p0) (v_2 : isRec p1) (v_3 : ¬ inF p2 0 ((gs 0 / 2) - 1)) : Fn U yX6_digitAt wsX6_digitAt { frames := 2, cells := 0, slots := 0, locals := 47 } [.ref m, .int p0, .int p1, .int p2] [(m, .inr (6, [.int xth, .ref ys, .ref ya, .ref yt, .int xsm, .ref yn, .int xhs, .ref yx, .int xln, .int xat, .int xiw, .ref yr, .int xrm, .int xfb, .int xlr, .ref yd, .int xdm])), (ys, .inl (U.2.2.1 0, 16, .inl gs))] (some (.int (0 : Int32))) [(m, .inr (6, [.int (1 : Int32), .ref ys, .ref ya, .ref yt, .int xsm, .ref yn, .int xhs, .ref yx, .int xln, .int xat, .int xiw, .ref yr, .int xrm, .int xfb, .int xlr, .ref yd, .int xdm])), (ys, .inl (U.2.2.1 0, 16, .inl gs))] 0 0 := by
  refine Fn_of (cc := cX6_digitAt) (maxL := 5) (ret := (some .int)) [some (.ref m), some (.int p0), some (.int p1), some (.int p2), none] (by decide +kernel) rfl (jcat rfl) (Nat.le_of_ble_eq_true rfl) rfl (fun k C R hin hnL => ?_)
  have hN : ∀ i, i < 5 → i < k.2.2.2.2.2.2.2.2.2.2.2.1 := fun i h => by rw [hnL]; exact h
  refine J_aload_n C dX6_digitAt_0 rfl rfl ?_
  refine J_iconst C (v := (0 : Int32)) dX6_digitAt_1 (by decide) ?_
  refine J_put C tyX6 0 0 [(m, .inr (6, [.int (0 : Int32), .ref ys, .ref ya, .ref yt, .int xsm, .ref yn, .int xhs, .ref yx, .int xln, .int xat, .int xiw, .ref yr, .int xrm, .int xfb, .int xlr, .ref yd, .int xdm])), (ys, .inl (U.2.2.1 0, 16, .inl gs))] rfl rfl i_X6_digitAt_X6 tyX6_ok nmX6 (by decide) k_X6_digitAt_31 rfl rfl rfl rfl (Nat.le_of_ble_eq_true rfl) rfl dX6_digitAt_2 ?_
  refine J_iload_n C dX6_digitAt_5 rfl rfl ?_
  refine J_iconst C (v := (1 : Int32)) dX6_digitAt_6 (by decide) ?_
  refine J_icmp_ne C 21 dX6_digitAt_7 (by decide) (fun h => absurd h (fun hh => hh v_0)) (fun _ => ?_)
  refine J_aload_n C dX6_digitAt_10 rfl rfl ?_
  refine J_get C 0 1 rfl rfl i_X6_digitAt_X6 (by decide) k_X6_digitAt_7 rfl rfl dX6_digitAt_11 ?_
  refine J_iconst C (v := (0 : Int32)) dX6_digitAt_14 (by decide) ?_
  refine J_iald C 1 rfl (vpl n_0 (by decide) (by decide)) (congrArg gs n_0) dX6_digitAt_15 ?_
  refine J_iconst C (v := (2 : Int32)) dX6_digitAt_16 (by decide) ?_
  refine J_idiv C (v := (gs 0) / (2 : Int32)) dX6_digitAt_17 (by decide) rfl ?_
  refine J_goto C 27 dX6_digitAt_18 (by decide) ?_
  refine J_istore C [some (.ref m), some (.int p0), some (.int p1), some (.int p2), some (.int ((gs 0) / (2 : Int32)))] dX6_digitAt_27 (hN 4 (by decide)) rfl ?_
  refine J_iload_n C dX6_digitAt_29 rfl rfl ?_
  refine J_callS C (c_X6_isRegister U p0 ) gX6_digitAt_X6_isRegister (n := 1) rfl rfl rfl (by decide +kernel) ⟨Nat.le_of_ble_eq_true rfl, Nat.le_of_ble_eq_true rfl⟩ rfl (rest := []) rfl (Nat.le_of_ble_eq_true rfl) [(m, .inr (6, [.int (0 : Int32), .ref ys, .ref ya, .ref yt, .int xsm, .ref yn, .int xhs, .ref yx, .int xln, .int xat, .int xiw, .ref yr, .int xrm, .int xfb, .int xlr, .ref yd, .int xdm])), (ys, .inl (U.2.2.1 0, 16, .inl gs))] [] [0, 1] [0, 1] (wr := [(m, .inr (6, [.int (0 : Int32), .ref ys, .ref ya, .ref yt, .int xsm, .ref yn, .int xhs, .ref yx, .int xln, .int xat, .int xiw, .ref yr, .int xrm, .int xfb, .int xlr, .ref yd, .int xdm])), (ys, .inl (U.2.2.1 0, 16, .inl gs))]) rfl rfl rfl rfl (by decide) rfl rfl  dX6_digitAt_30 ⟨Nat.le_of_ble_eq_true rfl, Nat.le_of_ble_eq_true rfl⟩ [.int (b2i (isReg p0))] rfl ?_
  refine J_if_eq_b C 55 dX6_digitAt_33 (by decide) (fun h => absurd h (fun hh => hh v_1)) (fun _ => ?_)
  refine J_iload_n C dX6_digitAt_36 rfl rfl ?_
  refine J_callS C (c_X6_isRecoding U p1 ) gX6_digitAt_X6_isRecoding (n := 1) rfl rfl rfl (by decide +kernel) ⟨Nat.le_of_ble_eq_true rfl, Nat.le_of_ble_eq_true rfl⟩ rfl (rest := []) rfl (Nat.le_of_ble_eq_true rfl) [(m, .inr (6, [.int (0 : Int32), .ref ys, .ref ya, .ref yt, .int xsm, .ref yn, .int xhs, .ref yx, .int xln, .int xat, .int xiw, .ref yr, .int xrm, .int xfb, .int xlr, .ref yd, .int xdm])), (ys, .inl (U.2.2.1 0, 16, .inl gs))] [] [0, 1] [0, 1] (wr := [(m, .inr (6, [.int (0 : Int32), .ref ys, .ref ya, .ref yt, .int xsm, .ref yn, .int xhs, .ref yx, .int xln, .int xat, .int xiw, .ref yr, .int xrm, .int xfb, .int xlr, .ref yd, .int xdm])), (ys, .inl (U.2.2.1 0, 16, .inl gs))]) rfl rfl rfl rfl (by decide) rfl rfl  dX6_digitAt_37 ⟨Nat.le_of_ble_eq_true rfl, Nat.le_of_ble_eq_true rfl⟩ [.int (b2i (isRec p1))] rfl ?_
  refine J_if_eq_b C 61 dX6_digitAt_40 (by decide) (fun h => absurd h (fun hh => hh v_2)) (fun _ => ?_)
  refine J_iload_n C dX6_digitAt_43 rfl rfl ?_
  refine J_iconst C (v := (0 : Int32)) dX6_digitAt_44 (by decide) ?_
  refine J_iload C dX6_digitAt_45 rfl ?_
  refine J_iconst C (v := (1 : Int32)) dX6_digitAt_47 (by decide) ?_
  refine J_isub C (v := ((gs 0) / (2 : Int32)) - (1 : Int32)) dX6_digitAt_48 rfl ?_
  refine J_callS C (c_X6_in U p2 (0 : Int32) (((gs 0) / (2 : Int32)) - (1 : Int32)) ) gX6_digitAt_X6_in (n := 3) rfl rfl rfl (by decide +kernel) ⟨Nat.le_of_ble_eq_true rfl, Nat.le_of_ble_eq_true rfl⟩ rfl (rest := []) rfl (Nat.le_of_ble_eq_true rfl) [(m, .inr (6, [.int (0 : Int32), .ref ys, .ref ya, .ref yt, .int xsm, .ref yn, .int xhs, .ref yx, .int xln, .int xat, .int xiw, .ref yr, .int xrm, .int xfb, .int xlr, .ref yd, .int xdm])), (ys, .inl (U.2.2.1 0, 16, .inl gs))] [] [0, 1] [0, 1] (wr := [(m, .inr (6, [.int (0 : Int32), .ref ys, .ref ya, .ref yt, .int xsm, .ref yn, .int xhs, .ref yx, .int xln, .int xat, .int xiw, .ref yr, .int xrm, .int xfb, .int xlr, .ref yd, .int xdm])), (ys, .inl (U.2.2.1 0, 16, .inl gs))]) rfl rfl rfl rfl (by decide) rfl rfl  dX6_digitAt_49 ⟨Nat.le_of_ble_eq_true rfl, Nat.le_of_ble_eq_true rfl⟩ [.int (b2i (inF p2 (0 : Int32) (((gs 0) / (2 : Int32)) - (1 : Int32))))] rfl ?_
  refine J_if_ne_b C 61 dX6_digitAt_52 (by decide) (fun h => absurd h v_3) (fun _ => ?_)
  refine J_aload_n C dX6_digitAt_55 rfl rfl ?_
  refine J_iconst C (v := (1 : Int32)) dX6_digitAt_56 (by decide) ?_
  refine J_callV C (c_X6_fails U m ys ya yt yn yx yr yd (0 : Int32) xsm xhs xln xat xiw xrm xfb xlr xdm (1 : Int32) ) gX6_digitAt_X6_fails (n := 1) rfl rfl rfl (by decide +kernel) ⟨Nat.le_of_ble_eq_true rfl, Nat.le_of_ble_eq_true rfl⟩ 0 rfl rfl rfl (rest := []) rfl (Nat.le_of_ble_eq_true rfl) [(m, .inr (6, [.int (1 : Int32), .ref ys, .ref ya, .ref yt, .int xsm, .ref yn, .int xhs, .ref yx, .int xln, .int xat, .int xiw, .ref yr, .int xrm, .int xfb, .int xlr, .ref yd, .int xdm])), (ys, .inl (U.2.2.1 0, 16, .inl gs))] [0] [1] [1, 0] (wr := [(ys, .inl (U.2.2.1 0, 16, .inl gs))]) rfl rfl rfl rfl (by decide) rfl rfl  dX6_digitAt_57 ⟨Nat.le_of_ble_eq_true rfl, Nat.le_of_ble_eq_true rfl⟩ [.int (0 : Int32)] rfl ?_
  exact J_iret C R dX6_digitAt_60 (Nat.le_of_ble_eq_true rfl) (Nat.le_of_ble_eq_true rfl) rfl rfl
set_option maxHeartbeats 4000000 in
set_option maxRecDepth 100000 in
theorem c_X6_digitAt_no3t (U : jU) (m ys ya yt yn yx yr yd : Nat) (xth xsm xhs xln xat xiw xrm xfb xlr xdm : Int32) (gs : Nat → Int32) (p0 p1 p2 : Int32) (v_0 : p1 = 1) (v_1 : isReg p0) (v_2 : ¬ isRec p1) : Fn U yX6_digitAt wsX6_digitAt { frames := 2, cells := 0, slots := 0, locals := 47 } [.ref m, .int p0, .int p1, .int p2] [(m, .inr (6, [.int xth, .ref ys, .ref ya, .ref yt, .int xsm, .ref yn, .int xhs, .ref yx, .int xln, .int xat, .int xiw, .ref yr, .int xrm, .int xfb, .int xlr, .ref yd, .int xdm])), (ys, .inl (U.2.2.1 0, 16, .inl gs))] (some (.int (0 : Int32))) [(m, .inr (6, [.int (2 : Int32), .ref ys, .ref ya, .ref yt, .int xsm, .ref yn, .int xhs, .ref yx, .int xln, .int xat, .int xiw, .ref yr, .int xrm, .int xfb, .int xlr, .ref yd, .int xdm])), (ys, .inl (U.2.2.1 0, 16, .inl gs))] 0 0 := by
  refine Fn_of (cc := cX6_digitAt) (maxL := 5) (ret := (some .int)) [some (.ref m), some (.int p0), some (.int p1), some (.int p2), none] (by decide +kernel) rfl (jcat rfl) (Nat.le_of_ble_eq_true rfl) rfl (fun k C R hin hnL => ?_)
  have hN : ∀ i, i < 5 → i < k.2.2.2.2.2.2.2.2.2.2.2.1 := fun i h => by rw [hnL]; exact h
  refine J_aload_n C dX6_digitAt_0 rfl rfl ?_
  refine J_iconst C (v := (0 : Int32)) dX6_digitAt_1 (by decide) ?_
  refine J_put C tyX6 0 0 [(m, .inr (6, [.int (0 : Int32), .ref ys, .ref ya, .ref yt, .int xsm, .ref yn, .int xhs, .ref yx, .int xln, .int xat, .int xiw, .ref yr, .int xrm, .int xfb, .int xlr, .ref yd, .int xdm])), (ys, .inl (U.2.2.1 0, 16, .inl gs))] rfl rfl i_X6_digitAt_X6 tyX6_ok nmX6 (by decide) k_X6_digitAt_31 rfl rfl rfl rfl (Nat.le_of_ble_eq_true rfl) rfl dX6_digitAt_2 ?_
  refine J_iload_n C dX6_digitAt_5 rfl rfl ?_
  refine J_iconst C (v := (1 : Int32)) dX6_digitAt_6 (by decide) ?_
  refine J_icmp_ne C 21 dX6_digitAt_7 (by decide) (fun h => absurd h (fun hh => hh v_0)) (fun _ => ?_)
  refine J_aload_n C dX6_digitAt_10 rfl rfl ?_
  refine J_get C 0 1 rfl rfl i_X6_digitAt_X6 (by decide) k_X6_digitAt_7 rfl rfl dX6_digitAt_11 ?_
  refine J_iconst C (v := (0 : Int32)) dX6_digitAt_14 (by decide) ?_
  refine J_iald C 1 rfl (vpl n_0 (by decide) (by decide)) (congrArg gs n_0) dX6_digitAt_15 ?_
  refine J_iconst C (v := (2 : Int32)) dX6_digitAt_16 (by decide) ?_
  refine J_idiv C (v := (gs 0) / (2 : Int32)) dX6_digitAt_17 (by decide) rfl ?_
  refine J_goto C 27 dX6_digitAt_18 (by decide) ?_
  refine J_istore C [some (.ref m), some (.int p0), some (.int p1), some (.int p2), some (.int ((gs 0) / (2 : Int32)))] dX6_digitAt_27 (hN 4 (by decide)) rfl ?_
  refine J_iload_n C dX6_digitAt_29 rfl rfl ?_
  refine J_callS C (c_X6_isRegister U p0 ) gX6_digitAt_X6_isRegister (n := 1) rfl rfl rfl (by decide +kernel) ⟨Nat.le_of_ble_eq_true rfl, Nat.le_of_ble_eq_true rfl⟩ rfl (rest := []) rfl (Nat.le_of_ble_eq_true rfl) [(m, .inr (6, [.int (0 : Int32), .ref ys, .ref ya, .ref yt, .int xsm, .ref yn, .int xhs, .ref yx, .int xln, .int xat, .int xiw, .ref yr, .int xrm, .int xfb, .int xlr, .ref yd, .int xdm])), (ys, .inl (U.2.2.1 0, 16, .inl gs))] [] [0, 1] [0, 1] (wr := [(m, .inr (6, [.int (0 : Int32), .ref ys, .ref ya, .ref yt, .int xsm, .ref yn, .int xhs, .ref yx, .int xln, .int xat, .int xiw, .ref yr, .int xrm, .int xfb, .int xlr, .ref yd, .int xdm])), (ys, .inl (U.2.2.1 0, 16, .inl gs))]) rfl rfl rfl rfl (by decide) rfl rfl  dX6_digitAt_30 ⟨Nat.le_of_ble_eq_true rfl, Nat.le_of_ble_eq_true rfl⟩ [.int (b2i (isReg p0))] rfl ?_
  refine J_if_eq_b C 55 dX6_digitAt_33 (by decide) (fun h => absurd h (fun hh => hh v_1)) (fun _ => ?_)
  refine J_iload_n C dX6_digitAt_36 rfl rfl ?_
  refine J_callS C (c_X6_isRecoding U p1 ) gX6_digitAt_X6_isRecoding (n := 1) rfl rfl rfl (by decide +kernel) ⟨Nat.le_of_ble_eq_true rfl, Nat.le_of_ble_eq_true rfl⟩ rfl (rest := []) rfl (Nat.le_of_ble_eq_true rfl) [(m, .inr (6, [.int (0 : Int32), .ref ys, .ref ya, .ref yt, .int xsm, .ref yn, .int xhs, .ref yx, .int xln, .int xat, .int xiw, .ref yr, .int xrm, .int xfb, .int xlr, .ref yd, .int xdm])), (ys, .inl (U.2.2.1 0, 16, .inl gs))] [] [0, 1] [0, 1] (wr := [(m, .inr (6, [.int (0 : Int32), .ref ys, .ref ya, .ref yt, .int xsm, .ref yn, .int xhs, .ref yx, .int xln, .int xat, .int xiw, .ref yr, .int xrm, .int xfb, .int xlr, .ref yd, .int xdm])), (ys, .inl (U.2.2.1 0, 16, .inl gs))]) rfl rfl rfl rfl (by decide) rfl rfl  dX6_digitAt_37 ⟨Nat.le_of_ble_eq_true rfl, Nat.le_of_ble_eq_true rfl⟩ [.int (b2i (isRec p1))] rfl ?_
  refine J_if_eq_b C 61 dX6_digitAt_40 (by decide) (fun _ => ?_) (fun h => absurd h v_2)
  refine J_iload_n C dX6_digitAt_61 rfl rfl ?_
  refine J_callS C (c_X6_isRecoding U p1 ) gX6_digitAt_X6_isRecoding (n := 1) rfl rfl rfl (by decide +kernel) ⟨Nat.le_of_ble_eq_true rfl, Nat.le_of_ble_eq_true rfl⟩ rfl (rest := []) rfl (Nat.le_of_ble_eq_true rfl) [(m, .inr (6, [.int (0 : Int32), .ref ys, .ref ya, .ref yt, .int xsm, .ref yn, .int xhs, .ref yx, .int xln, .int xat, .int xiw, .ref yr, .int xrm, .int xfb, .int xlr, .ref yd, .int xdm])), (ys, .inl (U.2.2.1 0, 16, .inl gs))] [] [0, 1] [0, 1] (wr := [(m, .inr (6, [.int (0 : Int32), .ref ys, .ref ya, .ref yt, .int xsm, .ref yn, .int xhs, .ref yx, .int xln, .int xat, .int xiw, .ref yr, .int xrm, .int xfb, .int xlr, .ref yd, .int xdm])), (ys, .inl (U.2.2.1 0, 16, .inl gs))]) rfl rfl rfl rfl (by decide) rfl rfl  dX6_digitAt_62 ⟨Nat.le_of_ble_eq_true rfl, Nat.le_of_ble_eq_true rfl⟩ [.int (b2i (isRec p1))] rfl ?_
  refine J_if_ne_b C 74 dX6_digitAt_65 (by decide) (fun h => absurd h v_2) (fun _ => ?_)
  refine J_aload_n C dX6_digitAt_68 rfl rfl ?_
  refine J_iconst C (v := (2 : Int32)) dX6_digitAt_69 (by decide) ?_
  refine J_callV C (c_X6_fails U m ys ya yt yn yx yr yd (0 : Int32) xsm xhs xln xat xiw xrm xfb xlr xdm (2 : Int32) ) gX6_digitAt_X6_fails (n := 1) rfl rfl rfl (by decide +kernel) ⟨Nat.le_of_ble_eq_true rfl, Nat.le_of_ble_eq_true rfl⟩ 0 rfl rfl rfl (rest := []) rfl (Nat.le_of_ble_eq_true rfl) [(m, .inr (6, [.int (2 : Int32), .ref ys, .ref ya, .ref yt, .int xsm, .ref yn, .int xhs, .ref yx, .int xln, .int xat, .int xiw, .ref yr, .int xrm, .int xfb, .int xlr, .ref yd, .int xdm])), (ys, .inl (U.2.2.1 0, 16, .inl gs))] [0] [1] [1, 0] (wr := [(ys, .inl (U.2.2.1 0, 16, .inl gs))]) rfl rfl rfl rfl (by decide) rfl rfl  dX6_digitAt_70 ⟨Nat.le_of_ble_eq_true rfl, Nat.le_of_ble_eq_true rfl⟩ [.int (0 : Int32)] rfl ?_
  exact J_iret C R dX6_digitAt_73 (Nat.le_of_ble_eq_true rfl) (Nat.le_of_ble_eq_true rfl) rfl rfl
set_option maxHeartbeats 4000000 in
set_option maxRecDepth 100000 in
theorem c_X6_digitAt_no4t (U : jU) (m ys ya yt yn yx yr yd : Nat) (xth xsm xhs xln xat xiw xrm xfb xlr xdm : Int32) (gs : Nat → Int32) (p0 p1 p2 : Int32) (v_0 : p1 = 1) (v_1 : isReg p0) (v_2 : isRec p1) (v_3 : inF p2 0 ((gs 0 / 2) - 1)) (v_4 : p1 = 1 ∧ rem2 (gs 0) = 1) : Fn U yX6_digitAt wsX6_digitAt { frames := 2, cells := 0, slots := 0, locals := 47 } [.ref m, .int p0, .int p1, .int p2] [(m, .inr (6, [.int xth, .ref ys, .ref ya, .ref yt, .int xsm, .ref yn, .int xhs, .ref yx, .int xln, .int xat, .int xiw, .ref yr, .int xrm, .int xfb, .int xlr, .ref yd, .int xdm])), (ys, .inl (U.2.2.1 0, 16, .inl gs))] (some (.int (0 : Int32))) [(m, .inr (6, [.int (3 : Int32), .ref ys, .ref ya, .ref yt, .int xsm, .ref yn, .int xhs, .ref yx, .int xln, .int xat, .int xiw, .ref yr, .int xrm, .int xfb, .int xlr, .ref yd, .int xdm])), (ys, .inl (U.2.2.1 0, 16, .inl gs))] 0 0 := by
  refine Fn_of (cc := cX6_digitAt) (maxL := 5) (ret := (some .int)) [some (.ref m), some (.int p0), some (.int p1), some (.int p2), none] (by decide +kernel) rfl (jcat rfl) (Nat.le_of_ble_eq_true rfl) rfl (fun k C R hin hnL => ?_)
  have hN : ∀ i, i < 5 → i < k.2.2.2.2.2.2.2.2.2.2.2.1 := fun i h => by rw [hnL]; exact h
  refine J_aload_n C dX6_digitAt_0 rfl rfl ?_
  refine J_iconst C (v := (0 : Int32)) dX6_digitAt_1 (by decide) ?_
  refine J_put C tyX6 0 0 [(m, .inr (6, [.int (0 : Int32), .ref ys, .ref ya, .ref yt, .int xsm, .ref yn, .int xhs, .ref yx, .int xln, .int xat, .int xiw, .ref yr, .int xrm, .int xfb, .int xlr, .ref yd, .int xdm])), (ys, .inl (U.2.2.1 0, 16, .inl gs))] rfl rfl i_X6_digitAt_X6 tyX6_ok nmX6 (by decide) k_X6_digitAt_31 rfl rfl rfl rfl (Nat.le_of_ble_eq_true rfl) rfl dX6_digitAt_2 ?_
  refine J_iload_n C dX6_digitAt_5 rfl rfl ?_
  refine J_iconst C (v := (1 : Int32)) dX6_digitAt_6 (by decide) ?_
  refine J_icmp_ne C 21 dX6_digitAt_7 (by decide) (fun h => absurd h (fun hh => hh v_0)) (fun _ => ?_)
  refine J_aload_n C dX6_digitAt_10 rfl rfl ?_
  refine J_get C 0 1 rfl rfl i_X6_digitAt_X6 (by decide) k_X6_digitAt_7 rfl rfl dX6_digitAt_11 ?_
  refine J_iconst C (v := (0 : Int32)) dX6_digitAt_14 (by decide) ?_
  refine J_iald C 1 rfl (vpl n_0 (by decide) (by decide)) (congrArg gs n_0) dX6_digitAt_15 ?_
  refine J_iconst C (v := (2 : Int32)) dX6_digitAt_16 (by decide) ?_
  refine J_idiv C (v := (gs 0) / (2 : Int32)) dX6_digitAt_17 (by decide) rfl ?_
  refine J_goto C 27 dX6_digitAt_18 (by decide) ?_
  refine J_istore C [some (.ref m), some (.int p0), some (.int p1), some (.int p2), some (.int ((gs 0) / (2 : Int32)))] dX6_digitAt_27 (hN 4 (by decide)) rfl ?_
  refine J_iload_n C dX6_digitAt_29 rfl rfl ?_
  refine J_callS C (c_X6_isRegister U p0 ) gX6_digitAt_X6_isRegister (n := 1) rfl rfl rfl (by decide +kernel) ⟨Nat.le_of_ble_eq_true rfl, Nat.le_of_ble_eq_true rfl⟩ rfl (rest := []) rfl (Nat.le_of_ble_eq_true rfl) [(m, .inr (6, [.int (0 : Int32), .ref ys, .ref ya, .ref yt, .int xsm, .ref yn, .int xhs, .ref yx, .int xln, .int xat, .int xiw, .ref yr, .int xrm, .int xfb, .int xlr, .ref yd, .int xdm])), (ys, .inl (U.2.2.1 0, 16, .inl gs))] [] [0, 1] [0, 1] (wr := [(m, .inr (6, [.int (0 : Int32), .ref ys, .ref ya, .ref yt, .int xsm, .ref yn, .int xhs, .ref yx, .int xln, .int xat, .int xiw, .ref yr, .int xrm, .int xfb, .int xlr, .ref yd, .int xdm])), (ys, .inl (U.2.2.1 0, 16, .inl gs))]) rfl rfl rfl rfl (by decide) rfl rfl  dX6_digitAt_30 ⟨Nat.le_of_ble_eq_true rfl, Nat.le_of_ble_eq_true rfl⟩ [.int (b2i (isReg p0))] rfl ?_
  refine J_if_eq_b C 55 dX6_digitAt_33 (by decide) (fun h => absurd h (fun hh => hh v_1)) (fun _ => ?_)
  refine J_iload_n C dX6_digitAt_36 rfl rfl ?_
  refine J_callS C (c_X6_isRecoding U p1 ) gX6_digitAt_X6_isRecoding (n := 1) rfl rfl rfl (by decide +kernel) ⟨Nat.le_of_ble_eq_true rfl, Nat.le_of_ble_eq_true rfl⟩ rfl (rest := []) rfl (Nat.le_of_ble_eq_true rfl) [(m, .inr (6, [.int (0 : Int32), .ref ys, .ref ya, .ref yt, .int xsm, .ref yn, .int xhs, .ref yx, .int xln, .int xat, .int xiw, .ref yr, .int xrm, .int xfb, .int xlr, .ref yd, .int xdm])), (ys, .inl (U.2.2.1 0, 16, .inl gs))] [] [0, 1] [0, 1] (wr := [(m, .inr (6, [.int (0 : Int32), .ref ys, .ref ya, .ref yt, .int xsm, .ref yn, .int xhs, .ref yx, .int xln, .int xat, .int xiw, .ref yr, .int xrm, .int xfb, .int xlr, .ref yd, .int xdm])), (ys, .inl (U.2.2.1 0, 16, .inl gs))]) rfl rfl rfl rfl (by decide) rfl rfl  dX6_digitAt_37 ⟨Nat.le_of_ble_eq_true rfl, Nat.le_of_ble_eq_true rfl⟩ [.int (b2i (isRec p1))] rfl ?_
  refine J_if_eq_b C 61 dX6_digitAt_40 (by decide) (fun h => absurd h (fun hh => hh v_2)) (fun _ => ?_)
  refine J_iload_n C dX6_digitAt_43 rfl rfl ?_
  refine J_iconst C (v := (0 : Int32)) dX6_digitAt_44 (by decide) ?_
  refine J_iload C dX6_digitAt_45 rfl ?_
  refine J_iconst C (v := (1 : Int32)) dX6_digitAt_47 (by decide) ?_
  refine J_isub C (v := ((gs 0) / (2 : Int32)) - (1 : Int32)) dX6_digitAt_48 rfl ?_
  refine J_callS C (c_X6_in U p2 (0 : Int32) (((gs 0) / (2 : Int32)) - (1 : Int32)) ) gX6_digitAt_X6_in (n := 3) rfl rfl rfl (by decide +kernel) ⟨Nat.le_of_ble_eq_true rfl, Nat.le_of_ble_eq_true rfl⟩ rfl (rest := []) rfl (Nat.le_of_ble_eq_true rfl) [(m, .inr (6, [.int (0 : Int32), .ref ys, .ref ya, .ref yt, .int xsm, .ref yn, .int xhs, .ref yx, .int xln, .int xat, .int xiw, .ref yr, .int xrm, .int xfb, .int xlr, .ref yd, .int xdm])), (ys, .inl (U.2.2.1 0, 16, .inl gs))] [] [0, 1] [0, 1] (wr := [(m, .inr (6, [.int (0 : Int32), .ref ys, .ref ya, .ref yt, .int xsm, .ref yn, .int xhs, .ref yx, .int xln, .int xat, .int xiw, .ref yr, .int xrm, .int xfb, .int xlr, .ref yd, .int xdm])), (ys, .inl (U.2.2.1 0, 16, .inl gs))]) rfl rfl rfl rfl (by decide) rfl rfl  dX6_digitAt_49 ⟨Nat.le_of_ble_eq_true rfl, Nat.le_of_ble_eq_true rfl⟩ [.int (b2i (inF p2 (0 : Int32) (((gs 0) / (2 : Int32)) - (1 : Int32))))] rfl ?_
  refine J_if_ne_b C 61 dX6_digitAt_52 (by decide) (fun _ => ?_) (fun h => absurd v_3 h)
  refine J_iload_n C dX6_digitAt_61 rfl rfl ?_
  refine J_callS C (c_X6_isRecoding U p1 ) gX6_digitAt_X6_isRecoding (n := 1) rfl rfl rfl (by decide +kernel) ⟨Nat.le_of_ble_eq_true rfl, Nat.le_of_ble_eq_true rfl⟩ rfl (rest := []) rfl (Nat.le_of_ble_eq_true rfl) [(m, .inr (6, [.int (0 : Int32), .ref ys, .ref ya, .ref yt, .int xsm, .ref yn, .int xhs, .ref yx, .int xln, .int xat, .int xiw, .ref yr, .int xrm, .int xfb, .int xlr, .ref yd, .int xdm])), (ys, .inl (U.2.2.1 0, 16, .inl gs))] [] [0, 1] [0, 1] (wr := [(m, .inr (6, [.int (0 : Int32), .ref ys, .ref ya, .ref yt, .int xsm, .ref yn, .int xhs, .ref yx, .int xln, .int xat, .int xiw, .ref yr, .int xrm, .int xfb, .int xlr, .ref yd, .int xdm])), (ys, .inl (U.2.2.1 0, 16, .inl gs))]) rfl rfl rfl rfl (by decide) rfl rfl  dX6_digitAt_62 ⟨Nat.le_of_ble_eq_true rfl, Nat.le_of_ble_eq_true rfl⟩ [.int (b2i (isRec p1))] rfl ?_
  refine J_if_ne_b C 74 dX6_digitAt_65 (by decide) (fun _ => ?_) (fun h => absurd v_2 h)
  refine J_aload_n C dX6_digitAt_74 rfl rfl ?_
  refine J_iload_n C dX6_digitAt_75 rfl rfl ?_
  refine J_callV C (c_X6_isOdd U m ys ya yt yn yx yr yd (0 : Int32) xsm xhs xln xat xiw xrm xfb xlr xdm gs p1 ) gX6_digitAt_X6_isOdd (n := 1) rfl rfl rfl (by decide +kernel) ⟨Nat.le_of_ble_eq_true rfl, Nat.le_of_ble_eq_true rfl⟩ 0 rfl rfl rfl (rest := []) rfl (Nat.le_of_ble_eq_true rfl) [(m, .inr (6, [.int (0 : Int32), .ref ys, .ref ya, .ref yt, .int xsm, .ref yn, .int xhs, .ref yx, .int xln, .int xat, .int xiw, .ref yr, .int xrm, .int xfb, .int xlr, .ref yd, .int xdm])), (ys, .inl (U.2.2.1 0, 16, .inl gs))] [0, 1] [] [0, 1] (wr := []) rfl rfl rfl rfl (by decide) rfl rfl  dX6_digitAt_76 ⟨Nat.le_of_ble_eq_true rfl, Nat.le_of_ble_eq_true rfl⟩ [.int (b2i (p1 = 1 ∧ rem2 (gs 0) = 1))] rfl ?_
  refine J_if_eq_b C 88 dX6_digitAt_79 (by decide) (fun h => absurd h (fun hh => hh v_4)) (fun _ => ?_)
  refine J_aload_n C dX6_digitAt_82 rfl rfl ?_
  refine J_iconst C (v := (3 : Int32)) dX6_digitAt_83 (by decide) ?_
  refine J_callV C (c_X6_fails U m ys ya yt yn yx yr yd (0 : Int32) xsm xhs xln xat xiw xrm xfb xlr xdm (3 : Int32) ) gX6_digitAt_X6_fails (n := 1) rfl rfl rfl (by decide +kernel) ⟨Nat.le_of_ble_eq_true rfl, Nat.le_of_ble_eq_true rfl⟩ 0 rfl rfl rfl (rest := []) rfl (Nat.le_of_ble_eq_true rfl) [(m, .inr (6, [.int (3 : Int32), .ref ys, .ref ya, .ref yt, .int xsm, .ref yn, .int xhs, .ref yx, .int xln, .int xat, .int xiw, .ref yr, .int xrm, .int xfb, .int xlr, .ref yd, .int xdm])), (ys, .inl (U.2.2.1 0, 16, .inl gs))] [0] [1] [1, 0] (wr := [(ys, .inl (U.2.2.1 0, 16, .inl gs))]) rfl rfl rfl rfl (by decide) rfl rfl  dX6_digitAt_84 ⟨Nat.le_of_ble_eq_true rfl, Nat.le_of_ble_eq_true rfl⟩ [.int (0 : Int32)] rfl ?_
  exact J_iret C R dX6_digitAt_87 (Nat.le_of_ble_eq_true rfl) (Nat.le_of_ble_eq_true rfl) rfl rfl
theorem k_X6_digitAt_28 : Cond.fieldLink RX6 28 "BoothOttersModel" "digit" "[I" ∈ wsX6_digitAt := List.mem_of_getElem? (i := 3) rfl
set_option maxHeartbeats 4000000 in
set_option maxRecDepth 100000 in
theorem c_X6_digitAt_okt (U : jU) (m ys ya yt yn yx yr yd : Nat) (xth xsm xhs xln xat xiw xrm xfb xlr xdm : Int32) (gs : Nat → Int32) (gd : Nat → Int32) (D : Nat) (p0 p1 p2 : Int32) (v_0 : p1 = 1) (v_1 : isReg p0) (v_2 : isRec p1) (v_3 : inF p2 0 ((gs 0 / 2) - 1)) (v_4 : ¬ (p1 = 1 ∧ rem2 (gs 0) = 1)) (hD : dcntF p1 (gs 0) = nI D) (hD9 : D ≤ 16) (hin9 : vp_in p2 17) : Fn U yX6_digitAt wsX6_digitAt { frames := 2, cells := 0, slots := 0, locals := 47 } [.ref m, .int p0, .int p1, .int p2] [(m, .inr (6, [.int xth, .ref ys, .ref ya, .ref yt, .int xsm, .ref yn, .int xhs, .ref yx, .int xln, .int xat, .int xiw, .ref yr, .int xrm, .int xfb, .int xlr, .ref yd, .int xdm])), (ys, .inl (U.2.2.1 0, 16, .inl gs)), (yd, .inl (U.2.2.1 0, 17, .inl gd))] (some (.int ((dgF (gs (1 + p0.toNatClampNeg)) p1 gd D) p2.toNatClampNeg))) [(m, .inr (6, [.int (0 : Int32), .ref ys, .ref ya, .ref yt, .int xsm, .ref yn, .int xhs, .ref yx, .int xln, .int xat, .int xiw, .ref yr, .int xrm, .int xfb, .int xlr, .ref yd, .int (dcntF p1 (gs 0))])), (ys, .inl (U.2.2.1 0, 16, .inl gs)), (yd, .inl (U.2.2.1 0, 17, .inl (dgF (gs (1 + p0.toNatClampNeg)) p1 gd D)))] 0 0 := by
  refine Fn_of (cc := cX6_digitAt) (maxL := 5) (ret := (some .int)) [some (.ref m), some (.int p0), some (.int p1), some (.int p2), none] (by decide +kernel) rfl (jcat rfl) (Nat.le_of_ble_eq_true rfl) rfl (fun k C R hin hnL => ?_)
  have hN : ∀ i, i < 5 → i < k.2.2.2.2.2.2.2.2.2.2.2.1 := fun i h => by rw [hnL]; exact h
  refine J_aload_n C dX6_digitAt_0 rfl rfl ?_
  refine J_iconst C (v := (0 : Int32)) dX6_digitAt_1 (by decide) ?_
  refine J_put C tyX6 0 0 [(m, .inr (6, [.int (0 : Int32), .ref ys, .ref ya, .ref yt, .int xsm, .ref yn, .int xhs, .ref yx, .int xln, .int xat, .int xiw, .ref yr, .int xrm, .int xfb, .int xlr, .ref yd, .int xdm])), (ys, .inl (U.2.2.1 0, 16, .inl gs)), (yd, .inl (U.2.2.1 0, 17, .inl gd))] rfl rfl i_X6_digitAt_X6 tyX6_ok nmX6 (by decide) k_X6_digitAt_31 rfl rfl rfl rfl (Nat.le_of_ble_eq_true rfl) rfl dX6_digitAt_2 ?_
  refine J_iload_n C dX6_digitAt_5 rfl rfl ?_
  refine J_iconst C (v := (1 : Int32)) dX6_digitAt_6 (by decide) ?_
  refine J_icmp_ne C 21 dX6_digitAt_7 (by decide) (fun h => absurd h (fun hh => hh v_0)) (fun _ => ?_)
  refine J_aload_n C dX6_digitAt_10 rfl rfl ?_
  refine J_get C 0 1 rfl rfl i_X6_digitAt_X6 (by decide) k_X6_digitAt_7 rfl rfl dX6_digitAt_11 ?_
  refine J_iconst C (v := (0 : Int32)) dX6_digitAt_14 (by decide) ?_
  refine J_iald C 1 rfl (vpl n_0 (by decide) (by decide)) (congrArg gs n_0) dX6_digitAt_15 ?_
  refine J_iconst C (v := (2 : Int32)) dX6_digitAt_16 (by decide) ?_
  refine J_idiv C (v := (gs 0) / (2 : Int32)) dX6_digitAt_17 (by decide) rfl ?_
  refine J_goto C 27 dX6_digitAt_18 (by decide) ?_
  refine J_istore C [some (.ref m), some (.int p0), some (.int p1), some (.int p2), some (.int ((gs 0) / (2 : Int32)))] dX6_digitAt_27 (hN 4 (by decide)) rfl ?_
  refine J_iload_n C dX6_digitAt_29 rfl rfl ?_
  refine J_callS C (c_X6_isRegister U p0 ) gX6_digitAt_X6_isRegister (n := 1) rfl rfl rfl (by decide +kernel) ⟨Nat.le_of_ble_eq_true rfl, Nat.le_of_ble_eq_true rfl⟩ rfl (rest := []) rfl (Nat.le_of_ble_eq_true rfl) [(m, .inr (6, [.int (0 : Int32), .ref ys, .ref ya, .ref yt, .int xsm, .ref yn, .int xhs, .ref yx, .int xln, .int xat, .int xiw, .ref yr, .int xrm, .int xfb, .int xlr, .ref yd, .int xdm])), (ys, .inl (U.2.2.1 0, 16, .inl gs)), (yd, .inl (U.2.2.1 0, 17, .inl gd))] [] [0, 1, 2] [0, 1, 2] (wr := [(m, .inr (6, [.int (0 : Int32), .ref ys, .ref ya, .ref yt, .int xsm, .ref yn, .int xhs, .ref yx, .int xln, .int xat, .int xiw, .ref yr, .int xrm, .int xfb, .int xlr, .ref yd, .int xdm])), (ys, .inl (U.2.2.1 0, 16, .inl gs)), (yd, .inl (U.2.2.1 0, 17, .inl gd))]) rfl rfl rfl rfl (by decide) rfl rfl  dX6_digitAt_30 ⟨Nat.le_of_ble_eq_true rfl, Nat.le_of_ble_eq_true rfl⟩ [.int (b2i (isReg p0))] rfl ?_
  refine J_if_eq_b C 55 dX6_digitAt_33 (by decide) (fun h => absurd h (fun hh => hh v_1)) (fun _ => ?_)
  refine J_iload_n C dX6_digitAt_36 rfl rfl ?_
  refine J_callS C (c_X6_isRecoding U p1 ) gX6_digitAt_X6_isRecoding (n := 1) rfl rfl rfl (by decide +kernel) ⟨Nat.le_of_ble_eq_true rfl, Nat.le_of_ble_eq_true rfl⟩ rfl (rest := []) rfl (Nat.le_of_ble_eq_true rfl) [(m, .inr (6, [.int (0 : Int32), .ref ys, .ref ya, .ref yt, .int xsm, .ref yn, .int xhs, .ref yx, .int xln, .int xat, .int xiw, .ref yr, .int xrm, .int xfb, .int xlr, .ref yd, .int xdm])), (ys, .inl (U.2.2.1 0, 16, .inl gs)), (yd, .inl (U.2.2.1 0, 17, .inl gd))] [] [0, 1, 2] [0, 1, 2] (wr := [(m, .inr (6, [.int (0 : Int32), .ref ys, .ref ya, .ref yt, .int xsm, .ref yn, .int xhs, .ref yx, .int xln, .int xat, .int xiw, .ref yr, .int xrm, .int xfb, .int xlr, .ref yd, .int xdm])), (ys, .inl (U.2.2.1 0, 16, .inl gs)), (yd, .inl (U.2.2.1 0, 17, .inl gd))]) rfl rfl rfl rfl (by decide) rfl rfl  dX6_digitAt_37 ⟨Nat.le_of_ble_eq_true rfl, Nat.le_of_ble_eq_true rfl⟩ [.int (b2i (isRec p1))] rfl ?_
  refine J_if_eq_b C 61 dX6_digitAt_40 (by decide) (fun h => absurd h (fun hh => hh v_2)) (fun _ => ?_)
  refine J_iload_n C dX6_digitAt_43 rfl rfl ?_
  refine J_iconst C (v := (0 : Int32)) dX6_digitAt_44 (by decide) ?_
  refine J_iload C dX6_digitAt_45 rfl ?_
  refine J_iconst C (v := (1 : Int32)) dX6_digitAt_47 (by decide) ?_
  refine J_isub C (v := ((gs 0) / (2 : Int32)) - (1 : Int32)) dX6_digitAt_48 rfl ?_
  refine J_callS C (c_X6_in U p2 (0 : Int32) (((gs 0) / (2 : Int32)) - (1 : Int32)) ) gX6_digitAt_X6_in (n := 3) rfl rfl rfl (by decide +kernel) ⟨Nat.le_of_ble_eq_true rfl, Nat.le_of_ble_eq_true rfl⟩ rfl (rest := []) rfl (Nat.le_of_ble_eq_true rfl) [(m, .inr (6, [.int (0 : Int32), .ref ys, .ref ya, .ref yt, .int xsm, .ref yn, .int xhs, .ref yx, .int xln, .int xat, .int xiw, .ref yr, .int xrm, .int xfb, .int xlr, .ref yd, .int xdm])), (ys, .inl (U.2.2.1 0, 16, .inl gs)), (yd, .inl (U.2.2.1 0, 17, .inl gd))] [] [0, 1, 2] [0, 1, 2] (wr := [(m, .inr (6, [.int (0 : Int32), .ref ys, .ref ya, .ref yt, .int xsm, .ref yn, .int xhs, .ref yx, .int xln, .int xat, .int xiw, .ref yr, .int xrm, .int xfb, .int xlr, .ref yd, .int xdm])), (ys, .inl (U.2.2.1 0, 16, .inl gs)), (yd, .inl (U.2.2.1 0, 17, .inl gd))]) rfl rfl rfl rfl (by decide) rfl rfl  dX6_digitAt_49 ⟨Nat.le_of_ble_eq_true rfl, Nat.le_of_ble_eq_true rfl⟩ [.int (b2i (inF p2 (0 : Int32) (((gs 0) / (2 : Int32)) - (1 : Int32))))] rfl ?_
  refine J_if_ne_b C 61 dX6_digitAt_52 (by decide) (fun _ => ?_) (fun h => absurd v_3 h)
  refine J_iload_n C dX6_digitAt_61 rfl rfl ?_
  refine J_callS C (c_X6_isRecoding U p1 ) gX6_digitAt_X6_isRecoding (n := 1) rfl rfl rfl (by decide +kernel) ⟨Nat.le_of_ble_eq_true rfl, Nat.le_of_ble_eq_true rfl⟩ rfl (rest := []) rfl (Nat.le_of_ble_eq_true rfl) [(m, .inr (6, [.int (0 : Int32), .ref ys, .ref ya, .ref yt, .int xsm, .ref yn, .int xhs, .ref yx, .int xln, .int xat, .int xiw, .ref yr, .int xrm, .int xfb, .int xlr, .ref yd, .int xdm])), (ys, .inl (U.2.2.1 0, 16, .inl gs)), (yd, .inl (U.2.2.1 0, 17, .inl gd))] [] [0, 1, 2] [0, 1, 2] (wr := [(m, .inr (6, [.int (0 : Int32), .ref ys, .ref ya, .ref yt, .int xsm, .ref yn, .int xhs, .ref yx, .int xln, .int xat, .int xiw, .ref yr, .int xrm, .int xfb, .int xlr, .ref yd, .int xdm])), (ys, .inl (U.2.2.1 0, 16, .inl gs)), (yd, .inl (U.2.2.1 0, 17, .inl gd))]) rfl rfl rfl rfl (by decide) rfl rfl  dX6_digitAt_62 ⟨Nat.le_of_ble_eq_true rfl, Nat.le_of_ble_eq_true rfl⟩ [.int (b2i (isRec p1))] rfl ?_
  refine J_if_ne_b C 74 dX6_digitAt_65 (by decide) (fun _ => ?_) (fun h => absurd v_2 h)
  refine J_aload_n C dX6_digitAt_74 rfl rfl ?_
  refine J_iload_n C dX6_digitAt_75 rfl rfl ?_
  refine J_callV C (c_X6_isOdd U m ys ya yt yn yx yr yd (0 : Int32) xsm xhs xln xat xiw xrm xfb xlr xdm gs p1 ) gX6_digitAt_X6_isOdd (n := 1) rfl rfl rfl (by decide +kernel) ⟨Nat.le_of_ble_eq_true rfl, Nat.le_of_ble_eq_true rfl⟩ 0 rfl rfl rfl (rest := []) rfl (Nat.le_of_ble_eq_true rfl) [(m, .inr (6, [.int (0 : Int32), .ref ys, .ref ya, .ref yt, .int xsm, .ref yn, .int xhs, .ref yx, .int xln, .int xat, .int xiw, .ref yr, .int xrm, .int xfb, .int xlr, .ref yd, .int xdm])), (ys, .inl (U.2.2.1 0, 16, .inl gs)), (yd, .inl (U.2.2.1 0, 17, .inl gd))] [0, 1] [2] [1, 2, 0] (wr := [(yd, .inl (U.2.2.1 0, 17, .inl gd))]) rfl rfl rfl rfl (by decide) rfl rfl  dX6_digitAt_76 ⟨Nat.le_of_ble_eq_true rfl, Nat.le_of_ble_eq_true rfl⟩ [.int (b2i (p1 = 1 ∧ rem2 (gs 0) = 1))] rfl ?_
  refine J_if_eq_b C 88 dX6_digitAt_79 (by decide) (fun _ => ?_) (fun h => absurd h v_4)
  refine J_aload_n C dX6_digitAt_88 rfl rfl ?_
  refine J_aload_n C dX6_digitAt_89 rfl rfl ?_
  refine J_iload_n C dX6_digitAt_90 rfl rfl ?_
  refine J_callV C (c_X6_of U m ys ya yt yn yx yr yd (0 : Int32) xsm xhs xln xat xiw xrm xfb xlr xdm gs p0 v_1) gX6_digitAt_X6_of (n := 1) rfl rfl rfl (by decide +kernel) ⟨Nat.le_of_ble_eq_true rfl, Nat.le_of_ble_eq_true rfl⟩ 0 rfl rfl rfl (rest := [.ref m]) rfl (Nat.le_of_ble_eq_true rfl) [(m, .inr (6, [.int (0 : Int32), .ref ys, .ref ya, .ref yt, .int xsm, .ref yn, .int xhs, .ref yx, .int xln, .int xat, .int xiw, .ref yr, .int xrm, .int xfb, .int xlr, .ref yd, .int xdm])), (ys, .inl (U.2.2.1 0, 16, .inl gs)), (yd, .inl (U.2.2.1 0, 17, .inl gd))] [0, 1] [2] [1, 2, 0] (wr := [(yd, .inl (U.2.2.1 0, 17, .inl gd))]) rfl rfl rfl rfl (by decide) rfl rfl  dX6_digitAt_91 ⟨Nat.le_of_ble_eq_true rfl, Nat.le_of_ble_eq_true rfl⟩ [.int (gs (1 + p0.toNatClampNeg)), .ref m] rfl ?_
  refine J_iload_n C dX6_digitAt_94 rfl rfl ?_
  refine J_callV C (c_X6_tellsDigits U m ys ya yt yn yx yr yd (0 : Int32) xsm xhs xln xat xiw xrm xfb xlr xdm gs gd D (gs (1 + p0.toNatClampNeg)) p1 hD hD9 v_2) gX6_digitAt_X6_tellsDigits (n := 2) rfl rfl rfl (by decide +kernel) ⟨Nat.le_of_ble_eq_true rfl, Nat.le_of_ble_eq_true rfl⟩ 0 rfl rfl rfl (rest := []) rfl (Nat.le_of_ble_eq_true rfl) [(m, .inr (6, [.int (0 : Int32), .ref ys, .ref ya, .ref yt, .int xsm, .ref yn, .int xhs, .ref yx, .int xln, .int xat, .int xiw, .ref yr, .int xrm, .int xfb, .int xlr, .ref yd, .int (dcntF p1 (gs 0))])), (ys, .inl (U.2.2.1 0, 16, .inl gs)), (yd, .inl (U.2.2.1 0, 17, .inl (dgF (gs (1 + p0.toNatClampNeg)) p1 gd D)))] [0, 1, 2] [] [0, 1, 2] (wr := []) rfl rfl rfl rfl (by decide) rfl rfl  dX6_digitAt_95 ⟨Nat.le_of_ble_eq_true rfl, Nat.le_of_ble_eq_true rfl⟩ [] rfl ?_
  refine J_aload_n C dX6_digitAt_98 rfl rfl ?_
  refine J_get C 0 15 rfl rfl i_X6_digitAt_X6 (by decide) k_X6_digitAt_28 rfl rfl dX6_digitAt_99 ?_
  refine J_iload_n C dX6_digitAt_102 rfl rfl ?_
  refine J_iald C 2 rfl hin9 rfl dX6_digitAt_103 ?_
  exact J_iret C R dX6_digitAt_104 (Nat.le_of_ble_eq_true rfl) (Nat.le_of_ble_eq_true rfl) rfl rfl
set_option maxHeartbeats 4000000 in
set_option maxRecDepth 100000 in
theorem c_X6_digitAt_no1p (U : jU) (m ys ya yt yn yx yr yd : Nat) (xth xsm xhs xln xat xiw xrm xfb xlr xdm : Int32) (gs : Nat → Int32) (p0 p1 p2 : Int32) (v_0 : ¬ p1 = 1) (v_1 : ¬ isReg p0) : Fn U yX6_digitAt wsX6_digitAt { frames := 2, cells := 0, slots := 0, locals := 47 } [.ref m, .int p0, .int p1, .int p2] [(m, .inr (6, [.int xth, .ref ys, .ref ya, .ref yt, .int xsm, .ref yn, .int xhs, .ref yx, .int xln, .int xat, .int xiw, .ref yr, .int xrm, .int xfb, .int xlr, .ref yd, .int xdm])), (ys, .inl (U.2.2.1 0, 16, .inl gs))] (some (.int (0 : Int32))) [(m, .inr (6, [.int (1 : Int32), .ref ys, .ref ya, .ref yt, .int xsm, .ref yn, .int xhs, .ref yx, .int xln, .int xat, .int xiw, .ref yr, .int xrm, .int xfb, .int xlr, .ref yd, .int xdm])), (ys, .inl (U.2.2.1 0, 16, .inl gs))] 0 0 := by
  refine Fn_of (cc := cX6_digitAt) (maxL := 5) (ret := (some .int)) [some (.ref m), some (.int p0), some (.int p1), some (.int p2), none] (by decide +kernel) rfl (jcat rfl) (Nat.le_of_ble_eq_true rfl) rfl (fun k C R hin hnL => ?_)
  have hN : ∀ i, i < 5 → i < k.2.2.2.2.2.2.2.2.2.2.2.1 := fun i h => by rw [hnL]; exact h
  refine J_aload_n C dX6_digitAt_0 rfl rfl ?_
  refine J_iconst C (v := (0 : Int32)) dX6_digitAt_1 (by decide) ?_
  refine J_put C tyX6 0 0 [(m, .inr (6, [.int (0 : Int32), .ref ys, .ref ya, .ref yt, .int xsm, .ref yn, .int xhs, .ref yx, .int xln, .int xat, .int xiw, .ref yr, .int xrm, .int xfb, .int xlr, .ref yd, .int xdm])), (ys, .inl (U.2.2.1 0, 16, .inl gs))] rfl rfl i_X6_digitAt_X6 tyX6_ok nmX6 (by decide) k_X6_digitAt_31 rfl rfl rfl rfl (Nat.le_of_ble_eq_true rfl) rfl dX6_digitAt_2 ?_
  refine J_iload_n C dX6_digitAt_5 rfl rfl ?_
  refine J_iconst C (v := (1 : Int32)) dX6_digitAt_6 (by decide) ?_
  refine J_icmp_ne C 21 dX6_digitAt_7 (by decide) (fun _ => ?_) (fun h => absurd h v_0)
  refine J_aload_n C dX6_digitAt_21 rfl rfl ?_
  refine J_get C 0 1 rfl rfl i_X6_digitAt_X6 (by decide) k_X6_digitAt_7 rfl rfl dX6_digitAt_22 ?_
  refine J_iconst C (v := (0 : Int32)) dX6_digitAt_25 (by decide) ?_
  refine J_iald C 1 rfl (vpl n_0 (by decide) (by decide)) (congrArg gs n_0) dX6_digitAt_26 ?_
  refine J_istore C [some (.ref m), some (.int p0), some (.int p1), some (.int p2), some (.int (gs 0))] dX6_digitAt_27 (hN 4 (by decide)) rfl ?_
  refine J_iload_n C dX6_digitAt_29 rfl rfl ?_
  refine J_callS C (c_X6_isRegister U p0 ) gX6_digitAt_X6_isRegister (n := 1) rfl rfl rfl (by decide +kernel) ⟨Nat.le_of_ble_eq_true rfl, Nat.le_of_ble_eq_true rfl⟩ rfl (rest := []) rfl (Nat.le_of_ble_eq_true rfl) [(m, .inr (6, [.int (0 : Int32), .ref ys, .ref ya, .ref yt, .int xsm, .ref yn, .int xhs, .ref yx, .int xln, .int xat, .int xiw, .ref yr, .int xrm, .int xfb, .int xlr, .ref yd, .int xdm])), (ys, .inl (U.2.2.1 0, 16, .inl gs))] [] [0, 1] [0, 1] (wr := [(m, .inr (6, [.int (0 : Int32), .ref ys, .ref ya, .ref yt, .int xsm, .ref yn, .int xhs, .ref yx, .int xln, .int xat, .int xiw, .ref yr, .int xrm, .int xfb, .int xlr, .ref yd, .int xdm])), (ys, .inl (U.2.2.1 0, 16, .inl gs))]) rfl rfl rfl rfl (by decide) rfl rfl  dX6_digitAt_30 ⟨Nat.le_of_ble_eq_true rfl, Nat.le_of_ble_eq_true rfl⟩ [.int (b2i (isReg p0))] rfl ?_
  refine J_if_eq_b C 55 dX6_digitAt_33 (by decide) (fun _ => ?_) (fun h => absurd h v_1)
  refine J_aload_n C dX6_digitAt_55 rfl rfl ?_
  refine J_iconst C (v := (1 : Int32)) dX6_digitAt_56 (by decide) ?_
  refine J_callV C (c_X6_fails U m ys ya yt yn yx yr yd (0 : Int32) xsm xhs xln xat xiw xrm xfb xlr xdm (1 : Int32) ) gX6_digitAt_X6_fails (n := 1) rfl rfl rfl (by decide +kernel) ⟨Nat.le_of_ble_eq_true rfl, Nat.le_of_ble_eq_true rfl⟩ 0 rfl rfl rfl (rest := []) rfl (Nat.le_of_ble_eq_true rfl) [(m, .inr (6, [.int (1 : Int32), .ref ys, .ref ya, .ref yt, .int xsm, .ref yn, .int xhs, .ref yx, .int xln, .int xat, .int xiw, .ref yr, .int xrm, .int xfb, .int xlr, .ref yd, .int xdm])), (ys, .inl (U.2.2.1 0, 16, .inl gs))] [0] [1] [1, 0] (wr := [(ys, .inl (U.2.2.1 0, 16, .inl gs))]) rfl rfl rfl rfl (by decide) rfl rfl  dX6_digitAt_57 ⟨Nat.le_of_ble_eq_true rfl, Nat.le_of_ble_eq_true rfl⟩ [.int (0 : Int32)] rfl ?_
  exact J_iret C R dX6_digitAt_60 (Nat.le_of_ble_eq_true rfl) (Nat.le_of_ble_eq_true rfl) rfl rfl
set_option maxHeartbeats 4000000 in
set_option maxRecDepth 100000 in
theorem c_X6_digitAt_no2p (U : jU) (m ys ya yt yn yx yr yd : Nat) (xth xsm xhs xln xat xiw xrm xfb xlr xdm : Int32) (gs : Nat → Int32) (p0 p1 p2 : Int32) (v_0 : ¬ p1 = 1) (v_1 : isReg p0) (v_2 : isRec p1) (v_3 : ¬ inF p2 0 ((gs 0) - 1)) : Fn U yX6_digitAt wsX6_digitAt { frames := 2, cells := 0, slots := 0, locals := 47 } [.ref m, .int p0, .int p1, .int p2] [(m, .inr (6, [.int xth, .ref ys, .ref ya, .ref yt, .int xsm, .ref yn, .int xhs, .ref yx, .int xln, .int xat, .int xiw, .ref yr, .int xrm, .int xfb, .int xlr, .ref yd, .int xdm])), (ys, .inl (U.2.2.1 0, 16, .inl gs))] (some (.int (0 : Int32))) [(m, .inr (6, [.int (1 : Int32), .ref ys, .ref ya, .ref yt, .int xsm, .ref yn, .int xhs, .ref yx, .int xln, .int xat, .int xiw, .ref yr, .int xrm, .int xfb, .int xlr, .ref yd, .int xdm])), (ys, .inl (U.2.2.1 0, 16, .inl gs))] 0 0 := by
  refine Fn_of (cc := cX6_digitAt) (maxL := 5) (ret := (some .int)) [some (.ref m), some (.int p0), some (.int p1), some (.int p2), none] (by decide +kernel) rfl (jcat rfl) (Nat.le_of_ble_eq_true rfl) rfl (fun k C R hin hnL => ?_)
  have hN : ∀ i, i < 5 → i < k.2.2.2.2.2.2.2.2.2.2.2.1 := fun i h => by rw [hnL]; exact h
  refine J_aload_n C dX6_digitAt_0 rfl rfl ?_
  refine J_iconst C (v := (0 : Int32)) dX6_digitAt_1 (by decide) ?_
  refine J_put C tyX6 0 0 [(m, .inr (6, [.int (0 : Int32), .ref ys, .ref ya, .ref yt, .int xsm, .ref yn, .int xhs, .ref yx, .int xln, .int xat, .int xiw, .ref yr, .int xrm, .int xfb, .int xlr, .ref yd, .int xdm])), (ys, .inl (U.2.2.1 0, 16, .inl gs))] rfl rfl i_X6_digitAt_X6 tyX6_ok nmX6 (by decide) k_X6_digitAt_31 rfl rfl rfl rfl (Nat.le_of_ble_eq_true rfl) rfl dX6_digitAt_2 ?_
  refine J_iload_n C dX6_digitAt_5 rfl rfl ?_
  refine J_iconst C (v := (1 : Int32)) dX6_digitAt_6 (by decide) ?_
  refine J_icmp_ne C 21 dX6_digitAt_7 (by decide) (fun _ => ?_) (fun h => absurd h v_0)
  refine J_aload_n C dX6_digitAt_21 rfl rfl ?_
  refine J_get C 0 1 rfl rfl i_X6_digitAt_X6 (by decide) k_X6_digitAt_7 rfl rfl dX6_digitAt_22 ?_
  refine J_iconst C (v := (0 : Int32)) dX6_digitAt_25 (by decide) ?_
  refine J_iald C 1 rfl (vpl n_0 (by decide) (by decide)) (congrArg gs n_0) dX6_digitAt_26 ?_
  refine J_istore C [some (.ref m), some (.int p0), some (.int p1), some (.int p2), some (.int (gs 0))] dX6_digitAt_27 (hN 4 (by decide)) rfl ?_
  refine J_iload_n C dX6_digitAt_29 rfl rfl ?_
  refine J_callS C (c_X6_isRegister U p0 ) gX6_digitAt_X6_isRegister (n := 1) rfl rfl rfl (by decide +kernel) ⟨Nat.le_of_ble_eq_true rfl, Nat.le_of_ble_eq_true rfl⟩ rfl (rest := []) rfl (Nat.le_of_ble_eq_true rfl) [(m, .inr (6, [.int (0 : Int32), .ref ys, .ref ya, .ref yt, .int xsm, .ref yn, .int xhs, .ref yx, .int xln, .int xat, .int xiw, .ref yr, .int xrm, .int xfb, .int xlr, .ref yd, .int xdm])), (ys, .inl (U.2.2.1 0, 16, .inl gs))] [] [0, 1] [0, 1] (wr := [(m, .inr (6, [.int (0 : Int32), .ref ys, .ref ya, .ref yt, .int xsm, .ref yn, .int xhs, .ref yx, .int xln, .int xat, .int xiw, .ref yr, .int xrm, .int xfb, .int xlr, .ref yd, .int xdm])), (ys, .inl (U.2.2.1 0, 16, .inl gs))]) rfl rfl rfl rfl (by decide) rfl rfl  dX6_digitAt_30 ⟨Nat.le_of_ble_eq_true rfl, Nat.le_of_ble_eq_true rfl⟩ [.int (b2i (isReg p0))] rfl ?_
  refine J_if_eq_b C 55 dX6_digitAt_33 (by decide) (fun h => absurd h (fun hh => hh v_1)) (fun _ => ?_)
  refine J_iload_n C dX6_digitAt_36 rfl rfl ?_
  refine J_callS C (c_X6_isRecoding U p1 ) gX6_digitAt_X6_isRecoding (n := 1) rfl rfl rfl (by decide +kernel) ⟨Nat.le_of_ble_eq_true rfl, Nat.le_of_ble_eq_true rfl⟩ rfl (rest := []) rfl (Nat.le_of_ble_eq_true rfl) [(m, .inr (6, [.int (0 : Int32), .ref ys, .ref ya, .ref yt, .int xsm, .ref yn, .int xhs, .ref yx, .int xln, .int xat, .int xiw, .ref yr, .int xrm, .int xfb, .int xlr, .ref yd, .int xdm])), (ys, .inl (U.2.2.1 0, 16, .inl gs))] [] [0, 1] [0, 1] (wr := [(m, .inr (6, [.int (0 : Int32), .ref ys, .ref ya, .ref yt, .int xsm, .ref yn, .int xhs, .ref yx, .int xln, .int xat, .int xiw, .ref yr, .int xrm, .int xfb, .int xlr, .ref yd, .int xdm])), (ys, .inl (U.2.2.1 0, 16, .inl gs))]) rfl rfl rfl rfl (by decide) rfl rfl  dX6_digitAt_37 ⟨Nat.le_of_ble_eq_true rfl, Nat.le_of_ble_eq_true rfl⟩ [.int (b2i (isRec p1))] rfl ?_
  refine J_if_eq_b C 61 dX6_digitAt_40 (by decide) (fun h => absurd h (fun hh => hh v_2)) (fun _ => ?_)
  refine J_iload_n C dX6_digitAt_43 rfl rfl ?_
  refine J_iconst C (v := (0 : Int32)) dX6_digitAt_44 (by decide) ?_
  refine J_iload C dX6_digitAt_45 rfl ?_
  refine J_iconst C (v := (1 : Int32)) dX6_digitAt_47 (by decide) ?_
  refine J_isub C (v := (gs 0) - (1 : Int32)) dX6_digitAt_48 rfl ?_
  refine J_callS C (c_X6_in U p2 (0 : Int32) ((gs 0) - (1 : Int32)) ) gX6_digitAt_X6_in (n := 3) rfl rfl rfl (by decide +kernel) ⟨Nat.le_of_ble_eq_true rfl, Nat.le_of_ble_eq_true rfl⟩ rfl (rest := []) rfl (Nat.le_of_ble_eq_true rfl) [(m, .inr (6, [.int (0 : Int32), .ref ys, .ref ya, .ref yt, .int xsm, .ref yn, .int xhs, .ref yx, .int xln, .int xat, .int xiw, .ref yr, .int xrm, .int xfb, .int xlr, .ref yd, .int xdm])), (ys, .inl (U.2.2.1 0, 16, .inl gs))] [] [0, 1] [0, 1] (wr := [(m, .inr (6, [.int (0 : Int32), .ref ys, .ref ya, .ref yt, .int xsm, .ref yn, .int xhs, .ref yx, .int xln, .int xat, .int xiw, .ref yr, .int xrm, .int xfb, .int xlr, .ref yd, .int xdm])), (ys, .inl (U.2.2.1 0, 16, .inl gs))]) rfl rfl rfl rfl (by decide) rfl rfl  dX6_digitAt_49 ⟨Nat.le_of_ble_eq_true rfl, Nat.le_of_ble_eq_true rfl⟩ [.int (b2i (inF p2 (0 : Int32) ((gs 0) - (1 : Int32))))] rfl ?_
  refine J_if_ne_b C 61 dX6_digitAt_52 (by decide) (fun h => absurd h v_3) (fun _ => ?_)
  refine J_aload_n C dX6_digitAt_55 rfl rfl ?_
  refine J_iconst C (v := (1 : Int32)) dX6_digitAt_56 (by decide) ?_
  refine J_callV C (c_X6_fails U m ys ya yt yn yx yr yd (0 : Int32) xsm xhs xln xat xiw xrm xfb xlr xdm (1 : Int32) ) gX6_digitAt_X6_fails (n := 1) rfl rfl rfl (by decide +kernel) ⟨Nat.le_of_ble_eq_true rfl, Nat.le_of_ble_eq_true rfl⟩ 0 rfl rfl rfl (rest := []) rfl (Nat.le_of_ble_eq_true rfl) [(m, .inr (6, [.int (1 : Int32), .ref ys, .ref ya, .ref yt, .int xsm, .ref yn, .int xhs, .ref yx, .int xln, .int xat, .int xiw, .ref yr, .int xrm, .int xfb, .int xlr, .ref yd, .int xdm])), (ys, .inl (U.2.2.1 0, 16, .inl gs))] [0] [1] [1, 0] (wr := [(ys, .inl (U.2.2.1 0, 16, .inl gs))]) rfl rfl rfl rfl (by decide) rfl rfl  dX6_digitAt_57 ⟨Nat.le_of_ble_eq_true rfl, Nat.le_of_ble_eq_true rfl⟩ [.int (0 : Int32)] rfl ?_
  exact J_iret C R dX6_digitAt_60 (Nat.le_of_ble_eq_true rfl) (Nat.le_of_ble_eq_true rfl) rfl rfl
set_option maxHeartbeats 4000000 in
set_option maxRecDepth 100000 in
theorem c_X6_digitAt_no3p (U : jU) (m ys ya yt yn yx yr yd : Nat) (xth xsm xhs xln xat xiw xrm xfb xlr xdm : Int32) (gs : Nat → Int32) (p0 p1 p2 : Int32) (v_0 : ¬ p1 = 1) (v_1 : isReg p0) (v_2 : ¬ isRec p1) : Fn U yX6_digitAt wsX6_digitAt { frames := 2, cells := 0, slots := 0, locals := 47 } [.ref m, .int p0, .int p1, .int p2] [(m, .inr (6, [.int xth, .ref ys, .ref ya, .ref yt, .int xsm, .ref yn, .int xhs, .ref yx, .int xln, .int xat, .int xiw, .ref yr, .int xrm, .int xfb, .int xlr, .ref yd, .int xdm])), (ys, .inl (U.2.2.1 0, 16, .inl gs))] (some (.int (0 : Int32))) [(m, .inr (6, [.int (2 : Int32), .ref ys, .ref ya, .ref yt, .int xsm, .ref yn, .int xhs, .ref yx, .int xln, .int xat, .int xiw, .ref yr, .int xrm, .int xfb, .int xlr, .ref yd, .int xdm])), (ys, .inl (U.2.2.1 0, 16, .inl gs))] 0 0 := by
  refine Fn_of (cc := cX6_digitAt) (maxL := 5) (ret := (some .int)) [some (.ref m), some (.int p0), some (.int p1), some (.int p2), none] (by decide +kernel) rfl (jcat rfl) (Nat.le_of_ble_eq_true rfl) rfl (fun k C R hin hnL => ?_)
  have hN : ∀ i, i < 5 → i < k.2.2.2.2.2.2.2.2.2.2.2.1 := fun i h => by rw [hnL]; exact h
  refine J_aload_n C dX6_digitAt_0 rfl rfl ?_
  refine J_iconst C (v := (0 : Int32)) dX6_digitAt_1 (by decide) ?_
  refine J_put C tyX6 0 0 [(m, .inr (6, [.int (0 : Int32), .ref ys, .ref ya, .ref yt, .int xsm, .ref yn, .int xhs, .ref yx, .int xln, .int xat, .int xiw, .ref yr, .int xrm, .int xfb, .int xlr, .ref yd, .int xdm])), (ys, .inl (U.2.2.1 0, 16, .inl gs))] rfl rfl i_X6_digitAt_X6 tyX6_ok nmX6 (by decide) k_X6_digitAt_31 rfl rfl rfl rfl (Nat.le_of_ble_eq_true rfl) rfl dX6_digitAt_2 ?_
  refine J_iload_n C dX6_digitAt_5 rfl rfl ?_
  refine J_iconst C (v := (1 : Int32)) dX6_digitAt_6 (by decide) ?_
  refine J_icmp_ne C 21 dX6_digitAt_7 (by decide) (fun _ => ?_) (fun h => absurd h v_0)
  refine J_aload_n C dX6_digitAt_21 rfl rfl ?_
  refine J_get C 0 1 rfl rfl i_X6_digitAt_X6 (by decide) k_X6_digitAt_7 rfl rfl dX6_digitAt_22 ?_
  refine J_iconst C (v := (0 : Int32)) dX6_digitAt_25 (by decide) ?_
  refine J_iald C 1 rfl (vpl n_0 (by decide) (by decide)) (congrArg gs n_0) dX6_digitAt_26 ?_
  refine J_istore C [some (.ref m), some (.int p0), some (.int p1), some (.int p2), some (.int (gs 0))] dX6_digitAt_27 (hN 4 (by decide)) rfl ?_
  refine J_iload_n C dX6_digitAt_29 rfl rfl ?_
  refine J_callS C (c_X6_isRegister U p0 ) gX6_digitAt_X6_isRegister (n := 1) rfl rfl rfl (by decide +kernel) ⟨Nat.le_of_ble_eq_true rfl, Nat.le_of_ble_eq_true rfl⟩ rfl (rest := []) rfl (Nat.le_of_ble_eq_true rfl) [(m, .inr (6, [.int (0 : Int32), .ref ys, .ref ya, .ref yt, .int xsm, .ref yn, .int xhs, .ref yx, .int xln, .int xat, .int xiw, .ref yr, .int xrm, .int xfb, .int xlr, .ref yd, .int xdm])), (ys, .inl (U.2.2.1 0, 16, .inl gs))] [] [0, 1] [0, 1] (wr := [(m, .inr (6, [.int (0 : Int32), .ref ys, .ref ya, .ref yt, .int xsm, .ref yn, .int xhs, .ref yx, .int xln, .int xat, .int xiw, .ref yr, .int xrm, .int xfb, .int xlr, .ref yd, .int xdm])), (ys, .inl (U.2.2.1 0, 16, .inl gs))]) rfl rfl rfl rfl (by decide) rfl rfl  dX6_digitAt_30 ⟨Nat.le_of_ble_eq_true rfl, Nat.le_of_ble_eq_true rfl⟩ [.int (b2i (isReg p0))] rfl ?_
  refine J_if_eq_b C 55 dX6_digitAt_33 (by decide) (fun h => absurd h (fun hh => hh v_1)) (fun _ => ?_)
  refine J_iload_n C dX6_digitAt_36 rfl rfl ?_
  refine J_callS C (c_X6_isRecoding U p1 ) gX6_digitAt_X6_isRecoding (n := 1) rfl rfl rfl (by decide +kernel) ⟨Nat.le_of_ble_eq_true rfl, Nat.le_of_ble_eq_true rfl⟩ rfl (rest := []) rfl (Nat.le_of_ble_eq_true rfl) [(m, .inr (6, [.int (0 : Int32), .ref ys, .ref ya, .ref yt, .int xsm, .ref yn, .int xhs, .ref yx, .int xln, .int xat, .int xiw, .ref yr, .int xrm, .int xfb, .int xlr, .ref yd, .int xdm])), (ys, .inl (U.2.2.1 0, 16, .inl gs))] [] [0, 1] [0, 1] (wr := [(m, .inr (6, [.int (0 : Int32), .ref ys, .ref ya, .ref yt, .int xsm, .ref yn, .int xhs, .ref yx, .int xln, .int xat, .int xiw, .ref yr, .int xrm, .int xfb, .int xlr, .ref yd, .int xdm])), (ys, .inl (U.2.2.1 0, 16, .inl gs))]) rfl rfl rfl rfl (by decide) rfl rfl  dX6_digitAt_37 ⟨Nat.le_of_ble_eq_true rfl, Nat.le_of_ble_eq_true rfl⟩ [.int (b2i (isRec p1))] rfl ?_
  refine J_if_eq_b C 61 dX6_digitAt_40 (by decide) (fun _ => ?_) (fun h => absurd h v_2)
  refine J_iload_n C dX6_digitAt_61 rfl rfl ?_
  refine J_callS C (c_X6_isRecoding U p1 ) gX6_digitAt_X6_isRecoding (n := 1) rfl rfl rfl (by decide +kernel) ⟨Nat.le_of_ble_eq_true rfl, Nat.le_of_ble_eq_true rfl⟩ rfl (rest := []) rfl (Nat.le_of_ble_eq_true rfl) [(m, .inr (6, [.int (0 : Int32), .ref ys, .ref ya, .ref yt, .int xsm, .ref yn, .int xhs, .ref yx, .int xln, .int xat, .int xiw, .ref yr, .int xrm, .int xfb, .int xlr, .ref yd, .int xdm])), (ys, .inl (U.2.2.1 0, 16, .inl gs))] [] [0, 1] [0, 1] (wr := [(m, .inr (6, [.int (0 : Int32), .ref ys, .ref ya, .ref yt, .int xsm, .ref yn, .int xhs, .ref yx, .int xln, .int xat, .int xiw, .ref yr, .int xrm, .int xfb, .int xlr, .ref yd, .int xdm])), (ys, .inl (U.2.2.1 0, 16, .inl gs))]) rfl rfl rfl rfl (by decide) rfl rfl  dX6_digitAt_62 ⟨Nat.le_of_ble_eq_true rfl, Nat.le_of_ble_eq_true rfl⟩ [.int (b2i (isRec p1))] rfl ?_
  refine J_if_ne_b C 74 dX6_digitAt_65 (by decide) (fun h => absurd h v_2) (fun _ => ?_)
  refine J_aload_n C dX6_digitAt_68 rfl rfl ?_
  refine J_iconst C (v := (2 : Int32)) dX6_digitAt_69 (by decide) ?_
  refine J_callV C (c_X6_fails U m ys ya yt yn yx yr yd (0 : Int32) xsm xhs xln xat xiw xrm xfb xlr xdm (2 : Int32) ) gX6_digitAt_X6_fails (n := 1) rfl rfl rfl (by decide +kernel) ⟨Nat.le_of_ble_eq_true rfl, Nat.le_of_ble_eq_true rfl⟩ 0 rfl rfl rfl (rest := []) rfl (Nat.le_of_ble_eq_true rfl) [(m, .inr (6, [.int (2 : Int32), .ref ys, .ref ya, .ref yt, .int xsm, .ref yn, .int xhs, .ref yx, .int xln, .int xat, .int xiw, .ref yr, .int xrm, .int xfb, .int xlr, .ref yd, .int xdm])), (ys, .inl (U.2.2.1 0, 16, .inl gs))] [0] [1] [1, 0] (wr := [(ys, .inl (U.2.2.1 0, 16, .inl gs))]) rfl rfl rfl rfl (by decide) rfl rfl  dX6_digitAt_70 ⟨Nat.le_of_ble_eq_true rfl, Nat.le_of_ble_eq_true rfl⟩ [.int (0 : Int32)] rfl ?_
  exact J_iret C R dX6_digitAt_73 (Nat.le_of_ble_eq_true rfl) (Nat.le_of_ble_eq_true rfl) rfl rfl
set_option maxHeartbeats 4000000 in
set_option maxRecDepth 100000 in
theorem c_X6_digitAt_okp (U : jU) (m ys ya yt yn yx yr yd : Nat) (xth xsm xhs xln xat xiw xrm xfb xlr xdm : Int32) (gs : Nat → Int32) (gd : Nat → Int32) (D : Nat) (p0 p1 p2 : Int32) (v_0 : ¬ p1 = 1) (v_1 : isReg p0) (v_2 : isRec p1) (v_3 : inF p2 0 ((gs 0) - 1)) (v_4 : ¬ (p1 = 1 ∧ rem2 (gs 0) = 1)) (hD : dcntF p1 (gs 0) = nI D) (hD9 : D ≤ 16) (hin9 : vp_in p2 17) : Fn U yX6_digitAt wsX6_digitAt { frames := 2, cells := 0, slots := 0, locals := 47 } [.ref m, .int p0, .int p1, .int p2] [(m, .inr (6, [.int xth, .ref ys, .ref ya, .ref yt, .int xsm, .ref yn, .int xhs, .ref yx, .int xln, .int xat, .int xiw, .ref yr, .int xrm, .int xfb, .int xlr, .ref yd, .int xdm])), (ys, .inl (U.2.2.1 0, 16, .inl gs)), (yd, .inl (U.2.2.1 0, 17, .inl gd))] (some (.int ((dgF (gs (1 + p0.toNatClampNeg)) p1 gd D) p2.toNatClampNeg))) [(m, .inr (6, [.int (0 : Int32), .ref ys, .ref ya, .ref yt, .int xsm, .ref yn, .int xhs, .ref yx, .int xln, .int xat, .int xiw, .ref yr, .int xrm, .int xfb, .int xlr, .ref yd, .int (dcntF p1 (gs 0))])), (ys, .inl (U.2.2.1 0, 16, .inl gs)), (yd, .inl (U.2.2.1 0, 17, .inl (dgF (gs (1 + p0.toNatClampNeg)) p1 gd D)))] 0 0 := by
  refine Fn_of (cc := cX6_digitAt) (maxL := 5) (ret := (some .int)) [some (.ref m), some (.int p0), some (.int p1), some (.int p2), none] (by decide +kernel) rfl (jcat rfl) (Nat.le_of_ble_eq_true rfl) rfl (fun k C R hin hnL => ?_)
  have hN : ∀ i, i < 5 → i < k.2.2.2.2.2.2.2.2.2.2.2.1 := fun i h => by rw [hnL]; exact h
  refine J_aload_n C dX6_digitAt_0 rfl rfl ?_
  refine J_iconst C (v := (0 : Int32)) dX6_digitAt_1 (by decide) ?_
  refine J_put C tyX6 0 0 [(m, .inr (6, [.int (0 : Int32), .ref ys, .ref ya, .ref yt, .int xsm, .ref yn, .int xhs, .ref yx, .int xln, .int xat, .int xiw, .ref yr, .int xrm, .int xfb, .int xlr, .ref yd, .int xdm])), (ys, .inl (U.2.2.1 0, 16, .inl gs)), (yd, .inl (U.2.2.1 0, 17, .inl gd))] rfl rfl i_X6_digitAt_X6 tyX6_ok nmX6 (by decide) k_X6_digitAt_31 rfl rfl rfl rfl (Nat.le_of_ble_eq_true rfl) rfl dX6_digitAt_2 ?_
  refine J_iload_n C dX6_digitAt_5 rfl rfl ?_
  refine J_iconst C (v := (1 : Int32)) dX6_digitAt_6 (by decide) ?_
  refine J_icmp_ne C 21 dX6_digitAt_7 (by decide) (fun _ => ?_) (fun h => absurd h v_0)
  refine J_aload_n C dX6_digitAt_21 rfl rfl ?_
  refine J_get C 0 1 rfl rfl i_X6_digitAt_X6 (by decide) k_X6_digitAt_7 rfl rfl dX6_digitAt_22 ?_
  refine J_iconst C (v := (0 : Int32)) dX6_digitAt_25 (by decide) ?_
  refine J_iald C 1 rfl (vpl n_0 (by decide) (by decide)) (congrArg gs n_0) dX6_digitAt_26 ?_
  refine J_istore C [some (.ref m), some (.int p0), some (.int p1), some (.int p2), some (.int (gs 0))] dX6_digitAt_27 (hN 4 (by decide)) rfl ?_
  refine J_iload_n C dX6_digitAt_29 rfl rfl ?_
  refine J_callS C (c_X6_isRegister U p0 ) gX6_digitAt_X6_isRegister (n := 1) rfl rfl rfl (by decide +kernel) ⟨Nat.le_of_ble_eq_true rfl, Nat.le_of_ble_eq_true rfl⟩ rfl (rest := []) rfl (Nat.le_of_ble_eq_true rfl) [(m, .inr (6, [.int (0 : Int32), .ref ys, .ref ya, .ref yt, .int xsm, .ref yn, .int xhs, .ref yx, .int xln, .int xat, .int xiw, .ref yr, .int xrm, .int xfb, .int xlr, .ref yd, .int xdm])), (ys, .inl (U.2.2.1 0, 16, .inl gs)), (yd, .inl (U.2.2.1 0, 17, .inl gd))] [] [0, 1, 2] [0, 1, 2] (wr := [(m, .inr (6, [.int (0 : Int32), .ref ys, .ref ya, .ref yt, .int xsm, .ref yn, .int xhs, .ref yx, .int xln, .int xat, .int xiw, .ref yr, .int xrm, .int xfb, .int xlr, .ref yd, .int xdm])), (ys, .inl (U.2.2.1 0, 16, .inl gs)), (yd, .inl (U.2.2.1 0, 17, .inl gd))]) rfl rfl rfl rfl (by decide) rfl rfl  dX6_digitAt_30 ⟨Nat.le_of_ble_eq_true rfl, Nat.le_of_ble_eq_true rfl⟩ [.int (b2i (isReg p0))] rfl ?_
  refine J_if_eq_b C 55 dX6_digitAt_33 (by decide) (fun h => absurd h (fun hh => hh v_1)) (fun _ => ?_)
  refine J_iload_n C dX6_digitAt_36 rfl rfl ?_
  refine J_callS C (c_X6_isRecoding U p1 ) gX6_digitAt_X6_isRecoding (n := 1) rfl rfl rfl (by decide +kernel) ⟨Nat.le_of_ble_eq_true rfl, Nat.le_of_ble_eq_true rfl⟩ rfl (rest := []) rfl (Nat.le_of_ble_eq_true rfl) [(m, .inr (6, [.int (0 : Int32), .ref ys, .ref ya, .ref yt, .int xsm, .ref yn, .int xhs, .ref yx, .int xln, .int xat, .int xiw, .ref yr, .int xrm, .int xfb, .int xlr, .ref yd, .int xdm])), (ys, .inl (U.2.2.1 0, 16, .inl gs)), (yd, .inl (U.2.2.1 0, 17, .inl gd))] [] [0, 1, 2] [0, 1, 2] (wr := [(m, .inr (6, [.int (0 : Int32), .ref ys, .ref ya, .ref yt, .int xsm, .ref yn, .int xhs, .ref yx, .int xln, .int xat, .int xiw, .ref yr, .int xrm, .int xfb, .int xlr, .ref yd, .int xdm])), (ys, .inl (U.2.2.1 0, 16, .inl gs)), (yd, .inl (U.2.2.1 0, 17, .inl gd))]) rfl rfl rfl rfl (by decide) rfl rfl  dX6_digitAt_37 ⟨Nat.le_of_ble_eq_true rfl, Nat.le_of_ble_eq_true rfl⟩ [.int (b2i (isRec p1))] rfl ?_
  refine J_if_eq_b C 61 dX6_digitAt_40 (by decide) (fun h => absurd h (fun hh => hh v_2)) (fun _ => ?_)
  refine J_iload_n C dX6_digitAt_43 rfl rfl ?_
  refine J_iconst C (v := (0 : Int32)) dX6_digitAt_44 (by decide) ?_
  refine J_iload C dX6_digitAt_45 rfl ?_
  refine J_iconst C (v := (1 : Int32)) dX6_digitAt_47 (by decide) ?_
  refine J_isub C (v := (gs 0) - (1 : Int32)) dX6_digitAt_48 rfl ?_
  refine J_callS C (c_X6_in U p2 (0 : Int32) ((gs 0) - (1 : Int32)) ) gX6_digitAt_X6_in (n := 3) rfl rfl rfl (by decide +kernel) ⟨Nat.le_of_ble_eq_true rfl, Nat.le_of_ble_eq_true rfl⟩ rfl (rest := []) rfl (Nat.le_of_ble_eq_true rfl) [(m, .inr (6, [.int (0 : Int32), .ref ys, .ref ya, .ref yt, .int xsm, .ref yn, .int xhs, .ref yx, .int xln, .int xat, .int xiw, .ref yr, .int xrm, .int xfb, .int xlr, .ref yd, .int xdm])), (ys, .inl (U.2.2.1 0, 16, .inl gs)), (yd, .inl (U.2.2.1 0, 17, .inl gd))] [] [0, 1, 2] [0, 1, 2] (wr := [(m, .inr (6, [.int (0 : Int32), .ref ys, .ref ya, .ref yt, .int xsm, .ref yn, .int xhs, .ref yx, .int xln, .int xat, .int xiw, .ref yr, .int xrm, .int xfb, .int xlr, .ref yd, .int xdm])), (ys, .inl (U.2.2.1 0, 16, .inl gs)), (yd, .inl (U.2.2.1 0, 17, .inl gd))]) rfl rfl rfl rfl (by decide) rfl rfl  dX6_digitAt_49 ⟨Nat.le_of_ble_eq_true rfl, Nat.le_of_ble_eq_true rfl⟩ [.int (b2i (inF p2 (0 : Int32) ((gs 0) - (1 : Int32))))] rfl ?_
  refine J_if_ne_b C 61 dX6_digitAt_52 (by decide) (fun _ => ?_) (fun h => absurd v_3 h)
  refine J_iload_n C dX6_digitAt_61 rfl rfl ?_
  refine J_callS C (c_X6_isRecoding U p1 ) gX6_digitAt_X6_isRecoding (n := 1) rfl rfl rfl (by decide +kernel) ⟨Nat.le_of_ble_eq_true rfl, Nat.le_of_ble_eq_true rfl⟩ rfl (rest := []) rfl (Nat.le_of_ble_eq_true rfl) [(m, .inr (6, [.int (0 : Int32), .ref ys, .ref ya, .ref yt, .int xsm, .ref yn, .int xhs, .ref yx, .int xln, .int xat, .int xiw, .ref yr, .int xrm, .int xfb, .int xlr, .ref yd, .int xdm])), (ys, .inl (U.2.2.1 0, 16, .inl gs)), (yd, .inl (U.2.2.1 0, 17, .inl gd))] [] [0, 1, 2] [0, 1, 2] (wr := [(m, .inr (6, [.int (0 : Int32), .ref ys, .ref ya, .ref yt, .int xsm, .ref yn, .int xhs, .ref yx, .int xln, .int xat, .int xiw, .ref yr, .int xrm, .int xfb, .int xlr, .ref yd, .int xdm])), (ys, .inl (U.2.2.1 0, 16, .inl gs)), (yd, .inl (U.2.2.1 0, 17, .inl gd))]) rfl rfl rfl rfl (by decide) rfl rfl  dX6_digitAt_62 ⟨Nat.le_of_ble_eq_true rfl, Nat.le_of_ble_eq_true rfl⟩ [.int (b2i (isRec p1))] rfl ?_
  refine J_if_ne_b C 74 dX6_digitAt_65 (by decide) (fun _ => ?_) (fun h => absurd v_2 h)
  refine J_aload_n C dX6_digitAt_74 rfl rfl ?_
  refine J_iload_n C dX6_digitAt_75 rfl rfl ?_
  refine J_callV C (c_X6_isOdd U m ys ya yt yn yx yr yd (0 : Int32) xsm xhs xln xat xiw xrm xfb xlr xdm gs p1 ) gX6_digitAt_X6_isOdd (n := 1) rfl rfl rfl (by decide +kernel) ⟨Nat.le_of_ble_eq_true rfl, Nat.le_of_ble_eq_true rfl⟩ 0 rfl rfl rfl (rest := []) rfl (Nat.le_of_ble_eq_true rfl) [(m, .inr (6, [.int (0 : Int32), .ref ys, .ref ya, .ref yt, .int xsm, .ref yn, .int xhs, .ref yx, .int xln, .int xat, .int xiw, .ref yr, .int xrm, .int xfb, .int xlr, .ref yd, .int xdm])), (ys, .inl (U.2.2.1 0, 16, .inl gs)), (yd, .inl (U.2.2.1 0, 17, .inl gd))] [0, 1] [2] [1, 2, 0] (wr := [(yd, .inl (U.2.2.1 0, 17, .inl gd))]) rfl rfl rfl rfl (by decide) rfl rfl  dX6_digitAt_76 ⟨Nat.le_of_ble_eq_true rfl, Nat.le_of_ble_eq_true rfl⟩ [.int (b2i (p1 = 1 ∧ rem2 (gs 0) = 1))] rfl ?_
  refine J_if_eq_b C 88 dX6_digitAt_79 (by decide) (fun _ => ?_) (fun h => absurd h v_4)
  refine J_aload_n C dX6_digitAt_88 rfl rfl ?_
  refine J_aload_n C dX6_digitAt_89 rfl rfl ?_
  refine J_iload_n C dX6_digitAt_90 rfl rfl ?_
  refine J_callV C (c_X6_of U m ys ya yt yn yx yr yd (0 : Int32) xsm xhs xln xat xiw xrm xfb xlr xdm gs p0 v_1) gX6_digitAt_X6_of (n := 1) rfl rfl rfl (by decide +kernel) ⟨Nat.le_of_ble_eq_true rfl, Nat.le_of_ble_eq_true rfl⟩ 0 rfl rfl rfl (rest := [.ref m]) rfl (Nat.le_of_ble_eq_true rfl) [(m, .inr (6, [.int (0 : Int32), .ref ys, .ref ya, .ref yt, .int xsm, .ref yn, .int xhs, .ref yx, .int xln, .int xat, .int xiw, .ref yr, .int xrm, .int xfb, .int xlr, .ref yd, .int xdm])), (ys, .inl (U.2.2.1 0, 16, .inl gs)), (yd, .inl (U.2.2.1 0, 17, .inl gd))] [0, 1] [2] [1, 2, 0] (wr := [(yd, .inl (U.2.2.1 0, 17, .inl gd))]) rfl rfl rfl rfl (by decide) rfl rfl  dX6_digitAt_91 ⟨Nat.le_of_ble_eq_true rfl, Nat.le_of_ble_eq_true rfl⟩ [.int (gs (1 + p0.toNatClampNeg)), .ref m] rfl ?_
  refine J_iload_n C dX6_digitAt_94 rfl rfl ?_
  refine J_callV C (c_X6_tellsDigits U m ys ya yt yn yx yr yd (0 : Int32) xsm xhs xln xat xiw xrm xfb xlr xdm gs gd D (gs (1 + p0.toNatClampNeg)) p1 hD hD9 v_2) gX6_digitAt_X6_tellsDigits (n := 2) rfl rfl rfl (by decide +kernel) ⟨Nat.le_of_ble_eq_true rfl, Nat.le_of_ble_eq_true rfl⟩ 0 rfl rfl rfl (rest := []) rfl (Nat.le_of_ble_eq_true rfl) [(m, .inr (6, [.int (0 : Int32), .ref ys, .ref ya, .ref yt, .int xsm, .ref yn, .int xhs, .ref yx, .int xln, .int xat, .int xiw, .ref yr, .int xrm, .int xfb, .int xlr, .ref yd, .int (dcntF p1 (gs 0))])), (ys, .inl (U.2.2.1 0, 16, .inl gs)), (yd, .inl (U.2.2.1 0, 17, .inl (dgF (gs (1 + p0.toNatClampNeg)) p1 gd D)))] [0, 1, 2] [] [0, 1, 2] (wr := []) rfl rfl rfl rfl (by decide) rfl rfl  dX6_digitAt_95 ⟨Nat.le_of_ble_eq_true rfl, Nat.le_of_ble_eq_true rfl⟩ [] rfl ?_
  refine J_aload_n C dX6_digitAt_98 rfl rfl ?_
  refine J_get C 0 15 rfl rfl i_X6_digitAt_X6 (by decide) k_X6_digitAt_28 rfl rfl dX6_digitAt_99 ?_
  refine J_iload_n C dX6_digitAt_102 rfl rfl ?_
  refine J_iald C 2 rfl hin9 rfl dX6_digitAt_103 ?_
  exact J_iret C R dX6_digitAt_104 (Nat.le_of_ble_eq_true rfl) (Nat.le_of_ble_eq_true rfl) rfl rfl
set_option maxHeartbeats 4000000 in
set_option maxRecDepth 100000 in
theorem c_X6_rowsOf_no1 (U : jU) (m ys ya yt yn yx yr yd : Nat) (xth xsm xhs xln xat xiw xrm xfb xlr xdm : Int32) (p0 p1 : Int32) (v_1 : ¬ (isReg p0)) (hz : b2i (isReg p0) = 0) : Fn U yX6_rowsOf wsX6_rowsOf { frames := 3, cells := 0, slots := 0, locals := 70 } [.ref m, .int p0, .int p1] [(m, .inr (6, [.int xth, .ref ys, .ref ya, .ref yt, .int xsm, .ref yn, .int xhs, .ref yx, .int xln, .int xat, .int xiw, .ref yr, .int xrm, .int xfb, .int xlr, .ref yd, .int xdm]))] (some (.int (0 : Int32))) [(m, .inr (6, [.int (1 : Int32), .ref ys, .ref ya, .ref yt, .int xsm, .ref yn, .int xhs, .ref yx, .int xln, .int xat, .int xiw, .ref yr, .int xrm, .int xfb, .int xlr, .ref yd, .int xdm]))] 0 0 := by
  refine Fn_of (cc := cX6_rowsOf) (maxL := 5) (ret := (some .int)) [some (.ref m), some (.int p0), some (.int p1), none, none] (by decide +kernel) rfl (jcat rfl) (Nat.le_of_ble_eq_true rfl) rfl (fun k C R hin hnL => ?_)
  have hN : ∀ i, i < 5 → i < k.2.2.2.2.2.2.2.2.2.2.2.1 := fun i h => by rw [hnL]; exact h
  refine J_aload_n C dX6_rowsOf_0 rfl rfl ?_
  refine J_iload_n C dX6_rowsOf_1 rfl rfl ?_
  refine J_callS C (c_X6_isRegister U p0 ) gX6_rowsOf_X6_isRegister (n := 1) rfl rfl rfl (by decide +kernel) ⟨Nat.le_of_ble_eq_true rfl, Nat.le_of_ble_eq_true rfl⟩ rfl (rest := [.ref m]) rfl (Nat.le_of_ble_eq_true rfl) [(m, .inr (6, [.int xth, .ref ys, .ref ya, .ref yt, .int xsm, .ref yn, .int xhs, .ref yx, .int xln, .int xat, .int xiw, .ref yr, .int xrm, .int xfb, .int xlr, .ref yd, .int xdm]))] [] [0] [0] (wr := [(m, .inr (6, [.int xth, .ref ys, .ref ya, .ref yt, .int xsm, .ref yn, .int xhs, .ref yx, .int xln, .int xat, .int xiw, .ref yr, .int xrm, .int xfb, .int xlr, .ref yd, .int xdm]))]) rfl rfl rfl rfl (by decide) rfl rfl  dX6_rowsOf_2 ⟨Nat.le_of_ble_eq_true rfl, Nat.le_of_ble_eq_true rfl⟩ [.int (b2i (isReg p0)), .ref m] rfl ?_
  refine J_iload_n C dX6_rowsOf_5 rfl rfl ?_
  refine J_iload_n C dX6_rowsOf_6 rfl rfl ?_
  refine J_callV C (c_X6_hasDigits_no1 U m ys ya yt yn yx yr yd xth xsm xhs xln xat xiw xrm xfb xlr xdm (b2i (isReg p0)) p0 p1 hz) gX6_rowsOf_X6_hasDigits (n := 3) rfl rfl rfl (by decide +kernel) ⟨Nat.le_of_ble_eq_true rfl, Nat.le_of_ble_eq_true rfl⟩ 0 rfl rfl rfl (rest := []) rfl (Nat.le_of_ble_eq_true rfl) [(m, .inr (6, [.int (1 : Int32), .ref ys, .ref ya, .ref yt, .int xsm, .ref yn, .int xhs, .ref yx, .int xln, .int xat, .int xiw, .ref yr, .int xrm, .int xfb, .int xlr, .ref yd, .int xdm]))] [0] [] [0] (wr := []) rfl rfl rfl rfl (by decide) rfl rfl  dX6_rowsOf_7 ⟨Nat.le_of_ble_eq_true rfl, Nat.le_of_ble_eq_true rfl⟩ [.int (0 : Int32)] rfl ?_
  refine J_if_ne C 15 dX6_rowsOf_10 (by decide) (fun h => absurd (by decide) h) (fun _ => ?_)
  refine J_iconst C (v := (0 : Int32)) dX6_rowsOf_13 (by decide) ?_
  exact J_iret C R dX6_rowsOf_14 (Nat.le_of_ble_eq_true rfl) (Nat.le_of_ble_eq_true rfl) rfl rfl
set_option maxHeartbeats 4000000 in
set_option maxRecDepth 100000 in
theorem c_X6_rowsOf_no2 (U : jU) (m ys ya yt yn yx yr yd : Nat) (xth xsm xhs xln xat xiw xrm xfb xlr xdm : Int32) (p0 p1 : Int32) (v_1 : isReg p0) (hz : ¬ b2i (isReg p0) = 0) (v_2 : ¬ isRec p1) : Fn U yX6_rowsOf wsX6_rowsOf { frames := 3, cells := 0, slots := 0, locals := 70 } [.ref m, .int p0, .int p1] [(m, .inr (6, [.int xth, .ref ys, .ref ya, .ref yt, .int xsm, .ref yn, .int xhs, .ref yx, .int xln, .int xat, .int xiw, .ref yr, .int xrm, .int xfb, .int xlr, .ref yd, .int xdm]))] (some (.int (0 : Int32))) [(m, .inr (6, [.int (2 : Int32), .ref ys, .ref ya, .ref yt, .int xsm, .ref yn, .int xhs, .ref yx, .int xln, .int xat, .int xiw, .ref yr, .int xrm, .int xfb, .int xlr, .ref yd, .int xdm]))] 0 0 := by
  refine Fn_of (cc := cX6_rowsOf) (maxL := 5) (ret := (some .int)) [some (.ref m), some (.int p0), some (.int p1), none, none] (by decide +kernel) rfl (jcat rfl) (Nat.le_of_ble_eq_true rfl) rfl (fun k C R hin hnL => ?_)
  have hN : ∀ i, i < 5 → i < k.2.2.2.2.2.2.2.2.2.2.2.1 := fun i h => by rw [hnL]; exact h
  refine J_aload_n C dX6_rowsOf_0 rfl rfl ?_
  refine J_iload_n C dX6_rowsOf_1 rfl rfl ?_
  refine J_callS C (c_X6_isRegister U p0 ) gX6_rowsOf_X6_isRegister (n := 1) rfl rfl rfl (by decide +kernel) ⟨Nat.le_of_ble_eq_true rfl, Nat.le_of_ble_eq_true rfl⟩ rfl (rest := [.ref m]) rfl (Nat.le_of_ble_eq_true rfl) [(m, .inr (6, [.int xth, .ref ys, .ref ya, .ref yt, .int xsm, .ref yn, .int xhs, .ref yx, .int xln, .int xat, .int xiw, .ref yr, .int xrm, .int xfb, .int xlr, .ref yd, .int xdm]))] [] [0] [0] (wr := [(m, .inr (6, [.int xth, .ref ys, .ref ya, .ref yt, .int xsm, .ref yn, .int xhs, .ref yx, .int xln, .int xat, .int xiw, .ref yr, .int xrm, .int xfb, .int xlr, .ref yd, .int xdm]))]) rfl rfl rfl rfl (by decide) rfl rfl  dX6_rowsOf_2 ⟨Nat.le_of_ble_eq_true rfl, Nat.le_of_ble_eq_true rfl⟩ [.int (b2i (isReg p0)), .ref m] rfl ?_
  refine J_iload_n C dX6_rowsOf_5 rfl rfl ?_
  refine J_iload_n C dX6_rowsOf_6 rfl rfl ?_
  refine J_callV C (c_X6_hasDigits_no2 U m ys ya yt yn yx yr yd xth xsm xhs xln xat xiw xrm xfb xlr xdm (b2i (isReg p0)) p0 p1 hz v_2) gX6_rowsOf_X6_hasDigits (n := 3) rfl rfl rfl (by decide +kernel) ⟨Nat.le_of_ble_eq_true rfl, Nat.le_of_ble_eq_true rfl⟩ 0 rfl rfl rfl (rest := []) rfl (Nat.le_of_ble_eq_true rfl) [(m, .inr (6, [.int (2 : Int32), .ref ys, .ref ya, .ref yt, .int xsm, .ref yn, .int xhs, .ref yx, .int xln, .int xat, .int xiw, .ref yr, .int xrm, .int xfb, .int xlr, .ref yd, .int xdm]))] [0] [] [0] (wr := []) rfl rfl rfl rfl (by decide) rfl rfl  dX6_rowsOf_7 ⟨Nat.le_of_ble_eq_true rfl, Nat.le_of_ble_eq_true rfl⟩ [.int (0 : Int32)] rfl ?_
  refine J_if_ne C 15 dX6_rowsOf_10 (by decide) (fun h => absurd (by decide) h) (fun _ => ?_)
  refine J_iconst C (v := (0 : Int32)) dX6_rowsOf_13 (by decide) ?_
  exact J_iret C R dX6_rowsOf_14 (Nat.le_of_ble_eq_true rfl) (Nat.le_of_ble_eq_true rfl) rfl rfl
set_option maxHeartbeats 4000000 in
set_option maxRecDepth 100000 in
theorem c_X6_rowsOf_no3 (U : jU) (m ys ya yt yn yx yr yd : Nat) (xth xsm xhs xln xat xiw xrm xfb xlr xdm : Int32) (gs : Nat → Int32) (p0 p1 : Int32) (v_1 : isReg p0) (hz : ¬ b2i (isReg p0) = 0) (v_2 : isRec p1) (v_3 : p1 = 1 ∧ rem2 (gs 0) = 1) : Fn U yX6_rowsOf wsX6_rowsOf { frames := 3, cells := 0, slots := 0, locals := 70 } [.ref m, .int p0, .int p1] [(m, .inr (6, [.int xth, .ref ys, .ref ya, .ref yt, .int xsm, .ref yn, .int xhs, .ref yx, .int xln, .int xat, .int xiw, .ref yr, .int xrm, .int xfb, .int xlr, .ref yd, .int xdm])), (ys, .inl (U.2.2.1 0, 16, .inl gs))] (some (.int (0 : Int32))) [(m, .inr (6, [.int (3 : Int32), .ref ys, .ref ya, .ref yt, .int xsm, .ref yn, .int xhs, .ref yx, .int xln, .int xat, .int xiw, .ref yr, .int xrm, .int xfb, .int xlr, .ref yd, .int xdm])), (ys, .inl (U.2.2.1 0, 16, .inl gs))] 0 0 := by
  refine Fn_of (cc := cX6_rowsOf) (maxL := 5) (ret := (some .int)) [some (.ref m), some (.int p0), some (.int p1), none, none] (by decide +kernel) rfl (jcat rfl) (Nat.le_of_ble_eq_true rfl) rfl (fun k C R hin hnL => ?_)
  have hN : ∀ i, i < 5 → i < k.2.2.2.2.2.2.2.2.2.2.2.1 := fun i h => by rw [hnL]; exact h
  refine J_aload_n C dX6_rowsOf_0 rfl rfl ?_
  refine J_iload_n C dX6_rowsOf_1 rfl rfl ?_
  refine J_callS C (c_X6_isRegister U p0 ) gX6_rowsOf_X6_isRegister (n := 1) rfl rfl rfl (by decide +kernel) ⟨Nat.le_of_ble_eq_true rfl, Nat.le_of_ble_eq_true rfl⟩ rfl (rest := [.ref m]) rfl (Nat.le_of_ble_eq_true rfl) [(m, .inr (6, [.int xth, .ref ys, .ref ya, .ref yt, .int xsm, .ref yn, .int xhs, .ref yx, .int xln, .int xat, .int xiw, .ref yr, .int xrm, .int xfb, .int xlr, .ref yd, .int xdm])), (ys, .inl (U.2.2.1 0, 16, .inl gs))] [] [0, 1] [0, 1] (wr := [(m, .inr (6, [.int xth, .ref ys, .ref ya, .ref yt, .int xsm, .ref yn, .int xhs, .ref yx, .int xln, .int xat, .int xiw, .ref yr, .int xrm, .int xfb, .int xlr, .ref yd, .int xdm])), (ys, .inl (U.2.2.1 0, 16, .inl gs))]) rfl rfl rfl rfl (by decide) rfl rfl  dX6_rowsOf_2 ⟨Nat.le_of_ble_eq_true rfl, Nat.le_of_ble_eq_true rfl⟩ [.int (b2i (isReg p0)), .ref m] rfl ?_
  refine J_iload_n C dX6_rowsOf_5 rfl rfl ?_
  refine J_iload_n C dX6_rowsOf_6 rfl rfl ?_
  refine J_callV C (c_X6_hasDigits_no3 U m ys ya yt yn yx yr yd xth xsm xhs xln xat xiw xrm xfb xlr xdm gs (b2i (isReg p0)) p0 p1 hz v_2 v_3) gX6_rowsOf_X6_hasDigits (n := 3) rfl rfl rfl (by decide +kernel) ⟨Nat.le_of_ble_eq_true rfl, Nat.le_of_ble_eq_true rfl⟩ 0 rfl rfl rfl (rest := []) rfl (Nat.le_of_ble_eq_true rfl) [(m, .inr (6, [.int (3 : Int32), .ref ys, .ref ya, .ref yt, .int xsm, .ref yn, .int xhs, .ref yx, .int xln, .int xat, .int xiw, .ref yr, .int xrm, .int xfb, .int xlr, .ref yd, .int xdm])), (ys, .inl (U.2.2.1 0, 16, .inl gs))] [0, 1] [] [0, 1] (wr := []) rfl rfl rfl rfl (by decide) rfl rfl  dX6_rowsOf_7 ⟨Nat.le_of_ble_eq_true rfl, Nat.le_of_ble_eq_true rfl⟩ [.int (0 : Int32)] rfl ?_
  refine J_if_ne C 15 dX6_rowsOf_10 (by decide) (fun h => absurd (by decide) h) (fun _ => ?_)
  refine J_iconst C (v := (0 : Int32)) dX6_rowsOf_13 (by decide) ?_
  exact J_iret C R dX6_rowsOf_14 (Nat.le_of_ble_eq_true rfl) (Nat.le_of_ble_eq_true rfl) rfl rfl
set_option maxHeartbeats 4000000 in
set_option maxRecDepth 100000 in
theorem c_X6_productByRows_no1 (U : jU) (m ys ya yt yn yx yr yd : Nat) (xth xsm xhs xln xat xiw xrm xfb xlr xdm : Int32) (p0 p1 p2 : Int32) (v_1 : ¬ (isReg p0 ∧ isReg p1)) (hz : b2i (isReg p0 ∧ isReg p1) = 0) : Fn U yX6_productByRows wsX6_productByRows { frames := 3, cells := 0, slots := 0, locals := 70 } [.ref m, .int p0, .int p1, .int p2] [(m, .inr (6, [.int xth, .ref ys, .ref ya, .ref yt, .int xsm, .ref yn, .int xhs, .ref yx, .int xln, .int xat, .int xiw, .ref yr, .int xrm, .int xfb, .int xlr, .ref yd, .int xdm]))] (some (.int (0 : Int32))) [(m, .inr (6, [.int (1 : Int32), .ref ys, .ref ya, .ref yt, .int xsm, .ref yn, .int xhs, .ref yx, .int xln, .int xat, .int xiw, .ref yr, .int xrm, .int xfb, .int xlr, .ref yd, .int xdm]))] 0 0 := by
  refine Fn_of (cc := cX6_productByRows) (maxL := 6) (ret := (some .int)) [some (.ref m), some (.int p0), some (.int p1), some (.int p2), none, none] (by decide +kernel) rfl (jcat rfl) (Nat.le_of_ble_eq_true rfl) rfl (fun k C R hin hnL => ?_)
  have hN : ∀ i, i < 6 → i < k.2.2.2.2.2.2.2.2.2.2.2.1 := fun i h => by rw [hnL]; exact h
  refine J_aload_n C dX6_productByRows_0 rfl rfl ?_
  refine J_iload_n C dX6_productByRows_1 rfl rfl ?_
  refine J_iload_n C dX6_productByRows_2 rfl rfl ?_
  refine J_callS C (c_X6_areRegisters U p0 p1 ) gX6_productByRows_X6_areRegisters (n := 2) rfl rfl rfl (by decide +kernel) ⟨Nat.le_of_ble_eq_true rfl, Nat.le_of_ble_eq_true rfl⟩ rfl (rest := [.ref m]) rfl (Nat.le_of_ble_eq_true rfl) [(m, .inr (6, [.int xth, .ref ys, .ref ya, .ref yt, .int xsm, .ref yn, .int xhs, .ref yx, .int xln, .int xat, .int xiw, .ref yr, .int xrm, .int xfb, .int xlr, .ref yd, .int xdm]))] [] [0] [0] (wr := [(m, .inr (6, [.int xth, .ref ys, .ref ya, .ref yt, .int xsm, .ref yn, .int xhs, .ref yx, .int xln, .int xat, .int xiw, .ref yr, .int xrm, .int xfb, .int xlr, .ref yd, .int xdm]))]) rfl rfl rfl rfl (by decide) rfl rfl  dX6_productByRows_3 ⟨Nat.le_of_ble_eq_true rfl, Nat.le_of_ble_eq_true rfl⟩ [.int (b2i (isReg p0 ∧ isReg p1)), .ref m] rfl ?_
  refine J_iload_n C dX6_productByRows_6 rfl rfl ?_
  refine J_iload_n C dX6_productByRows_7 rfl rfl ?_
  refine J_callV C (c_X6_hasDigits_no1 U m ys ya yt yn yx yr yd xth xsm xhs xln xat xiw xrm xfb xlr xdm (b2i (isReg p0 ∧ isReg p1)) p1 p2 hz) gX6_productByRows_X6_hasDigits (n := 3) rfl rfl rfl (by decide +kernel) ⟨Nat.le_of_ble_eq_true rfl, Nat.le_of_ble_eq_true rfl⟩ 0 rfl rfl rfl (rest := []) rfl (Nat.le_of_ble_eq_true rfl) [(m, .inr (6, [.int (1 : Int32), .ref ys, .ref ya, .ref yt, .int xsm, .ref yn, .int xhs, .ref yx, .int xln, .int xat, .int xiw, .ref yr, .int xrm, .int xfb, .int xlr, .ref yd, .int xdm]))] [0] [] [0] (wr := []) rfl rfl rfl rfl (by decide) rfl rfl  dX6_productByRows_8 ⟨Nat.le_of_ble_eq_true rfl, Nat.le_of_ble_eq_true rfl⟩ [.int (0 : Int32)] rfl ?_
  refine J_if_ne C 16 dX6_productByRows_11 (by decide) (fun h => absurd (by decide) h) (fun _ => ?_)
  refine J_iconst C (v := (0 : Int32)) dX6_productByRows_14 (by decide) ?_
  exact J_iret C R dX6_productByRows_15 (Nat.le_of_ble_eq_true rfl) (Nat.le_of_ble_eq_true rfl) rfl rfl
set_option maxHeartbeats 4000000 in
set_option maxRecDepth 100000 in
theorem c_X6_productByRows_no2 (U : jU) (m ys ya yt yn yx yr yd : Nat) (xth xsm xhs xln xat xiw xrm xfb xlr xdm : Int32) (p0 p1 p2 : Int32) (v_1 : isReg p0 ∧ isReg p1) (hz : ¬ b2i (isReg p0 ∧ isReg p1) = 0) (v_2 : ¬ isRec p2) : Fn U yX6_productByRows wsX6_productByRows { frames := 3, cells := 0, slots := 0, locals := 70 } [.ref m, .int p0, .int p1, .int p2] [(m, .inr (6, [.int xth, .ref ys, .ref ya, .ref yt, .int xsm, .ref yn, .int xhs, .ref yx, .int xln, .int xat, .int xiw, .ref yr, .int xrm, .int xfb, .int xlr, .ref yd, .int xdm]))] (some (.int (0 : Int32))) [(m, .inr (6, [.int (2 : Int32), .ref ys, .ref ya, .ref yt, .int xsm, .ref yn, .int xhs, .ref yx, .int xln, .int xat, .int xiw, .ref yr, .int xrm, .int xfb, .int xlr, .ref yd, .int xdm]))] 0 0 := by
  refine Fn_of (cc := cX6_productByRows) (maxL := 6) (ret := (some .int)) [some (.ref m), some (.int p0), some (.int p1), some (.int p2), none, none] (by decide +kernel) rfl (jcat rfl) (Nat.le_of_ble_eq_true rfl) rfl (fun k C R hin hnL => ?_)
  have hN : ∀ i, i < 6 → i < k.2.2.2.2.2.2.2.2.2.2.2.1 := fun i h => by rw [hnL]; exact h
  refine J_aload_n C dX6_productByRows_0 rfl rfl ?_
  refine J_iload_n C dX6_productByRows_1 rfl rfl ?_
  refine J_iload_n C dX6_productByRows_2 rfl rfl ?_
  refine J_callS C (c_X6_areRegisters U p0 p1 ) gX6_productByRows_X6_areRegisters (n := 2) rfl rfl rfl (by decide +kernel) ⟨Nat.le_of_ble_eq_true rfl, Nat.le_of_ble_eq_true rfl⟩ rfl (rest := [.ref m]) rfl (Nat.le_of_ble_eq_true rfl) [(m, .inr (6, [.int xth, .ref ys, .ref ya, .ref yt, .int xsm, .ref yn, .int xhs, .ref yx, .int xln, .int xat, .int xiw, .ref yr, .int xrm, .int xfb, .int xlr, .ref yd, .int xdm]))] [] [0] [0] (wr := [(m, .inr (6, [.int xth, .ref ys, .ref ya, .ref yt, .int xsm, .ref yn, .int xhs, .ref yx, .int xln, .int xat, .int xiw, .ref yr, .int xrm, .int xfb, .int xlr, .ref yd, .int xdm]))]) rfl rfl rfl rfl (by decide) rfl rfl  dX6_productByRows_3 ⟨Nat.le_of_ble_eq_true rfl, Nat.le_of_ble_eq_true rfl⟩ [.int (b2i (isReg p0 ∧ isReg p1)), .ref m] rfl ?_
  refine J_iload_n C dX6_productByRows_6 rfl rfl ?_
  refine J_iload_n C dX6_productByRows_7 rfl rfl ?_
  refine J_callV C (c_X6_hasDigits_no2 U m ys ya yt yn yx yr yd xth xsm xhs xln xat xiw xrm xfb xlr xdm (b2i (isReg p0 ∧ isReg p1)) p1 p2 hz v_2) gX6_productByRows_X6_hasDigits (n := 3) rfl rfl rfl (by decide +kernel) ⟨Nat.le_of_ble_eq_true rfl, Nat.le_of_ble_eq_true rfl⟩ 0 rfl rfl rfl (rest := []) rfl (Nat.le_of_ble_eq_true rfl) [(m, .inr (6, [.int (2 : Int32), .ref ys, .ref ya, .ref yt, .int xsm, .ref yn, .int xhs, .ref yx, .int xln, .int xat, .int xiw, .ref yr, .int xrm, .int xfb, .int xlr, .ref yd, .int xdm]))] [0] [] [0] (wr := []) rfl rfl rfl rfl (by decide) rfl rfl  dX6_productByRows_8 ⟨Nat.le_of_ble_eq_true rfl, Nat.le_of_ble_eq_true rfl⟩ [.int (0 : Int32)] rfl ?_
  refine J_if_ne C 16 dX6_productByRows_11 (by decide) (fun h => absurd (by decide) h) (fun _ => ?_)
  refine J_iconst C (v := (0 : Int32)) dX6_productByRows_14 (by decide) ?_
  exact J_iret C R dX6_productByRows_15 (Nat.le_of_ble_eq_true rfl) (Nat.le_of_ble_eq_true rfl) rfl rfl
set_option maxHeartbeats 4000000 in
set_option maxRecDepth 100000 in
theorem c_X6_productByRows_no3 (U : jU) (m ys ya yt yn yx yr yd : Nat) (xth xsm xhs xln xat xiw xrm xfb xlr xdm : Int32) (gs : Nat → Int32) (p0 p1 p2 : Int32) (v_1 : isReg p0 ∧ isReg p1) (hz : ¬ b2i (isReg p0 ∧ isReg p1) = 0) (v_2 : isRec p2) (v_3 : p2 = 1 ∧ rem2 (gs 0) = 1) : Fn U yX6_productByRows wsX6_productByRows { frames := 3, cells := 0, slots := 0, locals := 70 } [.ref m, .int p0, .int p1, .int p2] [(m, .inr (6, [.int xth, .ref ys, .ref ya, .ref yt, .int xsm, .ref yn, .int xhs, .ref yx, .int xln, .int xat, .int xiw, .ref yr, .int xrm, .int xfb, .int xlr, .ref yd, .int xdm])), (ys, .inl (U.2.2.1 0, 16, .inl gs))] (some (.int (0 : Int32))) [(m, .inr (6, [.int (3 : Int32), .ref ys, .ref ya, .ref yt, .int xsm, .ref yn, .int xhs, .ref yx, .int xln, .int xat, .int xiw, .ref yr, .int xrm, .int xfb, .int xlr, .ref yd, .int xdm])), (ys, .inl (U.2.2.1 0, 16, .inl gs))] 0 0 := by
  refine Fn_of (cc := cX6_productByRows) (maxL := 6) (ret := (some .int)) [some (.ref m), some (.int p0), some (.int p1), some (.int p2), none, none] (by decide +kernel) rfl (jcat rfl) (Nat.le_of_ble_eq_true rfl) rfl (fun k C R hin hnL => ?_)
  have hN : ∀ i, i < 6 → i < k.2.2.2.2.2.2.2.2.2.2.2.1 := fun i h => by rw [hnL]; exact h
  refine J_aload_n C dX6_productByRows_0 rfl rfl ?_
  refine J_iload_n C dX6_productByRows_1 rfl rfl ?_
  refine J_iload_n C dX6_productByRows_2 rfl rfl ?_
  refine J_callS C (c_X6_areRegisters U p0 p1 ) gX6_productByRows_X6_areRegisters (n := 2) rfl rfl rfl (by decide +kernel) ⟨Nat.le_of_ble_eq_true rfl, Nat.le_of_ble_eq_true rfl⟩ rfl (rest := [.ref m]) rfl (Nat.le_of_ble_eq_true rfl) [(m, .inr (6, [.int xth, .ref ys, .ref ya, .ref yt, .int xsm, .ref yn, .int xhs, .ref yx, .int xln, .int xat, .int xiw, .ref yr, .int xrm, .int xfb, .int xlr, .ref yd, .int xdm])), (ys, .inl (U.2.2.1 0, 16, .inl gs))] [] [0, 1] [0, 1] (wr := [(m, .inr (6, [.int xth, .ref ys, .ref ya, .ref yt, .int xsm, .ref yn, .int xhs, .ref yx, .int xln, .int xat, .int xiw, .ref yr, .int xrm, .int xfb, .int xlr, .ref yd, .int xdm])), (ys, .inl (U.2.2.1 0, 16, .inl gs))]) rfl rfl rfl rfl (by decide) rfl rfl  dX6_productByRows_3 ⟨Nat.le_of_ble_eq_true rfl, Nat.le_of_ble_eq_true rfl⟩ [.int (b2i (isReg p0 ∧ isReg p1)), .ref m] rfl ?_
  refine J_iload_n C dX6_productByRows_6 rfl rfl ?_
  refine J_iload_n C dX6_productByRows_7 rfl rfl ?_
  refine J_callV C (c_X6_hasDigits_no3 U m ys ya yt yn yx yr yd xth xsm xhs xln xat xiw xrm xfb xlr xdm gs (b2i (isReg p0 ∧ isReg p1)) p1 p2 hz v_2 v_3) gX6_productByRows_X6_hasDigits (n := 3) rfl rfl rfl (by decide +kernel) ⟨Nat.le_of_ble_eq_true rfl, Nat.le_of_ble_eq_true rfl⟩ 0 rfl rfl rfl (rest := []) rfl (Nat.le_of_ble_eq_true rfl) [(m, .inr (6, [.int (3 : Int32), .ref ys, .ref ya, .ref yt, .int xsm, .ref yn, .int xhs, .ref yx, .int xln, .int xat, .int xiw, .ref yr, .int xrm, .int xfb, .int xlr, .ref yd, .int xdm])), (ys, .inl (U.2.2.1 0, 16, .inl gs))] [0, 1] [] [0, 1] (wr := []) rfl rfl rfl rfl (by decide) rfl rfl  dX6_productByRows_8 ⟨Nat.le_of_ble_eq_true rfl, Nat.le_of_ble_eq_true rfl⟩ [.int (0 : Int32)] rfl ?_
  refine J_if_ne C 16 dX6_productByRows_11 (by decide) (fun h => absurd (by decide) h) (fun _ => ?_)
  refine J_iconst C (v := (0 : Int32)) dX6_productByRows_14 (by decide) ?_
  exact J_iret C R dX6_productByRows_15 (Nat.le_of_ble_eq_true rfl) (Nat.le_of_ble_eq_true rfl) rfl rfl
theorem k_X6_rowsOf_46 : Cond.fieldLink RX6 46 "BoothOttersModel" "digitMany" "I" ∈ wsX6_rowsOf := List.mem_of_getElem? (i := 1) rfl
theorem i_X6_rowsOf_X6 : ∀ w ∈ wsX60, w ∈ wsX6_rowsOf := fun _ h => List.mem_cons_of_mem _ (List.mem_append_right _ h)
theorem k_X6_rowsOf_28 : Cond.fieldLink RX6 28 "BoothOttersModel" "digit" "[I" ∈ wsX6_rowsOf := List.mem_of_getElem? (i := 2) rfl
set_option maxHeartbeats 4000000 in
set_option maxRecDepth 100000 in
theorem c_X6_rowsOf_ok (U : jU) (m ys ya yt yn yx yr yd : Nat) (xth xsm xhs xln xat xiw xrm xfb xlr xdm : Int32) (gs : Nat → Int32) (gd : Nat → Int32) (D : Nat) (p0 p1 : Int32) (v_1 : isReg p0) (hz : ¬ b2i (isReg p0) = 0) (v_2 : isRec p1) (v_3 : ¬ (p1 = 1 ∧ rem2 (gs 0) = 1)) (hD : dcntF p1 (gs 0) = nI D) (hD9 : D ≤ 16) : Fn U yX6_rowsOf wsX6_rowsOf { frames := 3, cells := 0, slots := 0, locals := 70 } [.ref m, .int p0, .int p1] [(m, .inr (6, [.int xth, .ref ys, .ref ya, .ref yt, .int xsm, .ref yn, .int xhs, .ref yx, .int xln, .int xat, .int xiw, .ref yr, .int xrm, .int xfb, .int xlr, .ref yd, .int xdm])), (ys, .inl (U.2.2.1 0, 16, .inl gs)), (yd, .inl (U.2.2.1 0, 17, .inl gd))] (some (.int (mrF (dgF (gs (1 + p0.toNatClampNeg)) p1 gd D) D))) [(m, .inr (6, [.int (0 : Int32), .ref ys, .ref ya, .ref yt, .int xsm, .ref yn, .int xhs, .ref yx, .int xln, .int xat, .int xiw, .ref yr, .int xrm, .int xfb, .int xlr, .ref yd, .int (dcntF p1 (gs 0))])), (ys, .inl (U.2.2.1 0, 16, .inl gs)), (yd, .inl (U.2.2.1 0, 17, .inl (dgF (gs (1 + p0.toNatClampNeg)) p1 gd D)))] 0 0 := by
  refine Fn_of (cc := cX6_rowsOf) (maxL := 5) (ret := (some .int)) [some (.ref m), some (.int p0), some (.int p1), none, none] (by decide +kernel) rfl (jcat rfl) (Nat.le_of_ble_eq_true rfl) rfl (fun k C R hin hnL => ?_)
  have hN : ∀ i, i < 5 → i < k.2.2.2.2.2.2.2.2.2.2.2.1 := fun i h => by rw [hnL]; exact h
  refine J_aload_n C dX6_rowsOf_0 rfl rfl ?_
  refine J_iload_n C dX6_rowsOf_1 rfl rfl ?_
  refine J_callS C (c_X6_isRegister U p0 ) gX6_rowsOf_X6_isRegister (n := 1) rfl rfl rfl (by decide +kernel) ⟨Nat.le_of_ble_eq_true rfl, Nat.le_of_ble_eq_true rfl⟩ rfl (rest := [.ref m]) rfl (Nat.le_of_ble_eq_true rfl) [(m, .inr (6, [.int xth, .ref ys, .ref ya, .ref yt, .int xsm, .ref yn, .int xhs, .ref yx, .int xln, .int xat, .int xiw, .ref yr, .int xrm, .int xfb, .int xlr, .ref yd, .int xdm])), (ys, .inl (U.2.2.1 0, 16, .inl gs)), (yd, .inl (U.2.2.1 0, 17, .inl gd))] [] [0, 1, 2] [0, 1, 2] (wr := [(m, .inr (6, [.int xth, .ref ys, .ref ya, .ref yt, .int xsm, .ref yn, .int xhs, .ref yx, .int xln, .int xat, .int xiw, .ref yr, .int xrm, .int xfb, .int xlr, .ref yd, .int xdm])), (ys, .inl (U.2.2.1 0, 16, .inl gs)), (yd, .inl (U.2.2.1 0, 17, .inl gd))]) rfl rfl rfl rfl (by decide) rfl rfl  dX6_rowsOf_2 ⟨Nat.le_of_ble_eq_true rfl, Nat.le_of_ble_eq_true rfl⟩ [.int (b2i (isReg p0)), .ref m] rfl ?_
  refine J_iload_n C dX6_rowsOf_5 rfl rfl ?_
  refine J_iload_n C dX6_rowsOf_6 rfl rfl ?_
  refine J_callV C (c_X6_hasDigits_ok U m ys ya yt yn yx yr yd xth xsm xhs xln xat xiw xrm xfb xlr xdm gs gd D (b2i (isReg p0)) p0 p1 hz v_2 v_3 v_1 hD hD9) gX6_rowsOf_X6_hasDigits (n := 3) rfl rfl rfl (by decide +kernel) ⟨Nat.le_of_ble_eq_true rfl, Nat.le_of_ble_eq_true rfl⟩ 0 rfl rfl rfl (rest := []) rfl (Nat.le_of_ble_eq_true rfl) [(m, .inr (6, [.int (0 : Int32), .ref ys, .ref ya, .ref yt, .int xsm, .ref yn, .int xhs, .ref yx, .int xln, .int xat, .int xiw, .ref yr, .int xrm, .int xfb, .int xlr, .ref yd, .int (dcntF p1 (gs 0))])), (ys, .inl (U.2.2.1 0, 16, .inl gs)), (yd, .inl (U.2.2.1 0, 17, .inl (dgF (gs (1 + p0.toNatClampNeg)) p1 gd D)))] [0, 1, 2] [] [0, 1, 2] (wr := []) rfl rfl rfl rfl (by decide) rfl rfl  dX6_rowsOf_7 ⟨Nat.le_of_ble_eq_true rfl, Nat.le_of_ble_eq_true rfl⟩ [.int (1 : Int32)] rfl ?_
  refine J_if_ne C 15 dX6_rowsOf_10 (by decide) (fun _ => ?_) (fun h => absurd h (by decide))
  refine J_iconst C (v := (0 : Int32)) dX6_rowsOf_15 (by decide) ?_
  refine J_istore_n C [some (.ref m), some (.int p0), some (.int p1), some (.int (0 : Int32)), none] dX6_rowsOf_16 rfl (hN 3 (by decide)) rfl ?_
  refine J_iconst C (v := (0 : Int32)) dX6_rowsOf_17 (by decide) ?_
  refine J_istore C [some (.ref m), some (.int p0), some (.int p1), some (.int (0 : Int32)), some (.int (0 : Int32))] dX6_rowsOf_18 (hN 4 (by decide)) rfl ?_
  have loop_20 : ∀ (n_f : Nat) (i : Nat) (x : Int32), D < i + n_f → i ≤ D → x = mrF (dgF (gs (1 + p0.toNatClampNeg)) p1 gd D) i → J U k 0 0 [(m, .inr (6, [.int (0 : Int32), .ref ys, .ref ya, .ref yt, .int xsm, .ref yn, .int xhs, .ref yx, .int xln, .int xat, .int xiw, .ref yr, .int xrm, .int xfb, .int xlr, .ref yd, .int (dcntF p1 (gs 0))])), (ys, .inl (U.2.2.1 0, 16, .inl gs)), (yd, .inl (U.2.2.1 0, 17, .inl (dgF (gs (1 + p0.toNatClampNeg)) p1 gd D)))] [some (.ref m), some (.int p0), some (.int p1), some (.int x), some (.int (nI i))] 20 [] := by
    intro n_f
    induction n_f with
    | zero =>
      intro i x hfuel hin_i hx
      exact absurd hfuel (by omega)
    | succ n_f ih_20 =>
      intro i x hfuel hin_i hx
      refine J_iload C dX6_rowsOf_20 rfl ?_
      refine J_aload_n C dX6_rowsOf_22 rfl rfl ?_
      refine J_get C 0 16 rfl rfl i_X6_rowsOf_X6 (by decide) k_X6_rowsOf_46 rfl rfl dX6_rowsOf_23 ?_
      refine J_icmp_ge C 53 dX6_rowsOf_26 (by decide) (fun c_26_1 => ?_) (fun c_26_1 => ?_)
      · refine J_iload_n C dX6_rowsOf_53 rfl rfl ?_
        exact J_iret C R dX6_rowsOf_54 (Nat.le_of_ble_eq_true rfl) (Nat.le_of_ble_eq_true rfl) (by have h9 := c_26_1; rw [hD] at h9; have hi9 : i = D := (nI_exit (by omega) (by omega) h9); subst hi9; rw [hx]) rfl
      · have hlt_i : i < D := by have h9 := c_26_1; rw [hD] at h9; exact nI_ngeN (by omega) (by omega) h9
        refine J_iload_n C dX6_rowsOf_29 rfl rfl ?_
        refine J_aload_n C dX6_rowsOf_30 rfl rfl ?_
        refine J_get C 0 15 rfl rfl i_X6_rowsOf_X6 (by decide) k_X6_rowsOf_28 rfl rfl dX6_rowsOf_31 ?_
        refine J_iload C dX6_rowsOf_34 rfl ?_
        refine J_iald C 2 rfl (vp_in_nI (n := i) (by omega) (by decide)) (congrArg (dgF (gs (1 + p0.toNatClampNeg)) p1 gd D) (nI_clamp (n := i) (by omega))) dX6_rowsOf_36 ?_
        refine J_if_eq C 44 dX6_rowsOf_37 (by decide) (fun c_37_2 => ?_) (fun c_37_2 => ?_)
        · refine J_iconst C (v := (0 : Int32)) dX6_rowsOf_44 (by decide) ?_
          refine J_iadd C (v := x + (0 : Int32)) dX6_rowsOf_45 rfl ?_
          refine J_istore_n C [some (.ref m), some (.int p0), some (.int p1), some (.int (x + (0 : Int32))), some (.int (nI i))] dX6_rowsOf_46 rfl (hN 3 (by decide)) rfl ?_
          refine J_iinc C (v := nI (i + 1)) [some (.ref m), some (.int p0), some (.int p1), some (.int (x + (0 : Int32))), some (.int (nI (i + 1)))] dX6_rowsOf_47 rfl (nI_o1 i) (hN 4 (by decide)) rfl ?_
          refine J_goto C 20 dX6_rowsOf_50 (by decide) ?_
          exact ih_20 (i + 1) _ (by omega) (by omega) (by rw [mrF, if_pos c_37_2, hx])
        · refine J_iconst C (v := (1 : Int32)) dX6_rowsOf_40 (by decide) ?_
          refine J_goto C 45 dX6_rowsOf_41 (by decide) ?_
          refine J_iadd C (v := x + (1 : Int32)) dX6_rowsOf_45 rfl ?_
          refine J_istore_n C [some (.ref m), some (.int p0), some (.int p1), some (.int (x + (1 : Int32))), some (.int (nI i))] dX6_rowsOf_46 rfl (hN 3 (by decide)) rfl ?_
          refine J_iinc C (v := nI (i + 1)) [some (.ref m), some (.int p0), some (.int p1), some (.int (x + (1 : Int32))), some (.int (nI (i + 1)))] dX6_rowsOf_47 rfl (nI_o1 i) (hN 4 (by decide)) rfl ?_
          refine J_goto C 20 dX6_rowsOf_50 (by decide) ?_
          exact ih_20 (i + 1) _ (by omega) (by omega) (by rw [mrF, if_neg c_37_2, hx])
  exact loop_20 (D + 1) 0 0 (by omega) (by omega) rfl
theorem k_X6_productByRows_46 : Cond.fieldLink RX6 46 "BoothOttersModel" "digitMany" "I" ∈ wsX6_productByRows := List.mem_of_getElem? (i := 1) rfl
theorem i_X6_productByRows_X6 : ∀ w ∈ wsX60, w ∈ wsX6_productByRows := fun _ h => List.mem_cons_of_mem _ (List.mem_append_right _ h)
theorem k_X6_productByRows_28 : Cond.fieldLink RX6 28 "BoothOttersModel" "digit" "[I" ∈ wsX6_productByRows := List.mem_of_getElem? (i := 2) rfl
set_option maxHeartbeats 4000000 in
set_option maxRecDepth 100000 in
theorem c_X6_productByRows_ok (U : jU) (m ys ya yt yn yx yr yd : Nat) (xth xsm xhs xln xat xiw xrm xfb xlr xdm : Int32) (gs : Nat → Int32) (gd : Nat → Int32) (D : Nat) (p0 p1 p2 : Int32) (v_1 : isReg p0 ∧ isReg p1) (hz : ¬ b2i (isReg p0 ∧ isReg p1) = 0) (v_2 : isRec p2) (v_3 : ¬ (p2 = 1 ∧ rem2 (gs 0) = 1)) (hD : dcntF p2 (gs 0) = nI D) (hD9 : D ≤ 16) : Fn U yX6_productByRows wsX6_productByRows { frames := 3, cells := 0, slots := 0, locals := 70 } [.ref m, .int p0, .int p1, .int p2] [(m, .inr (6, [.int xth, .ref ys, .ref ya, .ref yt, .int xsm, .ref yn, .int xhs, .ref yx, .int xln, .int xat, .int xiw, .ref yr, .int xrm, .int xfb, .int xlr, .ref yd, .int xdm])), (ys, .inl (U.2.2.1 0, 16, .inl gs)), (yd, .inl (U.2.2.1 0, 17, .inl gd))] (some (.int (mpF (dgF (gs (1 + p1.toNatClampNeg)) p2 gd D) (gs (1 + p0.toNatClampNeg)) p2 D))) [(m, .inr (6, [.int (0 : Int32), .ref ys, .ref ya, .ref yt, .int xsm, .ref yn, .int xhs, .ref yx, .int xln, .int xat, .int xiw, .ref yr, .int xrm, .int xfb, .int xlr, .ref yd, .int (dcntF p2 (gs 0))])), (ys, .inl (U.2.2.1 0, 16, .inl gs)), (yd, .inl (U.2.2.1 0, 17, .inl (dgF (gs (1 + p1.toNatClampNeg)) p2 gd D)))] 0 0 := by
  refine Fn_of (cc := cX6_productByRows) (maxL := 6) (ret := (some .int)) [some (.ref m), some (.int p0), some (.int p1), some (.int p2), none, none] (by decide +kernel) rfl (jcat rfl) (Nat.le_of_ble_eq_true rfl) rfl (fun k C R hin hnL => ?_)
  have hN : ∀ i, i < 6 → i < k.2.2.2.2.2.2.2.2.2.2.2.1 := fun i h => by rw [hnL]; exact h
  refine J_aload_n C dX6_productByRows_0 rfl rfl ?_
  refine J_iload_n C dX6_productByRows_1 rfl rfl ?_
  refine J_iload_n C dX6_productByRows_2 rfl rfl ?_
  refine J_callS C (c_X6_areRegisters U p0 p1 ) gX6_productByRows_X6_areRegisters (n := 2) rfl rfl rfl (by decide +kernel) ⟨Nat.le_of_ble_eq_true rfl, Nat.le_of_ble_eq_true rfl⟩ rfl (rest := [.ref m]) rfl (Nat.le_of_ble_eq_true rfl) [(m, .inr (6, [.int xth, .ref ys, .ref ya, .ref yt, .int xsm, .ref yn, .int xhs, .ref yx, .int xln, .int xat, .int xiw, .ref yr, .int xrm, .int xfb, .int xlr, .ref yd, .int xdm])), (ys, .inl (U.2.2.1 0, 16, .inl gs)), (yd, .inl (U.2.2.1 0, 17, .inl gd))] [] [0, 1, 2] [0, 1, 2] (wr := [(m, .inr (6, [.int xth, .ref ys, .ref ya, .ref yt, .int xsm, .ref yn, .int xhs, .ref yx, .int xln, .int xat, .int xiw, .ref yr, .int xrm, .int xfb, .int xlr, .ref yd, .int xdm])), (ys, .inl (U.2.2.1 0, 16, .inl gs)), (yd, .inl (U.2.2.1 0, 17, .inl gd))]) rfl rfl rfl rfl (by decide) rfl rfl  dX6_productByRows_3 ⟨Nat.le_of_ble_eq_true rfl, Nat.le_of_ble_eq_true rfl⟩ [.int (b2i (isReg p0 ∧ isReg p1)), .ref m] rfl ?_
  refine J_iload_n C dX6_productByRows_6 rfl rfl ?_
  refine J_iload_n C dX6_productByRows_7 rfl rfl ?_
  refine J_callV C (c_X6_hasDigits_ok U m ys ya yt yn yx yr yd xth xsm xhs xln xat xiw xrm xfb xlr xdm gs gd D (b2i (isReg p0 ∧ isReg p1)) p1 p2 hz v_2 v_3 v_1.2 hD hD9) gX6_productByRows_X6_hasDigits (n := 3) rfl rfl rfl (by decide +kernel) ⟨Nat.le_of_ble_eq_true rfl, Nat.le_of_ble_eq_true rfl⟩ 0 rfl rfl rfl (rest := []) rfl (Nat.le_of_ble_eq_true rfl) [(m, .inr (6, [.int (0 : Int32), .ref ys, .ref ya, .ref yt, .int xsm, .ref yn, .int xhs, .ref yx, .int xln, .int xat, .int xiw, .ref yr, .int xrm, .int xfb, .int xlr, .ref yd, .int (dcntF p2 (gs 0))])), (ys, .inl (U.2.2.1 0, 16, .inl gs)), (yd, .inl (U.2.2.1 0, 17, .inl (dgF (gs (1 + p1.toNatClampNeg)) p2 gd D)))] [0, 1, 2] [] [0, 1, 2] (wr := []) rfl rfl rfl rfl (by decide) rfl rfl  dX6_productByRows_8 ⟨Nat.le_of_ble_eq_true rfl, Nat.le_of_ble_eq_true rfl⟩ [.int (1 : Int32)] rfl ?_
  refine J_if_ne C 16 dX6_productByRows_11 (by decide) (fun _ => ?_) (fun h => absurd h (by decide))
  refine J_iconst C (v := (0 : Int32)) dX6_productByRows_16 (by decide) ?_
  refine J_istore C [some (.ref m), some (.int p0), some (.int p1), some (.int p2), some (.int (0 : Int32)), none] dX6_productByRows_17 (hN 4 (by decide)) rfl ?_
  refine J_iconst C (v := (0 : Int32)) dX6_productByRows_19 (by decide) ?_
  refine J_istore C [some (.ref m), some (.int p0), some (.int p1), some (.int p2), some (.int (0 : Int32)), some (.int (0 : Int32))] dX6_productByRows_20 (hN 5 (by decide)) rfl ?_
  have loop_22 : ∀ (n_f : Nat) (i : Nat) (x : Int32), D < i + n_f → i ≤ D → x = mpF (dgF (gs (1 + p1.toNatClampNeg)) p2 gd D) (gs (1 + p0.toNatClampNeg)) p2 i → J U k 0 0 [(m, .inr (6, [.int (0 : Int32), .ref ys, .ref ya, .ref yt, .int xsm, .ref yn, .int xhs, .ref yx, .int xln, .int xat, .int xiw, .ref yr, .int xrm, .int xfb, .int xlr, .ref yd, .int (dcntF p2 (gs 0))])), (ys, .inl (U.2.2.1 0, 16, .inl gs)), (yd, .inl (U.2.2.1 0, 17, .inl (dgF (gs (1 + p1.toNatClampNeg)) p2 gd D)))] [some (.ref m), some (.int p0), some (.int p1), some (.int p2), some (.int x), some (.int (nI i))] 22 [] := by
    intro n_f
    induction n_f with
    | zero =>
      intro i x hfuel hin_i hx
      exact absurd hfuel (by omega)
    | succ n_f ih_22 =>
      intro i x hfuel hin_i hx
      refine J_iload C dX6_productByRows_22 rfl ?_
      refine J_aload_n C dX6_productByRows_24 rfl rfl ?_
      refine J_get C 0 16 rfl rfl i_X6_productByRows_X6 (by decide) k_X6_productByRows_46 rfl rfl dX6_productByRows_25 ?_
      refine J_icmp_ge C 70 dX6_productByRows_28 (by decide) (fun c_28_1 => ?_) (fun c_28_1 => ?_)
      · refine J_iload C dX6_productByRows_70 rfl ?_
        exact J_iret C R dX6_productByRows_72 (Nat.le_of_ble_eq_true rfl) (Nat.le_of_ble_eq_true rfl) (by have h9 := c_28_1; rw [hD] at h9; have hi9 : i = D := (nI_exit (by omega) (by omega) h9); subst hi9; rw [hx]) rfl
      · have hlt_i : i < D := by have h9 := c_28_1; rw [hD] at h9; exact nI_ngeN (by omega) (by omega) h9
        refine J_iload C dX6_productByRows_31 rfl ?_
        refine J_aload_n C dX6_productByRows_33 rfl rfl ?_
        refine J_get C 0 15 rfl rfl i_X6_productByRows_X6 (by decide) k_X6_productByRows_28 rfl rfl dX6_productByRows_34 ?_
        refine J_iload C dX6_productByRows_37 rfl ?_
        refine J_iald C 2 rfl (vp_in_nI (by omega) (by decide)) (congrArg (dgF (gs (1 + p1.toNatClampNeg)) p2 gd D) (nI_clamp (by omega))) dX6_productByRows_39 ?_
        refine J_aload_n C dX6_productByRows_40 rfl rfl ?_
        refine J_iload_n C dX6_productByRows_41 rfl rfl ?_
        refine J_callV C (c_X6_of U m ys ya yt yn yx yr yd (0 : Int32) xsm xhs xln xat xiw xrm xfb xlr (dcntF p2 (gs 0)) gs p0 v_1.1) gX6_productByRows_X6_of (n := 1) rfl rfl rfl (by decide +kernel) ⟨Nat.le_of_ble_eq_true rfl, Nat.le_of_ble_eq_true rfl⟩ 0 rfl rfl rfl (rest := [.int ((dgF (gs (1 + p1.toNatClampNeg)) p2 gd D) i), .int x]) rfl (Nat.le_of_ble_eq_true rfl) [(m, .inr (6, [.int (0 : Int32), .ref ys, .ref ya, .ref yt, .int xsm, .ref yn, .int xhs, .ref yx, .int xln, .int xat, .int xiw, .ref yr, .int xrm, .int xfb, .int xlr, .ref yd, .int (dcntF p2 (gs 0))])), (ys, .inl (U.2.2.1 0, 16, .inl gs)), (yd, .inl (U.2.2.1 0, 17, .inl (dgF (gs (1 + p1.toNatClampNeg)) p2 gd D)))] [0, 1] [2] [1, 2, 0] (wr := [(yd, .inl (U.2.2.1 0, 17, .inl (dgF (gs (1 + p1.toNatClampNeg)) p2 gd D)))]) rfl rfl rfl rfl (by decide) rfl rfl  dX6_productByRows_42 ⟨Nat.le_of_ble_eq_true rfl, Nat.le_of_ble_eq_true rfl⟩ [.int (gs (1 + p0.toNatClampNeg)), .int ((dgF (gs (1 + p1.toNatClampNeg)) p2 gd D) i), .int x] rfl ?_
        refine J_imul C (v := ((dgF (gs (1 + p1.toNatClampNeg)) p2 gd D) i) * (gs (1 + p0.toNatClampNeg))) dX6_productByRows_45 rfl ?_
        refine J_iload_n C dX6_productByRows_46 rfl rfl ?_
        refine J_iconst C (v := (1 : Int32)) dX6_productByRows_47 (by decide) ?_
        refine J_icmp_ne C 58 dX6_productByRows_48 (by decide) (fun c_48_2 => ?_) (fun c_48_2 => ?_)
        · refine J_iload C dX6_productByRows_58 rfl ?_
          refine J_ishl C (v := (((dgF (gs (1 + p1.toNatClampNeg)) p2 gd D) i) * (gs (1 + p0.toNatClampNeg))) <<< ((nI i) &&& 31)) dX6_productByRows_60 rfl ?_
          refine J_iadd C (v := x + ((((dgF (gs (1 + p1.toNatClampNeg)) p2 gd D) i) * (gs (1 + p0.toNatClampNeg))) <<< ((nI i) &&& 31))) dX6_productByRows_61 rfl ?_
          refine J_istore C [some (.ref m), some (.int p0), some (.int p1), some (.int p2), some (.int (x + ((((dgF (gs (1 + p1.toNatClampNeg)) p2 gd D) i) * (gs (1 + p0.toNatClampNeg))) <<< ((nI i) &&& 31)))), some (.int (nI i))] dX6_productByRows_62 (hN 4 (by decide)) rfl ?_
          refine J_iinc C (v := nI (i + 1)) [some (.ref m), some (.int p0), some (.int p1), some (.int p2), some (.int (x + ((((dgF (gs (1 + p1.toNatClampNeg)) p2 gd D) i) * (gs (1 + p0.toNatClampNeg))) <<< ((nI i) &&& 31)))), some (.int (nI (i + 1)))] dX6_productByRows_64 rfl (nI_o1 i) (hN 5 (by decide)) rfl ?_
          refine J_goto C 22 dX6_productByRows_67 (by decide) ?_
          exact ih_22 (i + 1) _ (by omega) (by omega) (by rw [mpF, if_neg c_48_2, hx])
        · refine J_iconst C (v := (2 : Int32)) dX6_productByRows_51 (by decide) ?_
          refine J_iload C dX6_productByRows_52 rfl ?_
          refine J_imul C (v := (2 : Int32) * (nI i)) dX6_productByRows_54 rfl ?_
          refine J_goto C 60 dX6_productByRows_55 (by decide) ?_
          refine J_ishl C (v := (((dgF (gs (1 + p1.toNatClampNeg)) p2 gd D) i) * (gs (1 + p0.toNatClampNeg))) <<< (((2 : Int32) * (nI i)) &&& 31)) dX6_productByRows_60 rfl ?_
          refine J_iadd C (v := x + ((((dgF (gs (1 + p1.toNatClampNeg)) p2 gd D) i) * (gs (1 + p0.toNatClampNeg))) <<< (((2 : Int32) * (nI i)) &&& 31))) dX6_productByRows_61 rfl ?_
          refine J_istore C [some (.ref m), some (.int p0), some (.int p1), some (.int p2), some (.int (x + ((((dgF (gs (1 + p1.toNatClampNeg)) p2 gd D) i) * (gs (1 + p0.toNatClampNeg))) <<< (((2 : Int32) * (nI i)) &&& 31)))), some (.int (nI i))] dX6_productByRows_62 (hN 4 (by decide)) rfl ?_
          refine J_iinc C (v := nI (i + 1)) [some (.ref m), some (.int p0), some (.int p1), some (.int p2), some (.int (x + ((((dgF (gs (1 + p1.toNatClampNeg)) p2 gd D) i) * (gs (1 + p0.toNatClampNeg))) <<< (((2 : Int32) * (nI i)) &&& 31)))), some (.int (nI (i + 1)))] dX6_productByRows_64 rfl (nI_o1 i) (hN 5 (by decide)) rfl ?_
          refine J_goto C 22 dX6_productByRows_67 (by decide) ?_
          exact ih_22 (i + 1) _ (by omega) (by omega) (by rw [mpF, if_pos c_48_2, hx])
  exact loop_22 (D + 1) 0 0 (by omega) (by omega) rfl
