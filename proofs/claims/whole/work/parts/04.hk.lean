theorem k_X6_sign_99 : Cond.fieldLink RX6 99 "BoothOttersModel" "at" "I" ∈ wsX6_sign := List.mem_of_getElem? (i := 1) rfl
theorem i_X6_sign_X6 : ∀ w ∈ wsX60, w ∈ wsX6_sign := fun _ h => List.mem_cons_of_mem _ (List.mem_append_right _ h)
theorem k_X6_sign_96 : Cond.fieldLink RX6 96 "BoothOttersModel" "length" "I" ∈ wsX6_sign := List.mem_of_getElem? (i := 2) rfl
theorem k_X6_sign_22 : Cond.fieldLink RX6 22 "BoothOttersModel" "text" "[I" ∈ wsX6_sign := List.mem_of_getElem? (i := 3) rfl
set_option maxHeartbeats 4000000 in
set_option maxRecDepth 100000 in
theorem c_X6_sign (U : jU) (m ys ya yt yn yx yr yd : Nat) (xth xsm xhs xln xat xiw xrm xfb xlr xdm : Int32) (gx : Nat → Int32) (n i : Nat) (hn : n ≤ 60) (hi : i ≤ 100) : Fn U yX6_sign wsX6_sign { frames := 0, cells := 0, slots := 0, locals := 0 } [.ref m] [(m, .inr (6, [.int xth, .ref ys, .ref ya, .ref yt, .int xsm, .ref yn, .int xhs, .ref yx, .int (nI n), .int (nI i), .int xiw, .ref yr, .int xrm, .int xfb, .int xlr, .ref yd, .int xdm])), (yx, .inl (U.2.2.1 0, 60, .inl gx))] (some (.int (sgF gx n i))) [(m, .inr (6, [.int xth, .ref ys, .ref ya, .ref yt, .int xsm, .ref yn, .int xhs, .ref yx, .int (nI n), .int (nI i), .int xiw, .ref yr, .int xrm, .int xfb, .int xlr, .ref yd, .int xdm])), (yx, .inl (U.2.2.1 0, 60, .inl gx))] 0 0 := by
  refine Fn_of (cc := cX6_sign) (maxL := 1) (ret := (some .int)) [some (.ref m)] (by decide +kernel) rfl (jcat rfl) (Nat.le_of_ble_eq_true rfl) rfl (fun k C R hin hnL => ?_)
  have hN : ∀ i, i < 1 → i < k.2.2.2.2.2.2.2.2.2.2.2.1 := fun i h => by rw [hnL]; exact h
  refine J_aload_n C dX6_sign_0 rfl rfl ?_
  refine J_get C 0 9 rfl rfl i_X6_sign_X6 (by decide) k_X6_sign_99 rfl rfl dX6_sign_1 ?_
  refine J_aload_n C dX6_sign_4 rfl rfl ?_
  refine J_get C 0 8 rfl rfl i_X6_sign_X6 (by decide) k_X6_sign_96 rfl rfl dX6_sign_5 ?_
  refine J_icmp_ge C 23 dX6_sign_8 (by decide) (fun c_8_1 => ?_) (fun c_8_1 => ?_)
  · refine J_iconst C (v := (0 : Int32)) dX6_sign_23 (by decide) ?_
    exact J_iret C R dX6_sign_24 (Nat.le_of_ble_eq_true rfl) (Nat.le_of_ble_eq_true rfl) (by rw [sgF, if_neg (fun hh => absurd hh (Nat.not_lt.mpr (nI_geN (by omega) (by omega) c_8_1)))]) rfl
  · have hlt : i < n := nI_ngeN (by omega) (by omega) c_8_1
    refine J_aload_n C dX6_sign_11 rfl rfl ?_
    refine J_get C 0 7 rfl rfl i_X6_sign_X6 (by decide) k_X6_sign_22 rfl rfl dX6_sign_12 ?_
    refine J_aload_n C dX6_sign_15 rfl rfl ?_
    refine J_get C 0 9 rfl rfl i_X6_sign_X6 (by decide) k_X6_sign_99 rfl rfl dX6_sign_16 ?_
    refine J_iald C 1 rfl (vp_in_nI (n := i) (by omega) (by decide)) (congrArg gx (nI_clamp (n := i) (by omega))) dX6_sign_19 ?_
    refine J_goto C 24 dX6_sign_20 (by decide) ?_
    exact J_iret C R dX6_sign_24 (Nat.le_of_ble_eq_true rfl) (Nat.le_of_ble_eq_true rfl) (by rw [sgF, if_pos (nI_ngeN (by omega) (by omega) c_8_1)]) rfl
theorem k_X6_takes_102 : Cond.fieldLink RX6 102 "BoothOttersModel" "isWell" "Z" ∈ wsX6_takes := List.mem_of_getElem? (i := 1) rfl
theorem i_X6_takes_X6 : ∀ w ∈ wsX60, w ∈ wsX6_takes := fun _ h => List.mem_cons_of_mem _ (List.mem_append_right _ h)
theorem k_X6_takes_99 : Cond.fieldLink RX6 99 "BoothOttersModel" "at" "I" ∈ wsX6_takes := List.mem_of_getElem? (i := 2) rfl
set_option maxHeartbeats 4000000 in
set_option maxRecDepth 100000 in
theorem c_X6_takes_y (U : jU) (m ys ya yt yn yx yr yd : Nat) (xth xsm xhs xln xat xiw xrm xfb xlr xdm : Int32) (gx : Nat → Int32) (n i : Nat) (p0 p1 : Int32) (v_1 : inF (sgF gx n i) p0 p1) (hn : n ≤ 60) (hi : i ≤ 100) : Fn U yX6_takes wsX6_takes { frames := 1, cells := 0, slots := 0, locals := 22 } [.ref m, .int p0, .int p1] [(m, .inr (6, [.int xth, .ref ys, .ref ya, .ref yt, .int xsm, .ref yn, .int xhs, .ref yx, .int (nI n), .int (nI i), .int (1 : Int32), .ref yr, .int xrm, .int xfb, .int xlr, .ref yd, .int xdm])), (yx, .inl (U.2.2.1 0, 60, .inl gx))] (some (.int ((sgF gx n i) - p0))) [(m, .inr (6, [.int xth, .ref ys, .ref ya, .ref yt, .int xsm, .ref yn, .int xhs, .ref yx, .int (nI n), .int (nI (i + 1)), .int (1 : Int32), .ref yr, .int xrm, .int xfb, .int xlr, .ref yd, .int xdm])), (yx, .inl (U.2.2.1 0, 60, .inl gx))] 0 0 := by
  refine Fn_of (cc := cX6_takes) (maxL := 4) (ret := (some .int)) [some (.ref m), some (.int p0), some (.int p1), none] (by decide +kernel) rfl (jcat rfl) (Nat.le_of_ble_eq_true rfl) rfl (fun k C R hin hnL => ?_)
  have hN : ∀ i, i < 4 → i < k.2.2.2.2.2.2.2.2.2.2.2.1 := fun i h => by rw [hnL]; exact h
  refine J_aload_n C dX6_takes_0 rfl rfl ?_
  refine J_aload_n C dX6_takes_1 rfl rfl ?_
  refine J_get C 0 10 rfl rfl i_X6_takes_X6 (by decide) k_X6_takes_102 rfl rfl dX6_takes_2 ?_
  refine J_if_eq C 24 dX6_takes_5 (by decide) (fun h => absurd h (by decide)) (fun _ => ?_)
  refine J_aload_n C dX6_takes_8 rfl rfl ?_
  refine J_callV C (c_X6_sign U m ys ya yt yn yx yr yd xth xsm xhs (0 : Int32) (0 : Int32) (1 : Int32) xrm xfb xlr xdm gx n i hn hi) gX6_takes_X6_sign (n := 0) rfl rfl rfl (by decide +kernel) ⟨Nat.le_of_ble_eq_true rfl, Nat.le_of_ble_eq_true rfl⟩ 0 rfl rfl rfl (rest := [.ref m]) rfl (Nat.le_of_ble_eq_true rfl) [(m, .inr (6, [.int xth, .ref ys, .ref ya, .ref yt, .int xsm, .ref yn, .int xhs, .ref yx, .int (nI n), .int (nI i), .int (1 : Int32), .ref yr, .int xrm, .int xfb, .int xlr, .ref yd, .int xdm])), (yx, .inl (U.2.2.1 0, 60, .inl gx))] [0, 1] [] [0, 1] (wr := []) rfl rfl rfl rfl (by decide) rfl rfl  dX6_takes_9 ⟨Nat.le_of_ble_eq_true rfl, Nat.le_of_ble_eq_true rfl⟩ [.int (sgF gx n i), .ref m] rfl ?_
  refine J_iload_n C dX6_takes_12 rfl rfl ?_
  refine J_iload_n C dX6_takes_13 rfl rfl ?_
  refine J_callS C (c_X6_in U (sgF gx n i) p0 p1 ) gX6_takes_X6_in (n := 3) rfl rfl rfl (by decide +kernel) ⟨Nat.le_of_ble_eq_true rfl, Nat.le_of_ble_eq_true rfl⟩ rfl (rest := [.ref m]) rfl (Nat.le_of_ble_eq_true rfl) [(m, .inr (6, [.int xth, .ref ys, .ref ya, .ref yt, .int xsm, .ref yn, .int xhs, .ref yx, .int (nI n), .int (nI i), .int (1 : Int32), .ref yr, .int xrm, .int xfb, .int xlr, .ref yd, .int xdm])), (yx, .inl (U.2.2.1 0, 60, .inl gx))] [] [0, 1] [0, 1] (wr := [(m, .inr (6, [.int xth, .ref ys, .ref ya, .ref yt, .int xsm, .ref yn, .int xhs, .ref yx, .int (nI n), .int (nI i), .int (1 : Int32), .ref yr, .int xrm, .int xfb, .int xlr, .ref yd, .int xdm])), (yx, .inl (U.2.2.1 0, 60, .inl gx))]) rfl rfl rfl rfl (by decide) rfl rfl  dX6_takes_14 ⟨Nat.le_of_ble_eq_true rfl, Nat.le_of_ble_eq_true rfl⟩ [.int (b2i (inF (sgF gx n i) p0 p1)), .ref m] rfl ?_
  refine J_if_eq_b C 24 dX6_takes_17 (by decide) (fun h => absurd h (fun hh => hh v_1)) (fun _ => ?_)
  refine J_iconst C (v := (1 : Int32)) dX6_takes_20 (by decide) ?_
  refine J_goto C 25 dX6_takes_21 (by decide) ?_
  refine J_put C tyX6 0 10 [(m, .inr (6, [.int xth, .ref ys, .ref ya, .ref yt, .int xsm, .ref yn, .int xhs, .ref yx, .int (nI n), .int (nI i), .int (1 : Int32), .ref yr, .int xrm, .int xfb, .int xlr, .ref yd, .int xdm])), (yx, .inl (U.2.2.1 0, 60, .inl gx))] rfl rfl i_X6_takes_X6 tyX6_ok nmX6 (by decide) k_X6_takes_102 rfl rfl rfl rfl (Nat.le_of_ble_eq_true rfl) rfl dX6_takes_25 ?_
  refine J_aload_n C dX6_takes_28 rfl rfl ?_
  refine J_callV C (c_X6_sign U m ys ya yt yn yx yr yd xth xsm xhs (0 : Int32) (0 : Int32) (1 : Int32) xrm xfb xlr xdm gx n i hn hi) gX6_takes_X6_sign (n := 0) rfl rfl rfl (by decide +kernel) ⟨Nat.le_of_ble_eq_true rfl, Nat.le_of_ble_eq_true rfl⟩ 0 rfl rfl rfl (rest := []) rfl (Nat.le_of_ble_eq_true rfl) [(m, .inr (6, [.int xth, .ref ys, .ref ya, .ref yt, .int xsm, .ref yn, .int xhs, .ref yx, .int (nI n), .int (nI i), .int (1 : Int32), .ref yr, .int xrm, .int xfb, .int xlr, .ref yd, .int xdm])), (yx, .inl (U.2.2.1 0, 60, .inl gx))] [0, 1] [] [0, 1] (wr := []) rfl rfl rfl rfl (by decide) rfl rfl  dX6_takes_29 ⟨Nat.le_of_ble_eq_true rfl, Nat.le_of_ble_eq_true rfl⟩ [.int (sgF gx n i)] rfl ?_
  refine J_iload_n C dX6_takes_32 rfl rfl ?_
  refine J_isub C (v := (sgF gx n i) - p0) dX6_takes_33 rfl ?_
  refine J_istore_n C [some (.ref m), some (.int p0), some (.int p1), some (.int ((sgF gx n i) - p0))] dX6_takes_34 rfl (hN 3 (by decide)) rfl ?_
  refine J_aload_n C dX6_takes_35 rfl rfl ?_
  refine J_dup C dX6_takes_36 rfl ?_
  refine J_get C 0 9 rfl rfl i_X6_takes_X6 (by decide) k_X6_takes_99 rfl rfl dX6_takes_37 ?_
  refine J_aload_n C dX6_takes_40 rfl rfl ?_
  refine J_get C 0 10 rfl rfl i_X6_takes_X6 (by decide) k_X6_takes_102 rfl rfl dX6_takes_41 ?_
  refine J_if_eq C 51 dX6_takes_44 (by decide) (fun h => absurd h (by decide)) (fun _ => ?_)
  refine J_iconst C (v := (1 : Int32)) dX6_takes_47 (by decide) ?_
  refine J_goto C 52 dX6_takes_48 (by decide) ?_
  refine J_iadd C (v := nI (i + 1)) dX6_takes_52 (nI_add i 1) ?_
  refine J_put C tyX6 0 9 [(m, .inr (6, [.int xth, .ref ys, .ref ya, .ref yt, .int xsm, .ref yn, .int xhs, .ref yx, .int (nI n), .int (nI (i + 1)), .int (1 : Int32), .ref yr, .int xrm, .int xfb, .int xlr, .ref yd, .int xdm])), (yx, .inl (U.2.2.1 0, 60, .inl gx))] rfl rfl i_X6_takes_X6 tyX6_ok nmX6 (by decide) k_X6_takes_99 rfl rfl rfl rfl (Nat.le_of_ble_eq_true rfl) rfl dX6_takes_53 ?_
  refine J_iload_n C dX6_takes_56 rfl rfl ?_
  exact J_iret C R dX6_takes_57 (Nat.le_of_ble_eq_true rfl) (Nat.le_of_ble_eq_true rfl) rfl rfl
set_option maxHeartbeats 4000000 in
set_option maxRecDepth 100000 in
theorem c_X6_takes_f (U : jU) (m ys ya yt yn yx yr yd : Nat) (xth xsm xhs xln xat xiw xrm xfb xlr xdm : Int32) (gx : Nat → Int32) (n i : Nat) (p0 p1 : Int32) (v_1 : ¬ inF (sgF gx n i) p0 p1) (hn : n ≤ 60) (hi : i ≤ 100) : Fn U yX6_takes wsX6_takes { frames := 1, cells := 0, slots := 0, locals := 22 } [.ref m, .int p0, .int p1] [(m, .inr (6, [.int xth, .ref ys, .ref ya, .ref yt, .int xsm, .ref yn, .int xhs, .ref yx, .int (nI n), .int (nI i), .int (1 : Int32), .ref yr, .int xrm, .int xfb, .int xlr, .ref yd, .int xdm])), (yx, .inl (U.2.2.1 0, 60, .inl gx))] (some (.int ((sgF gx n i) - p0))) [(m, .inr (6, [.int xth, .ref ys, .ref ya, .ref yt, .int xsm, .ref yn, .int xhs, .ref yx, .int (nI n), .int (nI i), .int (0 : Int32), .ref yr, .int xrm, .int xfb, .int xlr, .ref yd, .int xdm])), (yx, .inl (U.2.2.1 0, 60, .inl gx))] 0 0 := by
  refine Fn_of (cc := cX6_takes) (maxL := 4) (ret := (some .int)) [some (.ref m), some (.int p0), some (.int p1), none] (by decide +kernel) rfl (jcat rfl) (Nat.le_of_ble_eq_true rfl) rfl (fun k C R hin hnL => ?_)
  have hN : ∀ i, i < 4 → i < k.2.2.2.2.2.2.2.2.2.2.2.1 := fun i h => by rw [hnL]; exact h
  refine J_aload_n C dX6_takes_0 rfl rfl ?_
  refine J_aload_n C dX6_takes_1 rfl rfl ?_
  refine J_get C 0 10 rfl rfl i_X6_takes_X6 (by decide) k_X6_takes_102 rfl rfl dX6_takes_2 ?_
  refine J_if_eq C 24 dX6_takes_5 (by decide) (fun h => absurd h (by decide)) (fun _ => ?_)
  refine J_aload_n C dX6_takes_8 rfl rfl ?_
  refine J_callV C (c_X6_sign U m ys ya yt yn yx yr yd xth xsm xhs (0 : Int32) (0 : Int32) (1 : Int32) xrm xfb xlr xdm gx n i hn hi) gX6_takes_X6_sign (n := 0) rfl rfl rfl (by decide +kernel) ⟨Nat.le_of_ble_eq_true rfl, Nat.le_of_ble_eq_true rfl⟩ 0 rfl rfl rfl (rest := [.ref m]) rfl (Nat.le_of_ble_eq_true rfl) [(m, .inr (6, [.int xth, .ref ys, .ref ya, .ref yt, .int xsm, .ref yn, .int xhs, .ref yx, .int (nI n), .int (nI i), .int (1 : Int32), .ref yr, .int xrm, .int xfb, .int xlr, .ref yd, .int xdm])), (yx, .inl (U.2.2.1 0, 60, .inl gx))] [0, 1] [] [0, 1] (wr := []) rfl rfl rfl rfl (by decide) rfl rfl  dX6_takes_9 ⟨Nat.le_of_ble_eq_true rfl, Nat.le_of_ble_eq_true rfl⟩ [.int (sgF gx n i), .ref m] rfl ?_
  refine J_iload_n C dX6_takes_12 rfl rfl ?_
  refine J_iload_n C dX6_takes_13 rfl rfl ?_
  refine J_callS C (c_X6_in U (sgF gx n i) p0 p1 ) gX6_takes_X6_in (n := 3) rfl rfl rfl (by decide +kernel) ⟨Nat.le_of_ble_eq_true rfl, Nat.le_of_ble_eq_true rfl⟩ rfl (rest := [.ref m]) rfl (Nat.le_of_ble_eq_true rfl) [(m, .inr (6, [.int xth, .ref ys, .ref ya, .ref yt, .int xsm, .ref yn, .int xhs, .ref yx, .int (nI n), .int (nI i), .int (1 : Int32), .ref yr, .int xrm, .int xfb, .int xlr, .ref yd, .int xdm])), (yx, .inl (U.2.2.1 0, 60, .inl gx))] [] [0, 1] [0, 1] (wr := [(m, .inr (6, [.int xth, .ref ys, .ref ya, .ref yt, .int xsm, .ref yn, .int xhs, .ref yx, .int (nI n), .int (nI i), .int (1 : Int32), .ref yr, .int xrm, .int xfb, .int xlr, .ref yd, .int xdm])), (yx, .inl (U.2.2.1 0, 60, .inl gx))]) rfl rfl rfl rfl (by decide) rfl rfl  dX6_takes_14 ⟨Nat.le_of_ble_eq_true rfl, Nat.le_of_ble_eq_true rfl⟩ [.int (b2i (inF (sgF gx n i) p0 p1)), .ref m] rfl ?_
  refine J_if_eq_b C 24 dX6_takes_17 (by decide) (fun _ => ?_) (fun h => absurd h v_1)
  refine J_iconst C (v := (0 : Int32)) dX6_takes_24 (by decide) ?_
  refine J_put C tyX6 0 10 [(m, .inr (6, [.int xth, .ref ys, .ref ya, .ref yt, .int xsm, .ref yn, .int xhs, .ref yx, .int (nI n), .int (nI i), .int (0 : Int32), .ref yr, .int xrm, .int xfb, .int xlr, .ref yd, .int xdm])), (yx, .inl (U.2.2.1 0, 60, .inl gx))] rfl rfl i_X6_takes_X6 tyX6_ok nmX6 (by decide) k_X6_takes_102 rfl rfl rfl rfl (Nat.le_of_ble_eq_true rfl) rfl dX6_takes_25 ?_
  refine J_aload_n C dX6_takes_28 rfl rfl ?_
  refine J_callV C (c_X6_sign U m ys ya yt yn yx yr yd xth xsm xhs (0 : Int32) (0 : Int32) (0 : Int32) xrm xfb xlr xdm gx n i hn hi) gX6_takes_X6_sign (n := 0) rfl rfl rfl (by decide +kernel) ⟨Nat.le_of_ble_eq_true rfl, Nat.le_of_ble_eq_true rfl⟩ 0 rfl rfl rfl (rest := []) rfl (Nat.le_of_ble_eq_true rfl) [(m, .inr (6, [.int xth, .ref ys, .ref ya, .ref yt, .int xsm, .ref yn, .int xhs, .ref yx, .int (nI n), .int (nI i), .int (0 : Int32), .ref yr, .int xrm, .int xfb, .int xlr, .ref yd, .int xdm])), (yx, .inl (U.2.2.1 0, 60, .inl gx))] [0, 1] [] [0, 1] (wr := []) rfl rfl rfl rfl (by decide) rfl rfl  dX6_takes_29 ⟨Nat.le_of_ble_eq_true rfl, Nat.le_of_ble_eq_true rfl⟩ [.int (sgF gx n i)] rfl ?_
  refine J_iload_n C dX6_takes_32 rfl rfl ?_
  refine J_isub C (v := (sgF gx n i) - p0) dX6_takes_33 rfl ?_
  refine J_istore_n C [some (.ref m), some (.int p0), some (.int p1), some (.int ((sgF gx n i) - p0))] dX6_takes_34 rfl (hN 3 (by decide)) rfl ?_
  refine J_aload_n C dX6_takes_35 rfl rfl ?_
  refine J_dup C dX6_takes_36 rfl ?_
  refine J_get C 0 9 rfl rfl i_X6_takes_X6 (by decide) k_X6_takes_99 rfl rfl dX6_takes_37 ?_
  refine J_aload_n C dX6_takes_40 rfl rfl ?_
  refine J_get C 0 10 rfl rfl i_X6_takes_X6 (by decide) k_X6_takes_102 rfl rfl dX6_takes_41 ?_
  refine J_if_eq C 51 dX6_takes_44 (by decide) (fun _ => ?_) (fun h => absurd (by decide) h)
  refine J_iconst C (v := (0 : Int32)) dX6_takes_51 (by decide) ?_
  refine J_iadd C (v := nI i) dX6_takes_52 (nI_add i 0) ?_
  refine J_put C tyX6 0 9 [(m, .inr (6, [.int xth, .ref ys, .ref ya, .ref yt, .int xsm, .ref yn, .int xhs, .ref yx, .int (nI n), .int (nI i), .int (0 : Int32), .ref yr, .int xrm, .int xfb, .int xlr, .ref yd, .int xdm])), (yx, .inl (U.2.2.1 0, 60, .inl gx))] rfl rfl i_X6_takes_X6 tyX6_ok nmX6 (by decide) k_X6_takes_99 rfl rfl rfl rfl (Nat.le_of_ble_eq_true rfl) rfl dX6_takes_53 ?_
  refine J_iload_n C dX6_takes_56 rfl rfl ?_
  exact J_iret C R dX6_takes_57 (Nat.le_of_ble_eq_true rfl) (Nat.le_of_ble_eq_true rfl) rfl rfl
set_option maxHeartbeats 4000000 in
set_option maxRecDepth 100000 in
theorem c_X6_takes_n (U : jU) (m ys ya yt yn yx yr yd : Nat) (xth xsm xhs xln xat xiw xrm xfb xlr xdm : Int32) (gx : Nat → Int32) (n i : Nat) (p0 p1 : Int32) (hn : n ≤ 60) (hi : i ≤ 100) : Fn U yX6_takes wsX6_takes { frames := 1, cells := 0, slots := 0, locals := 22 } [.ref m, .int p0, .int p1] [(m, .inr (6, [.int xth, .ref ys, .ref ya, .ref yt, .int xsm, .ref yn, .int xhs, .ref yx, .int (nI n), .int (nI i), .int (0 : Int32), .ref yr, .int xrm, .int xfb, .int xlr, .ref yd, .int xdm])), (yx, .inl (U.2.2.1 0, 60, .inl gx))] (some (.int ((sgF gx n i) - p0))) [(m, .inr (6, [.int xth, .ref ys, .ref ya, .ref yt, .int xsm, .ref yn, .int xhs, .ref yx, .int (nI n), .int (nI i), .int (0 : Int32), .ref yr, .int xrm, .int xfb, .int xlr, .ref yd, .int xdm])), (yx, .inl (U.2.2.1 0, 60, .inl gx))] 0 0 := by
  refine Fn_of (cc := cX6_takes) (maxL := 4) (ret := (some .int)) [some (.ref m), some (.int p0), some (.int p1), none] (by decide +kernel) rfl (jcat rfl) (Nat.le_of_ble_eq_true rfl) rfl (fun k C R hin hnL => ?_)
  have hN : ∀ i, i < 4 → i < k.2.2.2.2.2.2.2.2.2.2.2.1 := fun i h => by rw [hnL]; exact h
  refine J_aload_n C dX6_takes_0 rfl rfl ?_
  refine J_aload_n C dX6_takes_1 rfl rfl ?_
  refine J_get C 0 10 rfl rfl i_X6_takes_X6 (by decide) k_X6_takes_102 rfl rfl dX6_takes_2 ?_
  refine J_if_eq C 24 dX6_takes_5 (by decide) (fun _ => ?_) (fun h => absurd (by decide) h)
  refine J_iconst C (v := (0 : Int32)) dX6_takes_24 (by decide) ?_
  refine J_put C tyX6 0 10 [(m, .inr (6, [.int xth, .ref ys, .ref ya, .ref yt, .int xsm, .ref yn, .int xhs, .ref yx, .int (nI n), .int (nI i), .int (0 : Int32), .ref yr, .int xrm, .int xfb, .int xlr, .ref yd, .int xdm])), (yx, .inl (U.2.2.1 0, 60, .inl gx))] rfl rfl i_X6_takes_X6 tyX6_ok nmX6 (by decide) k_X6_takes_102 rfl rfl rfl rfl (Nat.le_of_ble_eq_true rfl) rfl dX6_takes_25 ?_
  refine J_aload_n C dX6_takes_28 rfl rfl ?_
  refine J_callV C (c_X6_sign U m ys ya yt yn yx yr yd xth xsm xhs (0 : Int32) (0 : Int32) (0 : Int32) xrm xfb xlr xdm gx n i hn hi) gX6_takes_X6_sign (n := 0) rfl rfl rfl (by decide +kernel) ⟨Nat.le_of_ble_eq_true rfl, Nat.le_of_ble_eq_true rfl⟩ 0 rfl rfl rfl (rest := []) rfl (Nat.le_of_ble_eq_true rfl) [(m, .inr (6, [.int xth, .ref ys, .ref ya, .ref yt, .int xsm, .ref yn, .int xhs, .ref yx, .int (nI n), .int (nI i), .int (0 : Int32), .ref yr, .int xrm, .int xfb, .int xlr, .ref yd, .int xdm])), (yx, .inl (U.2.2.1 0, 60, .inl gx))] [0, 1] [] [0, 1] (wr := []) rfl rfl rfl rfl (by decide) rfl rfl  dX6_takes_29 ⟨Nat.le_of_ble_eq_true rfl, Nat.le_of_ble_eq_true rfl⟩ [.int (sgF gx n i)] rfl ?_
  refine J_iload_n C dX6_takes_32 rfl rfl ?_
  refine J_isub C (v := (sgF gx n i) - p0) dX6_takes_33 rfl ?_
  refine J_istore_n C [some (.ref m), some (.int p0), some (.int p1), some (.int ((sgF gx n i) - p0))] dX6_takes_34 rfl (hN 3 (by decide)) rfl ?_
  refine J_aload_n C dX6_takes_35 rfl rfl ?_
  refine J_dup C dX6_takes_36 rfl ?_
  refine J_get C 0 9 rfl rfl i_X6_takes_X6 (by decide) k_X6_takes_99 rfl rfl dX6_takes_37 ?_
  refine J_aload_n C dX6_takes_40 rfl rfl ?_
  refine J_get C 0 10 rfl rfl i_X6_takes_X6 (by decide) k_X6_takes_102 rfl rfl dX6_takes_41 ?_
  refine J_if_eq C 51 dX6_takes_44 (by decide) (fun _ => ?_) (fun h => absurd (by decide) h)
  refine J_iconst C (v := (0 : Int32)) dX6_takes_51 (by decide) ?_
  refine J_iadd C (v := nI i) dX6_takes_52 (nI_add i 0) ?_
  refine J_put C tyX6 0 9 [(m, .inr (6, [.int xth, .ref ys, .ref ya, .ref yt, .int xsm, .ref yn, .int xhs, .ref yx, .int (nI n), .int (nI i), .int (0 : Int32), .ref yr, .int xrm, .int xfb, .int xlr, .ref yd, .int xdm])), (yx, .inl (U.2.2.1 0, 60, .inl gx))] rfl rfl i_X6_takes_X6 tyX6_ok nmX6 (by decide) k_X6_takes_99 rfl rfl rfl rfl (Nat.le_of_ble_eq_true rfl) rfl dX6_takes_53 ?_
  refine J_iload_n C dX6_takes_56 rfl rfl ?_
  exact J_iret C R dX6_takes_57 (Nat.le_of_ble_eq_true rfl) (Nat.le_of_ble_eq_true rfl) rfl rfl
theorem k_X6_readsNumber_99 : Cond.fieldLink RX6 99 "BoothOttersModel" "at" "I" ∈ wsX6_readsNumber := List.mem_of_getElem? (i := 1) rfl
theorem i_X6_readsNumber_X6 : ∀ w ∈ wsX60, w ∈ wsX6_readsNumber := fun _ h => List.mem_cons_of_mem _ (List.mem_append_right _ h)
theorem k_X6_readsNumber_102 : Cond.fieldLink RX6 102 "BoothOttersModel" "isWell" "Z" ∈ wsX6_readsNumber := List.mem_of_getElem? (i := 3) rfl
set_option maxHeartbeats 4000000 in
set_option maxRecDepth 100000 in
theorem c_X6_readsNumber_np (U : jU) (m ys ya yt yn yx yr yd : Nat) (xth xsm xhs xln xat xiw xrm xfb xlr xdm : Int32) (gx : Nat → Int32) (n i : Nat) (v_1 : (sgF gx n i) = 45) (v_2 : inF (sgF gx n (i + 1)) 49 57) (hn : n ≤ 60) (hi : i ≤ 100) : Fn U yX6_readsNumber wsX6_readsNumber { frames := 2, cells := 0, slots := 0, locals := 45 } [.ref m] [(m, .inr (6, [.int xth, .ref ys, .ref ya, .ref yt, .int xsm, .ref yn, .int xhs, .ref yx, .int (nI n), .int (nI i), .int (1 : Int32), .ref yr, .int xrm, .int xfb, .int xlr, .ref yd, .int xdm])), (yx, .inl (U.2.2.1 0, 60, .inl gx))] (some (.int (-(nlF gx n 32768 (n - (i + 2)) (i + 2) (1 + ((sgF gx n (i + 1)) - 49))).2))) [(m, .inr (6, [.int xth, .ref ys, .ref ya, .ref yt, .int xsm, .ref yn, .int xhs, .ref yx, .int (nI n), .int (nI (nlF gx n 32768 (n - (i + 2)) (i + 2) (1 + ((sgF gx n (i + 1)) - 49))).1), .int (1 : Int32), .ref yr, .int xrm, .int xfb, .int xlr, .ref yd, .int xdm])), (yx, .inl (U.2.2.1 0, 60, .inl gx))] 0 0 := by
  refine Fn_of (cc := cX6_readsNumber) (maxL := 4) (ret := (some .int)) [some (.ref m), none, none, none] (by decide +kernel) rfl (jcat rfl) (Nat.le_of_ble_eq_true rfl) rfl (fun k C R hin hnL => ?_)
  have hN : ∀ i, i < 4 → i < k.2.2.2.2.2.2.2.2.2.2.2.1 := fun i h => by rw [hnL]; exact h
  have hl0 : i < n := sg_lt1 (by decide) v_1
  have hl1 : i + 1 < n := sg_lt (by decide) v_2
  refine J_aload_n C dX6_readsNumber_0 rfl rfl ?_
  refine J_callV C (c_X6_sign U m ys ya yt yn yx yr yd xth xsm xhs (0 : Int32) (0 : Int32) (1 : Int32) xrm xfb xlr xdm gx n i hn hi) gX6_readsNumber_X6_sign (n := 0) rfl rfl rfl (by decide +kernel) ⟨Nat.le_of_ble_eq_true rfl, Nat.le_of_ble_eq_true rfl⟩ 0 rfl rfl rfl (rest := []) rfl (Nat.le_of_ble_eq_true rfl) [(m, .inr (6, [.int xth, .ref ys, .ref ya, .ref yt, .int xsm, .ref yn, .int xhs, .ref yx, .int (nI n), .int (nI i), .int (1 : Int32), .ref yr, .int xrm, .int xfb, .int xlr, .ref yd, .int xdm])), (yx, .inl (U.2.2.1 0, 60, .inl gx))] [0, 1] [] [0, 1] (wr := []) rfl rfl rfl rfl (by decide) rfl rfl  dX6_readsNumber_1 ⟨Nat.le_of_ble_eq_true rfl, Nat.le_of_ble_eq_true rfl⟩ [.int (sgF gx n i)] rfl ?_
  refine J_bipush C (v := (45 : Int32)) dX6_readsNumber_4 (by decide) ?_
  refine J_icmp_ne C 13 dX6_readsNumber_6 (by decide) (fun h => absurd h (fun hh => hh v_1)) (fun _ => ?_)
  refine J_iconst C (v := (1 : Int32)) dX6_readsNumber_9 (by decide) ?_
  refine J_goto C 14 dX6_readsNumber_10 (by decide) ?_
  refine J_istore_n C [some (.ref m), some (.int (1 : Int32)), none, none] dX6_readsNumber_14 rfl (hN 1 (by decide)) rfl ?_
  refine J_aload_n C dX6_readsNumber_15 rfl rfl ?_
  refine J_dup C dX6_readsNumber_16 rfl ?_
  refine J_get C 0 9 rfl rfl i_X6_readsNumber_X6 (by decide) k_X6_readsNumber_99 rfl rfl dX6_readsNumber_17 ?_
  refine J_iload_n C dX6_readsNumber_20 rfl rfl ?_
  refine J_if_eq C 28 dX6_readsNumber_21 (by decide) (fun h => absurd h (by decide)) (fun _ => ?_)
  refine J_iconst C (v := (1 : Int32)) dX6_readsNumber_24 (by decide) ?_
  refine J_goto C 29 dX6_readsNumber_25 (by decide) ?_
  refine J_iadd C (v := nI (i + 1)) dX6_readsNumber_29 (nI_add i 1) ?_
  refine J_put C tyX6 0 9 [(m, .inr (6, [.int xth, .ref ys, .ref ya, .ref yt, .int xsm, .ref yn, .int xhs, .ref yx, .int (nI n), .int (nI (i + 1)), .int (1 : Int32), .ref yr, .int xrm, .int xfb, .int xlr, .ref yd, .int xdm])), (yx, .inl (U.2.2.1 0, 60, .inl gx))] rfl rfl i_X6_readsNumber_X6 tyX6_ok nmX6 (by decide) k_X6_readsNumber_99 rfl rfl rfl rfl (Nat.le_of_ble_eq_true rfl) rfl dX6_readsNumber_30 ?_
  refine J_iload_n C dX6_readsNumber_33 rfl rfl ?_
  refine J_if_eq C 42 dX6_readsNumber_34 (by decide) (fun h => absurd h (by decide)) (fun _ => ?_)
  refine J_ldc C (v := (32768 : Int32)) dX6_readsNumber_37 (List.mem_of_getElem? (i := 2) rfl) ?_
  refine J_goto C 45 dX6_readsNumber_39 (by decide) ?_
  refine J_istore_n C [some (.ref m), some (.int (1 : Int32)), some (.int (32768 : Int32)), none] dX6_readsNumber_45 rfl (hN 2 (by decide)) rfl ?_
  refine J_iload_n C dX6_readsNumber_46 rfl rfl ?_
  refine J_if_eq C 63 dX6_readsNumber_47 (by decide) (fun h => absurd h (by decide)) (fun _ => ?_)
  refine J_iconst C (v := (1 : Int32)) dX6_readsNumber_50 (by decide) ?_
  refine J_aload_n C dX6_readsNumber_51 rfl rfl ?_
  refine J_bipush C (v := (49 : Int32)) dX6_readsNumber_52 (by decide) ?_
  refine J_bipush C (v := (57 : Int32)) dX6_readsNumber_54 (by decide) ?_
  refine J_callV C (c_X6_takes_y U m ys ya yt yn yx yr yd xth xsm xhs (0 : Int32) (0 : Int32) (0 : Int32) xrm xfb xlr xdm gx n (i + 1) (49 : Int32) (57 : Int32) v_2 hn (by omega)) gX6_readsNumber_X6_takes (n := 2) rfl rfl rfl (by decide +kernel) ⟨Nat.le_of_ble_eq_true rfl, Nat.le_of_ble_eq_true rfl⟩ 0 rfl rfl rfl (rest := [.int (1 : Int32)]) rfl (Nat.le_of_ble_eq_true rfl) [(m, .inr (6, [.int xth, .ref ys, .ref ya, .ref yt, .int xsm, .ref yn, .int xhs, .ref yx, .int (nI n), .int (nI ((i + 1) + 1)), .int (1 : Int32), .ref yr, .int xrm, .int xfb, .int xlr, .ref yd, .int xdm])), (yx, .inl (U.2.2.1 0, 60, .inl gx))] [0, 1] [] [0, 1] (wr := []) rfl rfl rfl rfl (by decide) rfl rfl  dX6_readsNumber_56 ⟨Nat.le_of_ble_eq_true rfl, Nat.le_of_ble_eq_true rfl⟩ [.int ((sgF gx n (i + 1)) - (49 : Int32)), .int (1 : Int32)] rfl ?_
  refine J_iadd C (v := (1 : Int32) + ((sgF gx n (i + 1)) - (49 : Int32))) dX6_readsNumber_59 rfl ?_
  refine J_goto C 71 dX6_readsNumber_60 (by decide) ?_
  refine J_istore_n C [some (.ref m), some (.int (1 : Int32)), some (.int (32768 : Int32)), some (.int ((1 : Int32) + ((sgF gx n (i + 1)) - (49 : Int32))))] dX6_readsNumber_71 rfl (hN 3 (by decide)) rfl ?_
  have loop_72 : ∀ (n_f : Nat) (i9 : Nat) (v9 : Int32), n < i9 + n_f → i9 ≤ n → nlF gx n 32768 (n - i9) i9 v9 = nlF gx n 32768 (n - (i + 2)) (i + 2) (1 + ((sgF gx n (i + 1)) - 49)) → J U k 0 0 [(m, .inr (6, [.int xth, .ref ys, .ref ya, .ref yt, .int xsm, .ref yn, .int xhs, .ref yx, .int (nI n), .int (nI i9), .int (1 : Int32), .ref yr, .int xrm, .int xfb, .int xlr, .ref yd, .int xdm])), (yx, .inl (U.2.2.1 0, 60, .inl gx))] [some (.ref m), some (.int (1 : Int32)), some (.int (32768 : Int32)), some (.int v9)] 72 [] := by
    intro n_f
    induction n_f with
    | zero =>
      intro i9 v9 hfuel hin9 heq
      exact absurd hfuel (by omega)
    | succ n_f ih_72 =>
      intro i9 v9 hfuel hin9 heq
      refine J_aload_n C dX6_readsNumber_72 rfl rfl ?_
      refine J_get C 0 10 rfl rfl i_X6_readsNumber_X6 (by decide) k_X6_readsNumber_102 rfl rfl dX6_readsNumber_73 ?_
      refine J_if_eq C 139 dX6_readsNumber_76 (by decide) (fun h => absurd h (by decide)) (fun _ => ?_)
      refine J_iload_n C dX6_readsNumber_79 rfl rfl ?_
      refine J_if_le C 139 dX6_readsNumber_80 (by decide) (fun c_80_1 => ?_) (fun c_80_1 => ?_)
      · refine J_iload_n C dX6_readsNumber_139 rfl rfl ?_
        refine J_if_eq C 148 dX6_readsNumber_140 (by decide) (fun h => absurd h (by decide)) (fun _ => ?_)
        refine J_iload_n C dX6_readsNumber_143 rfl rfl ?_
        refine J_ineg C dX6_readsNumber_144 rfl ?_
        refine J_goto C 149 dX6_readsNumber_145 (by decide) ?_
        exact J_iret C R dX6_readsNumber_149 (Nat.le_of_ble_eq_true rfl) (Nat.le_of_ble_eq_true rfl) (by rw [← heq, nl_stop (fun hh => absurd hh.1 (Int32.not_lt.mpr c_80_1))]) (by rw [← heq, nl_stop (fun hh => absurd hh.1 (Int32.not_lt.mpr c_80_1))])
      · refine J_aload_n C dX6_readsNumber_83 rfl rfl ?_
        refine J_callV C (c_X6_sign U m ys ya yt yn yx yr yd xth xsm xhs (0 : Int32) (0 : Int32) (1 : Int32) xrm xfb xlr xdm gx n i9 hn (by omega)) gX6_readsNumber_X6_sign (n := 0) rfl rfl rfl (by decide +kernel) ⟨Nat.le_of_ble_eq_true rfl, Nat.le_of_ble_eq_true rfl⟩ 0 rfl rfl rfl (rest := []) rfl (Nat.le_of_ble_eq_true rfl) [(m, .inr (6, [.int xth, .ref ys, .ref ya, .ref yt, .int xsm, .ref yn, .int xhs, .ref yx, .int (nI n), .int (nI i9), .int (1 : Int32), .ref yr, .int xrm, .int xfb, .int xlr, .ref yd, .int xdm])), (yx, .inl (U.2.2.1 0, 60, .inl gx))] [0, 1] [] [0, 1] (wr := []) rfl rfl rfl rfl (by decide) rfl rfl  dX6_readsNumber_84 ⟨Nat.le_of_ble_eq_true rfl, Nat.le_of_ble_eq_true rfl⟩ [.int (sgF gx n i9)] rfl ?_
        refine J_bipush C (v := (48 : Int32)) dX6_readsNumber_87 (by decide) ?_
        refine J_bipush C (v := (57 : Int32)) dX6_readsNumber_89 (by decide) ?_
        refine J_callS C (c_X6_in U (sgF gx n i9) (48 : Int32) (57 : Int32) ) gX6_readsNumber_X6_in (n := 3) rfl rfl rfl (by decide +kernel) ⟨Nat.le_of_ble_eq_true rfl, Nat.le_of_ble_eq_true rfl⟩ rfl (rest := []) rfl (Nat.le_of_ble_eq_true rfl) [(m, .inr (6, [.int xth, .ref ys, .ref ya, .ref yt, .int xsm, .ref yn, .int xhs, .ref yx, .int (nI n), .int (nI i9), .int (1 : Int32), .ref yr, .int xrm, .int xfb, .int xlr, .ref yd, .int xdm])), (yx, .inl (U.2.2.1 0, 60, .inl gx))] [] [0, 1] [0, 1] (wr := [(m, .inr (6, [.int xth, .ref ys, .ref ya, .ref yt, .int xsm, .ref yn, .int xhs, .ref yx, .int (nI n), .int (nI i9), .int (1 : Int32), .ref yr, .int xrm, .int xfb, .int xlr, .ref yd, .int xdm])), (yx, .inl (U.2.2.1 0, 60, .inl gx))]) rfl rfl rfl rfl (by decide) rfl rfl  dX6_readsNumber_91 ⟨Nat.le_of_ble_eq_true rfl, Nat.le_of_ble_eq_true rfl⟩ [.int (b2i (inF (sgF gx n i9) (48 : Int32) (57 : Int32)))] rfl ?_
        refine J_if_eq_b C 139 dX6_readsNumber_94 (by decide) (fun c_94_2 => ?_) (fun c_94_2 => ?_)
        · refine J_iload_n C dX6_readsNumber_139 rfl rfl ?_
          refine J_if_eq C 148 dX6_readsNumber_140 (by decide) (fun h => absurd h (by decide)) (fun _ => ?_)
          refine J_iload_n C dX6_readsNumber_143 rfl rfl ?_
          refine J_ineg C dX6_readsNumber_144 rfl ?_
          refine J_goto C 149 dX6_readsNumber_145 (by decide) ?_
          exact J_iret C R dX6_readsNumber_149 (Nat.le_of_ble_eq_true rfl) (Nat.le_of_ble_eq_true rfl) (by rw [← heq, nl_stop (fun hh => c_94_2 hh.2.1)]) (by rw [← heq, nl_stop (fun hh => c_94_2 hh.2.1)])
        · refine J_bipush C (v := (10 : Int32)) dX6_readsNumber_97 (by decide) ?_
          refine J_iload_n C dX6_readsNumber_99 rfl rfl ?_
          refine J_imul C (v := (10 : Int32) * v9) dX6_readsNumber_100 rfl ?_
          refine J_aload_n C dX6_readsNumber_101 rfl rfl ?_
          refine J_callV C (c_X6_sign U m ys ya yt yn yx yr yd xth xsm xhs (0 : Int32) (0 : Int32) (1 : Int32) xrm xfb xlr xdm gx n i9 hn (by omega)) gX6_readsNumber_X6_sign (n := 0) rfl rfl rfl (by decide +kernel) ⟨Nat.le_of_ble_eq_true rfl, Nat.le_of_ble_eq_true rfl⟩ 0 rfl rfl rfl (rest := [.int ((10 : Int32) * v9)]) rfl (Nat.le_of_ble_eq_true rfl) [(m, .inr (6, [.int xth, .ref ys, .ref ya, .ref yt, .int xsm, .ref yn, .int xhs, .ref yx, .int (nI n), .int (nI i9), .int (1 : Int32), .ref yr, .int xrm, .int xfb, .int xlr, .ref yd, .int xdm])), (yx, .inl (U.2.2.1 0, 60, .inl gx))] [0, 1] [] [0, 1] (wr := []) rfl rfl rfl rfl (by decide) rfl rfl  dX6_readsNumber_102 ⟨Nat.le_of_ble_eq_true rfl, Nat.le_of_ble_eq_true rfl⟩ [.int (sgF gx n i9), .int ((10 : Int32) * v9)] rfl ?_
          refine J_iadd C (v := ((10 : Int32) * v9) + (sgF gx n i9)) dX6_readsNumber_105 rfl ?_
          refine J_bipush C (v := (48 : Int32)) dX6_readsNumber_106 (by decide) ?_
          refine J_isub C (v := (((10 : Int32) * v9) + (sgF gx n i9)) - (48 : Int32)) dX6_readsNumber_108 rfl ?_
          refine J_iload_n C dX6_readsNumber_109 rfl rfl ?_
          refine J_icmp_gt C 139 dX6_readsNumber_110 (by decide) (fun c_110_3 => ?_) (fun c_110_3 => ?_)
          · refine J_iload_n C dX6_readsNumber_139 rfl rfl ?_
            refine J_if_eq C 148 dX6_readsNumber_140 (by decide) (fun h => absurd h (by decide)) (fun _ => ?_)
            refine J_iload_n C dX6_readsNumber_143 rfl rfl ?_
            refine J_ineg C dX6_readsNumber_144 rfl ?_
            refine J_goto C 149 dX6_readsNumber_145 (by decide) ?_
            exact J_iret C R dX6_readsNumber_149 (Nat.le_of_ble_eq_true rfl) (Nat.le_of_ble_eq_true rfl) (by rw [← heq, nl_stop (fun hh => hh.2.2 c_110_3)]) (by rw [← heq, nl_stop (fun hh => hh.2.2 c_110_3)])
          · refine J_bipush C (v := (10 : Int32)) dX6_readsNumber_113 (by decide) ?_
            refine J_iload_n C dX6_readsNumber_115 rfl rfl ?_
            refine J_imul C (v := (10 : Int32) * v9) dX6_readsNumber_116 rfl ?_
            refine J_aload_n C dX6_readsNumber_117 rfl rfl ?_
            refine J_callV C (c_X6_sign U m ys ya yt yn yx yr yd xth xsm xhs (0 : Int32) (0 : Int32) (1 : Int32) xrm xfb xlr xdm gx n i9 hn (by omega)) gX6_readsNumber_X6_sign (n := 0) rfl rfl rfl (by decide +kernel) ⟨Nat.le_of_ble_eq_true rfl, Nat.le_of_ble_eq_true rfl⟩ 0 rfl rfl rfl (rest := [.int ((10 : Int32) * v9)]) rfl (Nat.le_of_ble_eq_true rfl) [(m, .inr (6, [.int xth, .ref ys, .ref ya, .ref yt, .int xsm, .ref yn, .int xhs, .ref yx, .int (nI n), .int (nI i9), .int (1 : Int32), .ref yr, .int xrm, .int xfb, .int xlr, .ref yd, .int xdm])), (yx, .inl (U.2.2.1 0, 60, .inl gx))] [0, 1] [] [0, 1] (wr := []) rfl rfl rfl rfl (by decide) rfl rfl  dX6_readsNumber_118 ⟨Nat.le_of_ble_eq_true rfl, Nat.le_of_ble_eq_true rfl⟩ [.int (sgF gx n i9), .int ((10 : Int32) * v9)] rfl ?_
            refine J_iadd C (v := ((10 : Int32) * v9) + (sgF gx n i9)) dX6_readsNumber_121 rfl ?_
            refine J_bipush C (v := (48 : Int32)) dX6_readsNumber_122 (by decide) ?_
            refine J_isub C (v := (((10 : Int32) * v9) + (sgF gx n i9)) - (48 : Int32)) dX6_readsNumber_124 rfl ?_
            refine J_istore_n C [some (.ref m), some (.int (1 : Int32)), some (.int (32768 : Int32)), some (.int ((((10 : Int32) * v9) + (sgF gx n i9)) - (48 : Int32)))] dX6_readsNumber_125 rfl (hN 3 (by decide)) rfl ?_
            refine J_aload_n C dX6_readsNumber_126 rfl rfl ?_
            refine J_dup C dX6_readsNumber_127 rfl ?_
            refine J_get C 0 9 rfl rfl i_X6_readsNumber_X6 (by decide) k_X6_readsNumber_99 rfl rfl dX6_readsNumber_128 ?_
            refine J_iconst C (v := (1 : Int32)) dX6_readsNumber_131 (by decide) ?_
            refine J_iadd C (v := nI (i9 + 1)) dX6_readsNumber_132 (nI_add i9 1) ?_
            refine J_put C tyX6 0 9 [(m, .inr (6, [.int xth, .ref ys, .ref ya, .ref yt, .int xsm, .ref yn, .int xhs, .ref yx, .int (nI n), .int (nI (i9 + 1)), .int (1 : Int32), .ref yr, .int xrm, .int xfb, .int xlr, .ref yd, .int xdm])), (yx, .inl (U.2.2.1 0, 60, .inl gx))] rfl rfl i_X6_readsNumber_X6 tyX6_ok nmX6 (by decide) k_X6_readsNumber_99 rfl rfl rfl rfl (Nat.le_of_ble_eq_true rfl) rfl dX6_readsNumber_133 ?_
            refine J_goto C 72 dX6_readsNumber_136 (by decide) ?_
            exact ih_72 (i9 + 1) _ (by have := sg_lt (by decide) c_94_2; omega) (by have := sg_lt (by decide) c_94_2; omega) (by rw [← heq]; exact (nl_go (sg_lt (by decide) c_94_2) ⟨Int32.not_le.mp c_80_1, c_94_2, c_110_3⟩).symm)
  exact loop_72 (n + 1) (i + 2) _ (by omega) (by omega) rfl
set_option maxHeartbeats 4000000 in
set_option maxRecDepth 100000 in
theorem c_X6_readsNumber_nf (U : jU) (m ys ya yt yn yx yr yd : Nat) (xth xsm xhs xln xat xiw xrm xfb xlr xdm : Int32) (gx : Nat → Int32) (n i : Nat) (v_1 : (sgF gx n i) = 45) (v_2 : ¬ inF (sgF gx n (i + 1)) 49 57) (hn : n ≤ 60) (hi : i ≤ 100) : Fn U yX6_readsNumber wsX6_readsNumber { frames := 2, cells := 0, slots := 0, locals := 45 } [.ref m] [(m, .inr (6, [.int xth, .ref ys, .ref ya, .ref yt, .int xsm, .ref yn, .int xhs, .ref yx, .int (nI n), .int (nI i), .int (1 : Int32), .ref yr, .int xrm, .int xfb, .int xlr, .ref yd, .int xdm])), (yx, .inl (U.2.2.1 0, 60, .inl gx))] (some (.int (-(1 + ((sgF gx n (i + 1)) - 49))))) [(m, .inr (6, [.int xth, .ref ys, .ref ya, .ref yt, .int xsm, .ref yn, .int xhs, .ref yx, .int (nI n), .int (nI (i + 1)), .int (0 : Int32), .ref yr, .int xrm, .int xfb, .int xlr, .ref yd, .int xdm])), (yx, .inl (U.2.2.1 0, 60, .inl gx))] 0 0 := by
  refine Fn_of (cc := cX6_readsNumber) (maxL := 4) (ret := (some .int)) [some (.ref m), none, none, none] (by decide +kernel) rfl (jcat rfl) (Nat.le_of_ble_eq_true rfl) rfl (fun k C R hin hnL => ?_)
  have hN : ∀ i, i < 4 → i < k.2.2.2.2.2.2.2.2.2.2.2.1 := fun i h => by rw [hnL]; exact h
  have hl0 : i < n := sg_lt1 (by decide) v_1
  refine J_aload_n C dX6_readsNumber_0 rfl rfl ?_
  refine J_callV C (c_X6_sign U m ys ya yt yn yx yr yd xth xsm xhs (0 : Int32) (0 : Int32) (1 : Int32) xrm xfb xlr xdm gx n i hn hi) gX6_readsNumber_X6_sign (n := 0) rfl rfl rfl (by decide +kernel) ⟨Nat.le_of_ble_eq_true rfl, Nat.le_of_ble_eq_true rfl⟩ 0 rfl rfl rfl (rest := []) rfl (Nat.le_of_ble_eq_true rfl) [(m, .inr (6, [.int xth, .ref ys, .ref ya, .ref yt, .int xsm, .ref yn, .int xhs, .ref yx, .int (nI n), .int (nI i), .int (1 : Int32), .ref yr, .int xrm, .int xfb, .int xlr, .ref yd, .int xdm])), (yx, .inl (U.2.2.1 0, 60, .inl gx))] [0, 1] [] [0, 1] (wr := []) rfl rfl rfl rfl (by decide) rfl rfl  dX6_readsNumber_1 ⟨Nat.le_of_ble_eq_true rfl, Nat.le_of_ble_eq_true rfl⟩ [.int (sgF gx n i)] rfl ?_
  refine J_bipush C (v := (45 : Int32)) dX6_readsNumber_4 (by decide) ?_
  refine J_icmp_ne C 13 dX6_readsNumber_6 (by decide) (fun h => absurd h (fun hh => hh v_1)) (fun _ => ?_)
  refine J_iconst C (v := (1 : Int32)) dX6_readsNumber_9 (by decide) ?_
  refine J_goto C 14 dX6_readsNumber_10 (by decide) ?_
  refine J_istore_n C [some (.ref m), some (.int (1 : Int32)), none, none] dX6_readsNumber_14 rfl (hN 1 (by decide)) rfl ?_
  refine J_aload_n C dX6_readsNumber_15 rfl rfl ?_
  refine J_dup C dX6_readsNumber_16 rfl ?_
  refine J_get C 0 9 rfl rfl i_X6_readsNumber_X6 (by decide) k_X6_readsNumber_99 rfl rfl dX6_readsNumber_17 ?_
  refine J_iload_n C dX6_readsNumber_20 rfl rfl ?_
  refine J_if_eq C 28 dX6_readsNumber_21 (by decide) (fun h => absurd h (by decide)) (fun _ => ?_)
  refine J_iconst C (v := (1 : Int32)) dX6_readsNumber_24 (by decide) ?_
  refine J_goto C 29 dX6_readsNumber_25 (by decide) ?_
  refine J_iadd C (v := nI (i + 1)) dX6_readsNumber_29 (nI_add i 1) ?_
  refine J_put C tyX6 0 9 [(m, .inr (6, [.int xth, .ref ys, .ref ya, .ref yt, .int xsm, .ref yn, .int xhs, .ref yx, .int (nI n), .int (nI (i + 1)), .int (1 : Int32), .ref yr, .int xrm, .int xfb, .int xlr, .ref yd, .int xdm])), (yx, .inl (U.2.2.1 0, 60, .inl gx))] rfl rfl i_X6_readsNumber_X6 tyX6_ok nmX6 (by decide) k_X6_readsNumber_99 rfl rfl rfl rfl (Nat.le_of_ble_eq_true rfl) rfl dX6_readsNumber_30 ?_
  refine J_iload_n C dX6_readsNumber_33 rfl rfl ?_
  refine J_if_eq C 42 dX6_readsNumber_34 (by decide) (fun h => absurd h (by decide)) (fun _ => ?_)
  refine J_ldc C (v := (32768 : Int32)) dX6_readsNumber_37 (List.mem_of_getElem? (i := 2) rfl) ?_
  refine J_goto C 45 dX6_readsNumber_39 (by decide) ?_
  refine J_istore_n C [some (.ref m), some (.int (1 : Int32)), some (.int (32768 : Int32)), none] dX6_readsNumber_45 rfl (hN 2 (by decide)) rfl ?_
  refine J_iload_n C dX6_readsNumber_46 rfl rfl ?_
  refine J_if_eq C 63 dX6_readsNumber_47 (by decide) (fun h => absurd h (by decide)) (fun _ => ?_)
  refine J_iconst C (v := (1 : Int32)) dX6_readsNumber_50 (by decide) ?_
  refine J_aload_n C dX6_readsNumber_51 rfl rfl ?_
  refine J_bipush C (v := (49 : Int32)) dX6_readsNumber_52 (by decide) ?_
  refine J_bipush C (v := (57 : Int32)) dX6_readsNumber_54 (by decide) ?_
  refine J_callV C (c_X6_takes_f U m ys ya yt yn yx yr yd xth xsm xhs (0 : Int32) (0 : Int32) (0 : Int32) xrm xfb xlr xdm gx n (i + 1) (49 : Int32) (57 : Int32) v_2 hn (by omega)) gX6_readsNumber_X6_takes (n := 2) rfl rfl rfl (by decide +kernel) ⟨Nat.le_of_ble_eq_true rfl, Nat.le_of_ble_eq_true rfl⟩ 0 rfl rfl rfl (rest := [.int (1 : Int32)]) rfl (Nat.le_of_ble_eq_true rfl) [(m, .inr (6, [.int xth, .ref ys, .ref ya, .ref yt, .int xsm, .ref yn, .int xhs, .ref yx, .int (nI n), .int (nI (i + 1)), .int (0 : Int32), .ref yr, .int xrm, .int xfb, .int xlr, .ref yd, .int xdm])), (yx, .inl (U.2.2.1 0, 60, .inl gx))] [0, 1] [] [0, 1] (wr := []) rfl rfl rfl rfl (by decide) rfl rfl  dX6_readsNumber_56 ⟨Nat.le_of_ble_eq_true rfl, Nat.le_of_ble_eq_true rfl⟩ [.int ((sgF gx n (i + 1)) - (49 : Int32)), .int (1 : Int32)] rfl ?_
  refine J_iadd C (v := (1 : Int32) + ((sgF gx n (i + 1)) - (49 : Int32))) dX6_readsNumber_59 rfl ?_
  refine J_goto C 71 dX6_readsNumber_60 (by decide) ?_
  refine J_istore_n C [some (.ref m), some (.int (1 : Int32)), some (.int (32768 : Int32)), some (.int ((1 : Int32) + ((sgF gx n (i + 1)) - (49 : Int32))))] dX6_readsNumber_71 rfl (hN 3 (by decide)) rfl ?_
  refine J_aload_n C dX6_readsNumber_72 rfl rfl ?_
  refine J_get C 0 10 rfl rfl i_X6_readsNumber_X6 (by decide) k_X6_readsNumber_102 rfl rfl dX6_readsNumber_73 ?_
  refine J_if_eq C 139 dX6_readsNumber_76 (by decide) (fun _ => ?_) (fun h => absurd (by decide) h)
  refine J_iload_n C dX6_readsNumber_139 rfl rfl ?_
  refine J_if_eq C 148 dX6_readsNumber_140 (by decide) (fun h => absurd h (by decide)) (fun _ => ?_)
  refine J_iload_n C dX6_readsNumber_143 rfl rfl ?_
  refine J_ineg C dX6_readsNumber_144 rfl ?_
  refine J_goto C 149 dX6_readsNumber_145 (by decide) ?_
  exact J_iret C R dX6_readsNumber_149 (Nat.le_of_ble_eq_true rfl) (Nat.le_of_ble_eq_true rfl) rfl rfl
set_option maxHeartbeats 4000000 in
set_option maxRecDepth 100000 in
theorem c_X6_readsNumber_pp (U : jU) (m ys ya yt yn yx yr yd : Nat) (xth xsm xhs xln xat xiw xrm xfb xlr xdm : Int32) (gx : Nat → Int32) (n i : Nat) (v_1 : ¬ (sgF gx n i) = 45) (v_2 : inF (sgF gx n i) 48 57) (hn : n ≤ 60) (hi : i ≤ 100) : Fn U yX6_readsNumber wsX6_readsNumber { frames := 2, cells := 0, slots := 0, locals := 45 } [.ref m] [(m, .inr (6, [.int xth, .ref ys, .ref ya, .ref yt, .int xsm, .ref yn, .int xhs, .ref yx, .int (nI n), .int (nI i), .int (1 : Int32), .ref yr, .int xrm, .int xfb, .int xlr, .ref yd, .int xdm])), (yx, .inl (U.2.2.1 0, 60, .inl gx))] (some (.int ((nlF gx n 32767 (n - (i + 1)) (i + 1) ((sgF gx n i) - 48)).2))) [(m, .inr (6, [.int xth, .ref ys, .ref ya, .ref yt, .int xsm, .ref yn, .int xhs, .ref yx, .int (nI n), .int (nI (nlF gx n 32767 (n - (i + 1)) (i + 1) ((sgF gx n i) - 48)).1), .int (1 : Int32), .ref yr, .int xrm, .int xfb, .int xlr, .ref yd, .int xdm])), (yx, .inl (U.2.2.1 0, 60, .inl gx))] 0 0 := by
  refine Fn_of (cc := cX6_readsNumber) (maxL := 4) (ret := (some .int)) [some (.ref m), none, none, none] (by decide +kernel) rfl (jcat rfl) (Nat.le_of_ble_eq_true rfl) rfl (fun k C R hin hnL => ?_)
  have hN : ∀ i, i < 4 → i < k.2.2.2.2.2.2.2.2.2.2.2.1 := fun i h => by rw [hnL]; exact h
  have hl0 : i < n := sg_lt (by decide) v_2
  refine J_aload_n C dX6_readsNumber_0 rfl rfl ?_
  refine J_callV C (c_X6_sign U m ys ya yt yn yx yr yd xth xsm xhs (0 : Int32) (0 : Int32) (1 : Int32) xrm xfb xlr xdm gx n i hn hi) gX6_readsNumber_X6_sign (n := 0) rfl rfl rfl (by decide +kernel) ⟨Nat.le_of_ble_eq_true rfl, Nat.le_of_ble_eq_true rfl⟩ 0 rfl rfl rfl (rest := []) rfl (Nat.le_of_ble_eq_true rfl) [(m, .inr (6, [.int xth, .ref ys, .ref ya, .ref yt, .int xsm, .ref yn, .int xhs, .ref yx, .int (nI n), .int (nI i), .int (1 : Int32), .ref yr, .int xrm, .int xfb, .int xlr, .ref yd, .int xdm])), (yx, .inl (U.2.2.1 0, 60, .inl gx))] [0, 1] [] [0, 1] (wr := []) rfl rfl rfl rfl (by decide) rfl rfl  dX6_readsNumber_1 ⟨Nat.le_of_ble_eq_true rfl, Nat.le_of_ble_eq_true rfl⟩ [.int (sgF gx n i)] rfl ?_
  refine J_bipush C (v := (45 : Int32)) dX6_readsNumber_4 (by decide) ?_
  refine J_icmp_ne C 13 dX6_readsNumber_6 (by decide) (fun _ => ?_) (fun h => absurd h v_1)
  refine J_iconst C (v := (0 : Int32)) dX6_readsNumber_13 (by decide) ?_
  refine J_istore_n C [some (.ref m), some (.int (0 : Int32)), none, none] dX6_readsNumber_14 rfl (hN 1 (by decide)) rfl ?_
  refine J_aload_n C dX6_readsNumber_15 rfl rfl ?_
  refine J_dup C dX6_readsNumber_16 rfl ?_
  refine J_get C 0 9 rfl rfl i_X6_readsNumber_X6 (by decide) k_X6_readsNumber_99 rfl rfl dX6_readsNumber_17 ?_
  refine J_iload_n C dX6_readsNumber_20 rfl rfl ?_
  refine J_if_eq C 28 dX6_readsNumber_21 (by decide) (fun _ => ?_) (fun h => absurd (by decide) h)
  refine J_iconst C (v := (0 : Int32)) dX6_readsNumber_28 (by decide) ?_
  refine J_iadd C (v := nI i) dX6_readsNumber_29 (nI_add i 0) ?_
  refine J_put C tyX6 0 9 [(m, .inr (6, [.int xth, .ref ys, .ref ya, .ref yt, .int xsm, .ref yn, .int xhs, .ref yx, .int (nI n), .int (nI i), .int (1 : Int32), .ref yr, .int xrm, .int xfb, .int xlr, .ref yd, .int xdm])), (yx, .inl (U.2.2.1 0, 60, .inl gx))] rfl rfl i_X6_readsNumber_X6 tyX6_ok nmX6 (by decide) k_X6_readsNumber_99 rfl rfl rfl rfl (Nat.le_of_ble_eq_true rfl) rfl dX6_readsNumber_30 ?_
  refine J_iload_n C dX6_readsNumber_33 rfl rfl ?_
  refine J_if_eq C 42 dX6_readsNumber_34 (by decide) (fun _ => ?_) (fun h => absurd (by decide) h)
  refine J_sipush C (v := (32767 : Int32)) dX6_readsNumber_42 (by decide) ?_
  refine J_istore_n C [some (.ref m), some (.int (0 : Int32)), some (.int (32767 : Int32)), none] dX6_readsNumber_45 rfl (hN 2 (by decide)) rfl ?_
  refine J_iload_n C dX6_readsNumber_46 rfl rfl ?_
  refine J_if_eq C 63 dX6_readsNumber_47 (by decide) (fun _ => ?_) (fun h => absurd (by decide) h)
  refine J_aload_n C dX6_readsNumber_63 rfl rfl ?_
  refine J_bipush C (v := (48 : Int32)) dX6_readsNumber_64 (by decide) ?_
  refine J_bipush C (v := (57 : Int32)) dX6_readsNumber_66 (by decide) ?_
  refine J_callV C (c_X6_takes_y U m ys ya yt yn yx yr yd xth xsm xhs (0 : Int32) (0 : Int32) (0 : Int32) xrm xfb xlr xdm gx n i (48 : Int32) (57 : Int32) v_2 hn hi) gX6_readsNumber_X6_takes (n := 2) rfl rfl rfl (by decide +kernel) ⟨Nat.le_of_ble_eq_true rfl, Nat.le_of_ble_eq_true rfl⟩ 0 rfl rfl rfl (rest := []) rfl (Nat.le_of_ble_eq_true rfl) [(m, .inr (6, [.int xth, .ref ys, .ref ya, .ref yt, .int xsm, .ref yn, .int xhs, .ref yx, .int (nI n), .int (nI (i + 1)), .int (1 : Int32), .ref yr, .int xrm, .int xfb, .int xlr, .ref yd, .int xdm])), (yx, .inl (U.2.2.1 0, 60, .inl gx))] [0, 1] [] [0, 1] (wr := []) rfl rfl rfl rfl (by decide) rfl rfl  dX6_readsNumber_68 ⟨Nat.le_of_ble_eq_true rfl, Nat.le_of_ble_eq_true rfl⟩ [.int ((sgF gx n i) - (48 : Int32))] rfl ?_
  refine J_istore_n C [some (.ref m), some (.int (0 : Int32)), some (.int (32767 : Int32)), some (.int ((sgF gx n i) - (48 : Int32)))] dX6_readsNumber_71 rfl (hN 3 (by decide)) rfl ?_
  have loop_72 : ∀ (n_f : Nat) (i9 : Nat) (v9 : Int32), n < i9 + n_f → i9 ≤ n → nlF gx n 32767 (n - i9) i9 v9 = nlF gx n 32767 (n - (i + 1)) (i + 1) ((sgF gx n i) - 48) → J U k 0 0 [(m, .inr (6, [.int xth, .ref ys, .ref ya, .ref yt, .int xsm, .ref yn, .int xhs, .ref yx, .int (nI n), .int (nI i9), .int (1 : Int32), .ref yr, .int xrm, .int xfb, .int xlr, .ref yd, .int xdm])), (yx, .inl (U.2.2.1 0, 60, .inl gx))] [some (.ref m), some (.int (0 : Int32)), some (.int (32767 : Int32)), some (.int v9)] 72 [] := by
    intro n_f
    induction n_f with
    | zero =>
      intro i9 v9 hfuel hin9 heq
      exact absurd hfuel (by omega)
    | succ n_f ih_72 =>
      intro i9 v9 hfuel hin9 heq
      refine J_aload_n C dX6_readsNumber_72 rfl rfl ?_
      refine J_get C 0 10 rfl rfl i_X6_readsNumber_X6 (by decide) k_X6_readsNumber_102 rfl rfl dX6_readsNumber_73 ?_
      refine J_if_eq C 139 dX6_readsNumber_76 (by decide) (fun h => absurd h (by decide)) (fun _ => ?_)
      refine J_iload_n C dX6_readsNumber_79 rfl rfl ?_
      refine J_if_le C 139 dX6_readsNumber_80 (by decide) (fun c_80_1 => ?_) (fun c_80_1 => ?_)
      · refine J_iload_n C dX6_readsNumber_139 rfl rfl ?_
        refine J_if_eq C 148 dX6_readsNumber_140 (by decide) (fun _ => ?_) (fun h => absurd (by decide) h)
        refine J_iload_n C dX6_readsNumber_148 rfl rfl ?_
        exact J_iret C R dX6_readsNumber_149 (Nat.le_of_ble_eq_true rfl) (Nat.le_of_ble_eq_true rfl) (by rw [← heq, nl_stop (fun hh => absurd hh.1 (Int32.not_lt.mpr c_80_1))]) (by rw [← heq, nl_stop (fun hh => absurd hh.1 (Int32.not_lt.mpr c_80_1))])
      · refine J_aload_n C dX6_readsNumber_83 rfl rfl ?_
        refine J_callV C (c_X6_sign U m ys ya yt yn yx yr yd xth xsm xhs (0 : Int32) (0 : Int32) (1 : Int32) xrm xfb xlr xdm gx n i9 hn (by omega)) gX6_readsNumber_X6_sign (n := 0) rfl rfl rfl (by decide +kernel) ⟨Nat.le_of_ble_eq_true rfl, Nat.le_of_ble_eq_true rfl⟩ 0 rfl rfl rfl (rest := []) rfl (Nat.le_of_ble_eq_true rfl) [(m, .inr (6, [.int xth, .ref ys, .ref ya, .ref yt, .int xsm, .ref yn, .int xhs, .ref yx, .int (nI n), .int (nI i9), .int (1 : Int32), .ref yr, .int xrm, .int xfb, .int xlr, .ref yd, .int xdm])), (yx, .inl (U.2.2.1 0, 60, .inl gx))] [0, 1] [] [0, 1] (wr := []) rfl rfl rfl rfl (by decide) rfl rfl  dX6_readsNumber_84 ⟨Nat.le_of_ble_eq_true rfl, Nat.le_of_ble_eq_true rfl⟩ [.int (sgF gx n i9)] rfl ?_
        refine J_bipush C (v := (48 : Int32)) dX6_readsNumber_87 (by decide) ?_
        refine J_bipush C (v := (57 : Int32)) dX6_readsNumber_89 (by decide) ?_
        refine J_callS C (c_X6_in U (sgF gx n i9) (48 : Int32) (57 : Int32) ) gX6_readsNumber_X6_in (n := 3) rfl rfl rfl (by decide +kernel) ⟨Nat.le_of_ble_eq_true rfl, Nat.le_of_ble_eq_true rfl⟩ rfl (rest := []) rfl (Nat.le_of_ble_eq_true rfl) [(m, .inr (6, [.int xth, .ref ys, .ref ya, .ref yt, .int xsm, .ref yn, .int xhs, .ref yx, .int (nI n), .int (nI i9), .int (1 : Int32), .ref yr, .int xrm, .int xfb, .int xlr, .ref yd, .int xdm])), (yx, .inl (U.2.2.1 0, 60, .inl gx))] [] [0, 1] [0, 1] (wr := [(m, .inr (6, [.int xth, .ref ys, .ref ya, .ref yt, .int xsm, .ref yn, .int xhs, .ref yx, .int (nI n), .int (nI i9), .int (1 : Int32), .ref yr, .int xrm, .int xfb, .int xlr, .ref yd, .int xdm])), (yx, .inl (U.2.2.1 0, 60, .inl gx))]) rfl rfl rfl rfl (by decide) rfl rfl  dX6_readsNumber_91 ⟨Nat.le_of_ble_eq_true rfl, Nat.le_of_ble_eq_true rfl⟩ [.int (b2i (inF (sgF gx n i9) (48 : Int32) (57 : Int32)))] rfl ?_
        refine J_if_eq_b C 139 dX6_readsNumber_94 (by decide) (fun c_94_2 => ?_) (fun c_94_2 => ?_)
        · refine J_iload_n C dX6_readsNumber_139 rfl rfl ?_
          refine J_if_eq C 148 dX6_readsNumber_140 (by decide) (fun _ => ?_) (fun h => absurd (by decide) h)
          refine J_iload_n C dX6_readsNumber_148 rfl rfl ?_
          exact J_iret C R dX6_readsNumber_149 (Nat.le_of_ble_eq_true rfl) (Nat.le_of_ble_eq_true rfl) (by rw [← heq, nl_stop (fun hh => c_94_2 hh.2.1)]) (by rw [← heq, nl_stop (fun hh => c_94_2 hh.2.1)])
        · refine J_bipush C (v := (10 : Int32)) dX6_readsNumber_97 (by decide) ?_
          refine J_iload_n C dX6_readsNumber_99 rfl rfl ?_
          refine J_imul C (v := (10 : Int32) * v9) dX6_readsNumber_100 rfl ?_
          refine J_aload_n C dX6_readsNumber_101 rfl rfl ?_
          refine J_callV C (c_X6_sign U m ys ya yt yn yx yr yd xth xsm xhs (0 : Int32) (0 : Int32) (1 : Int32) xrm xfb xlr xdm gx n i9 hn (by omega)) gX6_readsNumber_X6_sign (n := 0) rfl rfl rfl (by decide +kernel) ⟨Nat.le_of_ble_eq_true rfl, Nat.le_of_ble_eq_true rfl⟩ 0 rfl rfl rfl (rest := [.int ((10 : Int32) * v9)]) rfl (Nat.le_of_ble_eq_true rfl) [(m, .inr (6, [.int xth, .ref ys, .ref ya, .ref yt, .int xsm, .ref yn, .int xhs, .ref yx, .int (nI n), .int (nI i9), .int (1 : Int32), .ref yr, .int xrm, .int xfb, .int xlr, .ref yd, .int xdm])), (yx, .inl (U.2.2.1 0, 60, .inl gx))] [0, 1] [] [0, 1] (wr := []) rfl rfl rfl rfl (by decide) rfl rfl  dX6_readsNumber_102 ⟨Nat.le_of_ble_eq_true rfl, Nat.le_of_ble_eq_true rfl⟩ [.int (sgF gx n i9), .int ((10 : Int32) * v9)] rfl ?_
          refine J_iadd C (v := ((10 : Int32) * v9) + (sgF gx n i9)) dX6_readsNumber_105 rfl ?_
          refine J_bipush C (v := (48 : Int32)) dX6_readsNumber_106 (by decide) ?_
          refine J_isub C (v := (((10 : Int32) * v9) + (sgF gx n i9)) - (48 : Int32)) dX6_readsNumber_108 rfl ?_
          refine J_iload_n C dX6_readsNumber_109 rfl rfl ?_
          refine J_icmp_gt C 139 dX6_readsNumber_110 (by decide) (fun c_110_3 => ?_) (fun c_110_3 => ?_)
          · refine J_iload_n C dX6_readsNumber_139 rfl rfl ?_
            refine J_if_eq C 148 dX6_readsNumber_140 (by decide) (fun _ => ?_) (fun h => absurd (by decide) h)
            refine J_iload_n C dX6_readsNumber_148 rfl rfl ?_
            exact J_iret C R dX6_readsNumber_149 (Nat.le_of_ble_eq_true rfl) (Nat.le_of_ble_eq_true rfl) (by rw [← heq, nl_stop (fun hh => hh.2.2 c_110_3)]) (by rw [← heq, nl_stop (fun hh => hh.2.2 c_110_3)])
          · refine J_bipush C (v := (10 : Int32)) dX6_readsNumber_113 (by decide) ?_
            refine J_iload_n C dX6_readsNumber_115 rfl rfl ?_
            refine J_imul C (v := (10 : Int32) * v9) dX6_readsNumber_116 rfl ?_
            refine J_aload_n C dX6_readsNumber_117 rfl rfl ?_
            refine J_callV C (c_X6_sign U m ys ya yt yn yx yr yd xth xsm xhs (0 : Int32) (0 : Int32) (1 : Int32) xrm xfb xlr xdm gx n i9 hn (by omega)) gX6_readsNumber_X6_sign (n := 0) rfl rfl rfl (by decide +kernel) ⟨Nat.le_of_ble_eq_true rfl, Nat.le_of_ble_eq_true rfl⟩ 0 rfl rfl rfl (rest := [.int ((10 : Int32) * v9)]) rfl (Nat.le_of_ble_eq_true rfl) [(m, .inr (6, [.int xth, .ref ys, .ref ya, .ref yt, .int xsm, .ref yn, .int xhs, .ref yx, .int (nI n), .int (nI i9), .int (1 : Int32), .ref yr, .int xrm, .int xfb, .int xlr, .ref yd, .int xdm])), (yx, .inl (U.2.2.1 0, 60, .inl gx))] [0, 1] [] [0, 1] (wr := []) rfl rfl rfl rfl (by decide) rfl rfl  dX6_readsNumber_118 ⟨Nat.le_of_ble_eq_true rfl, Nat.le_of_ble_eq_true rfl⟩ [.int (sgF gx n i9), .int ((10 : Int32) * v9)] rfl ?_
            refine J_iadd C (v := ((10 : Int32) * v9) + (sgF gx n i9)) dX6_readsNumber_121 rfl ?_
            refine J_bipush C (v := (48 : Int32)) dX6_readsNumber_122 (by decide) ?_
            refine J_isub C (v := (((10 : Int32) * v9) + (sgF gx n i9)) - (48 : Int32)) dX6_readsNumber_124 rfl ?_
            refine J_istore_n C [some (.ref m), some (.int (0 : Int32)), some (.int (32767 : Int32)), some (.int ((((10 : Int32) * v9) + (sgF gx n i9)) - (48 : Int32)))] dX6_readsNumber_125 rfl (hN 3 (by decide)) rfl ?_
            refine J_aload_n C dX6_readsNumber_126 rfl rfl ?_
            refine J_dup C dX6_readsNumber_127 rfl ?_
            refine J_get C 0 9 rfl rfl i_X6_readsNumber_X6 (by decide) k_X6_readsNumber_99 rfl rfl dX6_readsNumber_128 ?_
            refine J_iconst C (v := (1 : Int32)) dX6_readsNumber_131 (by decide) ?_
            refine J_iadd C (v := nI (i9 + 1)) dX6_readsNumber_132 (nI_add i9 1) ?_
            refine J_put C tyX6 0 9 [(m, .inr (6, [.int xth, .ref ys, .ref ya, .ref yt, .int xsm, .ref yn, .int xhs, .ref yx, .int (nI n), .int (nI (i9 + 1)), .int (1 : Int32), .ref yr, .int xrm, .int xfb, .int xlr, .ref yd, .int xdm])), (yx, .inl (U.2.2.1 0, 60, .inl gx))] rfl rfl i_X6_readsNumber_X6 tyX6_ok nmX6 (by decide) k_X6_readsNumber_99 rfl rfl rfl rfl (Nat.le_of_ble_eq_true rfl) rfl dX6_readsNumber_133 ?_
            refine J_goto C 72 dX6_readsNumber_136 (by decide) ?_
            exact ih_72 (i9 + 1) _ (by have := sg_lt (by decide) c_94_2; omega) (by have := sg_lt (by decide) c_94_2; omega) (by rw [← heq]; exact (nl_go (sg_lt (by decide) c_94_2) ⟨Int32.not_le.mp c_80_1, c_94_2, c_110_3⟩).symm)
  exact loop_72 (n + 1) (i + 1) _ (by omega) (by omega) rfl
set_option maxHeartbeats 4000000 in
set_option maxRecDepth 100000 in
theorem c_X6_readsNumber_pf (U : jU) (m ys ya yt yn yx yr yd : Nat) (xth xsm xhs xln xat xiw xrm xfb xlr xdm : Int32) (gx : Nat → Int32) (n i : Nat) (v_1 : ¬ (sgF gx n i) = 45) (v_2 : ¬ inF (sgF gx n i) 48 57) (hn : n ≤ 60) (hi : i ≤ 100) : Fn U yX6_readsNumber wsX6_readsNumber { frames := 2, cells := 0, slots := 0, locals := 45 } [.ref m] [(m, .inr (6, [.int xth, .ref ys, .ref ya, .ref yt, .int xsm, .ref yn, .int xhs, .ref yx, .int (nI n), .int (nI i), .int (1 : Int32), .ref yr, .int xrm, .int xfb, .int xlr, .ref yd, .int xdm])), (yx, .inl (U.2.2.1 0, 60, .inl gx))] (some (.int ((sgF gx n i) - 48))) [(m, .inr (6, [.int xth, .ref ys, .ref ya, .ref yt, .int xsm, .ref yn, .int xhs, .ref yx, .int (nI n), .int (nI i), .int (0 : Int32), .ref yr, .int xrm, .int xfb, .int xlr, .ref yd, .int xdm])), (yx, .inl (U.2.2.1 0, 60, .inl gx))] 0 0 := by
  refine Fn_of (cc := cX6_readsNumber) (maxL := 4) (ret := (some .int)) [some (.ref m), none, none, none] (by decide +kernel) rfl (jcat rfl) (Nat.le_of_ble_eq_true rfl) rfl (fun k C R hin hnL => ?_)
  have hN : ∀ i, i < 4 → i < k.2.2.2.2.2.2.2.2.2.2.2.1 := fun i h => by rw [hnL]; exact h
  refine J_aload_n C dX6_readsNumber_0 rfl rfl ?_
  refine J_callV C (c_X6_sign U m ys ya yt yn yx yr yd xth xsm xhs (0 : Int32) (0 : Int32) (1 : Int32) xrm xfb xlr xdm gx n i hn hi) gX6_readsNumber_X6_sign (n := 0) rfl rfl rfl (by decide +kernel) ⟨Nat.le_of_ble_eq_true rfl, Nat.le_of_ble_eq_true rfl⟩ 0 rfl rfl rfl (rest := []) rfl (Nat.le_of_ble_eq_true rfl) [(m, .inr (6, [.int xth, .ref ys, .ref ya, .ref yt, .int xsm, .ref yn, .int xhs, .ref yx, .int (nI n), .int (nI i), .int (1 : Int32), .ref yr, .int xrm, .int xfb, .int xlr, .ref yd, .int xdm])), (yx, .inl (U.2.2.1 0, 60, .inl gx))] [0, 1] [] [0, 1] (wr := []) rfl rfl rfl rfl (by decide) rfl rfl  dX6_readsNumber_1 ⟨Nat.le_of_ble_eq_true rfl, Nat.le_of_ble_eq_true rfl⟩ [.int (sgF gx n i)] rfl ?_
  refine J_bipush C (v := (45 : Int32)) dX6_readsNumber_4 (by decide) ?_
  refine J_icmp_ne C 13 dX6_readsNumber_6 (by decide) (fun _ => ?_) (fun h => absurd h v_1)
  refine J_iconst C (v := (0 : Int32)) dX6_readsNumber_13 (by decide) ?_
  refine J_istore_n C [some (.ref m), some (.int (0 : Int32)), none, none] dX6_readsNumber_14 rfl (hN 1 (by decide)) rfl ?_
  refine J_aload_n C dX6_readsNumber_15 rfl rfl ?_
  refine J_dup C dX6_readsNumber_16 rfl ?_
  refine J_get C 0 9 rfl rfl i_X6_readsNumber_X6 (by decide) k_X6_readsNumber_99 rfl rfl dX6_readsNumber_17 ?_
  refine J_iload_n C dX6_readsNumber_20 rfl rfl ?_
  refine J_if_eq C 28 dX6_readsNumber_21 (by decide) (fun _ => ?_) (fun h => absurd (by decide) h)
  refine J_iconst C (v := (0 : Int32)) dX6_readsNumber_28 (by decide) ?_
  refine J_iadd C (v := nI i) dX6_readsNumber_29 (nI_add i 0) ?_
  refine J_put C tyX6 0 9 [(m, .inr (6, [.int xth, .ref ys, .ref ya, .ref yt, .int xsm, .ref yn, .int xhs, .ref yx, .int (nI n), .int (nI i), .int (1 : Int32), .ref yr, .int xrm, .int xfb, .int xlr, .ref yd, .int xdm])), (yx, .inl (U.2.2.1 0, 60, .inl gx))] rfl rfl i_X6_readsNumber_X6 tyX6_ok nmX6 (by decide) k_X6_readsNumber_99 rfl rfl rfl rfl (Nat.le_of_ble_eq_true rfl) rfl dX6_readsNumber_30 ?_
  refine J_iload_n C dX6_readsNumber_33 rfl rfl ?_
  refine J_if_eq C 42 dX6_readsNumber_34 (by decide) (fun _ => ?_) (fun h => absurd (by decide) h)
  refine J_sipush C (v := (32767 : Int32)) dX6_readsNumber_42 (by decide) ?_
  refine J_istore_n C [some (.ref m), some (.int (0 : Int32)), some (.int (32767 : Int32)), none] dX6_readsNumber_45 rfl (hN 2 (by decide)) rfl ?_
  refine J_iload_n C dX6_readsNumber_46 rfl rfl ?_
  refine J_if_eq C 63 dX6_readsNumber_47 (by decide) (fun _ => ?_) (fun h => absurd (by decide) h)
  refine J_aload_n C dX6_readsNumber_63 rfl rfl ?_
  refine J_bipush C (v := (48 : Int32)) dX6_readsNumber_64 (by decide) ?_
  refine J_bipush C (v := (57 : Int32)) dX6_readsNumber_66 (by decide) ?_
  refine J_callV C (c_X6_takes_f U m ys ya yt yn yx yr yd xth xsm xhs (0 : Int32) (0 : Int32) (0 : Int32) xrm xfb xlr xdm gx n i (48 : Int32) (57 : Int32) v_2 hn hi) gX6_readsNumber_X6_takes (n := 2) rfl rfl rfl (by decide +kernel) ⟨Nat.le_of_ble_eq_true rfl, Nat.le_of_ble_eq_true rfl⟩ 0 rfl rfl rfl (rest := []) rfl (Nat.le_of_ble_eq_true rfl) [(m, .inr (6, [.int xth, .ref ys, .ref ya, .ref yt, .int xsm, .ref yn, .int xhs, .ref yx, .int (nI n), .int (nI i), .int (0 : Int32), .ref yr, .int xrm, .int xfb, .int xlr, .ref yd, .int xdm])), (yx, .inl (U.2.2.1 0, 60, .inl gx))] [0, 1] [] [0, 1] (wr := []) rfl rfl rfl rfl (by decide) rfl rfl  dX6_readsNumber_68 ⟨Nat.le_of_ble_eq_true rfl, Nat.le_of_ble_eq_true rfl⟩ [.int ((sgF gx n i) - (48 : Int32))] rfl ?_
  refine J_istore_n C [some (.ref m), some (.int (0 : Int32)), some (.int (32767 : Int32)), some (.int ((sgF gx n i) - (48 : Int32)))] dX6_readsNumber_71 rfl (hN 3 (by decide)) rfl ?_
  refine J_aload_n C dX6_readsNumber_72 rfl rfl ?_
  refine J_get C 0 10 rfl rfl i_X6_readsNumber_X6 (by decide) k_X6_readsNumber_102 rfl rfl dX6_readsNumber_73 ?_
  refine J_if_eq C 139 dX6_readsNumber_76 (by decide) (fun _ => ?_) (fun h => absurd (by decide) h)
  refine J_iload_n C dX6_readsNumber_139 rfl rfl ?_
  refine J_if_eq C 148 dX6_readsNumber_140 (by decide) (fun _ => ?_) (fun h => absurd (by decide) h)
  refine J_iload_n C dX6_readsNumber_148 rfl rfl ?_
  exact J_iret C R dX6_readsNumber_149 (Nat.le_of_ble_eq_true rfl) (Nat.le_of_ble_eq_true rfl) rfl rfl
