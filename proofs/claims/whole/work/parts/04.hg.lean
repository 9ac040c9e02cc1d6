theorem k_X6_type_31 : Cond.fieldLink RX6 31 "BoothOttersModel" "thrown" "I" ∈ wsX6_type := List.mem_of_getElem? (i := 1) rfl
theorem i_X6_type_X6 : ∀ w ∈ wsX60, w ∈ wsX6_type := fun _ h => List.mem_cons_of_mem _ (List.mem_append_right _ h)
theorem k_X6_type_96 : Cond.fieldLink RX6 96 "BoothOttersModel" "length" "I" ∈ wsX6_type := List.mem_of_getElem? (i := 2) rfl
set_option maxHeartbeats 4000000 in
set_option maxRecDepth 100000 in
theorem c_X6_type_no1 (U : jU) (m ys ya yt yn yx yr yd : Nat) (xth xsm xhs xln xat xiw xrm xfb xlr xdm : Int32) (p0 : Int32) (v_1 : xln = 60) : Fn U yX6_type wsX6_type { frames := 1, cells := 0, slots := 0, locals := 21 } [.ref m, .int p0] [(m, .inr (6, [.int xth, .ref ys, .ref ya, .ref yt, .int xsm, .ref yn, .int xhs, .ref yx, .int xln, .int xat, .int xiw, .ref yr, .int xrm, .int xfb, .int xlr, .ref yd, .int xdm]))] (some (.int (0 : Int32))) [(m, .inr (6, [.int (1 : Int32), .ref ys, .ref ya, .ref yt, .int xsm, .ref yn, .int xhs, .ref yx, .int xln, .int xat, .int xiw, .ref yr, .int xrm, .int xfb, .int xlr, .ref yd, .int xdm]))] 0 0 := by
  refine Fn_of (cc := cX6_type) (maxL := 2) (ret := (some .int)) [some (.ref m), some (.int p0)] (by decide +kernel) rfl (jcat rfl) (Nat.le_of_ble_eq_true rfl) rfl (fun k C R hin hnL => ?_)
  have hN : ∀ i, i < 2 → i < k.2.2.2.2.2.2.2.2.2.2.2.1 := fun i h => by rw [hnL]; exact h
  refine J_aload_n C dX6_type_0 rfl rfl ?_
  refine J_iconst C (v := (0 : Int32)) dX6_type_1 (by decide) ?_
  refine J_put C tyX6 0 0 [(m, .inr (6, [.int (0 : Int32), .ref ys, .ref ya, .ref yt, .int xsm, .ref yn, .int xhs, .ref yx, .int xln, .int xat, .int xiw, .ref yr, .int xrm, .int xfb, .int xlr, .ref yd, .int xdm]))] rfl rfl i_X6_type_X6 tyX6_ok nmX6 (by decide) k_X6_type_31 rfl rfl rfl rfl (Nat.le_of_ble_eq_true rfl) rfl dX6_type_2 ?_
  refine J_aload_n C dX6_type_5 rfl rfl ?_
  refine J_get C 0 8 rfl rfl i_X6_type_X6 (by decide) k_X6_type_96 rfl rfl dX6_type_6 ?_
  refine J_bipush C (v := (60 : Int32)) dX6_type_9 (by decide) ?_
  refine J_icmp_ne C 20 dX6_type_11 (by decide) (fun h => absurd h (fun hh => hh v_1)) (fun _ => ?_)
  refine J_aload_n C dX6_type_14 rfl rfl ?_
  refine J_iconst C (v := (1 : Int32)) dX6_type_15 (by decide) ?_
  refine J_callV C (c_X6_fails U m ys ya yt yn yx yr yd (0 : Int32) xsm xhs xln xat xiw xrm xfb xlr xdm (1 : Int32) ) gX6_type_X6_fails (n := 1) rfl rfl rfl (by decide +kernel) ⟨Nat.le_of_ble_eq_true rfl, Nat.le_of_ble_eq_true rfl⟩ 0 rfl rfl rfl (rest := []) rfl (Nat.le_of_ble_eq_true rfl) [(m, .inr (6, [.int (1 : Int32), .ref ys, .ref ya, .ref yt, .int xsm, .ref yn, .int xhs, .ref yx, .int xln, .int xat, .int xiw, .ref yr, .int xrm, .int xfb, .int xlr, .ref yd, .int xdm]))] [0] [] [0] (wr := []) rfl rfl rfl rfl (by decide) rfl rfl  dX6_type_16 ⟨Nat.le_of_ble_eq_true rfl, Nat.le_of_ble_eq_true rfl⟩ [.int (0 : Int32)] rfl ?_
  exact J_iret C R dX6_type_19 (Nat.le_of_ble_eq_true rfl) (Nat.le_of_ble_eq_true rfl) rfl rfl
theorem k_X6_type_22 : Cond.fieldLink RX6 22 "BoothOttersModel" "text" "[I" ∈ wsX6_type := List.mem_of_getElem? (i := 3) rfl
set_option maxHeartbeats 4000000 in
set_option maxRecDepth 100000 in
theorem c_X6_type_ok (U : jU) (m ys ya yt yn yx yr yd : Nat) (xth xsm xhs xln xat xiw xrm xfb xlr xdm : Int32) (n : Nat) (gx : Nat → Int32) (p0 : Int32) (v_1 : ¬ nI n = 60) (hlt : n < 60) : Fn U yX6_type wsX6_type { frames := 1, cells := 0, slots := 0, locals := 21 } [.ref m, .int p0] [(m, .inr (6, [.int xth, .ref ys, .ref ya, .ref yt, .int xsm, .ref yn, .int xhs, .ref yx, .int (nI n), .int xat, .int xiw, .ref yr, .int xrm, .int xfb, .int xlr, .ref yd, .int xdm])), (yx, .inl (U.2.2.1 0, 60, .inl gx))] (some (.int (nI (n + 1)))) [(m, .inr (6, [.int (0 : Int32), .ref ys, .ref ya, .ref yt, .int xsm, .ref yn, .int xhs, .ref yx, .int (nI (n + 1)), .int xat, .int xiw, .ref yr, .int xrm, .int xfb, .int xlr, .ref yd, .int xdm])), (yx, .inl (U.2.2.1 0, 60, .inl (upd gx n p0)))] 0 0 := by
  refine Fn_of (cc := cX6_type) (maxL := 2) (ret := (some .int)) [some (.ref m), some (.int p0)] (by decide +kernel) rfl (jcat rfl) (Nat.le_of_ble_eq_true rfl) rfl (fun k C R hin hnL => ?_)
  have hN : ∀ i, i < 2 → i < k.2.2.2.2.2.2.2.2.2.2.2.1 := fun i h => by rw [hnL]; exact h
  refine J_aload_n C dX6_type_0 rfl rfl ?_
  refine J_iconst C (v := (0 : Int32)) dX6_type_1 (by decide) ?_
  refine J_put C tyX6 0 0 [(m, .inr (6, [.int (0 : Int32), .ref ys, .ref ya, .ref yt, .int xsm, .ref yn, .int xhs, .ref yx, .int (nI n), .int xat, .int xiw, .ref yr, .int xrm, .int xfb, .int xlr, .ref yd, .int xdm])), (yx, .inl (U.2.2.1 0, 60, .inl gx))] rfl rfl i_X6_type_X6 tyX6_ok nmX6 (by decide) k_X6_type_31 rfl rfl rfl rfl (Nat.le_of_ble_eq_true rfl) rfl dX6_type_2 ?_
  refine J_aload_n C dX6_type_5 rfl rfl ?_
  refine J_get C 0 8 rfl rfl i_X6_type_X6 (by decide) k_X6_type_96 rfl rfl dX6_type_6 ?_
  refine J_bipush C (v := (60 : Int32)) dX6_type_9 (by decide) ?_
  refine J_icmp_ne C 20 dX6_type_11 (by decide) (fun _ => ?_) (fun h => absurd h v_1)
  refine J_aload_n C dX6_type_20 rfl rfl ?_
  refine J_get C 0 7 rfl rfl i_X6_type_X6 (by decide) k_X6_type_22 rfl rfl dX6_type_21 ?_
  refine J_aload_n C dX6_type_24 rfl rfl ?_
  refine J_get C 0 8 rfl rfl i_X6_type_X6 (by decide) k_X6_type_96 rfl rfl dX6_type_25 ?_
  refine J_iload_n C dX6_type_28 rfl rfl ?_
  refine J_iast C 1 [(m, .inr (6, [.int (0 : Int32), .ref ys, .ref ya, .ref yt, .int xsm, .ref yn, .int xhs, .ref yx, .int (nI n), .int xat, .int xiw, .ref yr, .int xrm, .int xfb, .int xlr, .ref yd, .int xdm])), (yx, .inl (U.2.2.1 0, 60, .inl (upd gx n p0)))] rfl (vp_in_nI (n := n) (by omega) (by decide)) (by rw [(nI_clamp (n := n) (by omega))]; rfl) dX6_type_29 ?_
  refine J_aload_n C dX6_type_30 rfl rfl ?_
  refine J_dup C dX6_type_31 rfl ?_
  refine J_get C 0 8 rfl rfl i_X6_type_X6 (by decide) k_X6_type_96 rfl rfl dX6_type_32 ?_
  refine J_iconst C (v := (1 : Int32)) dX6_type_35 (by decide) ?_
  refine J_iadd C (v := nI (n + 1)) dX6_type_36 (nI_add n 1) ?_
  refine J_put C tyX6 0 8 [(m, .inr (6, [.int (0 : Int32), .ref ys, .ref ya, .ref yt, .int xsm, .ref yn, .int xhs, .ref yx, .int (nI (n + 1)), .int xat, .int xiw, .ref yr, .int xrm, .int xfb, .int xlr, .ref yd, .int xdm])), (yx, .inl (U.2.2.1 0, 60, .inl (upd gx n p0)))] rfl rfl i_X6_type_X6 tyX6_ok nmX6 (by decide) k_X6_type_96 rfl rfl rfl rfl (Nat.le_of_ble_eq_true rfl) rfl dX6_type_37 ?_
  refine J_aload_n C dX6_type_40 rfl rfl ?_
  refine J_get C 0 8 rfl rfl i_X6_type_X6 (by decide) k_X6_type_96 rfl rfl dX6_type_41 ?_
  exact J_iret C R dX6_type_44 (Nat.le_of_ble_eq_true rfl) (Nat.le_of_ble_eq_true rfl) rfl rfl
theorem k_X6_clearProgram_31 : Cond.fieldLink RX6 31 "BoothOttersModel" "thrown" "I" ∈ wsX6_clearProgram := List.mem_of_getElem? (i := 1) rfl
theorem i_X6_clearProgram_X6 : ∀ w ∈ wsX60, w ∈ wsX6_clearProgram := fun _ h => List.mem_cons_of_mem _ (List.mem_append_right _ h)
theorem k_X6_clearProgram_96 : Cond.fieldLink RX6 96 "BoothOttersModel" "length" "I" ∈ wsX6_clearProgram := List.mem_of_getElem? (i := 2) rfl
set_option maxHeartbeats 4000000 in
set_option maxRecDepth 100000 in
theorem c_X6_clearProgram (U : jU) (m ys ya yt yn yx yr yd : Nat) (xth xsm xhs xln xat xiw xrm xfb xlr xdm : Int32)  : Fn U yX6_clearProgram wsX6_clearProgram { frames := 0, cells := 0, slots := 0, locals := 0 } [.ref m] [(m, .inr (6, [.int xth, .ref ys, .ref ya, .ref yt, .int xsm, .ref yn, .int xhs, .ref yx, .int xln, .int xat, .int xiw, .ref yr, .int xrm, .int xfb, .int xlr, .ref yd, .int xdm]))] (some (.int xln)) [(m, .inr (6, [.int (0 : Int32), .ref ys, .ref ya, .ref yt, .int xsm, .ref yn, .int xhs, .ref yx, .int (0 : Int32), .int xat, .int xiw, .ref yr, .int xrm, .int xfb, .int xlr, .ref yd, .int xdm]))] 0 0 := by
  refine Fn_of (cc := cX6_clearProgram) (maxL := 2) (ret := (some .int)) [some (.ref m), none] (by decide +kernel) rfl (jcat rfl) (Nat.le_of_ble_eq_true rfl) rfl (fun k C R hin hnL => ?_)
  have hN : ∀ i, i < 2 → i < k.2.2.2.2.2.2.2.2.2.2.2.1 := fun i h => by rw [hnL]; exact h
  refine J_aload_n C dX6_clearProgram_0 rfl rfl ?_
  refine J_iconst C (v := (0 : Int32)) dX6_clearProgram_1 (by decide) ?_
  refine J_put C tyX6 0 0 [(m, .inr (6, [.int (0 : Int32), .ref ys, .ref ya, .ref yt, .int xsm, .ref yn, .int xhs, .ref yx, .int xln, .int xat, .int xiw, .ref yr, .int xrm, .int xfb, .int xlr, .ref yd, .int xdm]))] rfl rfl i_X6_clearProgram_X6 tyX6_ok nmX6 (by decide) k_X6_clearProgram_31 rfl rfl rfl rfl (Nat.le_of_ble_eq_true rfl) rfl dX6_clearProgram_2 ?_
  refine J_aload_n C dX6_clearProgram_5 rfl rfl ?_
  refine J_get C 0 8 rfl rfl i_X6_clearProgram_X6 (by decide) k_X6_clearProgram_96 rfl rfl dX6_clearProgram_6 ?_
  refine J_istore_n C [some (.ref m), some (.int xln)] dX6_clearProgram_9 rfl (hN 1 (by decide)) rfl ?_
  refine J_aload_n C dX6_clearProgram_10 rfl rfl ?_
  refine J_iconst C (v := (0 : Int32)) dX6_clearProgram_11 (by decide) ?_
  refine J_put C tyX6 0 8 [(m, .inr (6, [.int (0 : Int32), .ref ys, .ref ya, .ref yt, .int xsm, .ref yn, .int xhs, .ref yx, .int (0 : Int32), .int xat, .int xiw, .ref yr, .int xrm, .int xfb, .int xlr, .ref yd, .int xdm]))] rfl rfl i_X6_clearProgram_X6 tyX6_ok nmX6 (by decide) k_X6_clearProgram_96 rfl rfl rfl rfl (Nat.le_of_ble_eq_true rfl) rfl dX6_clearProgram_12 ?_
  refine J_iload_n C dX6_clearProgram_15 rfl rfl ?_
  exact J_iret C R dX6_clearProgram_16 (Nat.le_of_ble_eq_true rfl) (Nat.le_of_ble_eq_true rfl) rfl rfl
theorem k_X6_undo_31 : Cond.fieldLink RX6 31 "BoothOttersModel" "thrown" "I" ∈ wsX6_undo := List.mem_of_getElem? (i := 1) rfl
theorem i_X6_undo_X6 : ∀ w ∈ wsX60, w ∈ wsX6_undo := fun _ h => List.mem_cons_of_mem _ (List.mem_append_right _ h)
theorem k_X6_undo_43 : Cond.fieldLink RX6 43 "BoothOttersModel" "stateMany" "I" ∈ wsX6_undo := List.mem_of_getElem? (i := 2) rfl
set_option maxHeartbeats 4000000 in
set_option maxRecDepth 100000 in
theorem c_X6_undo_no1 (U : jU) (m ys ya yt yn yx yr yd : Nat) (xth xsm xhs xln xat xiw xrm xfb xlr xdm : Int32) (v_1 : xsm = 0) : Fn U yX6_undo wsX6_undo { frames := 1, cells := 0, slots := 0, locals := 21 } [.ref m] [(m, .inr (6, [.int xth, .ref ys, .ref ya, .ref yt, .int xsm, .ref yn, .int xhs, .ref yx, .int xln, .int xat, .int xiw, .ref yr, .int xrm, .int xfb, .int xlr, .ref yd, .int xdm]))] (some (.int (0 : Int32))) [(m, .inr (6, [.int (1 : Int32), .ref ys, .ref ya, .ref yt, .int xsm, .ref yn, .int xhs, .ref yx, .int xln, .int xat, .int xiw, .ref yr, .int xrm, .int xfb, .int xlr, .ref yd, .int xdm]))] 0 0 := by
  refine Fn_of (cc := cX6_undo) (maxL := 2) (ret := (some .int)) [some (.ref m), none] (by decide +kernel) rfl (jcat rfl) (Nat.le_of_ble_eq_true rfl) rfl (fun k C R hin hnL => ?_)
  have hN : ∀ i, i < 2 → i < k.2.2.2.2.2.2.2.2.2.2.2.1 := fun i h => by rw [hnL]; exact h
  refine J_aload_n C dX6_undo_0 rfl rfl ?_
  refine J_iconst C (v := (0 : Int32)) dX6_undo_1 (by decide) ?_
  refine J_put C tyX6 0 0 [(m, .inr (6, [.int (0 : Int32), .ref ys, .ref ya, .ref yt, .int xsm, .ref yn, .int xhs, .ref yx, .int xln, .int xat, .int xiw, .ref yr, .int xrm, .int xfb, .int xlr, .ref yd, .int xdm]))] rfl rfl i_X6_undo_X6 tyX6_ok nmX6 (by decide) k_X6_undo_31 rfl rfl rfl rfl (Nat.le_of_ble_eq_true rfl) rfl dX6_undo_2 ?_
  refine J_aload_n C dX6_undo_5 rfl rfl ?_
  refine J_get C 0 4 rfl rfl i_X6_undo_X6 (by decide) k_X6_undo_43 rfl rfl dX6_undo_6 ?_
  refine J_if_ne C 18 dX6_undo_9 (by decide) (fun h => absurd h (fun hh => hh v_1)) (fun _ => ?_)
  refine J_aload_n C dX6_undo_12 rfl rfl ?_
  refine J_iconst C (v := (1 : Int32)) dX6_undo_13 (by decide) ?_
  refine J_callV C (c_X6_fails U m ys ya yt yn yx yr yd (0 : Int32) xsm xhs xln xat xiw xrm xfb xlr xdm (1 : Int32) ) gX6_undo_X6_fails (n := 1) rfl rfl rfl (by decide +kernel) ⟨Nat.le_of_ble_eq_true rfl, Nat.le_of_ble_eq_true rfl⟩ 0 rfl rfl rfl (rest := []) rfl (Nat.le_of_ble_eq_true rfl) [(m, .inr (6, [.int (1 : Int32), .ref ys, .ref ya, .ref yt, .int xsm, .ref yn, .int xhs, .ref yx, .int xln, .int xat, .int xiw, .ref yr, .int xrm, .int xfb, .int xlr, .ref yd, .int xdm]))] [0] [] [0] (wr := []) rfl rfl rfl rfl (by decide) rfl rfl  dX6_undo_14 ⟨Nat.le_of_ble_eq_true rfl, Nat.le_of_ble_eq_true rfl⟩ [.int (0 : Int32)] rfl ?_
  exact J_iret C R dX6_undo_17 (Nat.le_of_ble_eq_true rfl) (Nat.le_of_ble_eq_true rfl) rfl rfl
theorem k_X6_undo_7 : Cond.fieldLink RX6 7 "BoothOttersModel" "s" "[I" ∈ wsX6_undo := List.mem_of_getElem? (i := 3) rfl
theorem k_X6_undo_16 : Cond.fieldLink RX6 16 "BoothOttersModel" "states" "[I" ∈ wsX6_undo := List.mem_of_getElem? (i := 4) rfl
set_option maxHeartbeats 4000000 in
set_option maxRecDepth 100000 in
theorem c_X6_undo_ok (U : jU) (m ys ya yt yn yx yr yd : Nat) (xth xsm xhs xln xat xiw xrm xfb xlr xdm : Int32) (gs : Nat → Int32) (gt : Nat → Int32) (c : Nat) (v_1 : ¬ nI c = 0) (hp : 0 < c) (hc : c ≤ 4) : Fn U yX6_undo wsX6_undo { frames := 1, cells := 0, slots := 0, locals := 21 } [.ref m] [(m, .inr (6, [.int xth, .ref ys, .ref ya, .ref yt, .int (nI c), .ref yn, .int xhs, .ref yx, .int xln, .int xat, .int xiw, .ref yr, .int xrm, .int xfb, .int xlr, .ref yd, .int xdm])), (ys, .inl (U.2.2.1 0, 16, .inl gs)), (yt, .inl (U.2.2.1 0, 64, .inl gt))] (some (.int (nI (c - 1)))) [(m, .inr (6, [.int (0 : Int32), .ref ys, .ref ya, .ref yt, .int (nI (c - 1)), .ref yn, .int xhs, .ref yx, .int xln, .int xat, .int xiw, .ref yr, .int xrm, .int xfb, .int xlr, .ref yd, .int xdm])), (ys, .inl (U.2.2.1 0, 16, .inl (fun k9 => gt (16 * (c - 1) + k9)))), (yt, .inl (U.2.2.1 0, 64, .inl gt))] 0 0 := by
  refine Fn_of (cc := cX6_undo) (maxL := 2) (ret := (some .int)) [some (.ref m), none] (by decide +kernel) rfl (jcat rfl) (Nat.le_of_ble_eq_true rfl) rfl (fun k C R hin hnL => ?_)
  have hN : ∀ i, i < 2 → i < k.2.2.2.2.2.2.2.2.2.2.2.1 := fun i h => by rw [hnL]; exact h
  refine J_aload_n C dX6_undo_0 rfl rfl ?_
  refine J_iconst C (v := (0 : Int32)) dX6_undo_1 (by decide) ?_
  refine J_put C tyX6 0 0 [(m, .inr (6, [.int (0 : Int32), .ref ys, .ref ya, .ref yt, .int (nI c), .ref yn, .int xhs, .ref yx, .int xln, .int xat, .int xiw, .ref yr, .int xrm, .int xfb, .int xlr, .ref yd, .int xdm])), (ys, .inl (U.2.2.1 0, 16, .inl gs)), (yt, .inl (U.2.2.1 0, 64, .inl gt))] rfl rfl i_X6_undo_X6 tyX6_ok nmX6 (by decide) k_X6_undo_31 rfl rfl rfl rfl (Nat.le_of_ble_eq_true rfl) rfl dX6_undo_2 ?_
  refine J_aload_n C dX6_undo_5 rfl rfl ?_
  refine J_get C 0 4 rfl rfl i_X6_undo_X6 (by decide) k_X6_undo_43 rfl rfl dX6_undo_6 ?_
  refine J_if_ne C 18 dX6_undo_9 (by decide) (fun _ => ?_) (fun h => absurd h v_1)
  refine J_aload_n C dX6_undo_18 rfl rfl ?_
  refine J_dup C dX6_undo_19 rfl ?_
  refine J_get C 0 4 rfl rfl i_X6_undo_X6 (by decide) k_X6_undo_43 rfl rfl dX6_undo_20 ?_
  refine J_iconst C (v := (1 : Int32)) dX6_undo_23 (by decide) ?_
  refine J_isub C (v := nI (c - 1)) dX6_undo_24 (nI_pd hp) ?_
  refine J_put C tyX6 0 4 [(m, .inr (6, [.int (0 : Int32), .ref ys, .ref ya, .ref yt, .int (nI (c - 1)), .ref yn, .int xhs, .ref yx, .int xln, .int xat, .int xiw, .ref yr, .int xrm, .int xfb, .int xlr, .ref yd, .int xdm])), (ys, .inl (U.2.2.1 0, 16, .inl gs)), (yt, .inl (U.2.2.1 0, 64, .inl gt))] rfl rfl i_X6_undo_X6 tyX6_ok nmX6 (by decide) k_X6_undo_43 rfl rfl rfl rfl (Nat.le_of_ble_eq_true rfl) rfl dX6_undo_25 ?_
  refine J_iconst C (v := (0 : Int32)) dX6_undo_28 (by decide) ?_
  refine J_istore_n C [some (.ref m), some (.int (0 : Int32))] dX6_undo_29 rfl (hN 1 (by decide)) rfl ?_
  refine J_arr (cpF (fun k9 => gt (16 * (c - 1) + k9)) gs 0 0) 1 [(m, .inr (6, [.int (0 : Int32), .ref ys, .ref ya, .ref yt, .int (nI (c - 1)), .ref yn, .int xhs, .ref yx, .int xln, .int xat, .int xiw, .ref yr, .int xrm, .int xfb, .int xlr, .ref yd, .int xdm])), (ys, .inl (U.2.2.1 0, 16, .inl (cpF (fun k9 => gt (16 * (c - 1) + k9)) gs 0 0))), (yt, .inl (U.2.2.1 0, 64, .inl gt))] rfl (fun j9 _ => congrFun (cp_0 (fun k9 => gt (16 * (c - 1) + k9)) gs 0) j9) rfl ?_
  have loop_30 : ∀ (n_f : Nat) (i : Nat), 16 < i + n_f → i ≤ 16 → J U k 0 0 [(m, .inr (6, [.int (0 : Int32), .ref ys, .ref ya, .ref yt, .int (nI (c - 1)), .ref yn, .int xhs, .ref yx, .int xln, .int xat, .int xiw, .ref yr, .int xrm, .int xfb, .int xlr, .ref yd, .int xdm])), (ys, .inl (U.2.2.1 0, 16, .inl (cpF (fun k9 => gt (16 * (c - 1) + k9)) gs 0 i))), (yt, .inl (U.2.2.1 0, 64, .inl gt))] [some (.ref m), some (.int (nI i))] 30 [] := by
    intro n_f
    induction n_f with
    | zero =>
      intro i hfuel hin_i
      exact absurd hfuel (by omega)
    | succ n_f ih_30 =>
      intro i hfuel hin_i
      refine J_iload_n C dX6_undo_30 rfl rfl ?_
      refine J_bipush C (v := (16 : Int32)) dX6_undo_31 (by decide) ?_
      refine J_icmp_ge C 62 dX6_undo_33 (by decide) (fun c_33_1 => ?_) (fun c_33_1 => ?_)
      · have hx_i : i = 16 := nI_exit (n := 16) (by omega) (by omega) c_33_1
        subst hx_i
        refine J_arr (fun k9 => gt (16 * (c - 1) + k9)) 1 [(m, .inr (6, [.int (0 : Int32), .ref ys, .ref ya, .ref yt, .int (nI (c - 1)), .ref yn, .int xhs, .ref yx, .int xln, .int xat, .int xiw, .ref yr, .int xrm, .int xfb, .int xlr, .ref yd, .int xdm])), (ys, .inl (U.2.2.1 0, 16, .inl (fun k9 => gt (16 * (c - 1) + k9)))), (yt, .inl (U.2.2.1 0, 64, .inl gt))] rfl (fun j hj => cp_f (fun k9 => gt (16 * (c - 1) + k9)) _ 16 j hj) rfl ?_
        refine J_aload_n C dX6_undo_62 rfl rfl ?_
        refine J_get C 0 4 rfl rfl i_X6_undo_X6 (by decide) k_X6_undo_43 rfl rfl dX6_undo_63 ?_
        exact J_iret C R dX6_undo_66 (Nat.le_of_ble_eq_true rfl) (Nat.le_of_ble_eq_true rfl) rfl rfl
      · have hlt_i : i < 16 := nI_ngeN (n := 16) (by omega) (by omega) c_33_1
        refine J_aload_n C dX6_undo_36 rfl rfl ?_
        refine J_get C 0 1 rfl rfl i_X6_undo_X6 (by decide) k_X6_undo_7 rfl rfl dX6_undo_37 ?_
        refine J_iload_n C dX6_undo_40 rfl rfl ?_
        refine J_aload_n C dX6_undo_41 rfl rfl ?_
        refine J_get C 0 3 rfl rfl i_X6_undo_X6 (by decide) k_X6_undo_16 rfl rfl dX6_undo_42 ?_
        refine J_bipush C (v := (16 : Int32)) dX6_undo_45 (by decide) ?_
        refine J_aload_n C dX6_undo_47 rfl rfl ?_
        refine J_get C 0 4 rfl rfl i_X6_undo_X6 (by decide) k_X6_undo_43 rfl rfl dX6_undo_48 ?_
        refine J_imul C (v := nI (16 * (c - 1))) dX6_undo_51 (pk_mul 16 (c - 1)) ?_
        refine J_iload_n C dX6_undo_52 rfl rfl ?_
        refine J_iadd C (v := nI ((16 * (c - 1)) + i)) dX6_undo_53 (nI_add (16 * (c - 1)) i) ?_
        refine J_iald C 2 rfl (vp_in_nI (n := (16 * (c - 1)) + i) (by omega) (by decide)) (congrArg gt (nI_clamp (n := (16 * (c - 1)) + i) (by omega))) dX6_undo_54 ?_
        refine J_iast C 1 [(m, .inr (6, [.int (0 : Int32), .ref ys, .ref ya, .ref yt, .int (nI (c - 1)), .ref yn, .int xhs, .ref yx, .int xln, .int xat, .int xiw, .ref yr, .int xrm, .int xfb, .int xlr, .ref yd, .int xdm])), (ys, .inl (U.2.2.1 0, 16, .inl (upd (cpF (fun k9 => gt (16 * (c - 1) + k9)) gs 0 i) i (gt ((16 * (c - 1)) + i))))), (yt, .inl (U.2.2.1 0, 64, .inl gt))] rfl (vp_in_nI (n := i) (by omega) (by decide)) (by rw [(nI_clamp (n := i) (by omega))]; rfl) dX6_undo_55 ?_
        refine J_iinc C (v := nI (i + 1)) [some (.ref m), some (.int (nI (i + 1)))] dX6_undo_56 rfl (nI_o1 i) (hN 1 (by decide)) rfl ?_
        refine J_goto C 30 dX6_undo_59 (by decide) ?_
        refine J_arr (cpF (fun k9 => gt (16 * (c - 1) + k9)) gs 0 (i + 1)) 1 [(m, .inr (6, [.int (0 : Int32), .ref ys, .ref ya, .ref yt, .int (nI (c - 1)), .ref yn, .int xhs, .ref yx, .int xln, .int xat, .int xiw, .ref yr, .int xrm, .int xfb, .int xlr, .ref yd, .int xdm])), (ys, .inl (U.2.2.1 0, 16, .inl (cpF (fun k9 => gt (16 * (c - 1) + k9)) gs 0 (i + 1)))), (yt, .inl (U.2.2.1 0, 64, .inl gt))] rfl (fun j9 _ => (congrFun (cp_s0 (fun k9 => gt (16 * (c - 1) + k9)) gs i) j9).symm) rfl ?_
        exact ih_30 (i + 1) (by omega) (by omega)
  exact loop_30 17 0 (by omega) (by omega)
theorem k_X6_takeSnapshot_31 : Cond.fieldLink RX6 31 "BoothOttersModel" "thrown" "I" ∈ wsX6_takeSnapshot := List.mem_of_getElem? (i := 1) rfl
theorem i_X6_takeSnapshot_X6 : ∀ w ∈ wsX60, w ∈ wsX6_takeSnapshot := fun _ h => List.mem_cons_of_mem _ (List.mem_append_right _ h)
theorem k_X6_takeSnapshot_143 : Cond.fieldLink RX6 143 "BoothOttersModel" "hasSnapshot" "Z" ∈ wsX6_takeSnapshot := List.mem_of_getElem? (i := 4) rfl
theorem k_X6_takeSnapshot_7 : Cond.fieldLink RX6 7 "BoothOttersModel" "s" "[I" ∈ wsX6_takeSnapshot := List.mem_of_getElem? (i := 3) rfl
theorem k_X6_takeSnapshot_19 : Cond.fieldLink RX6 19 "BoothOttersModel" "snapshot" "[I" ∈ wsX6_takeSnapshot := List.mem_of_getElem? (i := 2) rfl
set_option maxHeartbeats 4000000 in
set_option maxRecDepth 100000 in
theorem c_X6_takeSnapshot (U : jU) (m ys ya yt yn yx yr yd : Nat) (xth xsm xhs xln xat xiw xrm xfb xlr xdm : Int32) (gs : Nat → Int32) (gn : Nat → Int32)  : Fn U yX6_takeSnapshot wsX6_takeSnapshot { frames := 0, cells := 0, slots := 0, locals := 0 } [.ref m] [(m, .inr (6, [.int xth, .ref ys, .ref ya, .ref yt, .int xsm, .ref yn, .int xhs, .ref yx, .int xln, .int xat, .int xiw, .ref yr, .int xrm, .int xfb, .int xlr, .ref yd, .int xdm])), (ys, .inl (U.2.2.1 0, 16, .inl gs)), (yn, .inl (U.2.2.1 0, 16, .inl gn))] (some (.int (gs 0))) [(m, .inr (6, [.int (0 : Int32), .ref ys, .ref ya, .ref yt, .int xsm, .ref yn, .int (1 : Int32), .ref yx, .int xln, .int xat, .int xiw, .ref yr, .int xrm, .int xfb, .int xlr, .ref yd, .int xdm])), (ys, .inl (U.2.2.1 0, 16, .inl gs)), (yn, .inl (U.2.2.1 0, 16, .inl gs))] 0 0 := by
  refine Fn_of (cc := cX6_takeSnapshot) (maxL := 2) (ret := (some .int)) [some (.ref m), none] (by decide +kernel) rfl (jcat rfl) (Nat.le_of_ble_eq_true rfl) rfl (fun k C R hin hnL => ?_)
  have hN : ∀ i, i < 2 → i < k.2.2.2.2.2.2.2.2.2.2.2.1 := fun i h => by rw [hnL]; exact h
  refine J_aload_n C dX6_takeSnapshot_0 rfl rfl ?_
  refine J_iconst C (v := (0 : Int32)) dX6_takeSnapshot_1 (by decide) ?_
  refine J_put C tyX6 0 0 [(m, .inr (6, [.int (0 : Int32), .ref ys, .ref ya, .ref yt, .int xsm, .ref yn, .int xhs, .ref yx, .int xln, .int xat, .int xiw, .ref yr, .int xrm, .int xfb, .int xlr, .ref yd, .int xdm])), (ys, .inl (U.2.2.1 0, 16, .inl gs)), (yn, .inl (U.2.2.1 0, 16, .inl gn))] rfl rfl i_X6_takeSnapshot_X6 tyX6_ok nmX6 (by decide) k_X6_takeSnapshot_31 rfl rfl rfl rfl (Nat.le_of_ble_eq_true rfl) rfl dX6_takeSnapshot_2 ?_
  refine J_iconst C (v := (0 : Int32)) dX6_takeSnapshot_5 (by decide) ?_
  refine J_istore_n C [some (.ref m), some (.int (0 : Int32))] dX6_takeSnapshot_6 rfl (hN 1 (by decide)) rfl ?_
  refine J_arr (cpF gs gn 0 0) 2 [(m, .inr (6, [.int (0 : Int32), .ref ys, .ref ya, .ref yt, .int xsm, .ref yn, .int xhs, .ref yx, .int xln, .int xat, .int xiw, .ref yr, .int xrm, .int xfb, .int xlr, .ref yd, .int xdm])), (ys, .inl (U.2.2.1 0, 16, .inl gs)), (yn, .inl (U.2.2.1 0, 16, .inl (cpF gs gn 0 0)))] rfl (fun j9 _ => congrFun (cp_0 gs gn 0) j9) rfl ?_
  have loop_7 : ∀ (n_f : Nat) (i : Nat), 16 < i + n_f → i ≤ 16 → J U k 0 0 [(m, .inr (6, [.int (0 : Int32), .ref ys, .ref ya, .ref yt, .int xsm, .ref yn, .int xhs, .ref yx, .int xln, .int xat, .int xiw, .ref yr, .int xrm, .int xfb, .int xlr, .ref yd, .int xdm])), (ys, .inl (U.2.2.1 0, 16, .inl gs)), (yn, .inl (U.2.2.1 0, 16, .inl (cpF gs gn 0 i)))] [some (.ref m), some (.int (nI i))] 7 [] := by
    intro n_f
    induction n_f with
    | zero =>
      intro i hfuel hin_i
      exact absurd hfuel (by omega)
    | succ n_f ih_7 =>
      intro i hfuel hin_i
      refine J_iload_n C dX6_takeSnapshot_7 rfl rfl ?_
      refine J_bipush C (v := (16 : Int32)) dX6_takeSnapshot_8 (by decide) ?_
      refine J_icmp_ge C 31 dX6_takeSnapshot_10 (by decide) (fun c_10_1 => ?_) (fun c_10_1 => ?_)
      · have hx_i : i = 16 := nI_exit (n := 16) (by omega) (by omega) c_10_1
        subst hx_i
        refine J_arr gs 2 [(m, .inr (6, [.int (0 : Int32), .ref ys, .ref ya, .ref yt, .int xsm, .ref yn, .int xhs, .ref yx, .int xln, .int xat, .int xiw, .ref yr, .int xrm, .int xfb, .int xlr, .ref yd, .int xdm])), (ys, .inl (U.2.2.1 0, 16, .inl gs)), (yn, .inl (U.2.2.1 0, 16, .inl gs))] rfl (fun j hj => cp_f (gs) _ 16 j hj) rfl ?_
        refine J_aload_n C dX6_takeSnapshot_31 rfl rfl ?_
        refine J_iconst C (v := (1 : Int32)) dX6_takeSnapshot_32 (by decide) ?_
        refine J_put C tyX6 0 6 [(m, .inr (6, [.int (0 : Int32), .ref ys, .ref ya, .ref yt, .int xsm, .ref yn, .int (1 : Int32), .ref yx, .int xln, .int xat, .int xiw, .ref yr, .int xrm, .int xfb, .int xlr, .ref yd, .int xdm])), (ys, .inl (U.2.2.1 0, 16, .inl gs)), (yn, .inl (U.2.2.1 0, 16, .inl gs))] rfl rfl i_X6_takeSnapshot_X6 tyX6_ok nmX6 (by decide) k_X6_takeSnapshot_143 rfl rfl rfl rfl (Nat.le_of_ble_eq_true rfl) rfl dX6_takeSnapshot_33 ?_
        refine J_aload_n C dX6_takeSnapshot_36 rfl rfl ?_
        refine J_get C 0 1 rfl rfl i_X6_takeSnapshot_X6 (by decide) k_X6_takeSnapshot_7 rfl rfl dX6_takeSnapshot_37 ?_
        refine J_iconst C (v := (0 : Int32)) dX6_takeSnapshot_40 (by decide) ?_
        refine J_iald C 1 rfl (vpl n_0 (by decide) (by decide)) (congrArg gs n_0) dX6_takeSnapshot_41 ?_
        exact J_iret C R dX6_takeSnapshot_42 (Nat.le_of_ble_eq_true rfl) (Nat.le_of_ble_eq_true rfl) rfl rfl
      · have hlt_i : i < 16 := nI_ngeN (n := 16) (by omega) (by omega) c_10_1
        refine J_aload_n C dX6_takeSnapshot_13 rfl rfl ?_
        refine J_get C 0 5 rfl rfl i_X6_takeSnapshot_X6 (by decide) k_X6_takeSnapshot_19 rfl rfl dX6_takeSnapshot_14 ?_
        refine J_iload_n C dX6_takeSnapshot_17 rfl rfl ?_
        refine J_aload_n C dX6_takeSnapshot_18 rfl rfl ?_
        refine J_get C 0 1 rfl rfl i_X6_takeSnapshot_X6 (by decide) k_X6_takeSnapshot_7 rfl rfl dX6_takeSnapshot_19 ?_
        refine J_iload_n C dX6_takeSnapshot_22 rfl rfl ?_
        refine J_iald C 1 rfl (vp_in_nI (n := i) (by omega) (by decide)) (congrArg gs (nI_clamp (n := i) (by omega))) dX6_takeSnapshot_23 ?_
        refine J_iast C 2 [(m, .inr (6, [.int (0 : Int32), .ref ys, .ref ya, .ref yt, .int xsm, .ref yn, .int xhs, .ref yx, .int xln, .int xat, .int xiw, .ref yr, .int xrm, .int xfb, .int xlr, .ref yd, .int xdm])), (ys, .inl (U.2.2.1 0, 16, .inl gs)), (yn, .inl (U.2.2.1 0, 16, .inl (upd (cpF gs gn 0 i) i (gs i))))] rfl (vp_in_nI (n := i) (by omega) (by decide)) (by rw [(nI_clamp (n := i) (by omega))]; rfl) dX6_takeSnapshot_24 ?_
        refine J_iinc C (v := nI (i + 1)) [some (.ref m), some (.int (nI (i + 1)))] dX6_takeSnapshot_25 rfl (nI_o1 i) (hN 1 (by decide)) rfl ?_
        refine J_goto C 7 dX6_takeSnapshot_28 (by decide) ?_
        refine J_arr (cpF gs gn 0 (i + 1)) 2 [(m, .inr (6, [.int (0 : Int32), .ref ys, .ref ya, .ref yt, .int xsm, .ref yn, .int xhs, .ref yx, .int xln, .int xat, .int xiw, .ref yr, .int xrm, .int xfb, .int xlr, .ref yd, .int xdm])), (ys, .inl (U.2.2.1 0, 16, .inl gs)), (yn, .inl (U.2.2.1 0, 16, .inl (cpF gs gn 0 (i + 1))))] rfl (fun j9 _ => (congrFun (cp_s0 gs gn i) j9).symm) rfl ?_
        exact ih_7 (i + 1) (by omega) (by omega)
  exact loop_7 17 0 (by omega) (by omega)
theorem k_X6_restoreSnapshot_31 : Cond.fieldLink RX6 31 "BoothOttersModel" "thrown" "I" ∈ wsX6_restoreSnapshot := List.mem_of_getElem? (i := 1) rfl
theorem i_X6_restoreSnapshot_X6 : ∀ w ∈ wsX60, w ∈ wsX6_restoreSnapshot := fun _ h => List.mem_cons_of_mem _ (List.mem_append_right _ h)
theorem k_X6_restoreSnapshot_143 : Cond.fieldLink RX6 143 "BoothOttersModel" "hasSnapshot" "Z" ∈ wsX6_restoreSnapshot := List.mem_of_getElem? (i := 2) rfl
set_option maxHeartbeats 4000000 in
set_option maxRecDepth 100000 in
theorem c_X6_restoreSnapshot_no1 (U : jU) (m ys ya yt yn yx yr yd : Nat) (xth xsm xhs xln xat xiw xrm xfb xlr xdm : Int32) (v_1 : xhs = 0) : Fn U yX6_restoreSnapshot wsX6_restoreSnapshot { frames := 1, cells := 0, slots := 0, locals := 21 } [.ref m] [(m, .inr (6, [.int xth, .ref ys, .ref ya, .ref yt, .int xsm, .ref yn, .int xhs, .ref yx, .int xln, .int xat, .int xiw, .ref yr, .int xrm, .int xfb, .int xlr, .ref yd, .int xdm]))] (some (.int (0 : Int32))) [(m, .inr (6, [.int (1 : Int32), .ref ys, .ref ya, .ref yt, .int xsm, .ref yn, .int xhs, .ref yx, .int xln, .int xat, .int xiw, .ref yr, .int xrm, .int xfb, .int xlr, .ref yd, .int xdm]))] 0 0 := by
  refine Fn_of (cc := cX6_restoreSnapshot) (maxL := 2) (ret := (some .int)) [some (.ref m), none] (by decide +kernel) rfl (jcat rfl) (Nat.le_of_ble_eq_true rfl) rfl (fun k C R hin hnL => ?_)
  have hN : ∀ i, i < 2 → i < k.2.2.2.2.2.2.2.2.2.2.2.1 := fun i h => by rw [hnL]; exact h
  refine J_aload_n C dX6_restoreSnapshot_0 rfl rfl ?_
  refine J_iconst C (v := (0 : Int32)) dX6_restoreSnapshot_1 (by decide) ?_
  refine J_put C tyX6 0 0 [(m, .inr (6, [.int (0 : Int32), .ref ys, .ref ya, .ref yt, .int xsm, .ref yn, .int xhs, .ref yx, .int xln, .int xat, .int xiw, .ref yr, .int xrm, .int xfb, .int xlr, .ref yd, .int xdm]))] rfl rfl i_X6_restoreSnapshot_X6 tyX6_ok nmX6 (by decide) k_X6_restoreSnapshot_31 rfl rfl rfl rfl (Nat.le_of_ble_eq_true rfl) rfl dX6_restoreSnapshot_2 ?_
  refine J_aload_n C dX6_restoreSnapshot_5 rfl rfl ?_
  refine J_get C 0 6 rfl rfl i_X6_restoreSnapshot_X6 (by decide) k_X6_restoreSnapshot_143 rfl rfl dX6_restoreSnapshot_6 ?_
  refine J_if_ne C 18 dX6_restoreSnapshot_9 (by decide) (fun h => absurd h (fun hh => hh v_1)) (fun _ => ?_)
  refine J_aload_n C dX6_restoreSnapshot_12 rfl rfl ?_
  refine J_iconst C (v := (1 : Int32)) dX6_restoreSnapshot_13 (by decide) ?_
  refine J_callV C (c_X6_fails U m ys ya yt yn yx yr yd (0 : Int32) xsm xhs xln xat xiw xrm xfb xlr xdm (1 : Int32) ) gX6_restoreSnapshot_X6_fails (n := 1) rfl rfl rfl (by decide +kernel) ⟨Nat.le_of_ble_eq_true rfl, Nat.le_of_ble_eq_true rfl⟩ 0 rfl rfl rfl (rest := []) rfl (Nat.le_of_ble_eq_true rfl) [(m, .inr (6, [.int (1 : Int32), .ref ys, .ref ya, .ref yt, .int xsm, .ref yn, .int xhs, .ref yx, .int xln, .int xat, .int xiw, .ref yr, .int xrm, .int xfb, .int xlr, .ref yd, .int xdm]))] [0] [] [0] (wr := []) rfl rfl rfl rfl (by decide) rfl rfl  dX6_restoreSnapshot_14 ⟨Nat.le_of_ble_eq_true rfl, Nat.le_of_ble_eq_true rfl⟩ [.int (0 : Int32)] rfl ?_
  exact J_iret C R dX6_restoreSnapshot_17 (Nat.le_of_ble_eq_true rfl) (Nat.le_of_ble_eq_true rfl) rfl rfl
theorem k_X6_restoreSnapshot_7 : Cond.fieldLink RX6 7 "BoothOttersModel" "s" "[I" ∈ wsX6_restoreSnapshot := List.mem_of_getElem? (i := 3) rfl
theorem k_X6_restoreSnapshot_19 : Cond.fieldLink RX6 19 "BoothOttersModel" "snapshot" "[I" ∈ wsX6_restoreSnapshot := List.mem_of_getElem? (i := 4) rfl
set_option maxHeartbeats 4000000 in
set_option maxRecDepth 100000 in
theorem c_X6_restoreSnapshot_ok (U : jU) (m ys ya yt yn yx yr yd : Nat) (xth xsm xhs xln xat xiw xrm xfb xlr xdm : Int32) (gs : Nat → Int32) (gt : Nat → Int32) (c : Nat) (gn : Nat → Int32) (v_1 : ¬ xhs = 0) (hc : c ≤ 4) : Fn U yX6_restoreSnapshot wsX6_restoreSnapshot { frames := 1, cells := 0, slots := 0, locals := 21 } [.ref m] [(m, .inr (6, [.int xth, .ref ys, .ref ya, .ref yt, .int (nI c), .ref yn, .int xhs, .ref yx, .int xln, .int xat, .int xiw, .ref yr, .int xrm, .int xfb, .int xlr, .ref yd, .int xdm])), (ys, .inl (U.2.2.1 0, 16, .inl gs)), (yt, .inl (U.2.2.1 0, 64, .inl gt)), (yn, .inl (U.2.2.1 0, 16, .inl gn))] (some (.int (gn 0))) [(m, .inr (6, [.int (0 : Int32), .ref ys, .ref ya, .ref yt, .int (nI (min (c + 1) 4)), .ref yn, .int xhs, .ref yx, .int xln, .int xat, .int xiw, .ref yr, .int xrm, .int xfb, .int xlr, .ref yd, .int xdm])), (ys, .inl (U.2.2.1 0, 16, .inl gn)), (yt, .inl (U.2.2.1 0, 64, .inl (recF gs gt c))), (yn, .inl (U.2.2.1 0, 16, .inl gn))] 0 0 := by
  refine Fn_of (cc := cX6_restoreSnapshot) (maxL := 2) (ret := (some .int)) [some (.ref m), none] (by decide +kernel) rfl (jcat rfl) (Nat.le_of_ble_eq_true rfl) rfl (fun k C R hin hnL => ?_)
  have hN : ∀ i, i < 2 → i < k.2.2.2.2.2.2.2.2.2.2.2.1 := fun i h => by rw [hnL]; exact h
  refine J_aload_n C dX6_restoreSnapshot_0 rfl rfl ?_
  refine J_iconst C (v := (0 : Int32)) dX6_restoreSnapshot_1 (by decide) ?_
  refine J_put C tyX6 0 0 [(m, .inr (6, [.int (0 : Int32), .ref ys, .ref ya, .ref yt, .int (nI c), .ref yn, .int xhs, .ref yx, .int xln, .int xat, .int xiw, .ref yr, .int xrm, .int xfb, .int xlr, .ref yd, .int xdm])), (ys, .inl (U.2.2.1 0, 16, .inl gs)), (yt, .inl (U.2.2.1 0, 64, .inl gt)), (yn, .inl (U.2.2.1 0, 16, .inl gn))] rfl rfl i_X6_restoreSnapshot_X6 tyX6_ok nmX6 (by decide) k_X6_restoreSnapshot_31 rfl rfl rfl rfl (Nat.le_of_ble_eq_true rfl) rfl dX6_restoreSnapshot_2 ?_
  refine J_aload_n C dX6_restoreSnapshot_5 rfl rfl ?_
  refine J_get C 0 6 rfl rfl i_X6_restoreSnapshot_X6 (by decide) k_X6_restoreSnapshot_143 rfl rfl dX6_restoreSnapshot_6 ?_
  refine J_if_ne C 18 dX6_restoreSnapshot_9 (by decide) (fun _ => ?_) (fun h => absurd h v_1)
  refine J_aload_n C dX6_restoreSnapshot_18 rfl rfl ?_
  refine J_callV C (c_X6_records U m ys ya yt yn yx yr yd (0 : Int32) (0 : Int32) xhs xln xat xiw xrm xfb xlr xdm gs gt c hc) gX6_restoreSnapshot_X6_records (n := 0) rfl rfl rfl (by decide +kernel) ⟨Nat.le_of_ble_eq_true rfl, Nat.le_of_ble_eq_true rfl⟩ 0 rfl rfl rfl (rest := []) rfl (Nat.le_of_ble_eq_true rfl) [(m, .inr (6, [.int (0 : Int32), .ref ys, .ref ya, .ref yt, .int (nI (min (c + 1) 4)), .ref yn, .int xhs, .ref yx, .int xln, .int xat, .int xiw, .ref yr, .int xrm, .int xfb, .int xlr, .ref yd, .int xdm])), (ys, .inl (U.2.2.1 0, 16, .inl gs)), (yt, .inl (U.2.2.1 0, 64, .inl (recF gs gt c))), (yn, .inl (U.2.2.1 0, 16, .inl gn))] [0, 1, 2] [3] [1, 2, 3, 0] (wr := [(yn, .inl (U.2.2.1 0, 16, .inl gn))]) rfl rfl rfl rfl (by decide) rfl rfl  dX6_restoreSnapshot_19 ⟨Nat.le_of_ble_eq_true rfl, Nat.le_of_ble_eq_true rfl⟩ [] rfl ?_
  refine J_iconst C (v := (0 : Int32)) dX6_restoreSnapshot_22 (by decide) ?_
  refine J_istore_n C [some (.ref m), some (.int (0 : Int32))] dX6_restoreSnapshot_23 rfl (hN 1 (by decide)) rfl ?_
  refine J_arr (cpF gn gs 0 0) 1 [(m, .inr (6, [.int (0 : Int32), .ref ys, .ref ya, .ref yt, .int (nI (min (c + 1) 4)), .ref yn, .int xhs, .ref yx, .int xln, .int xat, .int xiw, .ref yr, .int xrm, .int xfb, .int xlr, .ref yd, .int xdm])), (ys, .inl (U.2.2.1 0, 16, .inl (cpF gn gs 0 0))), (yt, .inl (U.2.2.1 0, 64, .inl (recF gs gt c))), (yn, .inl (U.2.2.1 0, 16, .inl gn))] rfl (fun j9 _ => congrFun (cp_0 gn gs 0) j9) rfl ?_
  have loop_24 : ∀ (n_f : Nat) (i : Nat), 16 < i + n_f → i ≤ 16 → J U k 0 0 [(m, .inr (6, [.int (0 : Int32), .ref ys, .ref ya, .ref yt, .int (nI (min (c + 1) 4)), .ref yn, .int xhs, .ref yx, .int xln, .int xat, .int xiw, .ref yr, .int xrm, .int xfb, .int xlr, .ref yd, .int xdm])), (ys, .inl (U.2.2.1 0, 16, .inl (cpF gn gs 0 i))), (yt, .inl (U.2.2.1 0, 64, .inl (recF gs gt c))), (yn, .inl (U.2.2.1 0, 16, .inl gn))] [some (.ref m), some (.int (nI i))] 24 [] := by
    intro n_f
    induction n_f with
    | zero =>
      intro i hfuel hin_i
      exact absurd hfuel (by omega)
    | succ n_f ih_24 =>
      intro i hfuel hin_i
      refine J_iload_n C dX6_restoreSnapshot_24 rfl rfl ?_
      refine J_bipush C (v := (16 : Int32)) dX6_restoreSnapshot_25 (by decide) ?_
      refine J_icmp_ge C 48 dX6_restoreSnapshot_27 (by decide) (fun c_27_1 => ?_) (fun c_27_1 => ?_)
      · have hx_i : i = 16 := nI_exit (n := 16) (by omega) (by omega) c_27_1
        subst hx_i
        refine J_arr gn 1 [(m, .inr (6, [.int (0 : Int32), .ref ys, .ref ya, .ref yt, .int (nI (min (c + 1) 4)), .ref yn, .int xhs, .ref yx, .int xln, .int xat, .int xiw, .ref yr, .int xrm, .int xfb, .int xlr, .ref yd, .int xdm])), (ys, .inl (U.2.2.1 0, 16, .inl gn)), (yt, .inl (U.2.2.1 0, 64, .inl (recF gs gt c))), (yn, .inl (U.2.2.1 0, 16, .inl gn))] rfl (fun j hj => cp_f (gn) _ 16 j hj) rfl ?_
        refine J_aload_n C dX6_restoreSnapshot_48 rfl rfl ?_
        refine J_get C 0 1 rfl rfl i_X6_restoreSnapshot_X6 (by decide) k_X6_restoreSnapshot_7 rfl rfl dX6_restoreSnapshot_49 ?_
        refine J_iconst C (v := (0 : Int32)) dX6_restoreSnapshot_52 (by decide) ?_
        refine J_iald C 1 rfl (vpl n_0 (by decide) (by decide)) (congrArg gn n_0) dX6_restoreSnapshot_53 ?_
        exact J_iret C R dX6_restoreSnapshot_54 (Nat.le_of_ble_eq_true rfl) (Nat.le_of_ble_eq_true rfl) rfl rfl
      · have hlt_i : i < 16 := nI_ngeN (n := 16) (by omega) (by omega) c_27_1
        refine J_aload_n C dX6_restoreSnapshot_30 rfl rfl ?_
        refine J_get C 0 1 rfl rfl i_X6_restoreSnapshot_X6 (by decide) k_X6_restoreSnapshot_7 rfl rfl dX6_restoreSnapshot_31 ?_
        refine J_iload_n C dX6_restoreSnapshot_34 rfl rfl ?_
        refine J_aload_n C dX6_restoreSnapshot_35 rfl rfl ?_
        refine J_get C 0 5 rfl rfl i_X6_restoreSnapshot_X6 (by decide) k_X6_restoreSnapshot_19 rfl rfl dX6_restoreSnapshot_36 ?_
        refine J_iload_n C dX6_restoreSnapshot_39 rfl rfl ?_
        refine J_iald C 3 rfl (vp_in_nI (n := i) (by omega) (by decide)) (congrArg gn (nI_clamp (n := i) (by omega))) dX6_restoreSnapshot_40 ?_
        refine J_iast C 1 [(m, .inr (6, [.int (0 : Int32), .ref ys, .ref ya, .ref yt, .int (nI (min (c + 1) 4)), .ref yn, .int xhs, .ref yx, .int xln, .int xat, .int xiw, .ref yr, .int xrm, .int xfb, .int xlr, .ref yd, .int xdm])), (ys, .inl (U.2.2.1 0, 16, .inl (upd (cpF gn gs 0 i) i (gn i)))), (yt, .inl (U.2.2.1 0, 64, .inl (recF gs gt c))), (yn, .inl (U.2.2.1 0, 16, .inl gn))] rfl (vp_in_nI (n := i) (by omega) (by decide)) (by rw [(nI_clamp (n := i) (by omega))]; rfl) dX6_restoreSnapshot_41 ?_
        refine J_iinc C (v := nI (i + 1)) [some (.ref m), some (.int (nI (i + 1)))] dX6_restoreSnapshot_42 rfl (nI_o1 i) (hN 1 (by decide)) rfl ?_
        refine J_goto C 24 dX6_restoreSnapshot_45 (by decide) ?_
        refine J_arr (cpF gn gs 0 (i + 1)) 1 [(m, .inr (6, [.int (0 : Int32), .ref ys, .ref ya, .ref yt, .int (nI (min (c + 1) 4)), .ref yn, .int xhs, .ref yx, .int xln, .int xat, .int xiw, .ref yr, .int xrm, .int xfb, .int xlr, .ref yd, .int xdm])), (ys, .inl (U.2.2.1 0, 16, .inl (cpF gn gs 0 (i + 1)))), (yt, .inl (U.2.2.1 0, 64, .inl (recF gs gt c))), (yn, .inl (U.2.2.1 0, 16, .inl gn))] rfl (fun j9 _ => (congrFun (cp_s0 gn gs i) j9).symm) rfl ?_
        exact ih_24 (i + 1) (by omega) (by omega)
  exact loop_24 17 0 (by omega) (by omega)
theorem k_X6_width_31 : Cond.fieldLink RX6 31 "BoothOttersModel" "thrown" "I" ∈ wsX6_width := List.mem_of_getElem? (i := 1) rfl
theorem i_X6_width_X6 : ∀ w ∈ wsX60, w ∈ wsX6_width := fun _ h => List.mem_cons_of_mem _ (List.mem_append_right _ h)
theorem k_X6_width_7 : Cond.fieldLink RX6 7 "BoothOttersModel" "s" "[I" ∈ wsX6_width := List.mem_of_getElem? (i := 2) rfl
set_option maxHeartbeats 4000000 in
set_option maxRecDepth 100000 in
theorem c_X6_width (U : jU) (m ys ya yt yn yx yr yd : Nat) (xth xsm xhs xln xat xiw xrm xfb xlr xdm : Int32) (gs : Nat → Int32)  : Fn U yX6_width wsX6_width { frames := 0, cells := 0, slots := 0, locals := 0 } [.ref m] [(m, .inr (6, [.int xth, .ref ys, .ref ya, .ref yt, .int xsm, .ref yn, .int xhs, .ref yx, .int xln, .int xat, .int xiw, .ref yr, .int xrm, .int xfb, .int xlr, .ref yd, .int xdm])), (ys, .inl (U.2.2.1 0, 16, .inl gs))] (some (.int (gs 0))) [(m, .inr (6, [.int (0 : Int32), .ref ys, .ref ya, .ref yt, .int xsm, .ref yn, .int xhs, .ref yx, .int xln, .int xat, .int xiw, .ref yr, .int xrm, .int xfb, .int xlr, .ref yd, .int xdm])), (ys, .inl (U.2.2.1 0, 16, .inl gs))] 0 0 := by
  refine Fn_of (cc := cX6_width) (maxL := 1) (ret := (some .int)) [some (.ref m)] (by decide +kernel) rfl (jcat rfl) (Nat.le_of_ble_eq_true rfl) rfl (fun k C R hin hnL => ?_)
  have hN : ∀ i, i < 1 → i < k.2.2.2.2.2.2.2.2.2.2.2.1 := fun i h => by rw [hnL]; exact h
  refine J_aload_n C dX6_width_0 rfl rfl ?_
  refine J_iconst C (v := (0 : Int32)) dX6_width_1 (by decide) ?_
  refine J_put C tyX6 0 0 [(m, .inr (6, [.int (0 : Int32), .ref ys, .ref ya, .ref yt, .int xsm, .ref yn, .int xhs, .ref yx, .int xln, .int xat, .int xiw, .ref yr, .int xrm, .int xfb, .int xlr, .ref yd, .int xdm])), (ys, .inl (U.2.2.1 0, 16, .inl gs))] rfl rfl i_X6_width_X6 tyX6_ok nmX6 (by decide) k_X6_width_31 rfl rfl rfl rfl (Nat.le_of_ble_eq_true rfl) rfl dX6_width_2 ?_
  refine J_aload_n C dX6_width_5 rfl rfl ?_
  refine J_get C 0 1 rfl rfl i_X6_width_X6 (by decide) k_X6_width_7 rfl rfl dX6_width_6 ?_
  refine J_iconst C (v := (0 : Int32)) dX6_width_9 (by decide) ?_
  refine J_iald C 1 rfl (vpl n_0 (by decide) (by decide)) (congrArg gs n_0) dX6_width_10 ?_
  exact J_iret C R dX6_width_11 (Nat.le_of_ble_eq_true rfl) (Nat.le_of_ble_eq_true rfl) rfl rfl
theorem k_X6_valueOf_31 : Cond.fieldLink RX6 31 "BoothOttersModel" "thrown" "I" ∈ wsX6_valueOf := List.mem_of_getElem? (i := 1) rfl
theorem i_X6_valueOf_X6 : ∀ w ∈ wsX60, w ∈ wsX6_valueOf := fun _ h => List.mem_cons_of_mem _ (List.mem_append_right _ h)
set_option maxHeartbeats 4000000 in
set_option maxRecDepth 100000 in
theorem c_X6_valueOf_no1 (U : jU) (m ys ya yt yn yx yr yd : Nat) (xth xsm xhs xln xat xiw xrm xfb xlr xdm : Int32) (p0 : Int32) (v_1 : ¬ isReg p0) : Fn U yX6_valueOf wsX6_valueOf { frames := 2, cells := 0, slots := 0, locals := 42 } [.ref m, .int p0] [(m, .inr (6, [.int xth, .ref ys, .ref ya, .ref yt, .int xsm, .ref yn, .int xhs, .ref yx, .int xln, .int xat, .int xiw, .ref yr, .int xrm, .int xfb, .int xlr, .ref yd, .int xdm]))] (some (.int (0 : Int32))) [(m, .inr (6, [.int (1 : Int32), .ref ys, .ref ya, .ref yt, .int xsm, .ref yn, .int xhs, .ref yx, .int xln, .int xat, .int xiw, .ref yr, .int xrm, .int xfb, .int xlr, .ref yd, .int xdm]))] 0 0 := by
  refine Fn_of (cc := cX6_valueOf) (maxL := 2) (ret := (some .int)) [some (.ref m), some (.int p0)] (by decide +kernel) rfl (jcat rfl) (Nat.le_of_ble_eq_true rfl) rfl (fun k C R hin hnL => ?_)
  have hN : ∀ i, i < 2 → i < k.2.2.2.2.2.2.2.2.2.2.2.1 := fun i h => by rw [hnL]; exact h
  refine J_aload_n C dX6_valueOf_0 rfl rfl ?_
  refine J_iconst C (v := (0 : Int32)) dX6_valueOf_1 (by decide) ?_
  refine J_put C tyX6 0 0 [(m, .inr (6, [.int (0 : Int32), .ref ys, .ref ya, .ref yt, .int xsm, .ref yn, .int xhs, .ref yx, .int xln, .int xat, .int xiw, .ref yr, .int xrm, .int xfb, .int xlr, .ref yd, .int xdm]))] rfl rfl i_X6_valueOf_X6 tyX6_ok nmX6 (by decide) k_X6_valueOf_31 rfl rfl rfl rfl (Nat.le_of_ble_eq_true rfl) rfl dX6_valueOf_2 ?_
  refine J_iload_n C dX6_valueOf_5 rfl rfl ?_
  refine J_callS C (c_X6_isRegister U p0 ) gX6_valueOf_X6_isRegister (n := 1) rfl rfl rfl (by decide +kernel) ⟨Nat.le_of_ble_eq_true rfl, Nat.le_of_ble_eq_true rfl⟩ rfl (rest := []) rfl (Nat.le_of_ble_eq_true rfl) [(m, .inr (6, [.int (0 : Int32), .ref ys, .ref ya, .ref yt, .int xsm, .ref yn, .int xhs, .ref yx, .int xln, .int xat, .int xiw, .ref yr, .int xrm, .int xfb, .int xlr, .ref yd, .int xdm]))] [] [0] [0] (wr := [(m, .inr (6, [.int (0 : Int32), .ref ys, .ref ya, .ref yt, .int xsm, .ref yn, .int xhs, .ref yx, .int xln, .int xat, .int xiw, .ref yr, .int xrm, .int xfb, .int xlr, .ref yd, .int xdm]))]) rfl rfl rfl rfl (by decide) rfl rfl  dX6_valueOf_6 ⟨Nat.le_of_ble_eq_true rfl, Nat.le_of_ble_eq_true rfl⟩ [.int (b2i (isReg p0))] rfl ?_
  refine J_if_eq_b C 20 dX6_valueOf_9 (by decide) (fun _ => ?_) (fun h => absurd h v_1)
  refine J_aload_n C dX6_valueOf_20 rfl rfl ?_
  refine J_iconst C (v := (1 : Int32)) dX6_valueOf_21 (by decide) ?_
  refine J_callV C (c_X6_fails U m ys ya yt yn yx yr yd (0 : Int32) xsm xhs xln xat xiw xrm xfb xlr xdm (1 : Int32) ) gX6_valueOf_X6_fails (n := 1) rfl rfl rfl (by decide +kernel) ⟨Nat.le_of_ble_eq_true rfl, Nat.le_of_ble_eq_true rfl⟩ 0 rfl rfl rfl (rest := []) rfl (Nat.le_of_ble_eq_true rfl) [(m, .inr (6, [.int (1 : Int32), .ref ys, .ref ya, .ref yt, .int xsm, .ref yn, .int xhs, .ref yx, .int xln, .int xat, .int xiw, .ref yr, .int xrm, .int xfb, .int xlr, .ref yd, .int xdm]))] [0] [] [0] (wr := []) rfl rfl rfl rfl (by decide) rfl rfl  dX6_valueOf_22 ⟨Nat.le_of_ble_eq_true rfl, Nat.le_of_ble_eq_true rfl⟩ [.int (0 : Int32)] rfl ?_
  exact J_iret C R dX6_valueOf_25 (Nat.le_of_ble_eq_true rfl) (Nat.le_of_ble_eq_true rfl) rfl rfl
set_option maxHeartbeats 4000000 in
set_option maxRecDepth 100000 in
theorem c_X6_valueOf_ok (U : jU) (m ys ya yt yn yx yr yd : Nat) (xth xsm xhs xln xat xiw xrm xfb xlr xdm : Int32) (gs : Nat → Int32) (p0 : Int32) (v_1 : isReg p0) : Fn U yX6_valueOf wsX6_valueOf { frames := 2, cells := 0, slots := 0, locals := 42 } [.ref m, .int p0] [(m, .inr (6, [.int xth, .ref ys, .ref ya, .ref yt, .int xsm, .ref yn, .int xhs, .ref yx, .int xln, .int xat, .int xiw, .ref yr, .int xrm, .int xfb, .int xlr, .ref yd, .int xdm])), (ys, .inl (U.2.2.1 0, 16, .inl gs))] (some (.int (gs (1 + p0.toNatClampNeg)))) [(m, .inr (6, [.int (0 : Int32), .ref ys, .ref ya, .ref yt, .int xsm, .ref yn, .int xhs, .ref yx, .int xln, .int xat, .int xiw, .ref yr, .int xrm, .int xfb, .int xlr, .ref yd, .int xdm])), (ys, .inl (U.2.2.1 0, 16, .inl gs))] 0 0 := by
  refine Fn_of (cc := cX6_valueOf) (maxL := 2) (ret := (some .int)) [some (.ref m), some (.int p0)] (by decide +kernel) rfl (jcat rfl) (Nat.le_of_ble_eq_true rfl) rfl (fun k C R hin hnL => ?_)
  have hN : ∀ i, i < 2 → i < k.2.2.2.2.2.2.2.2.2.2.2.1 := fun i h => by rw [hnL]; exact h
  refine J_aload_n C dX6_valueOf_0 rfl rfl ?_
  refine J_iconst C (v := (0 : Int32)) dX6_valueOf_1 (by decide) ?_
  refine J_put C tyX6 0 0 [(m, .inr (6, [.int (0 : Int32), .ref ys, .ref ya, .ref yt, .int xsm, .ref yn, .int xhs, .ref yx, .int xln, .int xat, .int xiw, .ref yr, .int xrm, .int xfb, .int xlr, .ref yd, .int xdm])), (ys, .inl (U.2.2.1 0, 16, .inl gs))] rfl rfl i_X6_valueOf_X6 tyX6_ok nmX6 (by decide) k_X6_valueOf_31 rfl rfl rfl rfl (Nat.le_of_ble_eq_true rfl) rfl dX6_valueOf_2 ?_
  refine J_iload_n C dX6_valueOf_5 rfl rfl ?_
  refine J_callS C (c_X6_isRegister U p0 ) gX6_valueOf_X6_isRegister (n := 1) rfl rfl rfl (by decide +kernel) ⟨Nat.le_of_ble_eq_true rfl, Nat.le_of_ble_eq_true rfl⟩ rfl (rest := []) rfl (Nat.le_of_ble_eq_true rfl) [(m, .inr (6, [.int (0 : Int32), .ref ys, .ref ya, .ref yt, .int xsm, .ref yn, .int xhs, .ref yx, .int xln, .int xat, .int xiw, .ref yr, .int xrm, .int xfb, .int xlr, .ref yd, .int xdm])), (ys, .inl (U.2.2.1 0, 16, .inl gs))] [] [0, 1] [0, 1] (wr := [(m, .inr (6, [.int (0 : Int32), .ref ys, .ref ya, .ref yt, .int xsm, .ref yn, .int xhs, .ref yx, .int xln, .int xat, .int xiw, .ref yr, .int xrm, .int xfb, .int xlr, .ref yd, .int xdm])), (ys, .inl (U.2.2.1 0, 16, .inl gs))]) rfl rfl rfl rfl (by decide) rfl rfl  dX6_valueOf_6 ⟨Nat.le_of_ble_eq_true rfl, Nat.le_of_ble_eq_true rfl⟩ [.int (b2i (isReg p0))] rfl ?_
  refine J_if_eq_b C 20 dX6_valueOf_9 (by decide) (fun h => absurd h (fun hh => hh v_1)) (fun _ => ?_)
  refine J_aload_n C dX6_valueOf_12 rfl rfl ?_
  refine J_iload_n C dX6_valueOf_13 rfl rfl ?_
  refine J_callV C (c_X6_of U m ys ya yt yn yx yr yd (0 : Int32) xsm xhs xln xat xiw xrm xfb xlr xdm gs p0 v_1) gX6_valueOf_X6_of (n := 1) rfl rfl rfl (by decide +kernel) ⟨Nat.le_of_ble_eq_true rfl, Nat.le_of_ble_eq_true rfl⟩ 0 rfl rfl rfl (rest := []) rfl (Nat.le_of_ble_eq_true rfl) [(m, .inr (6, [.int (0 : Int32), .ref ys, .ref ya, .ref yt, .int xsm, .ref yn, .int xhs, .ref yx, .int xln, .int xat, .int xiw, .ref yr, .int xrm, .int xfb, .int xlr, .ref yd, .int xdm])), (ys, .inl (U.2.2.1 0, 16, .inl gs))] [0, 1] [] [0, 1] (wr := []) rfl rfl rfl rfl (by decide) rfl rfl  dX6_valueOf_14 ⟨Nat.le_of_ble_eq_true rfl, Nat.le_of_ble_eq_true rfl⟩ [.int (gs (1 + p0.toNatClampNeg))] rfl ?_
  refine J_goto C 25 dX6_valueOf_17 (by decide) ?_
  exact J_iret C R dX6_valueOf_25 (Nat.le_of_ble_eq_true rfl) (Nat.le_of_ble_eq_true rfl) rfl rfl
theorem k_X6_onesIn_7 : Cond.fieldLink RX6 7 "BoothOttersModel" "s" "[I" ∈ wsX6_onesIn := List.mem_of_getElem? (i := 1) rfl
theorem i_X6_onesIn_X6 : ∀ w ∈ wsX60, w ∈ wsX6_onesIn := fun _ h => List.mem_cons_of_mem _ (List.mem_append_right _ h)
set_option maxHeartbeats 4000000 in
set_option maxRecDepth 100000 in
theorem c_X6_onesIn (U : jU) (m ys ya yt yn yx yr yd : Nat) (xth xsm xhs xln xat xiw xrm xfb xlr xdm : Int32) (gs : Nat → Int32) (W : Nat) (p0 : Int32) (hW : gs 0 = nI W) (hW9 : W ≤ 16) : Fn U yX6_onesIn wsX6_onesIn { frames := 0, cells := 0, slots := 0, locals := 0 } [.ref m, .int p0] [(m, .inr (6, [.int xth, .ref ys, .ref ya, .ref yt, .int xsm, .ref yn, .int xhs, .ref yx, .int xln, .int xat, .int xiw, .ref yr, .int xrm, .int xfb, .int xlr, .ref yd, .int xdm])), (ys, .inl (U.2.2.1 0, 16, .inl gs))] (some (.int (onF p0 W))) [(m, .inr (6, [.int xth, .ref ys, .ref ya, .ref yt, .int xsm, .ref yn, .int xhs, .ref yx, .int xln, .int xat, .int xiw, .ref yr, .int xrm, .int xfb, .int xlr, .ref yd, .int xdm])), (ys, .inl (U.2.2.1 0, 16, .inl gs))] 0 0 := by
  refine Fn_of (cc := cX6_onesIn) (maxL := 4) (ret := (some .int)) [some (.ref m), some (.int p0), none, none] (by decide +kernel) rfl (jcat rfl) (Nat.le_of_ble_eq_true rfl) rfl (fun k C R hin hnL => ?_)
  have hN : ∀ i, i < 4 → i < k.2.2.2.2.2.2.2.2.2.2.2.1 := fun i h => by rw [hnL]; exact h
  refine J_iconst C (v := (0 : Int32)) dX6_onesIn_0 (by decide) ?_
  refine J_istore_n C [some (.ref m), some (.int p0), some (.int (0 : Int32)), none] dX6_onesIn_1 rfl (hN 2 (by decide)) rfl ?_
  refine J_iconst C (v := (0 : Int32)) dX6_onesIn_2 (by decide) ?_
  refine J_istore_n C [some (.ref m), some (.int p0), some (.int (0 : Int32)), some (.int (0 : Int32))] dX6_onesIn_3 rfl (hN 3 (by decide)) rfl ?_
  have loop_4 : ∀ (n_f : Nat) (i : Nat) (x : Int32), W < i + n_f → i ≤ W → x = onF p0 i → J U k 0 0 [(m, .inr (6, [.int xth, .ref ys, .ref ya, .ref yt, .int xsm, .ref yn, .int xhs, .ref yx, .int xln, .int xat, .int xiw, .ref yr, .int xrm, .int xfb, .int xlr, .ref yd, .int xdm])), (ys, .inl (U.2.2.1 0, 16, .inl gs))] [some (.ref m), some (.int p0), some (.int x), some (.int (nI i))] 4 [] := by
    intro n_f
    induction n_f with
    | zero =>
      intro i x hfuel hin_i hx
      exact absurd hfuel (by omega)
    | succ n_f ih_4 =>
      intro i x hfuel hin_i hx
      refine J_iload_n C dX6_onesIn_4 rfl rfl ?_
      refine J_aload_n C dX6_onesIn_5 rfl rfl ?_
      refine J_get C 0 1 rfl rfl i_X6_onesIn_X6 (by decide) k_X6_onesIn_7 rfl rfl dX6_onesIn_6 ?_
      refine J_iconst C (v := (0 : Int32)) dX6_onesIn_9 (by decide) ?_
      refine J_iald C 1 rfl (vpl n_0 (by decide) (by decide)) (congrArg gs n_0) dX6_onesIn_10 ?_
      refine J_icmp_ge C 28 dX6_onesIn_11 (by decide) (fun c_11_1 => ?_) (fun c_11_1 => ?_)
      · have hx_i : i = W := by have h9 := c_11_1; rw [hW] at h9; exact nI_exit (by omega) (by omega) h9
        subst hx_i
        refine J_iload_n C dX6_onesIn_28 rfl rfl ?_
        exact J_iret C R dX6_onesIn_29 (Nat.le_of_ble_eq_true rfl) (Nat.le_of_ble_eq_true rfl) (by rw [hx]) rfl
      · have hlt_i : i < W := by have h9 := c_11_1; rw [hW] at h9; exact nI_ngeN (by omega) (by omega) h9
        refine J_iload_n C dX6_onesIn_14 rfl rfl ?_
        refine J_iload_n C dX6_onesIn_15 rfl rfl ?_
        refine J_iload_n C dX6_onesIn_16 rfl rfl ?_
        refine J_ishr C (v := p0 >>> ((nI i) &&& 31)) dX6_onesIn_17 rfl ?_
        refine J_iconst C (v := (1 : Int32)) dX6_onesIn_18 (by decide) ?_
        refine J_iand C (v := (p0 >>> ((nI i) &&& 31)) &&& (1 : Int32)) dX6_onesIn_19 rfl ?_
        refine J_iadd C (v := x + ((p0 >>> ((nI i) &&& 31)) &&& (1 : Int32))) dX6_onesIn_20 rfl ?_
        refine J_istore_n C [some (.ref m), some (.int p0), some (.int (x + ((p0 >>> ((nI i) &&& 31)) &&& (1 : Int32)))), some (.int (nI i))] dX6_onesIn_21 rfl (hN 2 (by decide)) rfl ?_
        refine J_iinc C (v := nI (i + 1)) [some (.ref m), some (.int p0), some (.int (x + ((p0 >>> ((nI i) &&& 31)) &&& (1 : Int32)))), some (.int (nI (i + 1)))] dX6_onesIn_22 rfl (nI_o1 i) (hN 3 (by decide)) rfl ?_
        refine J_goto C 4 dX6_onesIn_25 (by decide) ?_
        exact ih_4 (i + 1) _ (by omega) (by omega) (by rw [onF, hx])
  exact loop_4 (W + 1) 0 0 (by omega) (by omega) rfl
theorem k_X6_onesOf_31 : Cond.fieldLink RX6 31 "BoothOttersModel" "thrown" "I" ∈ wsX6_onesOf := List.mem_of_getElem? (i := 1) rfl
theorem i_X6_onesOf_X6 : ∀ w ∈ wsX60, w ∈ wsX6_onesOf := fun _ h => List.mem_cons_of_mem _ (List.mem_append_right _ h)
set_option maxHeartbeats 4000000 in
set_option maxRecDepth 100000 in
theorem c_X6_onesOf_no1 (U : jU) (m ys ya yt yn yx yr yd : Nat) (xth xsm xhs xln xat xiw xrm xfb xlr xdm : Int32) (p0 : Int32) (v_1 : ¬ isReg p0) : Fn U yX6_onesOf wsX6_onesOf { frames := 2, cells := 0, slots := 0, locals := 42 } [.ref m, .int p0] [(m, .inr (6, [.int xth, .ref ys, .ref ya, .ref yt, .int xsm, .ref yn, .int xhs, .ref yx, .int xln, .int xat, .int xiw, .ref yr, .int xrm, .int xfb, .int xlr, .ref yd, .int xdm]))] (some (.int (0 : Int32))) [(m, .inr (6, [.int (1 : Int32), .ref ys, .ref ya, .ref yt, .int xsm, .ref yn, .int xhs, .ref yx, .int xln, .int xat, .int xiw, .ref yr, .int xrm, .int xfb, .int xlr, .ref yd, .int xdm]))] 0 0 := by
  refine Fn_of (cc := cX6_onesOf) (maxL := 2) (ret := (some .int)) [some (.ref m), some (.int p0)] (by decide +kernel) rfl (jcat rfl) (Nat.le_of_ble_eq_true rfl) rfl (fun k C R hin hnL => ?_)
  have hN : ∀ i, i < 2 → i < k.2.2.2.2.2.2.2.2.2.2.2.1 := fun i h => by rw [hnL]; exact h
  refine J_aload_n C dX6_onesOf_0 rfl rfl ?_
  refine J_iconst C (v := (0 : Int32)) dX6_onesOf_1 (by decide) ?_
  refine J_put C tyX6 0 0 [(m, .inr (6, [.int (0 : Int32), .ref ys, .ref ya, .ref yt, .int xsm, .ref yn, .int xhs, .ref yx, .int xln, .int xat, .int xiw, .ref yr, .int xrm, .int xfb, .int xlr, .ref yd, .int xdm]))] rfl rfl i_X6_onesOf_X6 tyX6_ok nmX6 (by decide) k_X6_onesOf_31 rfl rfl rfl rfl (Nat.le_of_ble_eq_true rfl) rfl dX6_onesOf_2 ?_
  refine J_iload_n C dX6_onesOf_5 rfl rfl ?_
  refine J_callS C (c_X6_isRegister U p0 ) gX6_onesOf_X6_isRegister (n := 1) rfl rfl rfl (by decide +kernel) ⟨Nat.le_of_ble_eq_true rfl, Nat.le_of_ble_eq_true rfl⟩ rfl (rest := []) rfl (Nat.le_of_ble_eq_true rfl) [(m, .inr (6, [.int (0 : Int32), .ref ys, .ref ya, .ref yt, .int xsm, .ref yn, .int xhs, .ref yx, .int xln, .int xat, .int xiw, .ref yr, .int xrm, .int xfb, .int xlr, .ref yd, .int xdm]))] [] [0] [0] (wr := [(m, .inr (6, [.int (0 : Int32), .ref ys, .ref ya, .ref yt, .int xsm, .ref yn, .int xhs, .ref yx, .int xln, .int xat, .int xiw, .ref yr, .int xrm, .int xfb, .int xlr, .ref yd, .int xdm]))]) rfl rfl rfl rfl (by decide) rfl rfl  dX6_onesOf_6 ⟨Nat.le_of_ble_eq_true rfl, Nat.le_of_ble_eq_true rfl⟩ [.int (b2i (isReg p0))] rfl ?_
  refine J_if_eq_b C 24 dX6_onesOf_9 (by decide) (fun _ => ?_) (fun h => absurd h v_1)
  refine J_aload_n C dX6_onesOf_24 rfl rfl ?_
  refine J_iconst C (v := (1 : Int32)) dX6_onesOf_25 (by decide) ?_
  refine J_callV C (c_X6_fails U m ys ya yt yn yx yr yd (0 : Int32) xsm xhs xln xat xiw xrm xfb xlr xdm (1 : Int32) ) gX6_onesOf_X6_fails (n := 1) rfl rfl rfl (by decide +kernel) ⟨Nat.le_of_ble_eq_true rfl, Nat.le_of_ble_eq_true rfl⟩ 0 rfl rfl rfl (rest := []) rfl (Nat.le_of_ble_eq_true rfl) [(m, .inr (6, [.int (1 : Int32), .ref ys, .ref ya, .ref yt, .int xsm, .ref yn, .int xhs, .ref yx, .int xln, .int xat, .int xiw, .ref yr, .int xrm, .int xfb, .int xlr, .ref yd, .int xdm]))] [0] [] [0] (wr := []) rfl rfl rfl rfl (by decide) rfl rfl  dX6_onesOf_26 ⟨Nat.le_of_ble_eq_true rfl, Nat.le_of_ble_eq_true rfl⟩ [.int (0 : Int32)] rfl ?_
  exact J_iret C R dX6_onesOf_29 (Nat.le_of_ble_eq_true rfl) (Nat.le_of_ble_eq_true rfl) rfl rfl
set_option maxHeartbeats 4000000 in
set_option maxRecDepth 100000 in
theorem c_X6_onesOf_ok (U : jU) (m ys ya yt yn yx yr yd : Nat) (xth xsm xhs xln xat xiw xrm xfb xlr xdm : Int32) (gs : Nat → Int32) (W : Nat) (p0 : Int32) (v_1 : isReg p0) (hW : gs 0 = nI W) (hW9 : W ≤ 16) : Fn U yX6_onesOf wsX6_onesOf { frames := 2, cells := 0, slots := 0, locals := 42 } [.ref m, .int p0] [(m, .inr (6, [.int xth, .ref ys, .ref ya, .ref yt, .int xsm, .ref yn, .int xhs, .ref yx, .int xln, .int xat, .int xiw, .ref yr, .int xrm, .int xfb, .int xlr, .ref yd, .int xdm])), (ys, .inl (U.2.2.1 0, 16, .inl gs))] (some (.int (onF (gs (1 + p0.toNatClampNeg)) W))) [(m, .inr (6, [.int (0 : Int32), .ref ys, .ref ya, .ref yt, .int xsm, .ref yn, .int xhs, .ref yx, .int xln, .int xat, .int xiw, .ref yr, .int xrm, .int xfb, .int xlr, .ref yd, .int xdm])), (ys, .inl (U.2.2.1 0, 16, .inl gs))] 0 0 := by
  refine Fn_of (cc := cX6_onesOf) (maxL := 2) (ret := (some .int)) [some (.ref m), some (.int p0)] (by decide +kernel) rfl (jcat rfl) (Nat.le_of_ble_eq_true rfl) rfl (fun k C R hin hnL => ?_)
  have hN : ∀ i, i < 2 → i < k.2.2.2.2.2.2.2.2.2.2.2.1 := fun i h => by rw [hnL]; exact h
  refine J_aload_n C dX6_onesOf_0 rfl rfl ?_
  refine J_iconst C (v := (0 : Int32)) dX6_onesOf_1 (by decide) ?_
  refine J_put C tyX6 0 0 [(m, .inr (6, [.int (0 : Int32), .ref ys, .ref ya, .ref yt, .int xsm, .ref yn, .int xhs, .ref yx, .int xln, .int xat, .int xiw, .ref yr, .int xrm, .int xfb, .int xlr, .ref yd, .int xdm])), (ys, .inl (U.2.2.1 0, 16, .inl gs))] rfl rfl i_X6_onesOf_X6 tyX6_ok nmX6 (by decide) k_X6_onesOf_31 rfl rfl rfl rfl (Nat.le_of_ble_eq_true rfl) rfl dX6_onesOf_2 ?_
  refine J_iload_n C dX6_onesOf_5 rfl rfl ?_
  refine J_callS C (c_X6_isRegister U p0 ) gX6_onesOf_X6_isRegister (n := 1) rfl rfl rfl (by decide +kernel) ⟨Nat.le_of_ble_eq_true rfl, Nat.le_of_ble_eq_true rfl⟩ rfl (rest := []) rfl (Nat.le_of_ble_eq_true rfl) [(m, .inr (6, [.int (0 : Int32), .ref ys, .ref ya, .ref yt, .int xsm, .ref yn, .int xhs, .ref yx, .int xln, .int xat, .int xiw, .ref yr, .int xrm, .int xfb, .int xlr, .ref yd, .int xdm])), (ys, .inl (U.2.2.1 0, 16, .inl gs))] [] [0, 1] [0, 1] (wr := [(m, .inr (6, [.int (0 : Int32), .ref ys, .ref ya, .ref yt, .int xsm, .ref yn, .int xhs, .ref yx, .int xln, .int xat, .int xiw, .ref yr, .int xrm, .int xfb, .int xlr, .ref yd, .int xdm])), (ys, .inl (U.2.2.1 0, 16, .inl gs))]) rfl rfl rfl rfl (by decide) rfl rfl  dX6_onesOf_6 ⟨Nat.le_of_ble_eq_true rfl, Nat.le_of_ble_eq_true rfl⟩ [.int (b2i (isReg p0))] rfl ?_
  refine J_if_eq_b C 24 dX6_onesOf_9 (by decide) (fun h => absurd h (fun hh => hh v_1)) (fun _ => ?_)
  refine J_aload_n C dX6_onesOf_12 rfl rfl ?_
  refine J_aload_n C dX6_onesOf_13 rfl rfl ?_
  refine J_iload_n C dX6_onesOf_14 rfl rfl ?_
  refine J_callV C (c_X6_of U m ys ya yt yn yx yr yd (0 : Int32) xsm xhs xln xat xiw xrm xfb xlr xdm gs p0 v_1) gX6_onesOf_X6_of (n := 1) rfl rfl rfl (by decide +kernel) ⟨Nat.le_of_ble_eq_true rfl, Nat.le_of_ble_eq_true rfl⟩ 0 rfl rfl rfl (rest := [.ref m]) rfl (Nat.le_of_ble_eq_true rfl) [(m, .inr (6, [.int (0 : Int32), .ref ys, .ref ya, .ref yt, .int xsm, .ref yn, .int xhs, .ref yx, .int xln, .int xat, .int xiw, .ref yr, .int xrm, .int xfb, .int xlr, .ref yd, .int xdm])), (ys, .inl (U.2.2.1 0, 16, .inl gs))] [0, 1] [] [0, 1] (wr := []) rfl rfl rfl rfl (by decide) rfl rfl  dX6_onesOf_15 ⟨Nat.le_of_ble_eq_true rfl, Nat.le_of_ble_eq_true rfl⟩ [.int (gs (1 + p0.toNatClampNeg)), .ref m] rfl ?_
  refine J_callV C (c_X6_onesIn U m ys ya yt yn yx yr yd (0 : Int32) xsm xhs xln xat xiw xrm xfb xlr xdm gs W (gs (1 + p0.toNatClampNeg)) hW hW9) gX6_onesOf_X6_onesIn (n := 1) rfl rfl rfl (by decide +kernel) ⟨Nat.le_of_ble_eq_true rfl, Nat.le_of_ble_eq_true rfl⟩ 0 rfl rfl rfl (rest := []) rfl (Nat.le_of_ble_eq_true rfl) [(m, .inr (6, [.int (0 : Int32), .ref ys, .ref ya, .ref yt, .int xsm, .ref yn, .int xhs, .ref yx, .int xln, .int xat, .int xiw, .ref yr, .int xrm, .int xfb, .int xlr, .ref yd, .int xdm])), (ys, .inl (U.2.2.1 0, 16, .inl gs))] [0, 1] [] [0, 1] (wr := []) rfl rfl rfl rfl (by decide) rfl rfl  dX6_onesOf_18 ⟨Nat.le_of_ble_eq_true rfl, Nat.le_of_ble_eq_true rfl⟩ [.int (onF (gs (1 + p0.toNatClampNeg)) W)] rfl ?_
  refine J_goto C 29 dX6_onesOf_21 (by decide) ?_
  exact J_iret C R dX6_onesOf_29 (Nat.le_of_ble_eq_true rfl) (Nat.le_of_ble_eq_true rfl) rfl rfl
theorem k_X6_productByBits_31 : Cond.fieldLink RX6 31 "BoothOttersModel" "thrown" "I" ∈ wsX6_productByBits := List.mem_of_getElem? (i := 1) rfl
theorem i_X6_productByBits_X6 : ∀ w ∈ wsX60, w ∈ wsX6_productByBits := fun _ h => List.mem_cons_of_mem _ (List.mem_append_right _ h)
set_option maxHeartbeats 4000000 in
set_option maxRecDepth 100000 in
theorem c_X6_productByBits_no1 (U : jU) (m ys ya yt yn yx yr yd : Nat) (xth xsm xhs xln xat xiw xrm xfb xlr xdm : Int32) (p0 p1 : Int32) (v_1 : ¬ (isReg p0 ∧ isReg p1)) : Fn U yX6_productByBits wsX6_productByBits { frames := 3, cells := 0, slots := 0, locals := 63 } [.ref m, .int p0, .int p1] [(m, .inr (6, [.int xth, .ref ys, .ref ya, .ref yt, .int xsm, .ref yn, .int xhs, .ref yx, .int xln, .int xat, .int xiw, .ref yr, .int xrm, .int xfb, .int xlr, .ref yd, .int xdm]))] (some (.int (0 : Int32))) [(m, .inr (6, [.int (1 : Int32), .ref ys, .ref ya, .ref yt, .int xsm, .ref yn, .int xhs, .ref yx, .int xln, .int xat, .int xiw, .ref yr, .int xrm, .int xfb, .int xlr, .ref yd, .int xdm]))] 0 0 := by
  refine Fn_of (cc := cX6_productByBits) (maxL := 3) (ret := (some .int)) [some (.ref m), some (.int p0), some (.int p1)] (by decide +kernel) rfl (jcat rfl) (Nat.le_of_ble_eq_true rfl) rfl (fun k C R hin hnL => ?_)
  have hN : ∀ i, i < 3 → i < k.2.2.2.2.2.2.2.2.2.2.2.1 := fun i h => by rw [hnL]; exact h
  refine J_aload_n C dX6_productByBits_0 rfl rfl ?_
  refine J_iconst C (v := (0 : Int32)) dX6_productByBits_1 (by decide) ?_
  refine J_put C tyX6 0 0 [(m, .inr (6, [.int (0 : Int32), .ref ys, .ref ya, .ref yt, .int xsm, .ref yn, .int xhs, .ref yx, .int xln, .int xat, .int xiw, .ref yr, .int xrm, .int xfb, .int xlr, .ref yd, .int xdm]))] rfl rfl i_X6_productByBits_X6 tyX6_ok nmX6 (by decide) k_X6_productByBits_31 rfl rfl rfl rfl (Nat.le_of_ble_eq_true rfl) rfl dX6_productByBits_2 ?_
  refine J_iload_n C dX6_productByBits_5 rfl rfl ?_
  refine J_iload_n C dX6_productByBits_6 rfl rfl ?_
  refine J_callS C (c_X6_areRegisters U p0 p1 ) gX6_productByBits_X6_areRegisters (n := 2) rfl rfl rfl (by decide +kernel) ⟨Nat.le_of_ble_eq_true rfl, Nat.le_of_ble_eq_true rfl⟩ rfl (rest := []) rfl (Nat.le_of_ble_eq_true rfl) [(m, .inr (6, [.int (0 : Int32), .ref ys, .ref ya, .ref yt, .int xsm, .ref yn, .int xhs, .ref yx, .int xln, .int xat, .int xiw, .ref yr, .int xrm, .int xfb, .int xlr, .ref yd, .int xdm]))] [] [0] [0] (wr := [(m, .inr (6, [.int (0 : Int32), .ref ys, .ref ya, .ref yt, .int xsm, .ref yn, .int xhs, .ref yx, .int xln, .int xat, .int xiw, .ref yr, .int xrm, .int xfb, .int xlr, .ref yd, .int xdm]))]) rfl rfl rfl rfl (by decide) rfl rfl  dX6_productByBits_7 ⟨Nat.le_of_ble_eq_true rfl, Nat.le_of_ble_eq_true rfl⟩ [.int (b2i (isReg p0 ∧ isReg p1))] rfl ?_
  refine J_if_eq_b C 27 dX6_productByBits_10 (by decide) (fun _ => ?_) (fun h => absurd h v_1)
  refine J_aload_n C dX6_productByBits_27 rfl rfl ?_
  refine J_iconst C (v := (1 : Int32)) dX6_productByBits_28 (by decide) ?_
  refine J_callV C (c_X6_fails U m ys ya yt yn yx yr yd (0 : Int32) xsm xhs xln xat xiw xrm xfb xlr xdm (1 : Int32) ) gX6_productByBits_X6_fails (n := 1) rfl rfl rfl (by decide +kernel) ⟨Nat.le_of_ble_eq_true rfl, Nat.le_of_ble_eq_true rfl⟩ 0 rfl rfl rfl (rest := []) rfl (Nat.le_of_ble_eq_true rfl) [(m, .inr (6, [.int (1 : Int32), .ref ys, .ref ya, .ref yt, .int xsm, .ref yn, .int xhs, .ref yx, .int xln, .int xat, .int xiw, .ref yr, .int xrm, .int xfb, .int xlr, .ref yd, .int xdm]))] [0] [] [0] (wr := []) rfl rfl rfl rfl (by decide) rfl rfl  dX6_productByBits_29 ⟨Nat.le_of_ble_eq_true rfl, Nat.le_of_ble_eq_true rfl⟩ [.int (0 : Int32)] rfl ?_
  exact J_iret C R dX6_productByBits_32 (Nat.le_of_ble_eq_true rfl) (Nat.le_of_ble_eq_true rfl) rfl rfl
set_option maxHeartbeats 4000000 in
set_option maxRecDepth 100000 in
theorem c_X6_productByBits_ok (U : jU) (m ys ya yt yn yx yr yd : Nat) (xth xsm xhs xln xat xiw xrm xfb xlr xdm : Int32) (gs : Nat → Int32) (p0 p1 : Int32) (v_1 : isReg p0 ∧ isReg p1) : Fn U yX6_productByBits wsX6_productByBits { frames := 3, cells := 0, slots := 0, locals := 63 } [.ref m, .int p0, .int p1] [(m, .inr (6, [.int xth, .ref ys, .ref ya, .ref yt, .int xsm, .ref yn, .int xhs, .ref yx, .int xln, .int xat, .int xiw, .ref yr, .int xrm, .int xfb, .int xlr, .ref yd, .int xdm])), (ys, .inl (U.2.2.1 0, 16, .inl gs))] (some (.int (gs (1 + p0.toNatClampNeg) * gs (1 + p1.toNatClampNeg)))) [(m, .inr (6, [.int (0 : Int32), .ref ys, .ref ya, .ref yt, .int xsm, .ref yn, .int xhs, .ref yx, .int xln, .int xat, .int xiw, .ref yr, .int xrm, .int xfb, .int xlr, .ref yd, .int xdm])), (ys, .inl (U.2.2.1 0, 16, .inl gs))] 0 0 := by
  refine Fn_of (cc := cX6_productByBits) (maxL := 3) (ret := (some .int)) [some (.ref m), some (.int p0), some (.int p1)] (by decide +kernel) rfl (jcat rfl) (Nat.le_of_ble_eq_true rfl) rfl (fun k C R hin hnL => ?_)
  have hN : ∀ i, i < 3 → i < k.2.2.2.2.2.2.2.2.2.2.2.1 := fun i h => by rw [hnL]; exact h
  refine J_aload_n C dX6_productByBits_0 rfl rfl ?_
  refine J_iconst C (v := (0 : Int32)) dX6_productByBits_1 (by decide) ?_
  refine J_put C tyX6 0 0 [(m, .inr (6, [.int (0 : Int32), .ref ys, .ref ya, .ref yt, .int xsm, .ref yn, .int xhs, .ref yx, .int xln, .int xat, .int xiw, .ref yr, .int xrm, .int xfb, .int xlr, .ref yd, .int xdm])), (ys, .inl (U.2.2.1 0, 16, .inl gs))] rfl rfl i_X6_productByBits_X6 tyX6_ok nmX6 (by decide) k_X6_productByBits_31 rfl rfl rfl rfl (Nat.le_of_ble_eq_true rfl) rfl dX6_productByBits_2 ?_
  refine J_iload_n C dX6_productByBits_5 rfl rfl ?_
  refine J_iload_n C dX6_productByBits_6 rfl rfl ?_
  refine J_callS C (c_X6_areRegisters U p0 p1 ) gX6_productByBits_X6_areRegisters (n := 2) rfl rfl rfl (by decide +kernel) ⟨Nat.le_of_ble_eq_true rfl, Nat.le_of_ble_eq_true rfl⟩ rfl (rest := []) rfl (Nat.le_of_ble_eq_true rfl) [(m, .inr (6, [.int (0 : Int32), .ref ys, .ref ya, .ref yt, .int xsm, .ref yn, .int xhs, .ref yx, .int xln, .int xat, .int xiw, .ref yr, .int xrm, .int xfb, .int xlr, .ref yd, .int xdm])), (ys, .inl (U.2.2.1 0, 16, .inl gs))] [] [0, 1] [0, 1] (wr := [(m, .inr (6, [.int (0 : Int32), .ref ys, .ref ya, .ref yt, .int xsm, .ref yn, .int xhs, .ref yx, .int xln, .int xat, .int xiw, .ref yr, .int xrm, .int xfb, .int xlr, .ref yd, .int xdm])), (ys, .inl (U.2.2.1 0, 16, .inl gs))]) rfl rfl rfl rfl (by decide) rfl rfl  dX6_productByBits_7 ⟨Nat.le_of_ble_eq_true rfl, Nat.le_of_ble_eq_true rfl⟩ [.int (b2i (isReg p0 ∧ isReg p1))] rfl ?_
  refine J_if_eq_b C 27 dX6_productByBits_10 (by decide) (fun h => absurd h (fun hh => hh v_1)) (fun _ => ?_)
  refine J_aload_n C dX6_productByBits_13 rfl rfl ?_
  refine J_iload_n C dX6_productByBits_14 rfl rfl ?_
  refine J_callV C (c_X6_of U m ys ya yt yn yx yr yd (0 : Int32) xsm xhs xln xat xiw xrm xfb xlr xdm gs p0 v_1.1) gX6_productByBits_X6_of (n := 1) rfl rfl rfl (by decide +kernel) ⟨Nat.le_of_ble_eq_true rfl, Nat.le_of_ble_eq_true rfl⟩ 0 rfl rfl rfl (rest := []) rfl (Nat.le_of_ble_eq_true rfl) [(m, .inr (6, [.int (0 : Int32), .ref ys, .ref ya, .ref yt, .int xsm, .ref yn, .int xhs, .ref yx, .int xln, .int xat, .int xiw, .ref yr, .int xrm, .int xfb, .int xlr, .ref yd, .int xdm])), (ys, .inl (U.2.2.1 0, 16, .inl gs))] [0, 1] [] [0, 1] (wr := []) rfl rfl rfl rfl (by decide) rfl rfl  dX6_productByBits_15 ⟨Nat.le_of_ble_eq_true rfl, Nat.le_of_ble_eq_true rfl⟩ [.int (gs (1 + p0.toNatClampNeg))] rfl ?_
  refine J_aload_n C dX6_productByBits_18 rfl rfl ?_
  refine J_iload_n C dX6_productByBits_19 rfl rfl ?_
  refine J_callV C (c_X6_of U m ys ya yt yn yx yr yd (0 : Int32) xsm xhs xln xat xiw xrm xfb xlr xdm gs p1 v_1.2) gX6_productByBits_X6_of (n := 1) rfl rfl rfl (by decide +kernel) ⟨Nat.le_of_ble_eq_true rfl, Nat.le_of_ble_eq_true rfl⟩ 0 rfl rfl rfl (rest := [.int (gs (1 + p0.toNatClampNeg))]) rfl (Nat.le_of_ble_eq_true rfl) [(m, .inr (6, [.int (0 : Int32), .ref ys, .ref ya, .ref yt, .int xsm, .ref yn, .int xhs, .ref yx, .int xln, .int xat, .int xiw, .ref yr, .int xrm, .int xfb, .int xlr, .ref yd, .int xdm])), (ys, .inl (U.2.2.1 0, 16, .inl gs))] [0, 1] [] [0, 1] (wr := []) rfl rfl rfl rfl (by decide) rfl rfl  dX6_productByBits_20 ⟨Nat.le_of_ble_eq_true rfl, Nat.le_of_ble_eq_true rfl⟩ [.int (gs (1 + p1.toNatClampNeg)), .int (gs (1 + p0.toNatClampNeg))] rfl ?_
  refine J_imul C (v := (gs (1 + p0.toNatClampNeg)) * (gs (1 + p1.toNatClampNeg))) dX6_productByBits_23 rfl ?_
  refine J_goto C 32 dX6_productByBits_24 (by decide) ?_
  exact J_iret C R dX6_productByBits_32 (Nat.le_of_ble_eq_true rfl) (Nat.le_of_ble_eq_true rfl) rfl rfl
theorem k_X6_fits_31 : Cond.fieldLink RX6 31 "BoothOttersModel" "thrown" "I" ∈ wsX6_fits := List.mem_of_getElem? (i := 1) rfl
theorem i_X6_fits_X6 : ∀ w ∈ wsX60, w ∈ wsX6_fits := fun _ h => List.mem_cons_of_mem _ (List.mem_append_right _ h)
set_option maxHeartbeats 4000000 in
set_option maxRecDepth 100000 in
theorem c_X6_fits_no1 (U : jU) (m ys ya yt yn yx yr yd : Nat) (xth xsm xhs xln xat xiw xrm xfb xlr xdm : Int32) (p0 p1 : Int32) (v_1 : ¬ (isReg p0 ∧ isReg p1)) : Fn U yX6_fits wsX6_fits { frames := 3, cells := 0, slots := 0, locals := 63 } [.ref m, .int p0, .int p1] [(m, .inr (6, [.int xth, .ref ys, .ref ya, .ref yt, .int xsm, .ref yn, .int xhs, .ref yx, .int xln, .int xat, .int xiw, .ref yr, .int xrm, .int xfb, .int xlr, .ref yd, .int xdm]))] (some (.int (0 : Int32))) [(m, .inr (6, [.int (1 : Int32), .ref ys, .ref ya, .ref yt, .int xsm, .ref yn, .int xhs, .ref yx, .int xln, .int xat, .int xiw, .ref yr, .int xrm, .int xfb, .int xlr, .ref yd, .int xdm]))] 0 0 := by
  refine Fn_of (cc := cX6_fits) (maxL := 3) (ret := (some .boolean)) [some (.ref m), some (.int p0), some (.int p1)] (by decide +kernel) rfl (jcat rfl) (Nat.le_of_ble_eq_true rfl) rfl (fun k C R hin hnL => ?_)
  have hN : ∀ i, i < 3 → i < k.2.2.2.2.2.2.2.2.2.2.2.1 := fun i h => by rw [hnL]; exact h
  refine J_aload_n C dX6_fits_0 rfl rfl ?_
  refine J_iconst C (v := (0 : Int32)) dX6_fits_1 (by decide) ?_
  refine J_put C tyX6 0 0 [(m, .inr (6, [.int (0 : Int32), .ref ys, .ref ya, .ref yt, .int xsm, .ref yn, .int xhs, .ref yx, .int xln, .int xat, .int xiw, .ref yr, .int xrm, .int xfb, .int xlr, .ref yd, .int xdm]))] rfl rfl i_X6_fits_X6 tyX6_ok nmX6 (by decide) k_X6_fits_31 rfl rfl rfl rfl (Nat.le_of_ble_eq_true rfl) rfl dX6_fits_2 ?_
  refine J_iload_n C dX6_fits_5 rfl rfl ?_
  refine J_iload_n C dX6_fits_6 rfl rfl ?_
  refine J_callS C (c_X6_areRegisters U p0 p1 ) gX6_fits_X6_areRegisters (n := 2) rfl rfl rfl (by decide +kernel) ⟨Nat.le_of_ble_eq_true rfl, Nat.le_of_ble_eq_true rfl⟩ rfl (rest := []) rfl (Nat.le_of_ble_eq_true rfl) [(m, .inr (6, [.int (0 : Int32), .ref ys, .ref ya, .ref yt, .int xsm, .ref yn, .int xhs, .ref yx, .int xln, .int xat, .int xiw, .ref yr, .int xrm, .int xfb, .int xlr, .ref yd, .int xdm]))] [] [0] [0] (wr := [(m, .inr (6, [.int (0 : Int32), .ref ys, .ref ya, .ref yt, .int xsm, .ref yn, .int xhs, .ref yx, .int xln, .int xat, .int xiw, .ref yr, .int xrm, .int xfb, .int xlr, .ref yd, .int xdm]))]) rfl rfl rfl rfl (by decide) rfl rfl  dX6_fits_7 ⟨Nat.le_of_ble_eq_true rfl, Nat.le_of_ble_eq_true rfl⟩ [.int (b2i (isReg p0 ∧ isReg p1))] rfl ?_
  refine J_if_eq_b C 31 dX6_fits_10 (by decide) (fun _ => ?_) (fun h => absurd h v_1)
  refine J_aload_n C dX6_fits_31 rfl rfl ?_
  refine J_iconst C (v := (1 : Int32)) dX6_fits_32 (by decide) ?_
  refine J_callV C (c_X6_fails U m ys ya yt yn yx yr yd (0 : Int32) xsm xhs xln xat xiw xrm xfb xlr xdm (1 : Int32) ) gX6_fits_X6_fails (n := 1) rfl rfl rfl (by decide +kernel) ⟨Nat.le_of_ble_eq_true rfl, Nat.le_of_ble_eq_true rfl⟩ 0 rfl rfl rfl (rest := []) rfl (Nat.le_of_ble_eq_true rfl) [(m, .inr (6, [.int (1 : Int32), .ref ys, .ref ya, .ref yt, .int xsm, .ref yn, .int xhs, .ref yx, .int xln, .int xat, .int xiw, .ref yr, .int xrm, .int xfb, .int xlr, .ref yd, .int xdm]))] [0] [] [0] (wr := []) rfl rfl rfl rfl (by decide) rfl rfl  dX6_fits_33 ⟨Nat.le_of_ble_eq_true rfl, Nat.le_of_ble_eq_true rfl⟩ [.int (0 : Int32)] rfl ?_
  refine J_if_le C 43 dX6_fits_36 (by decide) (fun _ => ?_) (fun h => absurd (by decide) h)
  refine J_iconst C (v := (0 : Int32)) dX6_fits_43 (by decide) ?_
  exact J_zret C R rfl dX6_fits_44 (Nat.le_of_ble_eq_true rfl) (Nat.le_of_ble_eq_true rfl) rfl rfl
set_option maxHeartbeats 4000000 in
set_option maxRecDepth 100000 in
theorem c_X6_fits_ok (U : jU) (m ys ya yt yn yx yr yd : Nat) (xth xsm xhs xln xat xiw xrm xfb xlr xdm : Int32) (gs : Nat → Int32) (p0 p1 : Int32) (v_1 : isReg p0 ∧ isReg p1) : Fn U yX6_fits wsX6_fits { frames := 3, cells := 0, slots := 0, locals := 63 } [.ref m, .int p0, .int p1] [(m, .inr (6, [.int xth, .ref ys, .ref ya, .ref yt, .int xsm, .ref yn, .int xhs, .ref yx, .int xln, .int xat, .int xiw, .ref yr, .int xrm, .int xfb, .int xlr, .ref yd, .int xdm])), (ys, .inl (U.2.2.1 0, 16, .inl gs))] (some (.int (b2i (isVal (gs 0) (gs (1 + p0.toNatClampNeg) * gs (1 + p1.toNatClampNeg)))))) [(m, .inr (6, [.int (0 : Int32), .ref ys, .ref ya, .ref yt, .int xsm, .ref yn, .int xhs, .ref yx, .int xln, .int xat, .int xiw, .ref yr, .int xrm, .int xfb, .int xlr, .ref yd, .int xdm])), (ys, .inl (U.2.2.1 0, 16, .inl gs))] 0 0 := by
  refine Fn_of (cc := cX6_fits) (maxL := 3) (ret := (some .boolean)) [some (.ref m), some (.int p0), some (.int p1)] (by decide +kernel) rfl (jcat rfl) (Nat.le_of_ble_eq_true rfl) rfl (fun k C R hin hnL => ?_)
  have hN : ∀ i, i < 3 → i < k.2.2.2.2.2.2.2.2.2.2.2.1 := fun i h => by rw [hnL]; exact h
  refine J_aload_n C dX6_fits_0 rfl rfl ?_
  refine J_iconst C (v := (0 : Int32)) dX6_fits_1 (by decide) ?_
  refine J_put C tyX6 0 0 [(m, .inr (6, [.int (0 : Int32), .ref ys, .ref ya, .ref yt, .int xsm, .ref yn, .int xhs, .ref yx, .int xln, .int xat, .int xiw, .ref yr, .int xrm, .int xfb, .int xlr, .ref yd, .int xdm])), (ys, .inl (U.2.2.1 0, 16, .inl gs))] rfl rfl i_X6_fits_X6 tyX6_ok nmX6 (by decide) k_X6_fits_31 rfl rfl rfl rfl (Nat.le_of_ble_eq_true rfl) rfl dX6_fits_2 ?_
  refine J_iload_n C dX6_fits_5 rfl rfl ?_
  refine J_iload_n C dX6_fits_6 rfl rfl ?_
  refine J_callS C (c_X6_areRegisters U p0 p1 ) gX6_fits_X6_areRegisters (n := 2) rfl rfl rfl (by decide +kernel) ⟨Nat.le_of_ble_eq_true rfl, Nat.le_of_ble_eq_true rfl⟩ rfl (rest := []) rfl (Nat.le_of_ble_eq_true rfl) [(m, .inr (6, [.int (0 : Int32), .ref ys, .ref ya, .ref yt, .int xsm, .ref yn, .int xhs, .ref yx, .int xln, .int xat, .int xiw, .ref yr, .int xrm, .int xfb, .int xlr, .ref yd, .int xdm])), (ys, .inl (U.2.2.1 0, 16, .inl gs))] [] [0, 1] [0, 1] (wr := [(m, .inr (6, [.int (0 : Int32), .ref ys, .ref ya, .ref yt, .int xsm, .ref yn, .int xhs, .ref yx, .int xln, .int xat, .int xiw, .ref yr, .int xrm, .int xfb, .int xlr, .ref yd, .int xdm])), (ys, .inl (U.2.2.1 0, 16, .inl gs))]) rfl rfl rfl rfl (by decide) rfl rfl  dX6_fits_7 ⟨Nat.le_of_ble_eq_true rfl, Nat.le_of_ble_eq_true rfl⟩ [.int (b2i (isReg p0 ∧ isReg p1))] rfl ?_
  refine J_if_eq_b C 31 dX6_fits_10 (by decide) (fun h => absurd h (fun hh => hh v_1)) (fun _ => ?_)
  refine J_aload_n C dX6_fits_13 rfl rfl ?_
  refine J_aload_n C dX6_fits_14 rfl rfl ?_
  refine J_iload_n C dX6_fits_15 rfl rfl ?_
  refine J_callV C (c_X6_of U m ys ya yt yn yx yr yd (0 : Int32) xsm xhs xln xat xiw xrm xfb xlr xdm gs p0 v_1.1) gX6_fits_X6_of (n := 1) rfl rfl rfl (by decide +kernel) ⟨Nat.le_of_ble_eq_true rfl, Nat.le_of_ble_eq_true rfl⟩ 0 rfl rfl rfl (rest := [.ref m]) rfl (Nat.le_of_ble_eq_true rfl) [(m, .inr (6, [.int (0 : Int32), .ref ys, .ref ya, .ref yt, .int xsm, .ref yn, .int xhs, .ref yx, .int xln, .int xat, .int xiw, .ref yr, .int xrm, .int xfb, .int xlr, .ref yd, .int xdm])), (ys, .inl (U.2.2.1 0, 16, .inl gs))] [0, 1] [] [0, 1] (wr := []) rfl rfl rfl rfl (by decide) rfl rfl  dX6_fits_16 ⟨Nat.le_of_ble_eq_true rfl, Nat.le_of_ble_eq_true rfl⟩ [.int (gs (1 + p0.toNatClampNeg)), .ref m] rfl ?_
  refine J_aload_n C dX6_fits_19 rfl rfl ?_
  refine J_iload_n C dX6_fits_20 rfl rfl ?_
  refine J_callV C (c_X6_of U m ys ya yt yn yx yr yd (0 : Int32) xsm xhs xln xat xiw xrm xfb xlr xdm gs p1 v_1.2) gX6_fits_X6_of (n := 1) rfl rfl rfl (by decide +kernel) ⟨Nat.le_of_ble_eq_true rfl, Nat.le_of_ble_eq_true rfl⟩ 0 rfl rfl rfl (rest := [.int (gs (1 + p0.toNatClampNeg)), .ref m]) rfl (Nat.le_of_ble_eq_true rfl) [(m, .inr (6, [.int (0 : Int32), .ref ys, .ref ya, .ref yt, .int xsm, .ref yn, .int xhs, .ref yx, .int xln, .int xat, .int xiw, .ref yr, .int xrm, .int xfb, .int xlr, .ref yd, .int xdm])), (ys, .inl (U.2.2.1 0, 16, .inl gs))] [0, 1] [] [0, 1] (wr := []) rfl rfl rfl rfl (by decide) rfl rfl  dX6_fits_21 ⟨Nat.le_of_ble_eq_true rfl, Nat.le_of_ble_eq_true rfl⟩ [.int (gs (1 + p1.toNatClampNeg)), .int (gs (1 + p0.toNatClampNeg)), .ref m] rfl ?_
  refine J_imul C (v := (gs (1 + p0.toNatClampNeg)) * (gs (1 + p1.toNatClampNeg))) dX6_fits_24 rfl ?_
  refine J_callV C (c_X6_isValue U m ys ya yt yn yx yr yd (0 : Int32) xsm xhs xln xat xiw xrm xfb xlr xdm gs ((gs (1 + p0.toNatClampNeg)) * (gs (1 + p1.toNatClampNeg))) ) gX6_fits_X6_isValue (n := 1) rfl rfl rfl (by decide +kernel) ⟨Nat.le_of_ble_eq_true rfl, Nat.le_of_ble_eq_true rfl⟩ 0 rfl rfl rfl (rest := []) rfl (Nat.le_of_ble_eq_true rfl) [(m, .inr (6, [.int (0 : Int32), .ref ys, .ref ya, .ref yt, .int xsm, .ref yn, .int xhs, .ref yx, .int xln, .int xat, .int xiw, .ref yr, .int xrm, .int xfb, .int xlr, .ref yd, .int xdm])), (ys, .inl (U.2.2.1 0, 16, .inl gs))] [0, 1] [] [0, 1] (wr := []) rfl rfl rfl rfl (by decide) rfl rfl  dX6_fits_25 ⟨Nat.le_of_ble_eq_true rfl, Nat.le_of_ble_eq_true rfl⟩ [.int (b2i (isVal (gs 0) ((gs (1 + p0.toNatClampNeg)) * (gs (1 + p1.toNatClampNeg)))))] rfl ?_
  refine J_goto C 44 dX6_fits_28 (by decide) ?_
  exact J_zret C R b2i_nar dX6_fits_44 (Nat.le_of_ble_eq_true rfl) (Nat.le_of_ble_eq_true rfl) rfl rfl
theorem k_X6_stepsLeft_31 : Cond.fieldLink RX6 31 "BoothOttersModel" "thrown" "I" ∈ wsX6_stepsLeft := List.mem_of_getElem? (i := 1) rfl
theorem i_X6_stepsLeft_X6 : ∀ w ∈ wsX60, w ∈ wsX6_stepsLeft := fun _ h => List.mem_cons_of_mem _ (List.mem_append_right _ h)
theorem k_X6_stepsLeft_7 : Cond.fieldLink RX6 7 "BoothOttersModel" "s" "[I" ∈ wsX6_stepsLeft := List.mem_of_getElem? (i := 2) rfl
set_option maxHeartbeats 4000000 in
set_option maxRecDepth 100000 in
theorem c_X6_stepsLeft (U : jU) (m ys ya yt yn yx yr yd : Nat) (xth xsm xhs xln xat xiw xrm xfb xlr xdm : Int32) (gs : Nat → Int32)  : Fn U yX6_stepsLeft wsX6_stepsLeft { frames := 0, cells := 0, slots := 0, locals := 0 } [.ref m] [(m, .inr (6, [.int xth, .ref ys, .ref ya, .ref yt, .int xsm, .ref yn, .int xhs, .ref yx, .int xln, .int xat, .int xiw, .ref yr, .int xrm, .int xfb, .int xlr, .ref yd, .int xdm])), (ys, .inl (U.2.2.1 0, 16, .inl gs))] (some (.int (gs 7))) [(m, .inr (6, [.int (0 : Int32), .ref ys, .ref ya, .ref yt, .int xsm, .ref yn, .int xhs, .ref yx, .int xln, .int xat, .int xiw, .ref yr, .int xrm, .int xfb, .int xlr, .ref yd, .int xdm])), (ys, .inl (U.2.2.1 0, 16, .inl gs))] 0 0 := by
  refine Fn_of (cc := cX6_stepsLeft) (maxL := 1) (ret := (some .int)) [some (.ref m)] (by decide +kernel) rfl (jcat rfl) (Nat.le_of_ble_eq_true rfl) rfl (fun k C R hin hnL => ?_)
  have hN : ∀ i, i < 1 → i < k.2.2.2.2.2.2.2.2.2.2.2.1 := fun i h => by rw [hnL]; exact h
  refine J_aload_n C dX6_stepsLeft_0 rfl rfl ?_
  refine J_iconst C (v := (0 : Int32)) dX6_stepsLeft_1 (by decide) ?_
  refine J_put C tyX6 0 0 [(m, .inr (6, [.int (0 : Int32), .ref ys, .ref ya, .ref yt, .int xsm, .ref yn, .int xhs, .ref yx, .int xln, .int xat, .int xiw, .ref yr, .int xrm, .int xfb, .int xlr, .ref yd, .int xdm])), (ys, .inl (U.2.2.1 0, 16, .inl gs))] rfl rfl i_X6_stepsLeft_X6 tyX6_ok nmX6 (by decide) k_X6_stepsLeft_31 rfl rfl rfl rfl (Nat.le_of_ble_eq_true rfl) rfl dX6_stepsLeft_2 ?_
  refine J_aload_n C dX6_stepsLeft_5 rfl rfl ?_
  refine J_get C 0 1 rfl rfl i_X6_stepsLeft_X6 (by decide) k_X6_stepsLeft_7 rfl rfl dX6_stepsLeft_6 ?_
  refine J_bipush C (v := (7 : Int32)) dX6_stepsLeft_9 (by decide) ?_
  refine J_iald C 1 rfl (vpl n_7 (by decide) (by decide)) (congrArg gs n_7) dX6_stepsLeft_11 ?_
  exact J_iret C R dX6_stepsLeft_12 (Nat.le_of_ble_eq_true rfl) (Nat.le_of_ble_eq_true rfl) rfl rfl
theorem k_X6_tellsPart_31 : Cond.fieldLink RX6 31 "BoothOttersModel" "thrown" "I" ∈ wsX6_tellsPart := List.mem_of_getElem? (i := 1) rfl
theorem i_X6_tellsPart_X6 : ∀ w ∈ wsX60, w ∈ wsX6_tellsPart := fun _ h => List.mem_cons_of_mem _ (List.mem_append_right _ h)
theorem k_X6_tellsPart_7 : Cond.fieldLink RX6 7 "BoothOttersModel" "s" "[I" ∈ wsX6_tellsPart := List.mem_of_getElem? (i := 2) rfl
set_option maxHeartbeats 4000000 in
set_option maxRecDepth 100000 in
theorem c_X6_tellsPart_no1 (U : jU) (m ys ya yt yn yx yr yd : Nat) (xth xsm xhs xln xat xiw xrm xfb xlr xdm : Int32) (gs : Nat → Int32) (p0 : Int32) (v_1 : gs 7 = -1) : Fn U yX6_tellsPart wsX6_tellsPart { frames := 1, cells := 0, slots := 0, locals := 21 } [.ref m, .int p0] [(m, .inr (6, [.int xth, .ref ys, .ref ya, .ref yt, .int xsm, .ref yn, .int xhs, .ref yx, .int xln, .int xat, .int xiw, .ref yr, .int xrm, .int xfb, .int xlr, .ref yd, .int xdm])), (ys, .inl (U.2.2.1 0, 16, .inl gs))] (some (.int (0 : Int32))) [(m, .inr (6, [.int (1 : Int32), .ref ys, .ref ya, .ref yt, .int xsm, .ref yn, .int xhs, .ref yx, .int xln, .int xat, .int xiw, .ref yr, .int xrm, .int xfb, .int xlr, .ref yd, .int xdm])), (ys, .inl (U.2.2.1 0, 16, .inl gs))] 0 0 := by
  refine Fn_of (cc := cX6_tellsPart) (maxL := 2) (ret := (some .int)) [some (.ref m), some (.int p0)] (by decide +kernel) rfl (jcat rfl) (Nat.le_of_ble_eq_true rfl) rfl (fun k C R hin hnL => ?_)
  have hN : ∀ i, i < 2 → i < k.2.2.2.2.2.2.2.2.2.2.2.1 := fun i h => by rw [hnL]; exact h
  refine J_aload_n C dX6_tellsPart_0 rfl rfl ?_
  refine J_iconst C (v := (0 : Int32)) dX6_tellsPart_1 (by decide) ?_
  refine J_put C tyX6 0 0 [(m, .inr (6, [.int (0 : Int32), .ref ys, .ref ya, .ref yt, .int xsm, .ref yn, .int xhs, .ref yx, .int xln, .int xat, .int xiw, .ref yr, .int xrm, .int xfb, .int xlr, .ref yd, .int xdm])), (ys, .inl (U.2.2.1 0, 16, .inl gs))] rfl rfl i_X6_tellsPart_X6 tyX6_ok nmX6 (by decide) k_X6_tellsPart_31 rfl rfl rfl rfl (Nat.le_of_ble_eq_true rfl) rfl dX6_tellsPart_2 ?_
  refine J_aload_n C dX6_tellsPart_5 rfl rfl ?_
  refine J_get C 0 1 rfl rfl i_X6_tellsPart_X6 (by decide) k_X6_tellsPart_7 rfl rfl dX6_tellsPart_6 ?_
  refine J_bipush C (v := (7 : Int32)) dX6_tellsPart_9 (by decide) ?_
  refine J_iald C 1 rfl (vpl n_7 (by decide) (by decide)) (congrArg gs n_7) dX6_tellsPart_11 ?_
  refine J_iconst C (v := (-1 : Int32)) dX6_tellsPart_12 (by decide) ?_
  refine J_icmp_ne C 24 dX6_tellsPart_13 (by decide) (fun h => absurd h (fun hh => hh v_1)) (fun _ => ?_)
  refine J_aload_n C dX6_tellsPart_16 rfl rfl ?_
  refine J_iconst C (v := (1 : Int32)) dX6_tellsPart_17 (by decide) ?_
  refine J_callV C (c_X6_fails U m ys ya yt yn yx yr yd (0 : Int32) xsm xhs xln xat xiw xrm xfb xlr xdm (1 : Int32) ) gX6_tellsPart_X6_fails (n := 1) rfl rfl rfl (by decide +kernel) ⟨Nat.le_of_ble_eq_true rfl, Nat.le_of_ble_eq_true rfl⟩ 0 rfl rfl rfl (rest := []) rfl (Nat.le_of_ble_eq_true rfl) [(m, .inr (6, [.int (1 : Int32), .ref ys, .ref ya, .ref yt, .int xsm, .ref yn, .int xhs, .ref yx, .int xln, .int xat, .int xiw, .ref yr, .int xrm, .int xfb, .int xlr, .ref yd, .int xdm])), (ys, .inl (U.2.2.1 0, 16, .inl gs))] [0] [1] [1, 0] (wr := [(ys, .inl (U.2.2.1 0, 16, .inl gs))]) rfl rfl rfl rfl (by decide) rfl rfl  dX6_tellsPart_18 ⟨Nat.le_of_ble_eq_true rfl, Nat.le_of_ble_eq_true rfl⟩ [.int (0 : Int32)] rfl ?_
  refine J_goto C 30 dX6_tellsPart_21 (by decide) ?_
  exact J_iret C R dX6_tellsPart_30 (Nat.le_of_ble_eq_true rfl) (Nat.le_of_ble_eq_true rfl) rfl rfl
set_option maxHeartbeats 4000000 in
set_option maxRecDepth 100000 in
theorem c_X6_tellsPart_ok (U : jU) (m ys ya yt yn yx yr yd : Nat) (xth xsm xhs xln xat xiw xrm xfb xlr xdm : Int32) (gs : Nat → Int32) (q : Nat) (v_1 : ¬ gs 7 = -1) (hq : q < 16) : Fn U yX6_tellsPart wsX6_tellsPart { frames := 1, cells := 0, slots := 0, locals := 21 } [.ref m, .int (nI q)] [(m, .inr (6, [.int xth, .ref ys, .ref ya, .ref yt, .int xsm, .ref yn, .int xhs, .ref yx, .int xln, .int xat, .int xiw, .ref yr, .int xrm, .int xfb, .int xlr, .ref yd, .int xdm])), (ys, .inl (U.2.2.1 0, 16, .inl gs))] (some (.int (gs q))) [(m, .inr (6, [.int (0 : Int32), .ref ys, .ref ya, .ref yt, .int xsm, .ref yn, .int xhs, .ref yx, .int xln, .int xat, .int xiw, .ref yr, .int xrm, .int xfb, .int xlr, .ref yd, .int xdm])), (ys, .inl (U.2.2.1 0, 16, .inl gs))] 0 0 := by
  refine Fn_of (cc := cX6_tellsPart) (maxL := 2) (ret := (some .int)) [some (.ref m), some (.int (nI q))] (by decide +kernel) rfl (jcat rfl) (Nat.le_of_ble_eq_true rfl) rfl (fun k C R hin hnL => ?_)
  have hN : ∀ i, i < 2 → i < k.2.2.2.2.2.2.2.2.2.2.2.1 := fun i h => by rw [hnL]; exact h
  refine J_aload_n C dX6_tellsPart_0 rfl rfl ?_
  refine J_iconst C (v := (0 : Int32)) dX6_tellsPart_1 (by decide) ?_
  refine J_put C tyX6 0 0 [(m, .inr (6, [.int (0 : Int32), .ref ys, .ref ya, .ref yt, .int xsm, .ref yn, .int xhs, .ref yx, .int xln, .int xat, .int xiw, .ref yr, .int xrm, .int xfb, .int xlr, .ref yd, .int xdm])), (ys, .inl (U.2.2.1 0, 16, .inl gs))] rfl rfl i_X6_tellsPart_X6 tyX6_ok nmX6 (by decide) k_X6_tellsPart_31 rfl rfl rfl rfl (Nat.le_of_ble_eq_true rfl) rfl dX6_tellsPart_2 ?_
  refine J_aload_n C dX6_tellsPart_5 rfl rfl ?_
  refine J_get C 0 1 rfl rfl i_X6_tellsPart_X6 (by decide) k_X6_tellsPart_7 rfl rfl dX6_tellsPart_6 ?_
  refine J_bipush C (v := (7 : Int32)) dX6_tellsPart_9 (by decide) ?_
  refine J_iald C 1 rfl (vpl n_7 (by decide) (by decide)) (congrArg gs n_7) dX6_tellsPart_11 ?_
  refine J_iconst C (v := (-1 : Int32)) dX6_tellsPart_12 (by decide) ?_
  refine J_icmp_ne C 24 dX6_tellsPart_13 (by decide) (fun _ => ?_) (fun h => absurd h v_1)
  refine J_aload_n C dX6_tellsPart_24 rfl rfl ?_
  refine J_get C 0 1 rfl rfl i_X6_tellsPart_X6 (by decide) k_X6_tellsPart_7 rfl rfl dX6_tellsPart_25 ?_
  refine J_iload_n C dX6_tellsPart_28 rfl rfl ?_
  refine J_iald C 1 rfl (vp_in_nI (n := q) (by omega) (by decide)) (congrArg gs (nI_clamp (n := q) (by omega))) dX6_tellsPart_29 ?_
  exact J_iret C R dX6_tellsPart_30 (Nat.le_of_ble_eq_true rfl) (Nat.le_of_ble_eq_true rfl) rfl rfl
set_option maxHeartbeats 4000000 in
set_option maxRecDepth 100000 in
theorem c_X6_highPart_no1 (U : jU) (m ys ya yt yn yx yr yd : Nat) (xth xsm xhs xln xat xiw xrm xfb xlr xdm : Int32) (gs : Nat → Int32) (v_1 : gs 7 = -1) : Fn U yX6_highPart wsX6_highPart { frames := 2, cells := 0, slots := 0, locals := 42 } [.ref m] [(m, .inr (6, [.int xth, .ref ys, .ref ya, .ref yt, .int xsm, .ref yn, .int xhs, .ref yx, .int xln, .int xat, .int xiw, .ref yr, .int xrm, .int xfb, .int xlr, .ref yd, .int xdm])), (ys, .inl (U.2.2.1 0, 16, .inl gs))] (some (.int (0 : Int32))) [(m, .inr (6, [.int (1 : Int32), .ref ys, .ref ya, .ref yt, .int xsm, .ref yn, .int xhs, .ref yx, .int xln, .int xat, .int xiw, .ref yr, .int xrm, .int xfb, .int xlr, .ref yd, .int xdm])), (ys, .inl (U.2.2.1 0, 16, .inl gs))] 0 0 := by
  refine Fn_of (cc := cX6_highPart) (maxL := 1) (ret := (some .int)) [some (.ref m)] (by decide +kernel) rfl (jcat rfl) (Nat.le_of_ble_eq_true rfl) rfl (fun k C R hin hnL => ?_)
  have hN : ∀ i, i < 1 → i < k.2.2.2.2.2.2.2.2.2.2.2.1 := fun i h => by rw [hnL]; exact h
  refine J_aload_n C dX6_highPart_0 rfl rfl ?_
  refine J_bipush C (v := (9 : Int32)) dX6_highPart_1 (by decide) ?_
  refine J_callV C (c_X6_tellsPart_no1 U m ys ya yt yn yx yr yd xth xsm xhs xln xat xiw xrm xfb xlr xdm gs (9 : Int32) v_1) gX6_highPart_X6_tellsPart (n := 1) rfl rfl rfl (by decide +kernel) ⟨Nat.le_of_ble_eq_true rfl, Nat.le_of_ble_eq_true rfl⟩ 0 rfl rfl rfl (rest := []) rfl (Nat.le_of_ble_eq_true rfl) [(m, .inr (6, [.int (1 : Int32), .ref ys, .ref ya, .ref yt, .int xsm, .ref yn, .int xhs, .ref yx, .int xln, .int xat, .int xiw, .ref yr, .int xrm, .int xfb, .int xlr, .ref yd, .int xdm])), (ys, .inl (U.2.2.1 0, 16, .inl gs))] [0, 1] [] [0, 1] (wr := []) rfl rfl rfl rfl (by decide) rfl rfl  dX6_highPart_3 ⟨Nat.le_of_ble_eq_true rfl, Nat.le_of_ble_eq_true rfl⟩ [.int (0 : Int32)] rfl ?_
  exact J_iret C R dX6_highPart_6 (Nat.le_of_ble_eq_true rfl) (Nat.le_of_ble_eq_true rfl) rfl rfl
set_option maxHeartbeats 4000000 in
set_option maxRecDepth 100000 in
theorem c_X6_highPart_ok (U : jU) (m ys ya yt yn yx yr yd : Nat) (xth xsm xhs xln xat xiw xrm xfb xlr xdm : Int32) (gs : Nat → Int32) (v_1 : ¬ gs 7 = -1) : Fn U yX6_highPart wsX6_highPart { frames := 2, cells := 0, slots := 0, locals := 42 } [.ref m] [(m, .inr (6, [.int xth, .ref ys, .ref ya, .ref yt, .int xsm, .ref yn, .int xhs, .ref yx, .int xln, .int xat, .int xiw, .ref yr, .int xrm, .int xfb, .int xlr, .ref yd, .int xdm])), (ys, .inl (U.2.2.1 0, 16, .inl gs))] (some (.int (gs 9))) [(m, .inr (6, [.int (0 : Int32), .ref ys, .ref ya, .ref yt, .int xsm, .ref yn, .int xhs, .ref yx, .int xln, .int xat, .int xiw, .ref yr, .int xrm, .int xfb, .int xlr, .ref yd, .int xdm])), (ys, .inl (U.2.2.1 0, 16, .inl gs))] 0 0 := by
  refine Fn_of (cc := cX6_highPart) (maxL := 1) (ret := (some .int)) [some (.ref m)] (by decide +kernel) rfl (jcat rfl) (Nat.le_of_ble_eq_true rfl) rfl (fun k C R hin hnL => ?_)
  have hN : ∀ i, i < 1 → i < k.2.2.2.2.2.2.2.2.2.2.2.1 := fun i h => by rw [hnL]; exact h
  refine J_aload_n C dX6_highPart_0 rfl rfl ?_
  refine J_bipush C (v := (9 : Int32)) dX6_highPart_1 (by decide) ?_
  refine J_callV C (c_X6_tellsPart_ok U m ys ya yt yn yx yr yd xth xsm xhs xln xat xiw xrm xfb xlr xdm gs 9 v_1 (by decide)) gX6_highPart_X6_tellsPart (n := 1) rfl rfl rfl (by decide +kernel) ⟨Nat.le_of_ble_eq_true rfl, Nat.le_of_ble_eq_true rfl⟩ 0 rfl rfl rfl (rest := []) rfl (Nat.le_of_ble_eq_true rfl) [(m, .inr (6, [.int (0 : Int32), .ref ys, .ref ya, .ref yt, .int xsm, .ref yn, .int xhs, .ref yx, .int xln, .int xat, .int xiw, .ref yr, .int xrm, .int xfb, .int xlr, .ref yd, .int xdm])), (ys, .inl (U.2.2.1 0, 16, .inl gs))] [0, 1] [] [0, 1] (wr := []) rfl rfl rfl rfl (by decide) rfl rfl  dX6_highPart_3 ⟨Nat.le_of_ble_eq_true rfl, Nat.le_of_ble_eq_true rfl⟩ [.int (gs 9)] rfl ?_
  exact J_iret C R dX6_highPart_6 (Nat.le_of_ble_eq_true rfl) (Nat.le_of_ble_eq_true rfl) rfl rfl
set_option maxHeartbeats 4000000 in
set_option maxRecDepth 100000 in
theorem c_X6_lowPart_no1 (U : jU) (m ys ya yt yn yx yr yd : Nat) (xth xsm xhs xln xat xiw xrm xfb xlr xdm : Int32) (gs : Nat → Int32) (v_1 : gs 7 = -1) : Fn U yX6_lowPart wsX6_lowPart { frames := 2, cells := 0, slots := 0, locals := 42 } [.ref m] [(m, .inr (6, [.int xth, .ref ys, .ref ya, .ref yt, .int xsm, .ref yn, .int xhs, .ref yx, .int xln, .int xat, .int xiw, .ref yr, .int xrm, .int xfb, .int xlr, .ref yd, .int xdm])), (ys, .inl (U.2.2.1 0, 16, .inl gs))] (some (.int (0 : Int32))) [(m, .inr (6, [.int (1 : Int32), .ref ys, .ref ya, .ref yt, .int xsm, .ref yn, .int xhs, .ref yx, .int xln, .int xat, .int xiw, .ref yr, .int xrm, .int xfb, .int xlr, .ref yd, .int xdm])), (ys, .inl (U.2.2.1 0, 16, .inl gs))] 0 0 := by
  refine Fn_of (cc := cX6_lowPart) (maxL := 1) (ret := (some .int)) [some (.ref m)] (by decide +kernel) rfl (jcat rfl) (Nat.le_of_ble_eq_true rfl) rfl (fun k C R hin hnL => ?_)
  have hN : ∀ i, i < 1 → i < k.2.2.2.2.2.2.2.2.2.2.2.1 := fun i h => by rw [hnL]; exact h
  refine J_aload_n C dX6_lowPart_0 rfl rfl ?_
  refine J_bipush C (v := (10 : Int32)) dX6_lowPart_1 (by decide) ?_
  refine J_callV C (c_X6_tellsPart_no1 U m ys ya yt yn yx yr yd xth xsm xhs xln xat xiw xrm xfb xlr xdm gs (10 : Int32) v_1) gX6_lowPart_X6_tellsPart (n := 1) rfl rfl rfl (by decide +kernel) ⟨Nat.le_of_ble_eq_true rfl, Nat.le_of_ble_eq_true rfl⟩ 0 rfl rfl rfl (rest := []) rfl (Nat.le_of_ble_eq_true rfl) [(m, .inr (6, [.int (1 : Int32), .ref ys, .ref ya, .ref yt, .int xsm, .ref yn, .int xhs, .ref yx, .int xln, .int xat, .int xiw, .ref yr, .int xrm, .int xfb, .int xlr, .ref yd, .int xdm])), (ys, .inl (U.2.2.1 0, 16, .inl gs))] [0, 1] [] [0, 1] (wr := []) rfl rfl rfl rfl (by decide) rfl rfl  dX6_lowPart_3 ⟨Nat.le_of_ble_eq_true rfl, Nat.le_of_ble_eq_true rfl⟩ [.int (0 : Int32)] rfl ?_
  exact J_iret C R dX6_lowPart_6 (Nat.le_of_ble_eq_true rfl) (Nat.le_of_ble_eq_true rfl) rfl rfl
set_option maxHeartbeats 4000000 in
set_option maxRecDepth 100000 in
theorem c_X6_lowPart_ok (U : jU) (m ys ya yt yn yx yr yd : Nat) (xth xsm xhs xln xat xiw xrm xfb xlr xdm : Int32) (gs : Nat → Int32) (v_1 : ¬ gs 7 = -1) : Fn U yX6_lowPart wsX6_lowPart { frames := 2, cells := 0, slots := 0, locals := 42 } [.ref m] [(m, .inr (6, [.int xth, .ref ys, .ref ya, .ref yt, .int xsm, .ref yn, .int xhs, .ref yx, .int xln, .int xat, .int xiw, .ref yr, .int xrm, .int xfb, .int xlr, .ref yd, .int xdm])), (ys, .inl (U.2.2.1 0, 16, .inl gs))] (some (.int (gs 10))) [(m, .inr (6, [.int (0 : Int32), .ref ys, .ref ya, .ref yt, .int xsm, .ref yn, .int xhs, .ref yx, .int xln, .int xat, .int xiw, .ref yr, .int xrm, .int xfb, .int xlr, .ref yd, .int xdm])), (ys, .inl (U.2.2.1 0, 16, .inl gs))] 0 0 := by
  refine Fn_of (cc := cX6_lowPart) (maxL := 1) (ret := (some .int)) [some (.ref m)] (by decide +kernel) rfl (jcat rfl) (Nat.le_of_ble_eq_true rfl) rfl (fun k C R hin hnL => ?_)
  have hN : ∀ i, i < 1 → i < k.2.2.2.2.2.2.2.2.2.2.2.1 := fun i h => by rw [hnL]; exact h
  refine J_aload_n C dX6_lowPart_0 rfl rfl ?_
  refine J_bipush C (v := (10 : Int32)) dX6_lowPart_1 (by decide) ?_
  refine J_callV C (c_X6_tellsPart_ok U m ys ya yt yn yx yr yd xth xsm xhs xln xat xiw xrm xfb xlr xdm gs 10 v_1 (by decide)) gX6_lowPart_X6_tellsPart (n := 1) rfl rfl rfl (by decide +kernel) ⟨Nat.le_of_ble_eq_true rfl, Nat.le_of_ble_eq_true rfl⟩ 0 rfl rfl rfl (rest := []) rfl (Nat.le_of_ble_eq_true rfl) [(m, .inr (6, [.int (0 : Int32), .ref ys, .ref ya, .ref yt, .int xsm, .ref yn, .int xhs, .ref yx, .int xln, .int xat, .int xiw, .ref yr, .int xrm, .int xfb, .int xlr, .ref yd, .int xdm])), (ys, .inl (U.2.2.1 0, 16, .inl gs))] [0, 1] [] [0, 1] (wr := []) rfl rfl rfl rfl (by decide) rfl rfl  dX6_lowPart_3 ⟨Nat.le_of_ble_eq_true rfl, Nat.le_of_ble_eq_true rfl⟩ [.int (gs 10)] rfl ?_
  exact J_iret C R dX6_lowPart_6 (Nat.le_of_ble_eq_true rfl) (Nat.le_of_ble_eq_true rfl) rfl rfl
set_option maxHeartbeats 4000000 in
set_option maxRecDepth 100000 in
theorem c_X6_extraBit_no1 (U : jU) (m ys ya yt yn yx yr yd : Nat) (xth xsm xhs xln xat xiw xrm xfb xlr xdm : Int32) (gs : Nat → Int32) (v_1 : gs 7 = -1) : Fn U yX6_extraBit wsX6_extraBit { frames := 2, cells := 0, slots := 0, locals := 42 } [.ref m] [(m, .inr (6, [.int xth, .ref ys, .ref ya, .ref yt, .int xsm, .ref yn, .int xhs, .ref yx, .int xln, .int xat, .int xiw, .ref yr, .int xrm, .int xfb, .int xlr, .ref yd, .int xdm])), (ys, .inl (U.2.2.1 0, 16, .inl gs))] (some (.int (0 : Int32))) [(m, .inr (6, [.int (1 : Int32), .ref ys, .ref ya, .ref yt, .int xsm, .ref yn, .int xhs, .ref yx, .int xln, .int xat, .int xiw, .ref yr, .int xrm, .int xfb, .int xlr, .ref yd, .int xdm])), (ys, .inl (U.2.2.1 0, 16, .inl gs))] 0 0 := by
  refine Fn_of (cc := cX6_extraBit) (maxL := 1) (ret := (some .int)) [some (.ref m)] (by decide +kernel) rfl (jcat rfl) (Nat.le_of_ble_eq_true rfl) rfl (fun k C R hin hnL => ?_)
  have hN : ∀ i, i < 1 → i < k.2.2.2.2.2.2.2.2.2.2.2.1 := fun i h => by rw [hnL]; exact h
  refine J_aload_n C dX6_extraBit_0 rfl rfl ?_
  refine J_bipush C (v := (11 : Int32)) dX6_extraBit_1 (by decide) ?_
  refine J_callV C (c_X6_tellsPart_no1 U m ys ya yt yn yx yr yd xth xsm xhs xln xat xiw xrm xfb xlr xdm gs (11 : Int32) v_1) gX6_extraBit_X6_tellsPart (n := 1) rfl rfl rfl (by decide +kernel) ⟨Nat.le_of_ble_eq_true rfl, Nat.le_of_ble_eq_true rfl⟩ 0 rfl rfl rfl (rest := []) rfl (Nat.le_of_ble_eq_true rfl) [(m, .inr (6, [.int (1 : Int32), .ref ys, .ref ya, .ref yt, .int xsm, .ref yn, .int xhs, .ref yx, .int xln, .int xat, .int xiw, .ref yr, .int xrm, .int xfb, .int xlr, .ref yd, .int xdm])), (ys, .inl (U.2.2.1 0, 16, .inl gs))] [0, 1] [] [0, 1] (wr := []) rfl rfl rfl rfl (by decide) rfl rfl  dX6_extraBit_3 ⟨Nat.le_of_ble_eq_true rfl, Nat.le_of_ble_eq_true rfl⟩ [.int (0 : Int32)] rfl ?_
  exact J_iret C R dX6_extraBit_6 (Nat.le_of_ble_eq_true rfl) (Nat.le_of_ble_eq_true rfl) rfl rfl
set_option maxHeartbeats 4000000 in
set_option maxRecDepth 100000 in
theorem c_X6_extraBit_ok (U : jU) (m ys ya yt yn yx yr yd : Nat) (xth xsm xhs xln xat xiw xrm xfb xlr xdm : Int32) (gs : Nat → Int32) (v_1 : ¬ gs 7 = -1) : Fn U yX6_extraBit wsX6_extraBit { frames := 2, cells := 0, slots := 0, locals := 42 } [.ref m] [(m, .inr (6, [.int xth, .ref ys, .ref ya, .ref yt, .int xsm, .ref yn, .int xhs, .ref yx, .int xln, .int xat, .int xiw, .ref yr, .int xrm, .int xfb, .int xlr, .ref yd, .int xdm])), (ys, .inl (U.2.2.1 0, 16, .inl gs))] (some (.int (gs 11))) [(m, .inr (6, [.int (0 : Int32), .ref ys, .ref ya, .ref yt, .int xsm, .ref yn, .int xhs, .ref yx, .int xln, .int xat, .int xiw, .ref yr, .int xrm, .int xfb, .int xlr, .ref yd, .int xdm])), (ys, .inl (U.2.2.1 0, 16, .inl gs))] 0 0 := by
  refine Fn_of (cc := cX6_extraBit) (maxL := 1) (ret := (some .int)) [some (.ref m)] (by decide +kernel) rfl (jcat rfl) (Nat.le_of_ble_eq_true rfl) rfl (fun k C R hin hnL => ?_)
  have hN : ∀ i, i < 1 → i < k.2.2.2.2.2.2.2.2.2.2.2.1 := fun i h => by rw [hnL]; exact h
  refine J_aload_n C dX6_extraBit_0 rfl rfl ?_
  refine J_bipush C (v := (11 : Int32)) dX6_extraBit_1 (by decide) ?_
  refine J_callV C (c_X6_tellsPart_ok U m ys ya yt yn yx yr yd xth xsm xhs xln xat xiw xrm xfb xlr xdm gs 11 v_1 (by decide)) gX6_extraBit_X6_tellsPart (n := 1) rfl rfl rfl (by decide +kernel) ⟨Nat.le_of_ble_eq_true rfl, Nat.le_of_ble_eq_true rfl⟩ 0 rfl rfl rfl (rest := []) rfl (Nat.le_of_ble_eq_true rfl) [(m, .inr (6, [.int (0 : Int32), .ref ys, .ref ya, .ref yt, .int xsm, .ref yn, .int xhs, .ref yx, .int xln, .int xat, .int xiw, .ref yr, .int xrm, .int xfb, .int xlr, .ref yd, .int xdm])), (ys, .inl (U.2.2.1 0, 16, .inl gs))] [0, 1] [] [0, 1] (wr := []) rfl rfl rfl rfl (by decide) rfl rfl  dX6_extraBit_3 ⟨Nat.le_of_ble_eq_true rfl, Nat.le_of_ble_eq_true rfl⟩ [.int (gs 11)] rfl ?_
  exact J_iret C R dX6_extraBit_6 (Nat.le_of_ble_eq_true rfl) (Nat.le_of_ble_eq_true rfl) rfl rfl
theorem k_X6_overflows_31 : Cond.fieldLink RX6 31 "BoothOttersModel" "thrown" "I" ∈ wsX6_overflows := List.mem_of_getElem? (i := 1) rfl
theorem i_X6_overflows_X6 : ∀ w ∈ wsX60, w ∈ wsX6_overflows := fun _ h => List.mem_cons_of_mem _ (List.mem_append_right _ h)
theorem k_X6_overflows_7 : Cond.fieldLink RX6 7 "BoothOttersModel" "s" "[I" ∈ wsX6_overflows := List.mem_of_getElem? (i := 2) rfl
set_option maxHeartbeats 4000000 in
set_option maxRecDepth 100000 in
theorem c_X6_overflows (U : jU) (m ys ya yt yn yx yr yd : Nat) (xth xsm xhs xln xat xiw xrm xfb xlr xdm : Int32) (gs : Nat → Int32)  : Fn U yX6_overflows wsX6_overflows { frames := 0, cells := 0, slots := 0, locals := 0 } [.ref m] [(m, .inr (6, [.int xth, .ref ys, .ref ya, .ref yt, .int xsm, .ref yn, .int xhs, .ref yx, .int xln, .int xat, .int xiw, .ref yr, .int xrm, .int xfb, .int xlr, .ref yd, .int xdm])), (ys, .inl (U.2.2.1 0, 16, .inl gs))] (some (.int (gs 13))) [(m, .inr (6, [.int (0 : Int32), .ref ys, .ref ya, .ref yt, .int xsm, .ref yn, .int xhs, .ref yx, .int xln, .int xat, .int xiw, .ref yr, .int xrm, .int xfb, .int xlr, .ref yd, .int xdm])), (ys, .inl (U.2.2.1 0, 16, .inl gs))] 0 0 := by
  refine Fn_of (cc := cX6_overflows) (maxL := 1) (ret := (some .int)) [some (.ref m)] (by decide +kernel) rfl (jcat rfl) (Nat.le_of_ble_eq_true rfl) rfl (fun k C R hin hnL => ?_)
  have hN : ∀ i, i < 1 → i < k.2.2.2.2.2.2.2.2.2.2.2.1 := fun i h => by rw [hnL]; exact h
  refine J_aload_n C dX6_overflows_0 rfl rfl ?_
  refine J_iconst C (v := (0 : Int32)) dX6_overflows_1 (by decide) ?_
  refine J_put C tyX6 0 0 [(m, .inr (6, [.int (0 : Int32), .ref ys, .ref ya, .ref yt, .int xsm, .ref yn, .int xhs, .ref yx, .int xln, .int xat, .int xiw, .ref yr, .int xrm, .int xfb, .int xlr, .ref yd, .int xdm])), (ys, .inl (U.2.2.1 0, 16, .inl gs))] rfl rfl i_X6_overflows_X6 tyX6_ok nmX6 (by decide) k_X6_overflows_31 rfl rfl rfl rfl (Nat.le_of_ble_eq_true rfl) rfl dX6_overflows_2 ?_
  refine J_aload_n C dX6_overflows_5 rfl rfl ?_
  refine J_get C 0 1 rfl rfl i_X6_overflows_X6 (by decide) k_X6_overflows_7 rfl rfl dX6_overflows_6 ?_
  refine J_bipush C (v := (13 : Int32)) dX6_overflows_9 (by decide) ?_
  refine J_iald C 1 rfl (vpl n_13 (by decide) (by decide)) (congrArg gs n_13) dX6_overflows_11 ?_
  exact J_iret C R dX6_overflows_12 (Nat.le_of_ble_eq_true rfl) (Nat.le_of_ble_eq_true rfl) rfl rfl
theorem k_X6_stepsMade_31 : Cond.fieldLink RX6 31 "BoothOttersModel" "thrown" "I" ∈ wsX6_stepsMade := List.mem_of_getElem? (i := 1) rfl
theorem i_X6_stepsMade_X6 : ∀ w ∈ wsX60, w ∈ wsX6_stepsMade := fun _ h => List.mem_cons_of_mem _ (List.mem_append_right _ h)
theorem k_X6_stepsMade_7 : Cond.fieldLink RX6 7 "BoothOttersModel" "s" "[I" ∈ wsX6_stepsMade := List.mem_of_getElem? (i := 2) rfl
set_option maxHeartbeats 4000000 in
set_option maxRecDepth 100000 in
theorem c_X6_stepsMade (U : jU) (m ys ya yt yn yx yr yd : Nat) (xth xsm xhs xln xat xiw xrm xfb xlr xdm : Int32) (gs : Nat → Int32)  : Fn U yX6_stepsMade wsX6_stepsMade { frames := 0, cells := 0, slots := 0, locals := 0 } [.ref m] [(m, .inr (6, [.int xth, .ref ys, .ref ya, .ref yt, .int xsm, .ref yn, .int xhs, .ref yx, .int xln, .int xat, .int xiw, .ref yr, .int xrm, .int xfb, .int xlr, .ref yd, .int xdm])), (ys, .inl (U.2.2.1 0, 16, .inl gs))] (some (.int (gs 14))) [(m, .inr (6, [.int (0 : Int32), .ref ys, .ref ya, .ref yt, .int xsm, .ref yn, .int xhs, .ref yx, .int xln, .int xat, .int xiw, .ref yr, .int xrm, .int xfb, .int xlr, .ref yd, .int xdm])), (ys, .inl (U.2.2.1 0, 16, .inl gs))] 0 0 := by
  refine Fn_of (cc := cX6_stepsMade) (maxL := 1) (ret := (some .int)) [some (.ref m)] (by decide +kernel) rfl (jcat rfl) (Nat.le_of_ble_eq_true rfl) rfl (fun k C R hin hnL => ?_)
  have hN : ∀ i, i < 1 → i < k.2.2.2.2.2.2.2.2.2.2.2.1 := fun i h => by rw [hnL]; exact h
  refine J_aload_n C dX6_stepsMade_0 rfl rfl ?_
  refine J_iconst C (v := (0 : Int32)) dX6_stepsMade_1 (by decide) ?_
  refine J_put C tyX6 0 0 [(m, .inr (6, [.int (0 : Int32), .ref ys, .ref ya, .ref yt, .int xsm, .ref yn, .int xhs, .ref yx, .int xln, .int xat, .int xiw, .ref yr, .int xrm, .int xfb, .int xlr, .ref yd, .int xdm])), (ys, .inl (U.2.2.1 0, 16, .inl gs))] rfl rfl i_X6_stepsMade_X6 tyX6_ok nmX6 (by decide) k_X6_stepsMade_31 rfl rfl rfl rfl (Nat.le_of_ble_eq_true rfl) rfl dX6_stepsMade_2 ?_
  refine J_aload_n C dX6_stepsMade_5 rfl rfl ?_
  refine J_get C 0 1 rfl rfl i_X6_stepsMade_X6 (by decide) k_X6_stepsMade_7 rfl rfl dX6_stepsMade_6 ?_
  refine J_bipush C (v := (14 : Int32)) dX6_stepsMade_9 (by decide) ?_
  refine J_iald C 1 rfl (vpl n_14 (by decide) (by decide)) (congrArg gs n_14) dX6_stepsMade_11 ?_
  exact J_iret C R dX6_stepsMade_12 (Nat.le_of_ble_eq_true rfl) (Nat.le_of_ble_eq_true rfl) rfl rfl
theorem k_X6_recordedStates_31 : Cond.fieldLink RX6 31 "BoothOttersModel" "thrown" "I" ∈ wsX6_recordedStates := List.mem_of_getElem? (i := 1) rfl
theorem i_X6_recordedStates_X6 : ∀ w ∈ wsX60, w ∈ wsX6_recordedStates := fun _ h => List.mem_cons_of_mem _ (List.mem_append_right _ h)
theorem k_X6_recordedStates_43 : Cond.fieldLink RX6 43 "BoothOttersModel" "stateMany" "I" ∈ wsX6_recordedStates := List.mem_of_getElem? (i := 2) rfl
set_option maxHeartbeats 4000000 in
set_option maxRecDepth 100000 in
theorem c_X6_recordedStates (U : jU) (m ys ya yt yn yx yr yd : Nat) (xth xsm xhs xln xat xiw xrm xfb xlr xdm : Int32)  : Fn U yX6_recordedStates wsX6_recordedStates { frames := 0, cells := 0, slots := 0, locals := 0 } [.ref m] [(m, .inr (6, [.int xth, .ref ys, .ref ya, .ref yt, .int xsm, .ref yn, .int xhs, .ref yx, .int xln, .int xat, .int xiw, .ref yr, .int xrm, .int xfb, .int xlr, .ref yd, .int xdm]))] (some (.int xsm)) [(m, .inr (6, [.int (0 : Int32), .ref ys, .ref ya, .ref yt, .int xsm, .ref yn, .int xhs, .ref yx, .int xln, .int xat, .int xiw, .ref yr, .int xrm, .int xfb, .int xlr, .ref yd, .int xdm]))] 0 0 := by
  refine Fn_of (cc := cX6_recordedStates) (maxL := 1) (ret := (some .int)) [some (.ref m)] (by decide +kernel) rfl (jcat rfl) (Nat.le_of_ble_eq_true rfl) rfl (fun k C R hin hnL => ?_)
  have hN : ∀ i, i < 1 → i < k.2.2.2.2.2.2.2.2.2.2.2.1 := fun i h => by rw [hnL]; exact h
  refine J_aload_n C dX6_recordedStates_0 rfl rfl ?_
  refine J_iconst C (v := (0 : Int32)) dX6_recordedStates_1 (by decide) ?_
  refine J_put C tyX6 0 0 [(m, .inr (6, [.int (0 : Int32), .ref ys, .ref ya, .ref yt, .int xsm, .ref yn, .int xhs, .ref yx, .int xln, .int xat, .int xiw, .ref yr, .int xrm, .int xfb, .int xlr, .ref yd, .int xdm]))] rfl rfl i_X6_recordedStates_X6 tyX6_ok nmX6 (by decide) k_X6_recordedStates_31 rfl rfl rfl rfl (Nat.le_of_ble_eq_true rfl) rfl dX6_recordedStates_2 ?_
  refine J_aload_n C dX6_recordedStates_5 rfl rfl ?_
  refine J_get C 0 4 rfl rfl i_X6_recordedStates_X6 (by decide) k_X6_recordedStates_43 rfl rfl dX6_recordedStates_6 ?_
  exact J_iret C R dX6_recordedStates_9 (Nat.le_of_ble_eq_true rfl) (Nat.le_of_ble_eq_true rfl) rfl rfl
