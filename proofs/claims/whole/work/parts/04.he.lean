theorem k_X6_tellsDigits_7 : Cond.fieldLink RX6 7 "BoothOttersModel" "s" "[I" ∈ wsX6_tellsDigits := List.mem_of_getElem? (i := 1) rfl
theorem i_X6_tellsDigits_X6 : ∀ w ∈ wsX60, w ∈ wsX6_tellsDigits := fun _ h => List.mem_cons_of_mem _ (List.mem_append_right _ h)
theorem k_X6_tellsDigits_46 : Cond.fieldLink RX6 46 "BoothOttersModel" "digitMany" "I" ∈ wsX6_tellsDigits := List.mem_of_getElem? (i := 2) rfl
theorem k_X6_tellsDigits_28 : Cond.fieldLink RX6 28 "BoothOttersModel" "digit" "[I" ∈ wsX6_tellsDigits := List.mem_of_getElem? (i := 3) rfl
set_option maxHeartbeats 4000000 in
set_option maxRecDepth 100000 in
theorem c_X6_tellsDigits_p (U : jU) (m ys ya yt yn yx yr yd : Nat) (xth xsm xhs xln xat xiw xrm xfb xlr xdm : Int32) (gs : Nat → Int32) (gd : Nat → Int32) (D : Nat) (p0 p1 : Int32) (hD : gs 0 = nI D) (hD9 : D ≤ 16) (v_1 : p1 = 0) (h1 : ¬ p1 = 1) (h2 : ¬ p1 = 2) (h3 : ¬ 2 ≤ p1) : Fn U yX6_tellsDigits wsX6_tellsDigits { frames := 1, cells := 0, slots := 0, locals := 24 } [.ref m, .int p0, .int p1] [(m, .inr (6, [.int xth, .ref ys, .ref ya, .ref yt, .int xsm, .ref yn, .int xhs, .ref yx, .int xln, .int xat, .int xiw, .ref yr, .int xrm, .int xfb, .int xlr, .ref yd, .int xdm])), (ys, .inl (U.2.2.1 0, 16, .inl gs)), (yd, .inl (U.2.2.1 0, 17, .inl gd))] none [(m, .inr (6, [.int xth, .ref ys, .ref ya, .ref yt, .int xsm, .ref yn, .int xhs, .ref yx, .int xln, .int xat, .int xiw, .ref yr, .int xrm, .int xfb, .int xlr, .ref yd, .int (gs 0)])), (ys, .inl (U.2.2.1 0, 16, .inl gs)), (yd, .inl (U.2.2.1 0, 17, .inl (dgF p0 p1 gd D)))] 0 0 := by
  refine Fn_of (cc := cX6_tellsDigits) (maxL := 4) (ret := none) [some (.ref m), some (.int p0), some (.int p1), none] (by decide +kernel) rfl (jcat rfl) (Nat.le_of_ble_eq_true rfl) rfl (fun k C R hin hnL => ?_)
  have hN : ∀ i, i < 4 → i < k.2.2.2.2.2.2.2.2.2.2.2.1 := fun i h => by rw [hnL]; exact h
  refine J_aload_n C dX6_tellsDigits_0 rfl rfl ?_
  refine J_iload_n C dX6_tellsDigits_1 rfl rfl ?_
  refine J_iconst C (v := (1 : Int32)) dX6_tellsDigits_2 (by decide) ?_
  refine J_icmp_ne C 17 dX6_tellsDigits_3 (by decide) (fun _ => ?_) (fun h => absurd h h1)
  refine J_aload_n C dX6_tellsDigits_17 rfl rfl ?_
  refine J_get C 0 1 rfl rfl i_X6_tellsDigits_X6 (by decide) k_X6_tellsDigits_7 rfl rfl dX6_tellsDigits_18 ?_
  refine J_iconst C (v := (0 : Int32)) dX6_tellsDigits_21 (by decide) ?_
  refine J_iald C 1 rfl (vpl n_0 (by decide) (by decide)) (congrArg gs n_0) dX6_tellsDigits_22 ?_
  refine J_put C tyX6 0 16 [(m, .inr (6, [.int xth, .ref ys, .ref ya, .ref yt, .int xsm, .ref yn, .int xhs, .ref yx, .int xln, .int xat, .int xiw, .ref yr, .int xrm, .int xfb, .int xlr, .ref yd, .int (gs 0)])), (ys, .inl (U.2.2.1 0, 16, .inl gs)), (yd, .inl (U.2.2.1 0, 17, .inl gd))] rfl rfl i_X6_tellsDigits_X6 tyX6_ok nmX6 (by decide) k_X6_tellsDigits_46 rfl rfl rfl rfl (Nat.le_of_ble_eq_true rfl) rfl dX6_tellsDigits_23 ?_
  refine J_iload_n C dX6_tellsDigits_26 rfl rfl ?_
  refine J_iconst C (v := (2 : Int32)) dX6_tellsDigits_27 (by decide) ?_
  refine J_icmp_ne C 36 dX6_tellsDigits_28 (by decide) (fun _ => ?_) (fun h => absurd h h2)
  refine J_iconst C (v := (0 : Int32)) dX6_tellsDigits_36 (by decide) ?_
  refine J_istore_n C [some (.ref m), some (.int p0), some (.int p1), some (.int (0 : Int32))] dX6_tellsDigits_37 rfl (hN 3 (by decide)) rfl ?_
  have loop_38 : ∀ (n_f : Nat) (i : Nat), D < i + n_f → i ≤ D → J U k 0 0 [(m, .inr (6, [.int xth, .ref ys, .ref ya, .ref yt, .int xsm, .ref yn, .int xhs, .ref yx, .int xln, .int xat, .int xiw, .ref yr, .int xrm, .int xfb, .int xlr, .ref yd, .int (gs 0)])), (ys, .inl (U.2.2.1 0, 16, .inl gs)), (yd, .inl (U.2.2.1 0, 17, .inl (dgF p0 p1 gd i)))] [some (.ref m), some (.int p0), some (.int p1), some (.int (nI i))] 38 [] := by
    intro n_f
    induction n_f with
    | zero =>
      intro i hfuel hin_i
      exact absurd hfuel (by omega)
    | succ n_f ih_38 =>
      intro i hfuel hin_i
      refine J_iload_n C dX6_tellsDigits_38 rfl rfl ?_
      refine J_aload_n C dX6_tellsDigits_39 rfl rfl ?_
      refine J_get C 0 16 rfl rfl i_X6_tellsDigits_X6 (by decide) k_X6_tellsDigits_46 rfl rfl dX6_tellsDigits_40 ?_
      refine J_icmp_ge C 112 dX6_tellsDigits_43 (by decide) (fun c_43_1 => ?_) (fun c_43_1 => ?_)
      · have hx_i : i = D := by have h9 := c_43_1; rw [hD] at h9; exact nI_exit (by omega) (by omega) h9
        subst hx_i
        exact J_vret C R dX6_tellsDigits_112 (Nat.le_of_ble_eq_true rfl) (Nat.le_of_ble_eq_true rfl) rfl rfl
      · have hlt_i : i < D := by have h9 := c_43_1; rw [hD] at h9; exact nI_ngeN (by omega) (by omega) h9
        refine J_iload_n C dX6_tellsDigits_46 rfl rfl ?_
        refine J_iconst C (v := (2 : Int32)) dX6_tellsDigits_47 (by decide) ?_
        refine J_icmp_ge C 112 dX6_tellsDigits_48 (by decide) (fun h => absurd h h3) (fun _ => ?_)
        refine J_aload_n C dX6_tellsDigits_51 rfl rfl ?_
        refine J_get C 0 15 rfl rfl i_X6_tellsDigits_X6 (by decide) k_X6_tellsDigits_28 rfl rfl dX6_tellsDigits_52 ?_
        refine J_iload_n C dX6_tellsDigits_55 rfl rfl ?_
        refine J_iload_n C dX6_tellsDigits_56 rfl rfl ?_
        refine J_if_ne C 76 dX6_tellsDigits_57 (by decide) (fun h => absurd h (fun hh => hh v_1)) (fun _ => ?_)
        refine J_iload_n C dX6_tellsDigits_60 rfl rfl ?_
        refine J_iload_n C dX6_tellsDigits_61 rfl rfl ?_
        refine J_iconst C (v := (1 : Int32)) dX6_tellsDigits_62 (by decide) ?_
        refine J_isub C (v := (nI i) - (1 : Int32)) dX6_tellsDigits_63 rfl ?_
        refine J_callS C (c_X6_bit U p0 ((nI i) - (1 : Int32)) ) gX6_tellsDigits_X6_bit (n := 2) rfl rfl rfl (by decide +kernel) ⟨Nat.le_of_ble_eq_true rfl, Nat.le_of_ble_eq_true rfl⟩ rfl (rest := [.int (nI i), .ref yd]) rfl (Nat.le_of_ble_eq_true rfl) [(m, .inr (6, [.int xth, .ref ys, .ref ya, .ref yt, .int xsm, .ref yn, .int xhs, .ref yx, .int xln, .int xat, .int xiw, .ref yr, .int xrm, .int xfb, .int xlr, .ref yd, .int (gs 0)])), (ys, .inl (U.2.2.1 0, 16, .inl gs)), (yd, .inl (U.2.2.1 0, 17, .inl (dgF p0 p1 gd i)))] [] [0, 1, 2] [0, 1, 2] (wr := [(m, .inr (6, [.int xth, .ref ys, .ref ya, .ref yt, .int xsm, .ref yn, .int xhs, .ref yx, .int xln, .int xat, .int xiw, .ref yr, .int xrm, .int xfb, .int xlr, .ref yd, .int (gs 0)])), (ys, .inl (U.2.2.1 0, 16, .inl gs)), (yd, .inl (U.2.2.1 0, 17, .inl (dgF p0 p1 gd i)))]) rfl rfl rfl rfl (by decide) rfl rfl  dX6_tellsDigits_64 ⟨Nat.le_of_ble_eq_true rfl, Nat.le_of_ble_eq_true rfl⟩ [.int (mbF p0 ((nI i) - (1 : Int32))), .int (nI i), .ref yd] rfl ?_
        refine J_iload_n C dX6_tellsDigits_67 rfl rfl ?_
        refine J_iload_n C dX6_tellsDigits_68 rfl rfl ?_
        refine J_callS C (c_X6_bit U p0 (nI i) ) gX6_tellsDigits_X6_bit (n := 2) rfl rfl rfl (by decide +kernel) ⟨Nat.le_of_ble_eq_true rfl, Nat.le_of_ble_eq_true rfl⟩ rfl (rest := [.int (mbF p0 ((nI i) - (1 : Int32))), .int (nI i), .ref yd]) rfl (Nat.le_of_ble_eq_true rfl) [(m, .inr (6, [.int xth, .ref ys, .ref ya, .ref yt, .int xsm, .ref yn, .int xhs, .ref yx, .int xln, .int xat, .int xiw, .ref yr, .int xrm, .int xfb, .int xlr, .ref yd, .int (gs 0)])), (ys, .inl (U.2.2.1 0, 16, .inl gs)), (yd, .inl (U.2.2.1 0, 17, .inl (dgF p0 p1 gd i)))] [] [0, 1, 2] [0, 1, 2] (wr := [(m, .inr (6, [.int xth, .ref ys, .ref ya, .ref yt, .int xsm, .ref yn, .int xhs, .ref yx, .int xln, .int xat, .int xiw, .ref yr, .int xrm, .int xfb, .int xlr, .ref yd, .int (gs 0)])), (ys, .inl (U.2.2.1 0, 16, .inl gs)), (yd, .inl (U.2.2.1 0, 17, .inl (dgF p0 p1 gd i)))]) rfl rfl rfl rfl (by decide) rfl rfl  dX6_tellsDigits_69 ⟨Nat.le_of_ble_eq_true rfl, Nat.le_of_ble_eq_true rfl⟩ [.int (mbF p0 (nI i)), .int (mbF p0 ((nI i) - (1 : Int32))), .int (nI i), .ref yd] rfl ?_
        refine J_isub C (v := (mbF p0 ((nI i) - (1 : Int32))) - (mbF p0 (nI i))) dX6_tellsDigits_72 rfl ?_
        refine J_goto C 105 dX6_tellsDigits_73 (by decide) ?_
        refine J_iast C 2 [(m, .inr (6, [.int xth, .ref ys, .ref ya, .ref yt, .int xsm, .ref yn, .int xhs, .ref yx, .int xln, .int xat, .int xiw, .ref yr, .int xrm, .int xfb, .int xlr, .ref yd, .int (gs 0)])), (ys, .inl (U.2.2.1 0, 16, .inl gs)), (yd, .inl (U.2.2.1 0, 17, .inl (upd (dgF p0 p1 gd i) i ((mbF p0 ((nI i) - (1 : Int32))) - (mbF p0 (nI i))))))] rfl (vp_in_nI (n := i) (by omega) (by decide)) (by rw [(nI_clamp (n := i) (by omega))]; rfl) dX6_tellsDigits_105 ?_
        refine J_iinc C (v := nI (i + 1)) [some (.ref m), some (.int p0), some (.int p1), some (.int (nI (i + 1)))] dX6_tellsDigits_106 rfl (nI_o1 i) (hN 3 (by decide)) rfl ?_
        refine J_goto C 38 dX6_tellsDigits_109 (by decide) ?_
        refine J_arr (dgF p0 p1 gd (i + 1)) 2 [(m, .inr (6, [.int xth, .ref ys, .ref ya, .ref yt, .int xsm, .ref yn, .int xhs, .ref yx, .int xln, .int xat, .int xiw, .ref yr, .int xrm, .int xfb, .int xlr, .ref yd, .int (gs 0)])), (ys, .inl (U.2.2.1 0, 16, .inl gs)), (yd, .inl (U.2.2.1 0, 17, .inl (dgF p0 p1 gd (i + 1))))] rfl (fun j9 _ => (congrFun (dg_s p0 p1 gd i _ (by rw [mdF, if_neg h2, if_pos v_1])) j9).symm) rfl ?_
        exact ih_38 (i + 1) (by omega) (by omega)
  exact loop_38 (D + 1) 0 (by omega) (by omega)
set_option maxHeartbeats 4000000 in
set_option maxRecDepth 100000 in
theorem c_X6_tellsDigits_t (U : jU) (m ys ya yt yn yx yr yd : Nat) (xth xsm xhs xln xat xiw xrm xfb xlr xdm : Int32) (gs : Nat → Int32) (gd : Nat → Int32) (D : Nat) (p0 p1 : Int32) (hD : gs 0 / 2 = nI D) (hD9 : D ≤ 16) (v_1 : p1 = 1) (h0 : ¬ p1 = 0) (h2 : ¬ p1 = 2) (h3 : ¬ 2 ≤ p1) : Fn U yX6_tellsDigits wsX6_tellsDigits { frames := 1, cells := 0, slots := 0, locals := 24 } [.ref m, .int p0, .int p1] [(m, .inr (6, [.int xth, .ref ys, .ref ya, .ref yt, .int xsm, .ref yn, .int xhs, .ref yx, .int xln, .int xat, .int xiw, .ref yr, .int xrm, .int xfb, .int xlr, .ref yd, .int xdm])), (ys, .inl (U.2.2.1 0, 16, .inl gs)), (yd, .inl (U.2.2.1 0, 17, .inl gd))] none [(m, .inr (6, [.int xth, .ref ys, .ref ya, .ref yt, .int xsm, .ref yn, .int xhs, .ref yx, .int xln, .int xat, .int xiw, .ref yr, .int xrm, .int xfb, .int xlr, .ref yd, .int (gs 0 / (2 : Int32))])), (ys, .inl (U.2.2.1 0, 16, .inl gs)), (yd, .inl (U.2.2.1 0, 17, .inl (dgF p0 p1 gd D)))] 0 0 := by
  refine Fn_of (cc := cX6_tellsDigits) (maxL := 4) (ret := none) [some (.ref m), some (.int p0), some (.int p1), none] (by decide +kernel) rfl (jcat rfl) (Nat.le_of_ble_eq_true rfl) rfl (fun k C R hin hnL => ?_)
  have hN : ∀ i, i < 4 → i < k.2.2.2.2.2.2.2.2.2.2.2.1 := fun i h => by rw [hnL]; exact h
  refine J_aload_n C dX6_tellsDigits_0 rfl rfl ?_
  refine J_iload_n C dX6_tellsDigits_1 rfl rfl ?_
  refine J_iconst C (v := (1 : Int32)) dX6_tellsDigits_2 (by decide) ?_
  refine J_icmp_ne C 17 dX6_tellsDigits_3 (by decide) (fun h => absurd h (fun hh => hh v_1)) (fun _ => ?_)
  refine J_aload_n C dX6_tellsDigits_6 rfl rfl ?_
  refine J_get C 0 1 rfl rfl i_X6_tellsDigits_X6 (by decide) k_X6_tellsDigits_7 rfl rfl dX6_tellsDigits_7 ?_
  refine J_iconst C (v := (0 : Int32)) dX6_tellsDigits_10 (by decide) ?_
  refine J_iald C 1 rfl (vpl n_0 (by decide) (by decide)) (congrArg gs n_0) dX6_tellsDigits_11 ?_
  refine J_iconst C (v := (2 : Int32)) dX6_tellsDigits_12 (by decide) ?_
  refine J_idiv C (v := (gs 0) / (2 : Int32)) dX6_tellsDigits_13 (by decide) rfl ?_
  refine J_goto C 23 dX6_tellsDigits_14 (by decide) ?_
  refine J_put C tyX6 0 16 [(m, .inr (6, [.int xth, .ref ys, .ref ya, .ref yt, .int xsm, .ref yn, .int xhs, .ref yx, .int xln, .int xat, .int xiw, .ref yr, .int xrm, .int xfb, .int xlr, .ref yd, .int ((gs 0) / (2 : Int32))])), (ys, .inl (U.2.2.1 0, 16, .inl gs)), (yd, .inl (U.2.2.1 0, 17, .inl gd))] rfl rfl i_X6_tellsDigits_X6 tyX6_ok nmX6 (by decide) k_X6_tellsDigits_46 rfl rfl rfl rfl (Nat.le_of_ble_eq_true rfl) rfl dX6_tellsDigits_23 ?_
  refine J_iload_n C dX6_tellsDigits_26 rfl rfl ?_
  refine J_iconst C (v := (2 : Int32)) dX6_tellsDigits_27 (by decide) ?_
  refine J_icmp_ne C 36 dX6_tellsDigits_28 (by decide) (fun _ => ?_) (fun h => absurd h h2)
  refine J_iconst C (v := (0 : Int32)) dX6_tellsDigits_36 (by decide) ?_
  refine J_istore_n C [some (.ref m), some (.int p0), some (.int p1), some (.int (0 : Int32))] dX6_tellsDigits_37 rfl (hN 3 (by decide)) rfl ?_
  have loop_38 : ∀ (n_f : Nat) (i : Nat), D < i + n_f → i ≤ D → J U k 0 0 [(m, .inr (6, [.int xth, .ref ys, .ref ya, .ref yt, .int xsm, .ref yn, .int xhs, .ref yx, .int xln, .int xat, .int xiw, .ref yr, .int xrm, .int xfb, .int xlr, .ref yd, .int (gs 0 / (2 : Int32))])), (ys, .inl (U.2.2.1 0, 16, .inl gs)), (yd, .inl (U.2.2.1 0, 17, .inl (dgF p0 p1 gd i)))] [some (.ref m), some (.int p0), some (.int p1), some (.int (nI i))] 38 [] := by
    intro n_f
    induction n_f with
    | zero =>
      intro i hfuel hin_i
      exact absurd hfuel (by omega)
    | succ n_f ih_38 =>
      intro i hfuel hin_i
      refine J_iload_n C dX6_tellsDigits_38 rfl rfl ?_
      refine J_aload_n C dX6_tellsDigits_39 rfl rfl ?_
      refine J_get C 0 16 rfl rfl i_X6_tellsDigits_X6 (by decide) k_X6_tellsDigits_46 rfl rfl dX6_tellsDigits_40 ?_
      refine J_icmp_ge C 112 dX6_tellsDigits_43 (by decide) (fun c_43_1 => ?_) (fun c_43_1 => ?_)
      · have hx_i : i = D := by have h9 := c_43_1; rw [hD] at h9; exact nI_exit (by omega) (by omega) h9
        subst hx_i
        exact J_vret C R dX6_tellsDigits_112 (Nat.le_of_ble_eq_true rfl) (Nat.le_of_ble_eq_true rfl) rfl rfl
      · have hlt_i : i < D := by have h9 := c_43_1; rw [hD] at h9; exact nI_ngeN (by omega) (by omega) h9
        refine J_iload_n C dX6_tellsDigits_46 rfl rfl ?_
        refine J_iconst C (v := (2 : Int32)) dX6_tellsDigits_47 (by decide) ?_
        refine J_icmp_ge C 112 dX6_tellsDigits_48 (by decide) (fun h => absurd h h3) (fun _ => ?_)
        refine J_aload_n C dX6_tellsDigits_51 rfl rfl ?_
        refine J_get C 0 15 rfl rfl i_X6_tellsDigits_X6 (by decide) k_X6_tellsDigits_28 rfl rfl dX6_tellsDigits_52 ?_
        refine J_iload_n C dX6_tellsDigits_55 rfl rfl ?_
        refine J_iload_n C dX6_tellsDigits_56 rfl rfl ?_
        refine J_if_ne C 76 dX6_tellsDigits_57 (by decide) (fun _ => ?_) (fun h => absurd h h0)
        refine J_iload_n C dX6_tellsDigits_76 rfl rfl ?_
        refine J_iconst C (v := (2 : Int32)) dX6_tellsDigits_77 (by decide) ?_
        refine J_iload_n C dX6_tellsDigits_78 rfl rfl ?_
        refine J_imul C (v := nI (2 * i)) dX6_tellsDigits_79 (pk_mul 2 i) ?_
        refine J_iconst C (v := (1 : Int32)) dX6_tellsDigits_80 (by decide) ?_
        refine J_isub C (v := (nI (2 * i)) - (1 : Int32)) dX6_tellsDigits_81 rfl ?_
        refine J_callS C (c_X6_bit U p0 ((nI (2 * i)) - (1 : Int32)) ) gX6_tellsDigits_X6_bit (n := 2) rfl rfl rfl (by decide +kernel) ⟨Nat.le_of_ble_eq_true rfl, Nat.le_of_ble_eq_true rfl⟩ rfl (rest := [.int (nI i), .ref yd]) rfl (Nat.le_of_ble_eq_true rfl) [(m, .inr (6, [.int xth, .ref ys, .ref ya, .ref yt, .int xsm, .ref yn, .int xhs, .ref yx, .int xln, .int xat, .int xiw, .ref yr, .int xrm, .int xfb, .int xlr, .ref yd, .int (gs 0 / (2 : Int32))])), (ys, .inl (U.2.2.1 0, 16, .inl gs)), (yd, .inl (U.2.2.1 0, 17, .inl (dgF p0 p1 gd i)))] [] [0, 1, 2] [0, 1, 2] (wr := [(m, .inr (6, [.int xth, .ref ys, .ref ya, .ref yt, .int xsm, .ref yn, .int xhs, .ref yx, .int xln, .int xat, .int xiw, .ref yr, .int xrm, .int xfb, .int xlr, .ref yd, .int (gs 0 / (2 : Int32))])), (ys, .inl (U.2.2.1 0, 16, .inl gs)), (yd, .inl (U.2.2.1 0, 17, .inl (dgF p0 p1 gd i)))]) rfl rfl rfl rfl (by decide) rfl rfl  dX6_tellsDigits_82 ⟨Nat.le_of_ble_eq_true rfl, Nat.le_of_ble_eq_true rfl⟩ [.int (mbF p0 ((nI (2 * i)) - (1 : Int32))), .int (nI i), .ref yd] rfl ?_
        refine J_iload_n C dX6_tellsDigits_85 rfl rfl ?_
        refine J_iconst C (v := (2 : Int32)) dX6_tellsDigits_86 (by decide) ?_
        refine J_iload_n C dX6_tellsDigits_87 rfl rfl ?_
        refine J_imul C (v := nI (2 * i)) dX6_tellsDigits_88 (pk_mul 2 i) ?_
        refine J_callS C (c_X6_bit U p0 (nI (2 * i)) ) gX6_tellsDigits_X6_bit (n := 2) rfl rfl rfl (by decide +kernel) ⟨Nat.le_of_ble_eq_true rfl, Nat.le_of_ble_eq_true rfl⟩ rfl (rest := [.int (mbF p0 ((nI (2 * i)) - (1 : Int32))), .int (nI i), .ref yd]) rfl (Nat.le_of_ble_eq_true rfl) [(m, .inr (6, [.int xth, .ref ys, .ref ya, .ref yt, .int xsm, .ref yn, .int xhs, .ref yx, .int xln, .int xat, .int xiw, .ref yr, .int xrm, .int xfb, .int xlr, .ref yd, .int (gs 0 / (2 : Int32))])), (ys, .inl (U.2.2.1 0, 16, .inl gs)), (yd, .inl (U.2.2.1 0, 17, .inl (dgF p0 p1 gd i)))] [] [0, 1, 2] [0, 1, 2] (wr := [(m, .inr (6, [.int xth, .ref ys, .ref ya, .ref yt, .int xsm, .ref yn, .int xhs, .ref yx, .int xln, .int xat, .int xiw, .ref yr, .int xrm, .int xfb, .int xlr, .ref yd, .int (gs 0 / (2 : Int32))])), (ys, .inl (U.2.2.1 0, 16, .inl gs)), (yd, .inl (U.2.2.1 0, 17, .inl (dgF p0 p1 gd i)))]) rfl rfl rfl rfl (by decide) rfl rfl  dX6_tellsDigits_89 ⟨Nat.le_of_ble_eq_true rfl, Nat.le_of_ble_eq_true rfl⟩ [.int (mbF p0 (nI (2 * i))), .int (mbF p0 ((nI (2 * i)) - (1 : Int32))), .int (nI i), .ref yd] rfl ?_
        refine J_iadd C (v := (mbF p0 ((nI (2 * i)) - (1 : Int32))) + (mbF p0 (nI (2 * i)))) dX6_tellsDigits_92 rfl ?_
        refine J_iconst C (v := (2 : Int32)) dX6_tellsDigits_93 (by decide) ?_
        refine J_iload_n C dX6_tellsDigits_94 rfl rfl ?_
        refine J_iconst C (v := (2 : Int32)) dX6_tellsDigits_95 (by decide) ?_
        refine J_iload_n C dX6_tellsDigits_96 rfl rfl ?_
        refine J_imul C (v := nI (2 * i)) dX6_tellsDigits_97 (pk_mul 2 i) ?_
        refine J_iconst C (v := (1 : Int32)) dX6_tellsDigits_98 (by decide) ?_
        refine J_iadd C (v := nI ((2 * i) + 1)) dX6_tellsDigits_99 (nI_add (2 * i) 1) ?_
        refine J_callS C (c_X6_bit U p0 (nI ((2 * i) + 1)) ) gX6_tellsDigits_X6_bit (n := 2) rfl rfl rfl (by decide +kernel) ⟨Nat.le_of_ble_eq_true rfl, Nat.le_of_ble_eq_true rfl⟩ rfl (rest := [.int (2 : Int32), .int ((mbF p0 ((nI (2 * i)) - (1 : Int32))) + (mbF p0 (nI (2 * i)))), .int (nI i), .ref yd]) rfl (Nat.le_of_ble_eq_true rfl) [(m, .inr (6, [.int xth, .ref ys, .ref ya, .ref yt, .int xsm, .ref yn, .int xhs, .ref yx, .int xln, .int xat, .int xiw, .ref yr, .int xrm, .int xfb, .int xlr, .ref yd, .int (gs 0 / (2 : Int32))])), (ys, .inl (U.2.2.1 0, 16, .inl gs)), (yd, .inl (U.2.2.1 0, 17, .inl (dgF p0 p1 gd i)))] [] [0, 1, 2] [0, 1, 2] (wr := [(m, .inr (6, [.int xth, .ref ys, .ref ya, .ref yt, .int xsm, .ref yn, .int xhs, .ref yx, .int xln, .int xat, .int xiw, .ref yr, .int xrm, .int xfb, .int xlr, .ref yd, .int (gs 0 / (2 : Int32))])), (ys, .inl (U.2.2.1 0, 16, .inl gs)), (yd, .inl (U.2.2.1 0, 17, .inl (dgF p0 p1 gd i)))]) rfl rfl rfl rfl (by decide) rfl rfl  dX6_tellsDigits_100 ⟨Nat.le_of_ble_eq_true rfl, Nat.le_of_ble_eq_true rfl⟩ [.int (mbF p0 (nI ((2 * i) + 1))), .int (2 : Int32), .int ((mbF p0 ((nI (2 * i)) - (1 : Int32))) + (mbF p0 (nI (2 * i)))), .int (nI i), .ref yd] rfl ?_
        refine J_imul C (v := (2 : Int32) * (mbF p0 (nI ((2 * i) + 1)))) dX6_tellsDigits_103 rfl ?_
        refine J_isub C (v := ((mbF p0 ((nI (2 * i)) - (1 : Int32))) + (mbF p0 (nI (2 * i)))) - ((2 : Int32) * (mbF p0 (nI ((2 * i) + 1))))) dX6_tellsDigits_104 rfl ?_
        refine J_iast C 2 [(m, .inr (6, [.int xth, .ref ys, .ref ya, .ref yt, .int xsm, .ref yn, .int xhs, .ref yx, .int xln, .int xat, .int xiw, .ref yr, .int xrm, .int xfb, .int xlr, .ref yd, .int (gs 0 / (2 : Int32))])), (ys, .inl (U.2.2.1 0, 16, .inl gs)), (yd, .inl (U.2.2.1 0, 17, .inl (upd (dgF p0 p1 gd i) i (((mbF p0 ((nI (2 * i)) - (1 : Int32))) + (mbF p0 (nI (2 * i)))) - ((2 : Int32) * (mbF p0 (nI ((2 * i) + 1))))))))] rfl (vp_in_nI (n := i) (by omega) (by decide)) (by rw [(nI_clamp (n := i) (by omega))]; rfl) dX6_tellsDigits_105 ?_
        refine J_iinc C (v := nI (i + 1)) [some (.ref m), some (.int p0), some (.int p1), some (.int (nI (i + 1)))] dX6_tellsDigits_106 rfl (nI_o1 i) (hN 3 (by decide)) rfl ?_
        refine J_goto C 38 dX6_tellsDigits_109 (by decide) ?_
        refine J_arr (dgF p0 p1 gd (i + 1)) 2 [(m, .inr (6, [.int xth, .ref ys, .ref ya, .ref yt, .int xsm, .ref yn, .int xhs, .ref yx, .int xln, .int xat, .int xiw, .ref yr, .int xrm, .int xfb, .int xlr, .ref yd, .int (gs 0 / (2 : Int32))])), (ys, .inl (U.2.2.1 0, 16, .inl gs)), (yd, .inl (U.2.2.1 0, 17, .inl (dgF p0 p1 gd (i + 1))))] rfl (fun j9 _ => (congrFun (dg_s p0 p1 gd i _ (by rw [mdF, if_neg h2, if_neg h0])) j9).symm) rfl ?_
        exact ih_38 (i + 1) (by omega) (by omega)
  exact loop_38 (D + 1) 0 (by omega) (by omega)
set_option maxHeartbeats 4000000 in
set_option maxRecDepth 100000 in
theorem c_X6_tellsDigits_s (U : jU) (m ys ya yt yn yx yr yd : Nat) (xth xsm xhs xln xat xiw xrm xfb xlr xdm : Int32) (gs : Nat → Int32) (gd : Nat → Int32) (D : Nat) (p0 p1 : Int32) (hD : gs 0 = nI D) (hD9 : D ≤ 16) (v_1 : p1 = 2) (h1 : ¬ p1 = 1) (h3 : 2 ≤ p1) : Fn U yX6_tellsDigits wsX6_tellsDigits { frames := 1, cells := 0, slots := 0, locals := 24 } [.ref m, .int p0, .int p1] [(m, .inr (6, [.int xth, .ref ys, .ref ya, .ref yt, .int xsm, .ref yn, .int xhs, .ref yx, .int xln, .int xat, .int xiw, .ref yr, .int xrm, .int xfb, .int xlr, .ref yd, .int xdm])), (ys, .inl (U.2.2.1 0, 16, .inl gs)), (yd, .inl (U.2.2.1 0, 17, .inl gd))] none [(m, .inr (6, [.int xth, .ref ys, .ref ya, .ref yt, .int xsm, .ref yn, .int xhs, .ref yx, .int xln, .int xat, .int xiw, .ref yr, .int xrm, .int xfb, .int xlr, .ref yd, .int (gs 0)])), (ys, .inl (U.2.2.1 0, 16, .inl gs)), (yd, .inl (U.2.2.1 0, 17, .inl (dgF p0 2 gd D)))] 0 0 := by
  refine Fn_of (cc := cX6_tellsDigits) (maxL := 4) (ret := none) [some (.ref m), some (.int p0), some (.int p1), none] (by decide +kernel) rfl (jcat rfl) (Nat.le_of_ble_eq_true rfl) rfl (fun k C R hin hnL => ?_)
  have hN : ∀ i, i < 4 → i < k.2.2.2.2.2.2.2.2.2.2.2.1 := fun i h => by rw [hnL]; exact h
  refine J_aload_n C dX6_tellsDigits_0 rfl rfl ?_
  refine J_iload_n C dX6_tellsDigits_1 rfl rfl ?_
  refine J_iconst C (v := (1 : Int32)) dX6_tellsDigits_2 (by decide) ?_
  refine J_icmp_ne C 17 dX6_tellsDigits_3 (by decide) (fun _ => ?_) (fun h => absurd h h1)
  refine J_aload_n C dX6_tellsDigits_17 rfl rfl ?_
  refine J_get C 0 1 rfl rfl i_X6_tellsDigits_X6 (by decide) k_X6_tellsDigits_7 rfl rfl dX6_tellsDigits_18 ?_
  refine J_iconst C (v := (0 : Int32)) dX6_tellsDigits_21 (by decide) ?_
  refine J_iald C 1 rfl (vpl n_0 (by decide) (by decide)) (congrArg gs n_0) dX6_tellsDigits_22 ?_
  refine J_put C tyX6 0 16 [(m, .inr (6, [.int xth, .ref ys, .ref ya, .ref yt, .int xsm, .ref yn, .int xhs, .ref yx, .int xln, .int xat, .int xiw, .ref yr, .int xrm, .int xfb, .int xlr, .ref yd, .int (gs 0)])), (ys, .inl (U.2.2.1 0, 16, .inl gs)), (yd, .inl (U.2.2.1 0, 17, .inl gd))] rfl rfl i_X6_tellsDigits_X6 tyX6_ok nmX6 (by decide) k_X6_tellsDigits_46 rfl rfl rfl rfl (Nat.le_of_ble_eq_true rfl) rfl dX6_tellsDigits_23 ?_
  refine J_iload_n C dX6_tellsDigits_26 rfl rfl ?_
  refine J_iconst C (v := (2 : Int32)) dX6_tellsDigits_27 (by decide) ?_
  refine J_icmp_ne C 36 dX6_tellsDigits_28 (by decide) (fun h => absurd h (fun hh => hh v_1)) (fun _ => ?_)
  refine J_aload_n C dX6_tellsDigits_31 rfl rfl ?_
  refine J_iload_n C dX6_tellsDigits_32 rfl rfl ?_
  refine J_callV C (c_X6_tellsSparse U m ys ya yt yn yx yr yd xth xsm xhs xln xat xiw xrm xfb xlr (gs 0) gs gd D p0 hD hD9) gX6_tellsDigits_X6_tellsSparse (n := 1) rfl rfl rfl (by decide +kernel) ⟨Nat.le_of_ble_eq_true rfl, Nat.le_of_ble_eq_true rfl⟩ 0 rfl rfl rfl (rest := []) rfl (Nat.le_of_ble_eq_true rfl) [(m, .inr (6, [.int xth, .ref ys, .ref ya, .ref yt, .int xsm, .ref yn, .int xhs, .ref yx, .int xln, .int xat, .int xiw, .ref yr, .int xrm, .int xfb, .int xlr, .ref yd, .int (gs 0)])), (ys, .inl (U.2.2.1 0, 16, .inl gs)), (yd, .inl (U.2.2.1 0, 17, .inl (dgF p0 2 gd D)))] [0, 1, 2] [] [0, 1, 2] (wr := []) rfl rfl rfl rfl (by decide) rfl rfl  dX6_tellsDigits_33 ⟨Nat.le_of_ble_eq_true rfl, Nat.le_of_ble_eq_true rfl⟩ [] rfl ?_
  refine J_iconst C (v := (0 : Int32)) dX6_tellsDigits_36 (by decide) ?_
  refine J_istore_n C [some (.ref m), some (.int p0), some (.int p1), some (.int (0 : Int32))] dX6_tellsDigits_37 rfl (hN 3 (by decide)) rfl ?_
  refine J_iload_n C dX6_tellsDigits_38 rfl rfl ?_
  refine J_aload_n C dX6_tellsDigits_39 rfl rfl ?_
  refine J_get C 0 16 rfl rfl i_X6_tellsDigits_X6 (by decide) k_X6_tellsDigits_46 rfl rfl dX6_tellsDigits_40 ?_
  refine J_icmp_ge C 112 dX6_tellsDigits_43 (by decide) (fun c_43_1 => ?_) (fun c_43_1 => ?_)
  · exact J_vret C R dX6_tellsDigits_112 (Nat.le_of_ble_eq_true rfl) (Nat.le_of_ble_eq_true rfl) rfl rfl
  · refine J_iload_n C dX6_tellsDigits_46 rfl rfl ?_
    refine J_iconst C (v := (2 : Int32)) dX6_tellsDigits_47 (by decide) ?_
    refine J_icmp_ge C 112 dX6_tellsDigits_48 (by decide) (fun _ => ?_) (fun h => absurd h3 h)
    exact J_vret C R dX6_tellsDigits_112 (Nat.le_of_ble_eq_true rfl) (Nat.le_of_ble_eq_true rfl) rfl rfl
set_option maxHeartbeats 4000000 in
set_option maxRecDepth 100000 in
theorem c_X6_tellsDigits (U : jU) (m ys ya yt yn yx yr yd : Nat) (xth xsm xhs xln xat xiw xrm xfb xlr xdm : Int32) (gs : Nat → Int32) (gd : Nat → Int32) (D : Nat) (p0 p1 : Int32) (hD : dcntF p1 (gs 0) = nI D) (hD9 : D ≤ 16) (v_1 : isRec p1) : Fn U yX6_tellsDigits wsX6_tellsDigits { frames := 1, cells := 0, slots := 0, locals := 24 } [.ref m, .int p0, .int p1] [(m, .inr (6, [.int xth, .ref ys, .ref ya, .ref yt, .int xsm, .ref yn, .int xhs, .ref yx, .int xln, .int xat, .int xiw, .ref yr, .int xrm, .int xfb, .int xlr, .ref yd, .int xdm])), (ys, .inl (U.2.2.1 0, 16, .inl gs)), (yd, .inl (U.2.2.1 0, 17, .inl gd))] none [(m, .inr (6, [.int xth, .ref ys, .ref ya, .ref yt, .int xsm, .ref yn, .int xhs, .ref yx, .int xln, .int xat, .int xiw, .ref yr, .int xrm, .int xfb, .int xlr, .ref yd, .int (dcntF p1 (gs 0))])), (ys, .inl (U.2.2.1 0, 16, .inl gs)), (yd, .inl (U.2.2.1 0, 17, .inl (dgF p0 p1 gd D)))] 0 0 := by
  rcases v_1 with h | h | h
  · subst h; exact c_X6_tellsDigits_p U m ys ya yt yn yx yr yd xth xsm xhs xln xat xiw xrm xfb xlr xdm gs gd D p0 0 hD hD9 rfl (by decide) (by decide) (by decide)
  · subst h; exact c_X6_tellsDigits_t U m ys ya yt yn yx yr yd xth xsm xhs xln xat xiw xrm xfb xlr xdm gs gd D p0 1 hD hD9 rfl (by decide) (by decide) (by decide)
  · subst h; exact c_X6_tellsDigits_s U m ys ya yt yn yx yr yd xth xsm xhs xln xat xiw xrm xfb xlr xdm gs gd D p0 2 hD hD9 rfl (by decide) (by decide)
theorem k_X6_hasDigits_31 : Cond.fieldLink RX6 31 "BoothOttersModel" "thrown" "I" ∈ wsX6_hasDigits := List.mem_of_getElem? (i := 1) rfl
theorem i_X6_hasDigits_X6 : ∀ w ∈ wsX60, w ∈ wsX6_hasDigits := fun _ h => List.mem_cons_of_mem _ (List.mem_append_right _ h)
set_option maxHeartbeats 4000000 in
set_option maxRecDepth 100000 in
theorem c_X6_hasDigits_no1 (U : jU) (m ys ya yt yn yx yr yd : Nat) (xth xsm xhs xln xat xiw xrm xfb xlr xdm : Int32) (p0 p1 p2 : Int32) (v_1 : p0 = 0) : Fn U yX6_hasDigits wsX6_hasDigits { frames := 2, cells := 0, slots := 0, locals := 47 } [.ref m, .int p0, .int p1, .int p2] [(m, .inr (6, [.int xth, .ref ys, .ref ya, .ref yt, .int xsm, .ref yn, .int xhs, .ref yx, .int xln, .int xat, .int xiw, .ref yr, .int xrm, .int xfb, .int xlr, .ref yd, .int xdm]))] (some (.int (0 : Int32))) [(m, .inr (6, [.int (1 : Int32), .ref ys, .ref ya, .ref yt, .int xsm, .ref yn, .int xhs, .ref yx, .int xln, .int xat, .int xiw, .ref yr, .int xrm, .int xfb, .int xlr, .ref yd, .int xdm]))] 0 0 := by
  refine Fn_of (cc := cX6_hasDigits) (maxL := 4) (ret := (some .boolean)) [some (.ref m), some (.int p0), some (.int p1), some (.int p2)] (by decide +kernel) rfl (jcat rfl) (Nat.le_of_ble_eq_true rfl) rfl (fun k C R hin hnL => ?_)
  have hN : ∀ i, i < 4 → i < k.2.2.2.2.2.2.2.2.2.2.2.1 := fun i h => by rw [hnL]; exact h
  refine J_aload_n C dX6_hasDigits_0 rfl rfl ?_
  refine J_iload_n C dX6_hasDigits_1 rfl rfl ?_
  refine J_if_ne C 9 dX6_hasDigits_2 (by decide) (fun h => absurd h (fun hh => hh v_1)) (fun _ => ?_)
  refine J_iconst C (v := (1 : Int32)) dX6_hasDigits_5 (by decide) ?_
  refine J_goto C 33 dX6_hasDigits_6 (by decide) ?_
  refine J_put C tyX6 0 0 [(m, .inr (6, [.int (1 : Int32), .ref ys, .ref ya, .ref yt, .int xsm, .ref yn, .int xhs, .ref yx, .int xln, .int xat, .int xiw, .ref yr, .int xrm, .int xfb, .int xlr, .ref yd, .int xdm]))] rfl rfl i_X6_hasDigits_X6 tyX6_ok nmX6 (by decide) k_X6_hasDigits_31 rfl rfl rfl rfl (Nat.le_of_ble_eq_true rfl) rfl dX6_hasDigits_33 ?_
  refine J_aload_n C dX6_hasDigits_36 rfl rfl ?_
  refine J_get C 0 0 rfl rfl i_X6_hasDigits_X6 (by decide) k_X6_hasDigits_31 rfl rfl dX6_hasDigits_37 ?_
  refine J_if_ne C 53 dX6_hasDigits_40 (by decide) (fun _ => ?_) (fun h => absurd h (by decide))
  refine J_aload_n C dX6_hasDigits_53 rfl rfl ?_
  refine J_get C 0 0 rfl rfl i_X6_hasDigits_X6 (by decide) k_X6_hasDigits_31 rfl rfl dX6_hasDigits_54 ?_
  refine J_if_ne C 64 dX6_hasDigits_57 (by decide) (fun _ => ?_) (fun h => absurd h (by decide))
  refine J_iconst C (v := (0 : Int32)) dX6_hasDigits_64 (by decide) ?_
  exact J_zret C R rfl dX6_hasDigits_65 (Nat.le_of_ble_eq_true rfl) (Nat.le_of_ble_eq_true rfl) rfl rfl
set_option maxHeartbeats 4000000 in
set_option maxRecDepth 100000 in
theorem c_X6_hasDigits_no2 (U : jU) (m ys ya yt yn yx yr yd : Nat) (xth xsm xhs xln xat xiw xrm xfb xlr xdm : Int32) (p0 p1 p2 : Int32) (v_1 : ¬ p0 = 0) (v_2 : ¬ isRec p2) : Fn U yX6_hasDigits wsX6_hasDigits { frames := 2, cells := 0, slots := 0, locals := 47 } [.ref m, .int p0, .int p1, .int p2] [(m, .inr (6, [.int xth, .ref ys, .ref ya, .ref yt, .int xsm, .ref yn, .int xhs, .ref yx, .int xln, .int xat, .int xiw, .ref yr, .int xrm, .int xfb, .int xlr, .ref yd, .int xdm]))] (some (.int (0 : Int32))) [(m, .inr (6, [.int (2 : Int32), .ref ys, .ref ya, .ref yt, .int xsm, .ref yn, .int xhs, .ref yx, .int xln, .int xat, .int xiw, .ref yr, .int xrm, .int xfb, .int xlr, .ref yd, .int xdm]))] 0 0 := by
  refine Fn_of (cc := cX6_hasDigits) (maxL := 4) (ret := (some .boolean)) [some (.ref m), some (.int p0), some (.int p1), some (.int p2)] (by decide +kernel) rfl (jcat rfl) (Nat.le_of_ble_eq_true rfl) rfl (fun k C R hin hnL => ?_)
  have hN : ∀ i, i < 4 → i < k.2.2.2.2.2.2.2.2.2.2.2.1 := fun i h => by rw [hnL]; exact h
  refine J_aload_n C dX6_hasDigits_0 rfl rfl ?_
  refine J_iload_n C dX6_hasDigits_1 rfl rfl ?_
  refine J_if_ne C 9 dX6_hasDigits_2 (by decide) (fun _ => ?_) (fun h => absurd h v_1)
  refine J_iload_n C dX6_hasDigits_9 rfl rfl ?_
  refine J_callS C (c_X6_isRecoding U p2 ) gX6_hasDigits_X6_isRecoding (n := 1) rfl rfl rfl (by decide +kernel) ⟨Nat.le_of_ble_eq_true rfl, Nat.le_of_ble_eq_true rfl⟩ rfl (rest := [.ref m]) rfl (Nat.le_of_ble_eq_true rfl) [(m, .inr (6, [.int xth, .ref ys, .ref ya, .ref yt, .int xsm, .ref yn, .int xhs, .ref yx, .int xln, .int xat, .int xiw, .ref yr, .int xrm, .int xfb, .int xlr, .ref yd, .int xdm]))] [] [0] [0] (wr := [(m, .inr (6, [.int xth, .ref ys, .ref ya, .ref yt, .int xsm, .ref yn, .int xhs, .ref yx, .int xln, .int xat, .int xiw, .ref yr, .int xrm, .int xfb, .int xlr, .ref yd, .int xdm]))]) rfl rfl rfl rfl (by decide) rfl rfl  dX6_hasDigits_10 ⟨Nat.le_of_ble_eq_true rfl, Nat.le_of_ble_eq_true rfl⟩ [.int (b2i (isRec p2)), .ref m] rfl ?_
  refine J_if_ne_b C 20 dX6_hasDigits_13 (by decide) (fun h => absurd h v_2) (fun _ => ?_)
  refine J_iconst C (v := (2 : Int32)) dX6_hasDigits_16 (by decide) ?_
  refine J_goto C 33 dX6_hasDigits_17 (by decide) ?_
  refine J_put C tyX6 0 0 [(m, .inr (6, [.int (2 : Int32), .ref ys, .ref ya, .ref yt, .int xsm, .ref yn, .int xhs, .ref yx, .int xln, .int xat, .int xiw, .ref yr, .int xrm, .int xfb, .int xlr, .ref yd, .int xdm]))] rfl rfl i_X6_hasDigits_X6 tyX6_ok nmX6 (by decide) k_X6_hasDigits_31 rfl rfl rfl rfl (Nat.le_of_ble_eq_true rfl) rfl dX6_hasDigits_33 ?_
  refine J_aload_n C dX6_hasDigits_36 rfl rfl ?_
  refine J_get C 0 0 rfl rfl i_X6_hasDigits_X6 (by decide) k_X6_hasDigits_31 rfl rfl dX6_hasDigits_37 ?_
  refine J_if_ne C 53 dX6_hasDigits_40 (by decide) (fun _ => ?_) (fun h => absurd h (by decide))
  refine J_aload_n C dX6_hasDigits_53 rfl rfl ?_
  refine J_get C 0 0 rfl rfl i_X6_hasDigits_X6 (by decide) k_X6_hasDigits_31 rfl rfl dX6_hasDigits_54 ?_
  refine J_if_ne C 64 dX6_hasDigits_57 (by decide) (fun _ => ?_) (fun h => absurd h (by decide))
  refine J_iconst C (v := (0 : Int32)) dX6_hasDigits_64 (by decide) ?_
  exact J_zret C R rfl dX6_hasDigits_65 (Nat.le_of_ble_eq_true rfl) (Nat.le_of_ble_eq_true rfl) rfl rfl
set_option maxHeartbeats 4000000 in
set_option maxRecDepth 100000 in
theorem c_X6_hasDigits_no3 (U : jU) (m ys ya yt yn yx yr yd : Nat) (xth xsm xhs xln xat xiw xrm xfb xlr xdm : Int32) (gs : Nat → Int32) (p0 p1 p2 : Int32) (v_1 : ¬ p0 = 0) (v_2 : isRec p2) (v_3 : p2 = 1 ∧ rem2 (gs 0) = 1) : Fn U yX6_hasDigits wsX6_hasDigits { frames := 2, cells := 0, slots := 0, locals := 47 } [.ref m, .int p0, .int p1, .int p2] [(m, .inr (6, [.int xth, .ref ys, .ref ya, .ref yt, .int xsm, .ref yn, .int xhs, .ref yx, .int xln, .int xat, .int xiw, .ref yr, .int xrm, .int xfb, .int xlr, .ref yd, .int xdm])), (ys, .inl (U.2.2.1 0, 16, .inl gs))] (some (.int (0 : Int32))) [(m, .inr (6, [.int (3 : Int32), .ref ys, .ref ya, .ref yt, .int xsm, .ref yn, .int xhs, .ref yx, .int xln, .int xat, .int xiw, .ref yr, .int xrm, .int xfb, .int xlr, .ref yd, .int xdm])), (ys, .inl (U.2.2.1 0, 16, .inl gs))] 0 0 := by
  refine Fn_of (cc := cX6_hasDigits) (maxL := 4) (ret := (some .boolean)) [some (.ref m), some (.int p0), some (.int p1), some (.int p2)] (by decide +kernel) rfl (jcat rfl) (Nat.le_of_ble_eq_true rfl) rfl (fun k C R hin hnL => ?_)
  have hN : ∀ i, i < 4 → i < k.2.2.2.2.2.2.2.2.2.2.2.1 := fun i h => by rw [hnL]; exact h
  refine J_aload_n C dX6_hasDigits_0 rfl rfl ?_
  refine J_iload_n C dX6_hasDigits_1 rfl rfl ?_
  refine J_if_ne C 9 dX6_hasDigits_2 (by decide) (fun _ => ?_) (fun h => absurd h v_1)
  refine J_iload_n C dX6_hasDigits_9 rfl rfl ?_
  refine J_callS C (c_X6_isRecoding U p2 ) gX6_hasDigits_X6_isRecoding (n := 1) rfl rfl rfl (by decide +kernel) ⟨Nat.le_of_ble_eq_true rfl, Nat.le_of_ble_eq_true rfl⟩ rfl (rest := [.ref m]) rfl (Nat.le_of_ble_eq_true rfl) [(m, .inr (6, [.int xth, .ref ys, .ref ya, .ref yt, .int xsm, .ref yn, .int xhs, .ref yx, .int xln, .int xat, .int xiw, .ref yr, .int xrm, .int xfb, .int xlr, .ref yd, .int xdm])), (ys, .inl (U.2.2.1 0, 16, .inl gs))] [] [0, 1] [0, 1] (wr := [(m, .inr (6, [.int xth, .ref ys, .ref ya, .ref yt, .int xsm, .ref yn, .int xhs, .ref yx, .int xln, .int xat, .int xiw, .ref yr, .int xrm, .int xfb, .int xlr, .ref yd, .int xdm])), (ys, .inl (U.2.2.1 0, 16, .inl gs))]) rfl rfl rfl rfl (by decide) rfl rfl  dX6_hasDigits_10 ⟨Nat.le_of_ble_eq_true rfl, Nat.le_of_ble_eq_true rfl⟩ [.int (b2i (isRec p2)), .ref m] rfl ?_
  refine J_if_ne_b C 20 dX6_hasDigits_13 (by decide) (fun _ => ?_) (fun h => absurd v_2 h)
  refine J_aload_n C dX6_hasDigits_20 rfl rfl ?_
  refine J_iload_n C dX6_hasDigits_21 rfl rfl ?_
  refine J_callV C (c_X6_isOdd U m ys ya yt yn yx yr yd xth xsm xhs xln xat xiw xrm xfb xlr xdm gs p2 ) gX6_hasDigits_X6_isOdd (n := 1) rfl rfl rfl (by decide +kernel) ⟨Nat.le_of_ble_eq_true rfl, Nat.le_of_ble_eq_true rfl⟩ 0 rfl rfl rfl (rest := [.ref m]) rfl (Nat.le_of_ble_eq_true rfl) [(m, .inr (6, [.int xth, .ref ys, .ref ya, .ref yt, .int xsm, .ref yn, .int xhs, .ref yx, .int xln, .int xat, .int xiw, .ref yr, .int xrm, .int xfb, .int xlr, .ref yd, .int xdm])), (ys, .inl (U.2.2.1 0, 16, .inl gs))] [0, 1] [] [0, 1] (wr := []) rfl rfl rfl rfl (by decide) rfl rfl  dX6_hasDigits_22 ⟨Nat.le_of_ble_eq_true rfl, Nat.le_of_ble_eq_true rfl⟩ [.int (b2i (p2 = 1 ∧ rem2 (gs 0) = 1)), .ref m] rfl ?_
  refine J_if_eq_b C 32 dX6_hasDigits_25 (by decide) (fun h => absurd h (fun hh => hh v_3)) (fun _ => ?_)
  refine J_iconst C (v := (3 : Int32)) dX6_hasDigits_28 (by decide) ?_
  refine J_goto C 33 dX6_hasDigits_29 (by decide) ?_
  refine J_put C tyX6 0 0 [(m, .inr (6, [.int (3 : Int32), .ref ys, .ref ya, .ref yt, .int xsm, .ref yn, .int xhs, .ref yx, .int xln, .int xat, .int xiw, .ref yr, .int xrm, .int xfb, .int xlr, .ref yd, .int xdm])), (ys, .inl (U.2.2.1 0, 16, .inl gs))] rfl rfl i_X6_hasDigits_X6 tyX6_ok nmX6 (by decide) k_X6_hasDigits_31 rfl rfl rfl rfl (Nat.le_of_ble_eq_true rfl) rfl dX6_hasDigits_33 ?_
  refine J_aload_n C dX6_hasDigits_36 rfl rfl ?_
  refine J_get C 0 0 rfl rfl i_X6_hasDigits_X6 (by decide) k_X6_hasDigits_31 rfl rfl dX6_hasDigits_37 ?_
  refine J_if_ne C 53 dX6_hasDigits_40 (by decide) (fun _ => ?_) (fun h => absurd h (by decide))
  refine J_aload_n C dX6_hasDigits_53 rfl rfl ?_
  refine J_get C 0 0 rfl rfl i_X6_hasDigits_X6 (by decide) k_X6_hasDigits_31 rfl rfl dX6_hasDigits_54 ?_
  refine J_if_ne C 64 dX6_hasDigits_57 (by decide) (fun _ => ?_) (fun h => absurd h (by decide))
  refine J_iconst C (v := (0 : Int32)) dX6_hasDigits_64 (by decide) ?_
  exact J_zret C R rfl dX6_hasDigits_65 (Nat.le_of_ble_eq_true rfl) (Nat.le_of_ble_eq_true rfl) rfl rfl
set_option maxHeartbeats 4000000 in
set_option maxRecDepth 100000 in
theorem c_X6_hasDigits_ok (U : jU) (m ys ya yt yn yx yr yd : Nat) (xth xsm xhs xln xat xiw xrm xfb xlr xdm : Int32) (gs : Nat → Int32) (gd : Nat → Int32) (D : Nat) (p0 p1 p2 : Int32) (v_1 : ¬ p0 = 0) (v_2 : isRec p2) (v_3 : ¬ (p2 = 1 ∧ rem2 (gs 0) = 1)) (hr : isReg p1) (hD : dcntF p2 (gs 0) = nI D) (hD9 : D ≤ 16) : Fn U yX6_hasDigits wsX6_hasDigits { frames := 2, cells := 0, slots := 0, locals := 47 } [.ref m, .int p0, .int p1, .int p2] [(m, .inr (6, [.int xth, .ref ys, .ref ya, .ref yt, .int xsm, .ref yn, .int xhs, .ref yx, .int xln, .int xat, .int xiw, .ref yr, .int xrm, .int xfb, .int xlr, .ref yd, .int xdm])), (ys, .inl (U.2.2.1 0, 16, .inl gs)), (yd, .inl (U.2.2.1 0, 17, .inl gd))] (some (.int (1 : Int32))) [(m, .inr (6, [.int (0 : Int32), .ref ys, .ref ya, .ref yt, .int xsm, .ref yn, .int xhs, .ref yx, .int xln, .int xat, .int xiw, .ref yr, .int xrm, .int xfb, .int xlr, .ref yd, .int (dcntF p2 (gs 0))])), (ys, .inl (U.2.2.1 0, 16, .inl gs)), (yd, .inl (U.2.2.1 0, 17, .inl (dgF (gs (1 + p1.toNatClampNeg)) p2 gd D)))] 0 0 := by
  refine Fn_of (cc := cX6_hasDigits) (maxL := 4) (ret := (some .boolean)) [some (.ref m), some (.int p0), some (.int p1), some (.int p2)] (by decide +kernel) rfl (jcat rfl) (Nat.le_of_ble_eq_true rfl) rfl (fun k C R hin hnL => ?_)
  have hN : ∀ i, i < 4 → i < k.2.2.2.2.2.2.2.2.2.2.2.1 := fun i h => by rw [hnL]; exact h
  refine J_aload_n C dX6_hasDigits_0 rfl rfl ?_
  refine J_iload_n C dX6_hasDigits_1 rfl rfl ?_
  refine J_if_ne C 9 dX6_hasDigits_2 (by decide) (fun _ => ?_) (fun h => absurd h v_1)
  refine J_iload_n C dX6_hasDigits_9 rfl rfl ?_
  refine J_callS C (c_X6_isRecoding U p2 ) gX6_hasDigits_X6_isRecoding (n := 1) rfl rfl rfl (by decide +kernel) ⟨Nat.le_of_ble_eq_true rfl, Nat.le_of_ble_eq_true rfl⟩ rfl (rest := [.ref m]) rfl (Nat.le_of_ble_eq_true rfl) [(m, .inr (6, [.int xth, .ref ys, .ref ya, .ref yt, .int xsm, .ref yn, .int xhs, .ref yx, .int xln, .int xat, .int xiw, .ref yr, .int xrm, .int xfb, .int xlr, .ref yd, .int xdm])), (ys, .inl (U.2.2.1 0, 16, .inl gs)), (yd, .inl (U.2.2.1 0, 17, .inl gd))] [] [0, 1, 2] [0, 1, 2] (wr := [(m, .inr (6, [.int xth, .ref ys, .ref ya, .ref yt, .int xsm, .ref yn, .int xhs, .ref yx, .int xln, .int xat, .int xiw, .ref yr, .int xrm, .int xfb, .int xlr, .ref yd, .int xdm])), (ys, .inl (U.2.2.1 0, 16, .inl gs)), (yd, .inl (U.2.2.1 0, 17, .inl gd))]) rfl rfl rfl rfl (by decide) rfl rfl  dX6_hasDigits_10 ⟨Nat.le_of_ble_eq_true rfl, Nat.le_of_ble_eq_true rfl⟩ [.int (b2i (isRec p2)), .ref m] rfl ?_
  refine J_if_ne_b C 20 dX6_hasDigits_13 (by decide) (fun _ => ?_) (fun h => absurd v_2 h)
  refine J_aload_n C dX6_hasDigits_20 rfl rfl ?_
  refine J_iload_n C dX6_hasDigits_21 rfl rfl ?_
  refine J_callV C (c_X6_isOdd U m ys ya yt yn yx yr yd xth xsm xhs xln xat xiw xrm xfb xlr xdm gs p2 ) gX6_hasDigits_X6_isOdd (n := 1) rfl rfl rfl (by decide +kernel) ⟨Nat.le_of_ble_eq_true rfl, Nat.le_of_ble_eq_true rfl⟩ 0 rfl rfl rfl (rest := [.ref m]) rfl (Nat.le_of_ble_eq_true rfl) [(m, .inr (6, [.int xth, .ref ys, .ref ya, .ref yt, .int xsm, .ref yn, .int xhs, .ref yx, .int xln, .int xat, .int xiw, .ref yr, .int xrm, .int xfb, .int xlr, .ref yd, .int xdm])), (ys, .inl (U.2.2.1 0, 16, .inl gs)), (yd, .inl (U.2.2.1 0, 17, .inl gd))] [0, 1] [2] [1, 2, 0] (wr := [(yd, .inl (U.2.2.1 0, 17, .inl gd))]) rfl rfl rfl rfl (by decide) rfl rfl  dX6_hasDigits_22 ⟨Nat.le_of_ble_eq_true rfl, Nat.le_of_ble_eq_true rfl⟩ [.int (b2i (p2 = 1 ∧ rem2 (gs 0) = 1)), .ref m] rfl ?_
  refine J_if_eq_b C 32 dX6_hasDigits_25 (by decide) (fun _ => ?_) (fun h => absurd h v_3)
  refine J_iconst C (v := (0 : Int32)) dX6_hasDigits_32 (by decide) ?_
  refine J_put C tyX6 0 0 [(m, .inr (6, [.int (0 : Int32), .ref ys, .ref ya, .ref yt, .int xsm, .ref yn, .int xhs, .ref yx, .int xln, .int xat, .int xiw, .ref yr, .int xrm, .int xfb, .int xlr, .ref yd, .int xdm])), (ys, .inl (U.2.2.1 0, 16, .inl gs)), (yd, .inl (U.2.2.1 0, 17, .inl gd))] rfl rfl i_X6_hasDigits_X6 tyX6_ok nmX6 (by decide) k_X6_hasDigits_31 rfl rfl rfl rfl (Nat.le_of_ble_eq_true rfl) rfl dX6_hasDigits_33 ?_
  refine J_aload_n C dX6_hasDigits_36 rfl rfl ?_
  refine J_get C 0 0 rfl rfl i_X6_hasDigits_X6 (by decide) k_X6_hasDigits_31 rfl rfl dX6_hasDigits_37 ?_
  refine J_if_ne C 53 dX6_hasDigits_40 (by decide) (fun h => absurd (by decide) h) (fun _ => ?_)
  refine J_aload_n C dX6_hasDigits_43 rfl rfl ?_
  refine J_aload_n C dX6_hasDigits_44 rfl rfl ?_
  refine J_iload_n C dX6_hasDigits_45 rfl rfl ?_
  refine J_callV C (c_X6_of U m ys ya yt yn yx yr yd (0 : Int32) xsm xhs xln xat xiw xrm xfb xlr xdm gs p1 hr) gX6_hasDigits_X6_of (n := 1) rfl rfl rfl (by decide +kernel) ⟨Nat.le_of_ble_eq_true rfl, Nat.le_of_ble_eq_true rfl⟩ 0 rfl rfl rfl (rest := [.ref m]) rfl (Nat.le_of_ble_eq_true rfl) [(m, .inr (6, [.int (0 : Int32), .ref ys, .ref ya, .ref yt, .int xsm, .ref yn, .int xhs, .ref yx, .int xln, .int xat, .int xiw, .ref yr, .int xrm, .int xfb, .int xlr, .ref yd, .int xdm])), (ys, .inl (U.2.2.1 0, 16, .inl gs)), (yd, .inl (U.2.2.1 0, 17, .inl gd))] [0, 1] [2] [1, 2, 0] (wr := [(yd, .inl (U.2.2.1 0, 17, .inl gd))]) rfl rfl rfl rfl (by decide) rfl rfl  dX6_hasDigits_46 ⟨Nat.le_of_ble_eq_true rfl, Nat.le_of_ble_eq_true rfl⟩ [.int (gs (1 + p1.toNatClampNeg)), .ref m] rfl ?_
  refine J_iload_n C dX6_hasDigits_49 rfl rfl ?_
  refine J_callV C (c_X6_tellsDigits U m ys ya yt yn yx yr yd (0 : Int32) xsm xhs xln xat xiw xrm xfb xlr xdm gs gd D (gs (1 + p1.toNatClampNeg)) p2 hD hD9 v_2) gX6_hasDigits_X6_tellsDigits (n := 2) rfl rfl rfl (by decide +kernel) ⟨Nat.le_of_ble_eq_true rfl, Nat.le_of_ble_eq_true rfl⟩ 0 rfl rfl rfl (rest := []) rfl (Nat.le_of_ble_eq_true rfl) [(m, .inr (6, [.int (0 : Int32), .ref ys, .ref ya, .ref yt, .int xsm, .ref yn, .int xhs, .ref yx, .int xln, .int xat, .int xiw, .ref yr, .int xrm, .int xfb, .int xlr, .ref yd, .int (dcntF p2 (gs 0))])), (ys, .inl (U.2.2.1 0, 16, .inl gs)), (yd, .inl (U.2.2.1 0, 17, .inl (dgF (gs (1 + p1.toNatClampNeg)) p2 gd D)))] [0, 1, 2] [] [0, 1, 2] (wr := []) rfl rfl rfl rfl (by decide) rfl rfl  dX6_hasDigits_50 ⟨Nat.le_of_ble_eq_true rfl, Nat.le_of_ble_eq_true rfl⟩ [] rfl ?_
  refine J_aload_n C dX6_hasDigits_53 rfl rfl ?_
  refine J_get C 0 0 rfl rfl i_X6_hasDigits_X6 (by decide) k_X6_hasDigits_31 rfl rfl dX6_hasDigits_54 ?_
  refine J_if_ne C 64 dX6_hasDigits_57 (by decide) (fun h => absurd (by decide) h) (fun _ => ?_)
  refine J_iconst C (v := (1 : Int32)) dX6_hasDigits_60 (by decide) ?_
  refine J_goto C 65 dX6_hasDigits_61 (by decide) ?_
  exact J_zret C R rfl dX6_hasDigits_65 (Nat.le_of_ble_eq_true rfl) (Nat.le_of_ble_eq_true rfl) rfl rfl
