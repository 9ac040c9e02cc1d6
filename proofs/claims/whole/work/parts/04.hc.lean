theorem k_X6_records_43 : Cond.fieldLink RX6 43 "BoothOttersModel" "stateMany" "I" ∈ wsX6_records := List.mem_of_getElem? (i := 1) rfl
theorem i_X6_records_X6 : ∀ w ∈ wsX60, w ∈ wsX6_records := fun _ h => List.mem_cons_of_mem _ (List.mem_append_right _ h)
theorem k_X6_records_16 : Cond.fieldLink RX6 16 "BoothOttersModel" "states" "[I" ∈ wsX6_records := List.mem_of_getElem? (i := 2) rfl
theorem k_X6_records_7 : Cond.fieldLink RX6 7 "BoothOttersModel" "s" "[I" ∈ wsX6_records := List.mem_of_getElem? (i := 3) rfl
set_option maxHeartbeats 4000000 in
set_option maxRecDepth 100000 in
theorem c_X6_records_lt (U : jU) (m ys ya yt yn yx yr yd : Nat) (xth xsm xhs xln xat xiw xrm xfb xlr xdm : Int32) (gs : Nat → Int32) (gt : Nat → Int32) (c : Nat) (hc : c < 4) (v_1 : ¬ nI c = 4) : Fn U yX6_records wsX6_records { frames := 0, cells := 0, slots := 0, locals := 0 } [.ref m] [(m, .inr (6, [.int xth, .ref ys, .ref ya, .ref yt, .int (nI c), .ref yn, .int xhs, .ref yx, .int xln, .int xat, .int xiw, .ref yr, .int xrm, .int xfb, .int xlr, .ref yd, .int xdm])), (ys, .inl (U.2.2.1 0, 16, .inl gs)), (yt, .inl (U.2.2.1 0, 64, .inl gt))] none [(m, .inr (6, [.int xth, .ref ys, .ref ya, .ref yt, .int (nI (c + 1)), .ref yn, .int xhs, .ref yx, .int xln, .int xat, .int xiw, .ref yr, .int xrm, .int xfb, .int xlr, .ref yd, .int xdm])), (ys, .inl (U.2.2.1 0, 16, .inl gs)), (yt, .inl (U.2.2.1 0, 64, .inl (cpF gs gt (16 * c) 16)))] 0 0 := by
  refine Fn_of (cc := cX6_records) (maxL := 2) (ret := none) [some (.ref m), none] (by decide +kernel) rfl (jcat rfl) (Nat.le_of_ble_eq_true rfl) rfl (fun k C R hin hnL => ?_)
  have hN : ∀ i, i < 2 → i < k.2.2.2.2.2.2.2.2.2.2.2.1 := fun i h => by rw [hnL]; exact h
  refine J_aload_n C dX6_records_0 rfl rfl ?_
  refine J_get C 0 4 rfl rfl i_X6_records_X6 (by decide) k_X6_records_43 rfl rfl dX6_records_1 ?_
  refine J_iconst C (v := (4 : Int32)) dX6_records_4 (by decide) ?_
  refine J_icmp_ne C 47 dX6_records_5 (by decide) (fun _ => ?_) (fun h => absurd h v_1)
  refine J_iconst C (v := (0 : Int32)) dX6_records_47 (by decide) ?_
  refine J_istore_n C [some (.ref m), some (.int (0 : Int32))] dX6_records_48 rfl (hN 1 (by decide)) rfl ?_
  refine J_arr (cpF gs gt (16 * c) 0) 2 [(m, .inr (6, [.int xth, .ref ys, .ref ya, .ref yt, .int (nI c), .ref yn, .int xhs, .ref yx, .int xln, .int xat, .int xiw, .ref yr, .int xrm, .int xfb, .int xlr, .ref yd, .int xdm])), (ys, .inl (U.2.2.1 0, 16, .inl gs)), (yt, .inl (U.2.2.1 0, 64, .inl (cpF gs gt (16 * c) 0)))] rfl (fun j9 _ => congrFun (cp_0 gs gt (16 * c)) j9) rfl ?_
  have loop_49 : ∀ (n_f : Nat) (i : Nat), 16 < i + n_f → i ≤ 16 → J U k 0 0 [(m, .inr (6, [.int xth, .ref ys, .ref ya, .ref yt, .int (nI c), .ref yn, .int xhs, .ref yx, .int xln, .int xat, .int xiw, .ref yr, .int xrm, .int xfb, .int xlr, .ref yd, .int xdm])), (ys, .inl (U.2.2.1 0, 16, .inl gs)), (yt, .inl (U.2.2.1 0, 64, .inl (cpF gs gt (16 * c) i)))] [some (.ref m), some (.int (nI i))] 49 [] := by
    intro n_f
    induction n_f with
    | zero =>
      intro i hfuel hin_i
      exact absurd hfuel (by omega)
    | succ n_f ih_49 =>
      intro i hfuel hin_i
      refine J_iload_n C dX6_records_49 rfl rfl ?_
      refine J_bipush C (v := (16 : Int32)) dX6_records_50 (by decide) ?_
      refine J_icmp_ge C 81 dX6_records_52 (by decide) (fun c_52_1 => ?_) (fun c_52_1 => ?_)
      · have hx_i : i = 16 := nI_exit (n := 16) (by omega) (by omega) c_52_1
        subst hx_i
        refine J_aload_n C dX6_records_81 rfl rfl ?_
        refine J_dup C dX6_records_82 rfl ?_
        refine J_get C 0 4 rfl rfl i_X6_records_X6 (by decide) k_X6_records_43 rfl rfl dX6_records_83 ?_
        refine J_iconst C (v := (1 : Int32)) dX6_records_86 (by decide) ?_
        refine J_iadd C (v := nI (c + 1)) dX6_records_87 (nI_add c 1) ?_
        refine J_put C tyX6 0 4 [(m, .inr (6, [.int xth, .ref ys, .ref ya, .ref yt, .int (nI (c + 1)), .ref yn, .int xhs, .ref yx, .int xln, .int xat, .int xiw, .ref yr, .int xrm, .int xfb, .int xlr, .ref yd, .int xdm])), (ys, .inl (U.2.2.1 0, 16, .inl gs)), (yt, .inl (U.2.2.1 0, 64, .inl (cpF gs gt (16 * c) 16)))] rfl rfl i_X6_records_X6 tyX6_ok nmX6 (by decide) k_X6_records_43 rfl rfl rfl rfl (Nat.le_of_ble_eq_true rfl) rfl dX6_records_88 ?_
        exact J_vret C R dX6_records_91 (Nat.le_of_ble_eq_true rfl) (Nat.le_of_ble_eq_true rfl) rfl rfl
      · have hlt_i : i < 16 := nI_ngeN (n := 16) (by omega) (by omega) c_52_1
        refine J_aload_n C dX6_records_55 rfl rfl ?_
        refine J_get C 0 3 rfl rfl i_X6_records_X6 (by decide) k_X6_records_16 rfl rfl dX6_records_56 ?_
        refine J_bipush C (v := (16 : Int32)) dX6_records_59 (by decide) ?_
        refine J_aload_n C dX6_records_61 rfl rfl ?_
        refine J_get C 0 4 rfl rfl i_X6_records_X6 (by decide) k_X6_records_43 rfl rfl dX6_records_62 ?_
        refine J_imul C (v := nI (16 * c)) dX6_records_65 (pk_mul 16 c) ?_
        refine J_iload_n C dX6_records_66 rfl rfl ?_
        refine J_iadd C (v := nI ((16 * c) + i)) dX6_records_67 (nI_add (16 * c) i) ?_
        refine J_aload_n C dX6_records_68 rfl rfl ?_
        refine J_get C 0 1 rfl rfl i_X6_records_X6 (by decide) k_X6_records_7 rfl rfl dX6_records_69 ?_
        refine J_iload_n C dX6_records_72 rfl rfl ?_
        refine J_iald C 1 rfl (vp_in_nI (n := i) (by omega) (by decide)) (congrArg gs (nI_clamp (n := i) (by omega))) dX6_records_73 ?_
        refine J_iast C 2 [(m, .inr (6, [.int xth, .ref ys, .ref ya, .ref yt, .int (nI c), .ref yn, .int xhs, .ref yx, .int xln, .int xat, .int xiw, .ref yr, .int xrm, .int xfb, .int xlr, .ref yd, .int xdm])), (ys, .inl (U.2.2.1 0, 16, .inl gs)), (yt, .inl (U.2.2.1 0, 64, .inl (upd (cpF gs gt (16 * c) i) ((16 * c) + i) (gs i))))] rfl (vp_in_nI (n := (16 * c) + i) (by omega) (by decide)) (by rw [(nI_clamp (n := (16 * c) + i) (by omega))]; rfl) dX6_records_74 ?_
        refine J_iinc C (v := nI (i + 1)) [some (.ref m), some (.int (nI (i + 1)))] dX6_records_75 rfl (nI_o1 i) (hN 1 (by decide)) rfl ?_
        refine J_goto C 49 dX6_records_78 (by decide) ?_
        refine J_arr (cpF gs gt (16 * c) (i + 1)) 2 [(m, .inr (6, [.int xth, .ref ys, .ref ya, .ref yt, .int (nI c), .ref yn, .int xhs, .ref yx, .int xln, .int xat, .int xiw, .ref yr, .int xrm, .int xfb, .int xlr, .ref yd, .int xdm])), (ys, .inl (U.2.2.1 0, 16, .inl gs)), (yt, .inl (U.2.2.1 0, 64, .inl (cpF gs gt (16 * c) (i + 1))))] rfl (fun j9 _ => (congrFun (cp_s gs gt (16 * c) i) j9).symm) rfl ?_
        exact ih_49 (i + 1) (by omega) (by omega)
  exact loop_49 17 0 (by omega) (by omega)
set_option maxHeartbeats 4000000 in
set_option maxRecDepth 100000 in
theorem c_X6_records_full (U : jU) (m ys ya yt yn yx yr yd : Nat) (xth xsm xhs xln xat xiw xrm xfb xlr xdm : Int32) (gs : Nat → Int32) (gt : Nat → Int32)  : Fn U yX6_records wsX6_records { frames := 0, cells := 0, slots := 0, locals := 0 } [.ref m] [(m, .inr (6, [.int xth, .ref ys, .ref ya, .ref yt, .int (4 : Int32), .ref yn, .int xhs, .ref yx, .int xln, .int xat, .int xiw, .ref yr, .int xrm, .int xfb, .int xlr, .ref yd, .int xdm])), (ys, .inl (U.2.2.1 0, 16, .inl gs)), (yt, .inl (U.2.2.1 0, 64, .inl gt))] none [(m, .inr (6, [.int xth, .ref ys, .ref ya, .ref yt, .int (4 : Int32), .ref yn, .int xhs, .ref yx, .int xln, .int xat, .int xiw, .ref yr, .int xrm, .int xfb, .int xlr, .ref yd, .int xdm])), (ys, .inl (U.2.2.1 0, 16, .inl gs)), (yt, .inl (U.2.2.1 0, 64, .inl (cpF gs (shF gt 48) 48 16)))] 0 0 := by
  refine Fn_of (cc := cX6_records) (maxL := 2) (ret := none) [some (.ref m), none] (by decide +kernel) rfl (jcat rfl) (Nat.le_of_ble_eq_true rfl) rfl (fun k C R hin hnL => ?_)
  have hN : ∀ i, i < 2 → i < k.2.2.2.2.2.2.2.2.2.2.2.1 := fun i h => by rw [hnL]; exact h
  refine J_aload_n C dX6_records_0 rfl rfl ?_
  refine J_get C 0 4 rfl rfl i_X6_records_X6 (by decide) k_X6_records_43 rfl rfl dX6_records_1 ?_
  refine J_iconst C (v := (4 : Int32)) dX6_records_4 (by decide) ?_
  refine J_icmp_ne C 47 dX6_records_5 (by decide) (fun h => absurd (by decide) h) (fun _ => ?_)
  refine J_iconst C (v := (0 : Int32)) dX6_records_8 (by decide) ?_
  refine J_istore_n C [some (.ref m), some (.int (0 : Int32))] dX6_records_9 rfl (hN 1 (by decide)) rfl ?_
  have loop_10 : ∀ (n_f : Nat) (i : Nat), 48 < i + n_f → i ≤ 48 → J U k 0 0 [(m, .inr (6, [.int xth, .ref ys, .ref ya, .ref yt, .int (4 : Int32), .ref yn, .int xhs, .ref yx, .int xln, .int xat, .int xiw, .ref yr, .int xrm, .int xfb, .int xlr, .ref yd, .int xdm])), (ys, .inl (U.2.2.1 0, 16, .inl gs)), (yt, .inl (U.2.2.1 0, 64, .inl (shF gt i)))] [some (.ref m), some (.int (nI i))] 10 [] := by
    intro n_f
    induction n_f with
    | zero =>
      intro i hfuel hin_i
      exact absurd hfuel (by omega)
    | succ n_f ih_10 =>
      intro i hfuel hin_i
      refine J_iload_n C dX6_records_10 rfl rfl ?_
      refine J_bipush C (v := (48 : Int32)) dX6_records_11 (by decide) ?_
      refine J_icmp_ge C 37 dX6_records_13 (by decide) (fun c_13_1 => ?_) (fun c_13_1 => ?_)
      · have hx_i : i = 48 := nI_exit (n := 48) (by omega) (by omega) c_13_1
        subst hx_i
        refine J_aload_n C dX6_records_37 rfl rfl ?_
        refine J_dup C dX6_records_38 rfl ?_
        refine J_get C 0 4 rfl rfl i_X6_records_X6 (by decide) k_X6_records_43 rfl rfl dX6_records_39 ?_
        refine J_iconst C (v := (1 : Int32)) dX6_records_42 (by decide) ?_
        refine J_isub C (v := (3 : Int32)) dX6_records_43 (by decide) ?_
        refine J_put C tyX6 0 4 [(m, .inr (6, [.int xth, .ref ys, .ref ya, .ref yt, .int (3 : Int32), .ref yn, .int xhs, .ref yx, .int xln, .int xat, .int xiw, .ref yr, .int xrm, .int xfb, .int xlr, .ref yd, .int xdm])), (ys, .inl (U.2.2.1 0, 16, .inl gs)), (yt, .inl (U.2.2.1 0, 64, .inl (shF gt 48)))] rfl rfl i_X6_records_X6 tyX6_ok nmX6 (by decide) k_X6_records_43 rfl rfl rfl rfl (Nat.le_of_ble_eq_true rfl) rfl dX6_records_44 ?_
        refine J_iconst C (v := (0 : Int32)) dX6_records_47 (by decide) ?_
        refine J_istore_n C [some (.ref m), some (.int (0 : Int32))] dX6_records_48 rfl (hN 1 (by decide)) rfl ?_
        refine J_arr (cpF gs (shF gt 48) 48 0) 2 [(m, .inr (6, [.int xth, .ref ys, .ref ya, .ref yt, .int (3 : Int32), .ref yn, .int xhs, .ref yx, .int xln, .int xat, .int xiw, .ref yr, .int xrm, .int xfb, .int xlr, .ref yd, .int xdm])), (ys, .inl (U.2.2.1 0, 16, .inl gs)), (yt, .inl (U.2.2.1 0, 64, .inl (cpF gs (shF gt 48) 48 0)))] rfl (fun j9 _ => congrFun (cp_0 gs (shF gt 48) 48) j9) rfl ?_
        have loop_49 : ∀ (n_f : Nat) (j : Nat), 16 < j + n_f → j ≤ 16 → J U k 0 0 [(m, .inr (6, [.int xth, .ref ys, .ref ya, .ref yt, .int (3 : Int32), .ref yn, .int xhs, .ref yx, .int xln, .int xat, .int xiw, .ref yr, .int xrm, .int xfb, .int xlr, .ref yd, .int xdm])), (ys, .inl (U.2.2.1 0, 16, .inl gs)), (yt, .inl (U.2.2.1 0, 64, .inl (cpF gs (shF gt 48) 48 j)))] [some (.ref m), some (.int (nI j))] 49 [] := by
          intro n_f
          induction n_f with
          | zero =>
            intro j hfuel hin_j
            exact absurd hfuel (by omega)
          | succ n_f ih_49 =>
            intro j hfuel hin_j
            refine J_iload_n C dX6_records_49 rfl rfl ?_
            refine J_bipush C (v := (16 : Int32)) dX6_records_50 (by decide) ?_
            refine J_icmp_ge C 81 dX6_records_52 (by decide) (fun c_52_2 => ?_) (fun c_52_2 => ?_)
            · have hx_j : j = 16 := nI_exit (n := 16) (by omega) (by omega) c_52_2
              subst hx_j
              refine J_aload_n C dX6_records_81 rfl rfl ?_
              refine J_dup C dX6_records_82 rfl ?_
              refine J_get C 0 4 rfl rfl i_X6_records_X6 (by decide) k_X6_records_43 rfl rfl dX6_records_83 ?_
              refine J_iconst C (v := (1 : Int32)) dX6_records_86 (by decide) ?_
              refine J_iadd C (v := (4 : Int32)) dX6_records_87 (by decide) ?_
              refine J_put C tyX6 0 4 [(m, .inr (6, [.int xth, .ref ys, .ref ya, .ref yt, .int (4 : Int32), .ref yn, .int xhs, .ref yx, .int xln, .int xat, .int xiw, .ref yr, .int xrm, .int xfb, .int xlr, .ref yd, .int xdm])), (ys, .inl (U.2.2.1 0, 16, .inl gs)), (yt, .inl (U.2.2.1 0, 64, .inl (cpF gs (shF gt 48) 48 16)))] rfl rfl i_X6_records_X6 tyX6_ok nmX6 (by decide) k_X6_records_43 rfl rfl rfl rfl (Nat.le_of_ble_eq_true rfl) rfl dX6_records_88 ?_
              exact J_vret C R dX6_records_91 (Nat.le_of_ble_eq_true rfl) (Nat.le_of_ble_eq_true rfl) rfl rfl
            · have hlt_j : j < 16 := nI_ngeN (n := 16) (by omega) (by omega) c_52_2
              refine J_aload_n C dX6_records_55 rfl rfl ?_
              refine J_get C 0 3 rfl rfl i_X6_records_X6 (by decide) k_X6_records_16 rfl rfl dX6_records_56 ?_
              refine J_bipush C (v := (16 : Int32)) dX6_records_59 (by decide) ?_
              refine J_aload_n C dX6_records_61 rfl rfl ?_
              refine J_get C 0 4 rfl rfl i_X6_records_X6 (by decide) k_X6_records_43 rfl rfl dX6_records_62 ?_
              refine J_imul C (v := (48 : Int32)) dX6_records_65 (by decide) ?_
              refine J_iload_n C dX6_records_66 rfl rfl ?_
              refine J_iadd C (v := nI (48 + j)) dX6_records_67 (nI_add 48 j) ?_
              refine J_aload_n C dX6_records_68 rfl rfl ?_
              refine J_get C 0 1 rfl rfl i_X6_records_X6 (by decide) k_X6_records_7 rfl rfl dX6_records_69 ?_
              refine J_iload_n C dX6_records_72 rfl rfl ?_
              refine J_iald C 1 rfl (vp_in_nI (n := j) (by omega) (by decide)) (congrArg gs (nI_clamp (n := j) (by omega))) dX6_records_73 ?_
              refine J_iast C 2 [(m, .inr (6, [.int xth, .ref ys, .ref ya, .ref yt, .int (3 : Int32), .ref yn, .int xhs, .ref yx, .int xln, .int xat, .int xiw, .ref yr, .int xrm, .int xfb, .int xlr, .ref yd, .int xdm])), (ys, .inl (U.2.2.1 0, 16, .inl gs)), (yt, .inl (U.2.2.1 0, 64, .inl (upd (cpF gs (shF gt 48) 48 j) (48 + j) (gs j))))] rfl (vp_in_nI (n := 48 + j) (by omega) (by decide)) (by rw [(nI_clamp (n := 48 + j) (by omega))]; rfl) dX6_records_74 ?_
              refine J_iinc C (v := nI (j + 1)) [some (.ref m), some (.int (nI (j + 1)))] dX6_records_75 rfl (nI_o1 j) (hN 1 (by decide)) rfl ?_
              refine J_goto C 49 dX6_records_78 (by decide) ?_
              refine J_arr (cpF gs (shF gt 48) 48 (j + 1)) 2 [(m, .inr (6, [.int xth, .ref ys, .ref ya, .ref yt, .int (3 : Int32), .ref yn, .int xhs, .ref yx, .int xln, .int xat, .int xiw, .ref yr, .int xrm, .int xfb, .int xlr, .ref yd, .int xdm])), (ys, .inl (U.2.2.1 0, 16, .inl gs)), (yt, .inl (U.2.2.1 0, 64, .inl (cpF gs (shF gt 48) 48 (j + 1))))] rfl (fun j9 _ => (congrFun (cp_s gs (shF gt 48) 48 j) j9).symm) rfl ?_
              exact ih_49 (j + 1) (by omega) (by omega)
        exact loop_49 17 0 (by omega) (by omega)
      · have hlt_i : i < 48 := nI_ngeN (n := 48) (by omega) (by omega) c_13_1
        refine J_aload_n C dX6_records_16 rfl rfl ?_
        refine J_get C 0 3 rfl rfl i_X6_records_X6 (by decide) k_X6_records_16 rfl rfl dX6_records_17 ?_
        refine J_iload_n C dX6_records_20 rfl rfl ?_
        refine J_aload_n C dX6_records_21 rfl rfl ?_
        refine J_get C 0 3 rfl rfl i_X6_records_X6 (by decide) k_X6_records_16 rfl rfl dX6_records_22 ?_
        refine J_iload_n C dX6_records_25 rfl rfl ?_
        refine J_bipush C (v := (16 : Int32)) dX6_records_26 (by decide) ?_
        refine J_iadd C (v := nI (i + 16)) dX6_records_28 (nI_add i 16) ?_
        refine J_iald C 2 rfl (vp_in_nI (n := i + 16) (by omega) (by decide)) (congrArg (shF gt i) (nI_clamp (n := i + 16) (by omega))) dX6_records_29 ?_
        refine J_iast C 2 [(m, .inr (6, [.int xth, .ref ys, .ref ya, .ref yt, .int (4 : Int32), .ref yn, .int xhs, .ref yx, .int xln, .int xat, .int xiw, .ref yr, .int xrm, .int xfb, .int xlr, .ref yd, .int xdm])), (ys, .inl (U.2.2.1 0, 16, .inl gs)), (yt, .inl (U.2.2.1 0, 64, .inl (upd (shF gt i) i ((shF gt i) (i + 16)))))] rfl (vp_in_nI (n := i) (by omega) (by decide)) (by rw [(nI_clamp (n := i) (by omega))]; rfl) dX6_records_30 ?_
        refine J_iinc C (v := nI (i + 1)) [some (.ref m), some (.int (nI (i + 1)))] dX6_records_31 rfl (nI_o1 i) (hN 1 (by decide)) rfl ?_
        refine J_goto C 10 dX6_records_34 (by decide) ?_
        refine J_arr (shF gt (i + 1)) 2 [(m, .inr (6, [.int xth, .ref ys, .ref ya, .ref yt, .int (4 : Int32), .ref yn, .int xhs, .ref yx, .int xln, .int xat, .int xiw, .ref yr, .int xrm, .int xfb, .int xlr, .ref yd, .int xdm])), (ys, .inl (U.2.2.1 0, 16, .inl gs)), (yt, .inl (U.2.2.1 0, 64, .inl (shF gt (i + 1))))] rfl (fun j _ => (congrFun (sh_s gt i) j).symm) rfl ?_
        exact ih_10 (i + 1) (by omega) (by omega)
  exact loop_10 49 0 (by omega) (by omega)
set_option maxHeartbeats 4000000 in
set_option maxRecDepth 100000 in
theorem c_X6_records (U : jU) (m ys ya yt yn yx yr yd : Nat) (xth xsm xhs xln xat xiw xrm xfb xlr xdm : Int32) (gs : Nat → Int32) (gt : Nat → Int32) (c : Nat) (hc : c ≤ 4) : Fn U yX6_records wsX6_records { frames := 0, cells := 0, slots := 0, locals := 0 } [.ref m] [(m, .inr (6, [.int xth, .ref ys, .ref ya, .ref yt, .int (nI c), .ref yn, .int xhs, .ref yx, .int xln, .int xat, .int xiw, .ref yr, .int xrm, .int xfb, .int xlr, .ref yd, .int xdm])), (ys, .inl (U.2.2.1 0, 16, .inl gs)), (yt, .inl (U.2.2.1 0, 64, .inl gt))] none [(m, .inr (6, [.int xth, .ref ys, .ref ya, .ref yt, .int (nI (min (c + 1) 4)), .ref yn, .int xhs, .ref yx, .int xln, .int xat, .int xiw, .ref yr, .int xrm, .int xfb, .int xlr, .ref yd, .int xdm])), (ys, .inl (U.2.2.1 0, 16, .inl gs)), (yt, .inl (U.2.2.1 0, 64, .inl (recF gs gt c)))] 0 0 := by
  rcases (show c = 0 ∨ c = 1 ∨ c = 2 ∨ c = 3 ∨ c = 4 by omega) with rfl | rfl | rfl | rfl | rfl
  · exact c_X6_records_lt U m ys ya yt yn yx yr yd xth xsm xhs xln xat xiw xrm xfb xlr xdm gs gt 0 (by omega) (by decide)
  · exact c_X6_records_lt U m ys ya yt yn yx yr yd xth xsm xhs xln xat xiw xrm xfb xlr xdm gs gt 1 (by omega) (by decide)
  · exact c_X6_records_lt U m ys ya yt yn yx yr yd xth xsm xhs xln xat xiw xrm xfb xlr xdm gs gt 2 (by omega) (by decide)
  · exact c_X6_records_lt U m ys ya yt yn yx yr yd xth xsm xhs xln xat xiw xrm xfb xlr xdm gs gt 3 (by omega) (by decide)
  · exact c_X6_records_full U m ys ya yt yn yx yr yd xth xsm xhs xln xat xiw xrm xfb xlr xdm gs gt
theorem k_X6_putAside_13 : Cond.fieldLink RX6 13 "BoothOttersModel" "aside" "[I" ∈ wsX6_putAside := List.mem_of_getElem? (i := 1) rfl
theorem i_X6_putAside_X6 : ∀ w ∈ wsX60, w ∈ wsX6_putAside := fun _ h => List.mem_cons_of_mem _ (List.mem_append_right _ h)
theorem k_X6_putAside_7 : Cond.fieldLink RX6 7 "BoothOttersModel" "s" "[I" ∈ wsX6_putAside := List.mem_of_getElem? (i := 2) rfl
set_option maxHeartbeats 4000000 in
set_option maxRecDepth 100000 in
theorem c_X6_putAside (U : jU) (m ys ya yt yn yx yr yd : Nat) (xth xsm xhs xln xat xiw xrm xfb xlr xdm : Int32) (gs : Nat → Int32) (ga : Nat → Int32)  : Fn U yX6_putAside wsX6_putAside { frames := 0, cells := 0, slots := 0, locals := 0 } [.ref m] [(m, .inr (6, [.int xth, .ref ys, .ref ya, .ref yt, .int xsm, .ref yn, .int xhs, .ref yx, .int xln, .int xat, .int xiw, .ref yr, .int xrm, .int xfb, .int xlr, .ref yd, .int xdm])), (ys, .inl (U.2.2.1 0, 16, .inl gs)), (ya, .inl (U.2.2.1 0, 16, .inl ga))] none [(m, .inr (6, [.int xth, .ref ys, .ref ya, .ref yt, .int xsm, .ref yn, .int xhs, .ref yx, .int xln, .int xat, .int xiw, .ref yr, .int xrm, .int xfb, .int xlr, .ref yd, .int xdm])), (ys, .inl (U.2.2.1 0, 16, .inl gs)), (ya, .inl (U.2.2.1 0, 16, .inl gs))] 0 0 := by
  refine Fn_of (cc := cX6_putAside) (maxL := 2) (ret := none) [some (.ref m), none] (by decide +kernel) rfl (jcat rfl) (Nat.le_of_ble_eq_true rfl) rfl (fun k C R hin hnL => ?_)
  have hN : ∀ i, i < 2 → i < k.2.2.2.2.2.2.2.2.2.2.2.1 := fun i h => by rw [hnL]; exact h
  refine J_iconst C (v := (0 : Int32)) dX6_putAside_0 (by decide) ?_
  refine J_istore_n C [some (.ref m), some (.int (0 : Int32))] dX6_putAside_1 rfl (hN 1 (by decide)) rfl ?_
  refine J_arr (cpF gs ga 0 0) 2 [(m, .inr (6, [.int xth, .ref ys, .ref ya, .ref yt, .int xsm, .ref yn, .int xhs, .ref yx, .int xln, .int xat, .int xiw, .ref yr, .int xrm, .int xfb, .int xlr, .ref yd, .int xdm])), (ys, .inl (U.2.2.1 0, 16, .inl gs)), (ya, .inl (U.2.2.1 0, 16, .inl (cpF gs ga 0 0)))] rfl (fun j9 _ => congrFun (cp_0 gs ga 0) j9) rfl ?_
  have loop_2 : ∀ (n_f : Nat) (i : Nat), 16 < i + n_f → i ≤ 16 → J U k 0 0 [(m, .inr (6, [.int xth, .ref ys, .ref ya, .ref yt, .int xsm, .ref yn, .int xhs, .ref yx, .int xln, .int xat, .int xiw, .ref yr, .int xrm, .int xfb, .int xlr, .ref yd, .int xdm])), (ys, .inl (U.2.2.1 0, 16, .inl gs)), (ya, .inl (U.2.2.1 0, 16, .inl (cpF gs ga 0 i)))] [some (.ref m), some (.int (nI i))] 2 [] := by
    intro n_f
    induction n_f with
    | zero =>
      intro i hfuel hin_i
      exact absurd hfuel (by omega)
    | succ n_f ih_2 =>
      intro i hfuel hin_i
      refine J_iload_n C dX6_putAside_2 rfl rfl ?_
      refine J_bipush C (v := (16 : Int32)) dX6_putAside_3 (by decide) ?_
      refine J_icmp_ge C 26 dX6_putAside_5 (by decide) (fun c_5_1 => ?_) (fun c_5_1 => ?_)
      · have hx_i : i = 16 := nI_exit (n := 16) (by omega) (by omega) c_5_1
        subst hx_i
        refine J_arr gs 2 [(m, .inr (6, [.int xth, .ref ys, .ref ya, .ref yt, .int xsm, .ref yn, .int xhs, .ref yx, .int xln, .int xat, .int xiw, .ref yr, .int xrm, .int xfb, .int xlr, .ref yd, .int xdm])), (ys, .inl (U.2.2.1 0, 16, .inl gs)), (ya, .inl (U.2.2.1 0, 16, .inl gs))] rfl (fun j hj => cp_f (gs) _ 16 j hj) rfl ?_
        exact J_vret C R dX6_putAside_26 (Nat.le_of_ble_eq_true rfl) (Nat.le_of_ble_eq_true rfl) rfl rfl
      · have hlt_i : i < 16 := nI_ngeN (n := 16) (by omega) (by omega) c_5_1
        refine J_aload_n C dX6_putAside_8 rfl rfl ?_
        refine J_get C 0 2 rfl rfl i_X6_putAside_X6 (by decide) k_X6_putAside_13 rfl rfl dX6_putAside_9 ?_
        refine J_iload_n C dX6_putAside_12 rfl rfl ?_
        refine J_aload_n C dX6_putAside_13 rfl rfl ?_
        refine J_get C 0 1 rfl rfl i_X6_putAside_X6 (by decide) k_X6_putAside_7 rfl rfl dX6_putAside_14 ?_
        refine J_iload_n C dX6_putAside_17 rfl rfl ?_
        refine J_iald C 1 rfl (vp_in_nI (n := i) (by omega) (by decide)) (congrArg gs (nI_clamp (n := i) (by omega))) dX6_putAside_18 ?_
        refine J_iast C 2 [(m, .inr (6, [.int xth, .ref ys, .ref ya, .ref yt, .int xsm, .ref yn, .int xhs, .ref yx, .int xln, .int xat, .int xiw, .ref yr, .int xrm, .int xfb, .int xlr, .ref yd, .int xdm])), (ys, .inl (U.2.2.1 0, 16, .inl gs)), (ya, .inl (U.2.2.1 0, 16, .inl (upd (cpF gs ga 0 i) i (gs i))))] rfl (vp_in_nI (n := i) (by omega) (by decide)) (by rw [(nI_clamp (n := i) (by omega))]; rfl) dX6_putAside_19 ?_
        refine J_iinc C (v := nI (i + 1)) [some (.ref m), some (.int (nI (i + 1)))] dX6_putAside_20 rfl (nI_o1 i) (hN 1 (by decide)) rfl ?_
        refine J_goto C 2 dX6_putAside_23 (by decide) ?_
        refine J_arr (cpF gs ga 0 (i + 1)) 2 [(m, .inr (6, [.int xth, .ref ys, .ref ya, .ref yt, .int xsm, .ref yn, .int xhs, .ref yx, .int xln, .int xat, .int xiw, .ref yr, .int xrm, .int xfb, .int xlr, .ref yd, .int xdm])), (ys, .inl (U.2.2.1 0, 16, .inl gs)), (ya, .inl (U.2.2.1 0, 16, .inl (cpF gs ga 0 (i + 1))))] rfl (fun j9 _ => (congrFun (cp_s0 gs ga i) j9).symm) rfl ?_
        exact ih_2 (i + 1) (by omega) (by omega)
  exact loop_2 17 0 (by omega) (by omega)
theorem k_X6_takeBack_7 : Cond.fieldLink RX6 7 "BoothOttersModel" "s" "[I" ∈ wsX6_takeBack := List.mem_of_getElem? (i := 1) rfl
theorem i_X6_takeBack_X6 : ∀ w ∈ wsX60, w ∈ wsX6_takeBack := fun _ h => List.mem_cons_of_mem _ (List.mem_append_right _ h)
theorem k_X6_takeBack_13 : Cond.fieldLink RX6 13 "BoothOttersModel" "aside" "[I" ∈ wsX6_takeBack := List.mem_of_getElem? (i := 2) rfl
set_option maxHeartbeats 4000000 in
set_option maxRecDepth 100000 in
theorem c_X6_takeBack (U : jU) (m ys ya yt yn yx yr yd : Nat) (xth xsm xhs xln xat xiw xrm xfb xlr xdm : Int32) (gs : Nat → Int32) (ga : Nat → Int32)  : Fn U yX6_takeBack wsX6_takeBack { frames := 0, cells := 0, slots := 0, locals := 0 } [.ref m] [(m, .inr (6, [.int xth, .ref ys, .ref ya, .ref yt, .int xsm, .ref yn, .int xhs, .ref yx, .int xln, .int xat, .int xiw, .ref yr, .int xrm, .int xfb, .int xlr, .ref yd, .int xdm])), (ys, .inl (U.2.2.1 0, 16, .inl gs)), (ya, .inl (U.2.2.1 0, 16, .inl ga))] none [(m, .inr (6, [.int xth, .ref ys, .ref ya, .ref yt, .int xsm, .ref yn, .int xhs, .ref yx, .int xln, .int xat, .int xiw, .ref yr, .int xrm, .int xfb, .int xlr, .ref yd, .int xdm])), (ys, .inl (U.2.2.1 0, 16, .inl ga)), (ya, .inl (U.2.2.1 0, 16, .inl ga))] 0 0 := by
  refine Fn_of (cc := cX6_takeBack) (maxL := 2) (ret := none) [some (.ref m), none] (by decide +kernel) rfl (jcat rfl) (Nat.le_of_ble_eq_true rfl) rfl (fun k C R hin hnL => ?_)
  have hN : ∀ i, i < 2 → i < k.2.2.2.2.2.2.2.2.2.2.2.1 := fun i h => by rw [hnL]; exact h
  refine J_iconst C (v := (0 : Int32)) dX6_takeBack_0 (by decide) ?_
  refine J_istore_n C [some (.ref m), some (.int (0 : Int32))] dX6_takeBack_1 rfl (hN 1 (by decide)) rfl ?_
  refine J_arr (cpF ga gs 0 0) 1 [(m, .inr (6, [.int xth, .ref ys, .ref ya, .ref yt, .int xsm, .ref yn, .int xhs, .ref yx, .int xln, .int xat, .int xiw, .ref yr, .int xrm, .int xfb, .int xlr, .ref yd, .int xdm])), (ys, .inl (U.2.2.1 0, 16, .inl (cpF ga gs 0 0))), (ya, .inl (U.2.2.1 0, 16, .inl ga))] rfl (fun j9 _ => congrFun (cp_0 ga gs 0) j9) rfl ?_
  have loop_2 : ∀ (n_f : Nat) (i : Nat), 16 < i + n_f → i ≤ 16 → J U k 0 0 [(m, .inr (6, [.int xth, .ref ys, .ref ya, .ref yt, .int xsm, .ref yn, .int xhs, .ref yx, .int xln, .int xat, .int xiw, .ref yr, .int xrm, .int xfb, .int xlr, .ref yd, .int xdm])), (ys, .inl (U.2.2.1 0, 16, .inl (cpF ga gs 0 i))), (ya, .inl (U.2.2.1 0, 16, .inl ga))] [some (.ref m), some (.int (nI i))] 2 [] := by
    intro n_f
    induction n_f with
    | zero =>
      intro i hfuel hin_i
      exact absurd hfuel (by omega)
    | succ n_f ih_2 =>
      intro i hfuel hin_i
      refine J_iload_n C dX6_takeBack_2 rfl rfl ?_
      refine J_bipush C (v := (16 : Int32)) dX6_takeBack_3 (by decide) ?_
      refine J_icmp_ge C 26 dX6_takeBack_5 (by decide) (fun c_5_1 => ?_) (fun c_5_1 => ?_)
      · have hx_i : i = 16 := nI_exit (n := 16) (by omega) (by omega) c_5_1
        subst hx_i
        refine J_arr ga 1 [(m, .inr (6, [.int xth, .ref ys, .ref ya, .ref yt, .int xsm, .ref yn, .int xhs, .ref yx, .int xln, .int xat, .int xiw, .ref yr, .int xrm, .int xfb, .int xlr, .ref yd, .int xdm])), (ys, .inl (U.2.2.1 0, 16, .inl ga)), (ya, .inl (U.2.2.1 0, 16, .inl ga))] rfl (fun j hj => cp_f (ga) _ 16 j hj) rfl ?_
        exact J_vret C R dX6_takeBack_26 (Nat.le_of_ble_eq_true rfl) (Nat.le_of_ble_eq_true rfl) rfl rfl
      · have hlt_i : i < 16 := nI_ngeN (n := 16) (by omega) (by omega) c_5_1
        refine J_aload_n C dX6_takeBack_8 rfl rfl ?_
        refine J_get C 0 1 rfl rfl i_X6_takeBack_X6 (by decide) k_X6_takeBack_7 rfl rfl dX6_takeBack_9 ?_
        refine J_iload_n C dX6_takeBack_12 rfl rfl ?_
        refine J_aload_n C dX6_takeBack_13 rfl rfl ?_
        refine J_get C 0 2 rfl rfl i_X6_takeBack_X6 (by decide) k_X6_takeBack_13 rfl rfl dX6_takeBack_14 ?_
        refine J_iload_n C dX6_takeBack_17 rfl rfl ?_
        refine J_iald C 2 rfl (vp_in_nI (n := i) (by omega) (by decide)) (congrArg ga (nI_clamp (n := i) (by omega))) dX6_takeBack_18 ?_
        refine J_iast C 1 [(m, .inr (6, [.int xth, .ref ys, .ref ya, .ref yt, .int xsm, .ref yn, .int xhs, .ref yx, .int xln, .int xat, .int xiw, .ref yr, .int xrm, .int xfb, .int xlr, .ref yd, .int xdm])), (ys, .inl (U.2.2.1 0, 16, .inl (upd (cpF ga gs 0 i) i (ga i)))), (ya, .inl (U.2.2.1 0, 16, .inl ga))] rfl (vp_in_nI (n := i) (by omega) (by decide)) (by rw [(nI_clamp (n := i) (by omega))]; rfl) dX6_takeBack_19 ?_
        refine J_iinc C (v := nI (i + 1)) [some (.ref m), some (.int (nI (i + 1)))] dX6_takeBack_20 rfl (nI_o1 i) (hN 1 (by decide)) rfl ?_
        refine J_goto C 2 dX6_takeBack_23 (by decide) ?_
        refine J_arr (cpF ga gs 0 (i + 1)) 1 [(m, .inr (6, [.int xth, .ref ys, .ref ya, .ref yt, .int xsm, .ref yn, .int xhs, .ref yx, .int xln, .int xat, .int xiw, .ref yr, .int xrm, .int xfb, .int xlr, .ref yd, .int xdm])), (ys, .inl (U.2.2.1 0, 16, .inl (cpF ga gs 0 (i + 1)))), (ya, .inl (U.2.2.1 0, 16, .inl ga))] rfl (fun j9 _ => (congrFun (cp_s0 ga gs i) j9).symm) rfl ?_
        exact ih_2 (i + 1) (by omega) (by omega)
  exact loop_2 17 0 (by omega) (by omega)
