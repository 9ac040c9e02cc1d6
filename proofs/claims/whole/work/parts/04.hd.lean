theorem k_X6_tellsSparse_7 : Cond.fieldLink RX6 7 "BoothOttersModel" "s" "[I" ∈ wsX6_tellsSparse := List.mem_of_getElem? (i := 1) rfl
theorem i_X6_tellsSparse_X6 : ∀ w ∈ wsX60, w ∈ wsX6_tellsSparse := fun _ h => List.mem_cons_of_mem _ (List.mem_append_right _ h)
theorem k_X6_tellsSparse_28 : Cond.fieldLink RX6 28 "BoothOttersModel" "digit" "[I" ∈ wsX6_tellsSparse := List.mem_of_getElem? (i := 2) rfl
set_option maxHeartbeats 4000000 in
set_option maxRecDepth 100000 in
theorem c_X6_tellsSparse (U : jU) (m ys ya yt yn yx yr yd : Nat) (xth xsm xhs xln xat xiw xrm xfb xlr xdm : Int32) (gs : Nat → Int32) (gd : Nat → Int32) (W : Nat) (p0 : Int32) (hW : gs 0 = nI W) (hW9 : W ≤ 16) : Fn U yX6_tellsSparse wsX6_tellsSparse { frames := 0, cells := 0, slots := 0, locals := 0 } [.ref m, .int p0] [(m, .inr (6, [.int xth, .ref ys, .ref ya, .ref yt, .int xsm, .ref yn, .int xhs, .ref yx, .int xln, .int xat, .int xiw, .ref yr, .int xrm, .int xfb, .int xlr, .ref yd, .int xdm])), (ys, .inl (U.2.2.1 0, 16, .inl gs)), (yd, .inl (U.2.2.1 0, 17, .inl gd))] none [(m, .inr (6, [.int xth, .ref ys, .ref ya, .ref yt, .int xsm, .ref yn, .int xhs, .ref yx, .int xln, .int xat, .int xiw, .ref yr, .int xrm, .int xfb, .int xlr, .ref yd, .int xdm])), (ys, .inl (U.2.2.1 0, 16, .inl gs)), (yd, .inl (U.2.2.1 0, 17, .inl (dgF p0 2 gd W)))] 0 0 := by
  refine Fn_of (cc := cX6_tellsSparse) (maxL := 5) (ret := none) [some (.ref m), some (.int p0), none, none, none] (by decide +kernel) rfl (jcat rfl) (Nat.le_of_ble_eq_true rfl) rfl (fun k C R hin hnL => ?_)
  have hN : ∀ i, i < 5 → i < k.2.2.2.2.2.2.2.2.2.2.2.1 := fun i h => by rw [hnL]; exact h
  refine J_iload_n C dX6_tellsSparse_0 rfl rfl ?_
  refine J_istore_n C [some (.ref m), some (.int p0), some (.int p0), none, none] dX6_tellsSparse_1 rfl (hN 2 (by decide)) rfl ?_
  refine J_iconst C (v := (0 : Int32)) dX6_tellsSparse_2 (by decide) ?_
  refine J_istore_n C [some (.ref m), some (.int p0), some (.int p0), some (.int (0 : Int32)), none] dX6_tellsSparse_3 rfl (hN 3 (by decide)) rfl ?_
  have loop_4 : ∀ (n_f : Nat) (i : Nat) (x : Int32), W < i + n_f → i ≤ W → x = spR p0 i → J U k 0 0 [(m, .inr (6, [.int xth, .ref ys, .ref ya, .ref yt, .int xsm, .ref yn, .int xhs, .ref yx, .int xln, .int xat, .int xiw, .ref yr, .int xrm, .int xfb, .int xlr, .ref yd, .int xdm])), (ys, .inl (U.2.2.1 0, 16, .inl gs)), (yd, .inl (U.2.2.1 0, 17, .inl (dgF p0 2 gd i)))] [some (.ref m), some (.int p0), some (.int (spR p0 i)), some (.int (nI i)), none] 4 [] := by
    intro n_f
    induction n_f with
    | zero =>
      intro i x hfuel hin_i hx
      exact absurd hfuel (by omega)
    | succ n_f ih_4 =>
      intro i x hfuel hin_i hx
      refine J_iload_n C dX6_tellsSparse_4 rfl rfl ?_
      refine J_aload_n C dX6_tellsSparse_5 rfl rfl ?_
      refine J_get C 0 1 rfl rfl i_X6_tellsSparse_X6 (by decide) k_X6_tellsSparse_7 rfl rfl dX6_tellsSparse_6 ?_
      refine J_iconst C (v := (0 : Int32)) dX6_tellsSparse_9 (by decide) ?_
      refine J_iald C 1 rfl (vpl n_0 (by decide) (by decide)) (congrArg gs n_0) dX6_tellsSparse_10 ?_
      refine J_icmp_ge C 52 dX6_tellsSparse_11 (by decide) (fun c_11_1 => ?_) (fun c_11_1 => ?_)
      · have hx_i : i = W := by have h9 := c_11_1; rw [hW] at h9; exact nI_exit (by omega) (by omega) h9
        subst hx_i
        exact J_vret C R dX6_tellsSparse_52 (Nat.le_of_ble_eq_true rfl) (Nat.le_of_ble_eq_true rfl) rfl rfl
      · have hlt_i : i < W := by have h9 := c_11_1; rw [hW] at h9; exact nI_ngeN (by omega) (by omega) h9
        refine J_iload_n C dX6_tellsSparse_14 rfl rfl ?_
        refine J_iconst C (v := (1 : Int32)) dX6_tellsSparse_15 (by decide) ?_
        refine J_iand C (v := (spR p0 i) &&& (1 : Int32)) dX6_tellsSparse_16 rfl ?_
        refine J_if_ne C 24 dX6_tellsSparse_17 (by decide) (fun c_17_2 => ?_) (fun c_17_2 => ?_)
        · refine J_iconst C (v := (2 : Int32)) dX6_tellsSparse_24 (by decide) ?_
          refine J_iload_n C dX6_tellsSparse_25 rfl rfl ?_
          refine J_iconst C (v := (3 : Int32)) dX6_tellsSparse_26 (by decide) ?_
          refine J_iand C (v := (spR p0 i) &&& (3 : Int32)) dX6_tellsSparse_27 rfl ?_
          refine J_isub C (v := (2 : Int32) - ((spR p0 i) &&& (3 : Int32))) dX6_tellsSparse_28 rfl ?_
          refine J_istore C [some (.ref m), some (.int p0), some (.int (spR p0 i)), some (.int (nI i)), some (.int ((2 : Int32) - ((spR p0 i) &&& (3 : Int32))))] dX6_tellsSparse_29 (hN 4 (by decide)) rfl ?_
          refine J_aload_n C dX6_tellsSparse_31 rfl rfl ?_
          refine J_get C 0 15 rfl rfl i_X6_tellsSparse_X6 (by decide) k_X6_tellsSparse_28 rfl rfl dX6_tellsSparse_32 ?_
          refine J_iload_n C dX6_tellsSparse_35 rfl rfl ?_
          refine J_iload C dX6_tellsSparse_36 rfl ?_
          refine J_iast C 2 [(m, .inr (6, [.int xth, .ref ys, .ref ya, .ref yt, .int xsm, .ref yn, .int xhs, .ref yx, .int xln, .int xat, .int xiw, .ref yr, .int xrm, .int xfb, .int xlr, .ref yd, .int xdm])), (ys, .inl (U.2.2.1 0, 16, .inl gs)), (yd, .inl (U.2.2.1 0, 17, .inl (upd (dgF p0 2 gd i) i ((2 : Int32) - ((spR p0 i) &&& (3 : Int32))))))] rfl (vp_in_nI (n := i) (by omega) (by decide)) (by rw [(nI_clamp (n := i) (by omega))]; rfl) dX6_tellsSparse_38 ?_
          refine J_iload_n C dX6_tellsSparse_39 rfl rfl ?_
          refine J_iload C dX6_tellsSparse_40 rfl ?_
          refine J_isub C (v := (spR p0 i) - ((2 : Int32) - ((spR p0 i) &&& (3 : Int32)))) dX6_tellsSparse_42 rfl ?_
          refine J_iconst C (v := (1 : Int32)) dX6_tellsSparse_43 (by decide) ?_
          refine J_ishr C (v := ((spR p0 i) - ((2 : Int32) - ((spR p0 i) &&& (3 : Int32)))) >>> ((1 : Int32) &&& 31)) dX6_tellsSparse_44 rfl ?_
          refine J_istore_n C [some (.ref m), some (.int p0), some (.int (((spR p0 i) - ((2 : Int32) - ((spR p0 i) &&& (3 : Int32)))) >>> ((1 : Int32) &&& 31))), some (.int (nI i)), some (.int ((2 : Int32) - ((spR p0 i) &&& (3 : Int32))))] dX6_tellsSparse_45 rfl (hN 2 (by decide)) rfl ?_
          refine J_iinc C (v := nI (i + 1)) [some (.ref m), some (.int p0), some (.int (((spR p0 i) - ((2 : Int32) - ((spR p0 i) &&& (3 : Int32)))) >>> ((1 : Int32) &&& 31))), some (.int (nI (i + 1))), some (.int ((2 : Int32) - ((spR p0 i) &&& (3 : Int32))))] dX6_tellsSparse_46 rfl (nI_o1 i) (hN 3 (by decide)) rfl ?_
          refine J_goto C 4 dX6_tellsSparse_49 (by decide) ?_
          refine J_arr (dgF p0 2 gd (i + 1)) 2 [(m, .inr (6, [.int xth, .ref ys, .ref ya, .ref yt, .int xsm, .ref yn, .int xhs, .ref yx, .int xln, .int xat, .int xiw, .ref yr, .int xrm, .int xfb, .int xlr, .ref yd, .int xdm])), (ys, .inl (U.2.2.1 0, 16, .inl gs)), (yd, .inl (U.2.2.1 0, 17, .inl (dgF p0 2 gd (i + 1))))] rfl (fun j9 _ => (congrFun (dg_s p0 2 gd i _ (by rw [mdF, if_pos rfl, spD, if_neg c_17_2])) j9).symm) rfl ?_
          have hr9 : ((spR p0 i) - ((2 : Int32) - ((spR p0 i) &&& (3 : Int32)))) >>> ((1 : Int32) &&& 31) = spR p0 (i + 1) := by rw [spR, if_neg c_17_2]
          rw [hr9]
          refine J_weakL [some (.ref m), some (.int p0), some (.int (spR p0 (i + 1))), some (.int (nI (i + 1))), none] ⟨rfl, rfl, rfl, rfl, trivial⟩ ?_
          exact ih_4 (i + 1) _ (by omega) (by omega) rfl
        · refine J_iconst C (v := (0 : Int32)) dX6_tellsSparse_20 (by decide) ?_
          refine J_goto C 29 dX6_tellsSparse_21 (by decide) ?_
          refine J_istore C [some (.ref m), some (.int p0), some (.int (spR p0 i)), some (.int (nI i)), some (.int (0 : Int32))] dX6_tellsSparse_29 (hN 4 (by decide)) rfl ?_
          refine J_aload_n C dX6_tellsSparse_31 rfl rfl ?_
          refine J_get C 0 15 rfl rfl i_X6_tellsSparse_X6 (by decide) k_X6_tellsSparse_28 rfl rfl dX6_tellsSparse_32 ?_
          refine J_iload_n C dX6_tellsSparse_35 rfl rfl ?_
          refine J_iload C dX6_tellsSparse_36 rfl ?_
          refine J_iast C 2 [(m, .inr (6, [.int xth, .ref ys, .ref ya, .ref yt, .int xsm, .ref yn, .int xhs, .ref yx, .int xln, .int xat, .int xiw, .ref yr, .int xrm, .int xfb, .int xlr, .ref yd, .int xdm])), (ys, .inl (U.2.2.1 0, 16, .inl gs)), (yd, .inl (U.2.2.1 0, 17, .inl (upd (dgF p0 2 gd i) i (0 : Int32))))] rfl (vp_in_nI (n := i) (by omega) (by decide)) (by rw [(nI_clamp (n := i) (by omega))]; rfl) dX6_tellsSparse_38 ?_
          refine J_iload_n C dX6_tellsSparse_39 rfl rfl ?_
          refine J_iload C dX6_tellsSparse_40 rfl ?_
          refine J_isub C (v := (spR p0 i) - (0 : Int32)) dX6_tellsSparse_42 rfl ?_
          refine J_iconst C (v := (1 : Int32)) dX6_tellsSparse_43 (by decide) ?_
          refine J_ishr C (v := ((spR p0 i) - (0 : Int32)) >>> ((1 : Int32) &&& 31)) dX6_tellsSparse_44 rfl ?_
          refine J_istore_n C [some (.ref m), some (.int p0), some (.int (((spR p0 i) - (0 : Int32)) >>> ((1 : Int32) &&& 31))), some (.int (nI i)), some (.int (0 : Int32))] dX6_tellsSparse_45 rfl (hN 2 (by decide)) rfl ?_
          refine J_iinc C (v := nI (i + 1)) [some (.ref m), some (.int p0), some (.int (((spR p0 i) - (0 : Int32)) >>> ((1 : Int32) &&& 31))), some (.int (nI (i + 1))), some (.int (0 : Int32))] dX6_tellsSparse_46 rfl (nI_o1 i) (hN 3 (by decide)) rfl ?_
          refine J_goto C 4 dX6_tellsSparse_49 (by decide) ?_
          refine J_arr (dgF p0 2 gd (i + 1)) 2 [(m, .inr (6, [.int xth, .ref ys, .ref ya, .ref yt, .int xsm, .ref yn, .int xhs, .ref yx, .int xln, .int xat, .int xiw, .ref yr, .int xrm, .int xfb, .int xlr, .ref yd, .int xdm])), (ys, .inl (U.2.2.1 0, 16, .inl gs)), (yd, .inl (U.2.2.1 0, 17, .inl (dgF p0 2 gd (i + 1))))] rfl (fun j9 _ => (congrFun (dg_s p0 2 gd i _ (by rw [mdF, if_pos rfl, spD, if_pos c_17_2])) j9).symm) rfl ?_
          have hr9 : ((spR p0 i) - (0 : Int32)) >>> ((1 : Int32) &&& 31) = spR p0 (i + 1) := by rw [spR, if_pos c_17_2]
          rw [hr9]
          refine J_weakL [some (.ref m), some (.int p0), some (.int (spR p0 (i + 1))), some (.int (nI (i + 1))), none] ⟨rfl, rfl, rfl, rfl, trivial⟩ ?_
          exact ih_4 (i + 1) _ (by omega) (by omega) rfl
  exact loop_4 (W + 1) 0 p0 (by omega) (by omega) rfl
