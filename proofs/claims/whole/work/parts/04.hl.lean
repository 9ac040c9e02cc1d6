theorem k_X6_readsStep_113 : Cond.fieldLink RX6 113 "BoothOttersModel" "readMany" "I" ∈ wsX6_readsStep := List.mem_of_getElem? (i := 1) rfl
theorem i_X6_readsStep_X6 : ∀ w ∈ wsX60, w ∈ wsX6_readsStep := fun _ h => List.mem_cons_of_mem _ (List.mem_append_right _ h)
theorem k_X6_readsStep_102 : Cond.fieldLink RX6 102 "BoothOttersModel" "isWell" "Z" ∈ wsX6_readsStep := List.mem_of_getElem? (i := 2) rfl
theorem k_X6_readsStep_25 : Cond.fieldLink RX6 25 "BoothOttersModel" "read" "[I" ∈ wsX6_readsStep := List.mem_of_getElem? (i := 3) rfl
theorem k_X6_readsStep_99 : Cond.fieldLink RX6 99 "BoothOttersModel" "at" "I" ∈ wsX6_readsStep := List.mem_of_getElem? (i := 4) rfl
set_option maxHeartbeats 4000000 in
set_option maxRecDepth 100000 in
theorem c_X6_readsStep_F1 (U : jU) (m ys ya yt yn yx yr yd : Nat) (xth xsm xhs xln xat xiw xrm xfb xlr xdm : Int32) (gx gr : Nat → Int32) (n i r : Nat) (v_0 : ¬ inF (sgF gx n i) 65 70) (hn : n ≤ 60) (hi : i ≤ 60) (hr : r ≤ 15) : Fn U yX6_readsStep wsX6_readsStep { frames := 3, cells := 0, slots := 0, locals := 68 } [.ref m] [(m, .inr (6, [.int xth, .ref ys, .ref ya, .ref yt, .int xsm, .ref yn, .int xhs, .ref yx, .int (nI n), .int (nI i), .int xiw, .ref yr, .int (nI r), .int xfb, .int xlr, .ref yd, .int xdm])), (yx, .inl (U.2.2.1 0, 60, .inl gx)), (yr, .inl (U.2.2.1 0, 64, .inl gr))] none [(m, .inr (6, [.int xth, .ref ys, .ref ya, .ref yt, .int xsm, .ref yn, .int xhs, .ref yx, .int (nI n), .int (nI i), .int (0 : Int32), .ref yr, .int (nI r), .int xfb, .int xlr, .ref yd, .int xdm])), (yx, .inl (U.2.2.1 0, 60, .inl gx)), (yr, .inl (U.2.2.1 0, 64, .inl (upd (upd (upd gr (4 * r) ((sgF gx n i) - (65 : Int32))) ((4 * r) + 1) (0 : Int32)) ((4 * r) + 2) ((sgF gx n i) - (65 : Int32)))))] 0 0 := by
  refine Fn_of (cc := cX6_readsStep) (maxL := 5) (ret := none) [some (.ref m), none, none, none, none] (by decide +kernel) rfl (jcat rfl) (Nat.le_of_ble_eq_true rfl) rfl (fun k C R hin hnL => ?_)
  have hN : ∀ i, i < 5 → i < k.2.2.2.2.2.2.2.2.2.2.2.1 := fun i h => by rw [hnL]; exact h
  refine J_iconst C (v := (4 : Int32)) dX6_readsStep_0 (by decide) ?_
  refine J_aload_n C dX6_readsStep_1 rfl rfl ?_
  refine J_get C 0 12 rfl rfl i_X6_readsStep_X6 (by decide) k_X6_readsStep_113 rfl rfl dX6_readsStep_2 ?_
  refine J_imul C (v := nI (4 * r)) dX6_readsStep_5 (pk_mul 4 r) ?_
  refine J_istore_n C [some (.ref m), some (.int (nI (4 * r))), none, none, none] dX6_readsStep_6 rfl (hN 1 (by decide)) rfl ?_
  refine J_aload_n C dX6_readsStep_7 rfl rfl ?_
  refine J_iconst C (v := (1 : Int32)) dX6_readsStep_8 (by decide) ?_
  refine J_put C tyX6 0 10 [(m, .inr (6, [.int xth, .ref ys, .ref ya, .ref yt, .int xsm, .ref yn, .int xhs, .ref yx, .int (nI n), .int (nI i), .int (1 : Int32), .ref yr, .int (nI r), .int xfb, .int xlr, .ref yd, .int xdm])), (yx, .inl (U.2.2.1 0, 60, .inl gx)), (yr, .inl (U.2.2.1 0, 64, .inl gr))] rfl rfl i_X6_readsStep_X6 tyX6_ok nmX6 (by decide) k_X6_readsStep_102 rfl rfl rfl rfl (Nat.le_of_ble_eq_true rfl) rfl dX6_readsStep_9 ?_
  refine J_aload_n C dX6_readsStep_12 rfl rfl ?_
  refine J_get C 0 11 rfl rfl i_X6_readsStep_X6 (by decide) k_X6_readsStep_25 rfl rfl dX6_readsStep_13 ?_
  refine J_iload_n C dX6_readsStep_16 rfl rfl ?_
  refine J_aload_n C dX6_readsStep_17 rfl rfl ?_
  refine J_bipush C (v := (65 : Int32)) dX6_readsStep_18 (by decide) ?_
  refine J_bipush C (v := (70 : Int32)) dX6_readsStep_20 (by decide) ?_
  refine J_callV C (c_X6_takes_f U m ys ya yt yn yx yr yd xth xsm xhs (0 : Int32) (0 : Int32) (0 : Int32) (nI r) xfb xlr xdm gx n i (65 : Int32) (70 : Int32) v_0 hn (by omega)) gX6_readsStep_X6_takes (n := 2) rfl rfl rfl (by decide +kernel) ⟨Nat.le_of_ble_eq_true rfl, Nat.le_of_ble_eq_true rfl⟩ 0 rfl rfl rfl (rest := [.int (nI (4 * r)), .ref yr]) rfl (Nat.le_of_ble_eq_true rfl) [(m, .inr (6, [.int xth, .ref ys, .ref ya, .ref yt, .int xsm, .ref yn, .int xhs, .ref yx, .int (nI n), .int (nI i), .int (0 : Int32), .ref yr, .int (nI r), .int xfb, .int xlr, .ref yd, .int xdm])), (yx, .inl (U.2.2.1 0, 60, .inl gx)), (yr, .inl (U.2.2.1 0, 64, .inl gr))] [0, 1] [2] [1, 2, 0] (wr := [(yr, .inl (U.2.2.1 0, 64, .inl gr))]) rfl rfl rfl rfl (by decide) rfl rfl  dX6_readsStep_22 ⟨Nat.le_of_ble_eq_true rfl, Nat.le_of_ble_eq_true rfl⟩ [.int ((sgF gx n i) - (65 : Int32)), .int (nI (4 * r)), .ref yr] rfl ?_
  refine J_iast C 2 [(m, .inr (6, [.int xth, .ref ys, .ref ya, .ref yt, .int xsm, .ref yn, .int xhs, .ref yx, .int (nI n), .int (nI i), .int (0 : Int32), .ref yr, .int (nI r), .int xfb, .int xlr, .ref yd, .int xdm])), (yx, .inl (U.2.2.1 0, 60, .inl gx)), (yr, .inl (U.2.2.1 0, 64, .inl (upd gr (4 * r) ((sgF gx n i) - (65 : Int32)))))] rfl (vp_in_nI (n := 4 * r) (by omega) (by decide)) (by rw [(nI_clamp (n := 4 * r) (by omega))]; rfl) dX6_readsStep_25 ?_
  refine J_aload_n C dX6_readsStep_26 rfl rfl ?_
  refine J_bipush C (v := (61 : Int32)) dX6_readsStep_27 (by decide) ?_
  refine J_bipush C (v := (61 : Int32)) dX6_readsStep_29 (by decide) ?_
  refine J_callV C (c_X6_takes_n U m ys ya yt yn yx yr yd xth xsm xhs (0 : Int32) (0 : Int32) (0 : Int32) (nI r) xfb xlr xdm gx n i (61 : Int32) (61 : Int32) hn (by omega)) gX6_readsStep_X6_takes (n := 2) rfl rfl rfl (by decide +kernel) ⟨Nat.le_of_ble_eq_true rfl, Nat.le_of_ble_eq_true rfl⟩ 0 rfl rfl rfl (rest := []) rfl (Nat.le_of_ble_eq_true rfl) [(m, .inr (6, [.int xth, .ref ys, .ref ya, .ref yt, .int xsm, .ref yn, .int xhs, .ref yx, .int (nI n), .int (nI i), .int (0 : Int32), .ref yr, .int (nI r), .int xfb, .int xlr, .ref yd, .int xdm])), (yx, .inl (U.2.2.1 0, 60, .inl gx)), (yr, .inl (U.2.2.1 0, 64, .inl (upd gr (4 * r) ((sgF gx n i) - (65 : Int32)))))] [0, 1] [2] [1, 2, 0] (wr := [(yr, .inl (U.2.2.1 0, 64, .inl (upd gr (4 * r) ((sgF gx n i) - (65 : Int32)))))]) rfl rfl rfl rfl (by decide) rfl rfl  dX6_readsStep_31 ⟨Nat.le_of_ble_eq_true rfl, Nat.le_of_ble_eq_true rfl⟩ [.int ((sgF gx n i) - (61 : Int32))] rfl ?_
  refine J_pop C dX6_readsStep_34 rfl ?_
  refine J_aload_n C dX6_readsStep_35 rfl rfl ?_
  refine J_get C 0 10 rfl rfl i_X6_readsStep_X6 (by decide) k_X6_readsStep_102 rfl rfl dX6_readsStep_36 ?_
  refine J_if_eq C 49 dX6_readsStep_39 (by decide) (fun _ => ?_) (fun h => absurd (by decide) h)
  refine J_iconst C (v := (0 : Int32)) dX6_readsStep_49 (by decide) ?_
  refine J_istore_n C [some (.ref m), some (.int (nI (4 * r))), some (.int (0 : Int32)), none, none] dX6_readsStep_50 rfl (hN 2 (by decide)) rfl ?_
  refine J_iload_n C dX6_readsStep_51 rfl rfl ?_
  refine J_bipush C (v := (45 : Int32)) dX6_readsStep_52 (by decide) ?_
  refine J_icmp_eq C 63 dX6_readsStep_54 (by decide) (fun h => absurd h (by decide)) (fun _ => ?_)
  refine J_iload_n C dX6_readsStep_57 rfl rfl ?_
  refine J_bipush C (v := (35 : Int32)) dX6_readsStep_58 (by decide) ?_
  refine J_icmp_ne C 67 dX6_readsStep_60 (by decide) (fun _ => ?_) (fun h => absurd h (by decide))
  refine J_iconst C (v := (0 : Int32)) dX6_readsStep_67 (by decide) ?_
  refine J_istore_n C [some (.ref m), some (.int (nI (4 * r))), some (.int (0 : Int32)), some (.int (0 : Int32)), none] dX6_readsStep_68 rfl (hN 3 (by decide)) rfl ?_
  refine J_aload_n C dX6_readsStep_69 rfl rfl ?_
  refine J_dup C dX6_readsStep_70 rfl ?_
  refine J_get C 0 9 rfl rfl i_X6_readsStep_X6 (by decide) k_X6_readsStep_99 rfl rfl dX6_readsStep_71 ?_
  refine J_iload_n C dX6_readsStep_74 rfl rfl ?_
  refine J_if_eq C 82 dX6_readsStep_75 (by decide) (fun _ => ?_) (fun h => absurd (by decide) h)
  refine J_iconst C (v := (0 : Int32)) dX6_readsStep_82 (by decide) ?_
  refine J_iadd C (v := nI i) dX6_readsStep_83 (nI_add i 0) ?_
  refine J_put C tyX6 0 9 [(m, .inr (6, [.int xth, .ref ys, .ref ya, .ref yt, .int xsm, .ref yn, .int xhs, .ref yx, .int (nI n), .int (nI i), .int (0 : Int32), .ref yr, .int (nI r), .int xfb, .int xlr, .ref yd, .int xdm])), (yx, .inl (U.2.2.1 0, 60, .inl gx)), (yr, .inl (U.2.2.1 0, 64, .inl (upd gr (4 * r) ((sgF gx n i) - (65 : Int32)))))] rfl rfl i_X6_readsStep_X6 tyX6_ok nmX6 (by decide) k_X6_readsStep_99 rfl rfl rfl rfl (Nat.le_of_ble_eq_true rfl) rfl dX6_readsStep_84 ?_
  refine J_aload_n C dX6_readsStep_87 rfl rfl ?_
  refine J_get C 0 11 rfl rfl i_X6_readsStep_X6 (by decide) k_X6_readsStep_25 rfl rfl dX6_readsStep_88 ?_
  refine J_iload_n C dX6_readsStep_91 rfl rfl ?_
  refine J_iconst C (v := (1 : Int32)) dX6_readsStep_92 (by decide) ?_
  refine J_iadd C (v := nI ((4 * r) + 1)) dX6_readsStep_93 (nI_add (4 * r) 1) ?_
  refine J_iload_n C dX6_readsStep_94 rfl rfl ?_
  refine J_if_eq C 102 dX6_readsStep_95 (by decide) (fun _ => ?_) (fun h => absurd (by decide) h)
  refine J_iconst C (v := (0 : Int32)) dX6_readsStep_102 (by decide) ?_
  refine J_iast C 2 [(m, .inr (6, [.int xth, .ref ys, .ref ya, .ref yt, .int xsm, .ref yn, .int xhs, .ref yx, .int (nI n), .int (nI i), .int (0 : Int32), .ref yr, .int (nI r), .int xfb, .int xlr, .ref yd, .int xdm])), (yx, .inl (U.2.2.1 0, 60, .inl gx)), (yr, .inl (U.2.2.1 0, 64, .inl (upd (upd gr (4 * r) ((sgF gx n i) - (65 : Int32))) ((4 * r) + 1) (0 : Int32))))] rfl (vp_in_nI (n := (4 * r) + 1) (by omega) (by decide)) (by rw [(nI_clamp (n := (4 * r) + 1) (by omega))]; rfl) dX6_readsStep_103 ?_
  refine J_iload_n C dX6_readsStep_104 rfl rfl ?_
  refine J_bipush C (v := (35 : Int32)) dX6_readsStep_105 (by decide) ?_
  refine J_icmp_ne C 125 dX6_readsStep_107 (by decide) (fun _ => ?_) (fun h => absurd h (by decide))
  refine J_aload_n C dX6_readsStep_125 rfl rfl ?_
  refine J_get C 0 11 rfl rfl i_X6_readsStep_X6 (by decide) k_X6_readsStep_25 rfl rfl dX6_readsStep_126 ?_
  refine J_iload_n C dX6_readsStep_129 rfl rfl ?_
  refine J_iconst C (v := (2 : Int32)) dX6_readsStep_130 (by decide) ?_
  refine J_iadd C (v := nI ((4 * r) + 2)) dX6_readsStep_131 (nI_add (4 * r) 2) ?_
  refine J_aload_n C dX6_readsStep_132 rfl rfl ?_
  refine J_bipush C (v := (65 : Int32)) dX6_readsStep_133 (by decide) ?_
  refine J_bipush C (v := (70 : Int32)) dX6_readsStep_135 (by decide) ?_
  refine J_callV C (c_X6_takes_n U m ys ya yt yn yx yr yd xth xsm xhs (0 : Int32) (0 : Int32) (0 : Int32) (nI r) xfb xlr xdm gx n i (65 : Int32) (70 : Int32) hn (by omega)) gX6_readsStep_X6_takes (n := 2) rfl rfl rfl (by decide +kernel) ⟨Nat.le_of_ble_eq_true rfl, Nat.le_of_ble_eq_true rfl⟩ 0 rfl rfl rfl (rest := [.int (nI ((4 * r) + 2)), .ref yr]) rfl (Nat.le_of_ble_eq_true rfl) [(m, .inr (6, [.int xth, .ref ys, .ref ya, .ref yt, .int xsm, .ref yn, .int xhs, .ref yx, .int (nI n), .int (nI i), .int (0 : Int32), .ref yr, .int (nI r), .int xfb, .int xlr, .ref yd, .int xdm])), (yx, .inl (U.2.2.1 0, 60, .inl gx)), (yr, .inl (U.2.2.1 0, 64, .inl (upd (upd gr (4 * r) ((sgF gx n i) - (65 : Int32))) ((4 * r) + 1) (0 : Int32))))] [0, 1] [2] [1, 2, 0] (wr := [(yr, .inl (U.2.2.1 0, 64, .inl (upd (upd gr (4 * r) ((sgF gx n i) - (65 : Int32))) ((4 * r) + 1) (0 : Int32))))]) rfl rfl rfl rfl (by decide) rfl rfl  dX6_readsStep_137 ⟨Nat.le_of_ble_eq_true rfl, Nat.le_of_ble_eq_true rfl⟩ [.int ((sgF gx n i) - (65 : Int32)), .int (nI ((4 * r) + 2)), .ref yr] rfl ?_
  refine J_iast C 2 [(m, .inr (6, [.int xth, .ref ys, .ref ya, .ref yt, .int xsm, .ref yn, .int xhs, .ref yx, .int (nI n), .int (nI i), .int (0 : Int32), .ref yr, .int (nI r), .int xfb, .int xlr, .ref yd, .int xdm])), (yx, .inl (U.2.2.1 0, 60, .inl gx)), (yr, .inl (U.2.2.1 0, 64, .inl (upd (upd (upd gr (4 * r) ((sgF gx n i) - (65 : Int32))) ((4 * r) + 1) (0 : Int32)) ((4 * r) + 2) ((sgF gx n i) - (65 : Int32)))))] rfl (vp_in_nI (n := (4 * r) + 2) (by omega) (by decide)) (by rw [(nI_clamp (n := (4 * r) + 2) (by omega))]; rfl) dX6_readsStep_140 ?_
  refine J_aload_n C dX6_readsStep_141 rfl rfl ?_
  refine J_get C 0 10 rfl rfl i_X6_readsStep_X6 (by decide) k_X6_readsStep_102 rfl rfl dX6_readsStep_142 ?_
  refine J_if_eq C 159 dX6_readsStep_145 (by decide) (fun _ => ?_) (fun h => absurd (by decide) h)
  refine J_iconst C (v := (0 : Int32)) dX6_readsStep_159 (by decide) ?_
  refine J_istore C [some (.ref m), some (.int (nI (4 * r))), some (.int (0 : Int32)), some (.int (0 : Int32)), some (.int (0 : Int32))] dX6_readsStep_160 (hN 4 (by decide)) rfl ?_
  refine J_iload C dX6_readsStep_162 rfl ?_
  refine J_bipush C (v := (43 : Int32)) dX6_readsStep_164 (by decide) ?_
  refine J_icmp_eq C 183 dX6_readsStep_166 (by decide) (fun h => absurd h (by decide)) (fun _ => ?_)
  refine J_iload C dX6_readsStep_169 rfl ?_
  refine J_bipush C (v := (45 : Int32)) dX6_readsStep_171 (by decide) ?_
  refine J_icmp_eq C 183 dX6_readsStep_173 (by decide) (fun h => absurd h (by decide)) (fun _ => ?_)
  refine J_iload C dX6_readsStep_176 rfl ?_
  refine J_bipush C (v := (42 : Int32)) dX6_readsStep_178 (by decide) ?_
  refine J_icmp_ne C 231 dX6_readsStep_180 (by decide) (fun _ => ?_) (fun h => absurd h (by decide))
  refine J_aload_n C dX6_readsStep_231 rfl rfl ?_
  refine J_dup C dX6_readsStep_232 rfl ?_
  refine J_get C 0 12 rfl rfl i_X6_readsStep_X6 (by decide) k_X6_readsStep_113 rfl rfl dX6_readsStep_233 ?_
  refine J_aload_n C dX6_readsStep_236 rfl rfl ?_
  refine J_get C 0 10 rfl rfl i_X6_readsStep_X6 (by decide) k_X6_readsStep_102 rfl rfl dX6_readsStep_237 ?_
  refine J_if_eq C 247 dX6_readsStep_240 (by decide) (fun _ => ?_) (fun h => absurd (by decide) h)
  refine J_iconst C (v := (0 : Int32)) dX6_readsStep_247 (by decide) ?_
  refine J_iadd C (v := nI r) dX6_readsStep_248 (nI_add r 0) ?_
  refine J_put C tyX6 0 12 [(m, .inr (6, [.int xth, .ref ys, .ref ya, .ref yt, .int xsm, .ref yn, .int xhs, .ref yx, .int (nI n), .int (nI i), .int (0 : Int32), .ref yr, .int (nI r), .int xfb, .int xlr, .ref yd, .int xdm])), (yx, .inl (U.2.2.1 0, 60, .inl gx)), (yr, .inl (U.2.2.1 0, 64, .inl (upd (upd (upd gr (4 * r) ((sgF gx n i) - (65 : Int32))) ((4 * r) + 1) (0 : Int32)) ((4 * r) + 2) ((sgF gx n i) - (65 : Int32)))))] rfl rfl i_X6_readsStep_X6 tyX6_ok nmX6 (by decide) k_X6_readsStep_113 rfl rfl rfl rfl (Nat.le_of_ble_eq_true rfl) rfl dX6_readsStep_249 ?_
  exact J_vret C R dX6_readsStep_252 (Nat.le_of_ble_eq_true rfl) (Nat.le_of_ble_eq_true rfl) rfl rfl
set_option maxHeartbeats 4000000 in
set_option maxRecDepth 100000 in
theorem c_X6_readsStep_F2 (U : jU) (m ys ya yt yn yx yr yd : Nat) (xth xsm xhs xln xat xiw xrm xfb xlr xdm : Int32) (gx gr : Nat → Int32) (n i r : Nat) (v_0 : inF (sgF gx n i) 65 70) (v_1 : ¬ inF (sgF gx n (i + 1)) 61 61) (hn : n ≤ 60) (hi : i ≤ 60) (hr : r ≤ 15) : Fn U yX6_readsStep wsX6_readsStep { frames := 3, cells := 0, slots := 0, locals := 68 } [.ref m] [(m, .inr (6, [.int xth, .ref ys, .ref ya, .ref yt, .int xsm, .ref yn, .int xhs, .ref yx, .int (nI n), .int (nI i), .int xiw, .ref yr, .int (nI r), .int xfb, .int xlr, .ref yd, .int xdm])), (yx, .inl (U.2.2.1 0, 60, .inl gx)), (yr, .inl (U.2.2.1 0, 64, .inl gr))] none [(m, .inr (6, [.int xth, .ref ys, .ref ya, .ref yt, .int xsm, .ref yn, .int xhs, .ref yx, .int (nI n), .int (nI (i + 1)), .int (0 : Int32), .ref yr, .int (nI r), .int xfb, .int xlr, .ref yd, .int xdm])), (yx, .inl (U.2.2.1 0, 60, .inl gx)), (yr, .inl (U.2.2.1 0, 64, .inl (upd (upd (upd gr (4 * r) ((sgF gx n i) - (65 : Int32))) ((4 * r) + 1) (0 : Int32)) ((4 * r) + 2) ((sgF gx n (i + 1)) - (65 : Int32)))))] 0 0 := by
  refine Fn_of (cc := cX6_readsStep) (maxL := 5) (ret := none) [some (.ref m), none, none, none, none] (by decide +kernel) rfl (jcat rfl) (Nat.le_of_ble_eq_true rfl) rfl (fun k C R hin hnL => ?_)
  have hN : ∀ i, i < 5 → i < k.2.2.2.2.2.2.2.2.2.2.2.1 := fun i h => by rw [hnL]; exact h
  refine J_iconst C (v := (4 : Int32)) dX6_readsStep_0 (by decide) ?_
  refine J_aload_n C dX6_readsStep_1 rfl rfl ?_
  refine J_get C 0 12 rfl rfl i_X6_readsStep_X6 (by decide) k_X6_readsStep_113 rfl rfl dX6_readsStep_2 ?_
  refine J_imul C (v := nI (4 * r)) dX6_readsStep_5 (pk_mul 4 r) ?_
  refine J_istore_n C [some (.ref m), some (.int (nI (4 * r))), none, none, none] dX6_readsStep_6 rfl (hN 1 (by decide)) rfl ?_
  refine J_aload_n C dX6_readsStep_7 rfl rfl ?_
  refine J_iconst C (v := (1 : Int32)) dX6_readsStep_8 (by decide) ?_
  refine J_put C tyX6 0 10 [(m, .inr (6, [.int xth, .ref ys, .ref ya, .ref yt, .int xsm, .ref yn, .int xhs, .ref yx, .int (nI n), .int (nI i), .int (1 : Int32), .ref yr, .int (nI r), .int xfb, .int xlr, .ref yd, .int xdm])), (yx, .inl (U.2.2.1 0, 60, .inl gx)), (yr, .inl (U.2.2.1 0, 64, .inl gr))] rfl rfl i_X6_readsStep_X6 tyX6_ok nmX6 (by decide) k_X6_readsStep_102 rfl rfl rfl rfl (Nat.le_of_ble_eq_true rfl) rfl dX6_readsStep_9 ?_
  refine J_aload_n C dX6_readsStep_12 rfl rfl ?_
  refine J_get C 0 11 rfl rfl i_X6_readsStep_X6 (by decide) k_X6_readsStep_25 rfl rfl dX6_readsStep_13 ?_
  refine J_iload_n C dX6_readsStep_16 rfl rfl ?_
  refine J_aload_n C dX6_readsStep_17 rfl rfl ?_
  refine J_bipush C (v := (65 : Int32)) dX6_readsStep_18 (by decide) ?_
  refine J_bipush C (v := (70 : Int32)) dX6_readsStep_20 (by decide) ?_
  refine J_callV C (c_X6_takes_y U m ys ya yt yn yx yr yd xth xsm xhs (0 : Int32) (0 : Int32) (0 : Int32) (nI r) xfb xlr xdm gx n i (65 : Int32) (70 : Int32) v_0 hn (by omega)) gX6_readsStep_X6_takes (n := 2) rfl rfl rfl (by decide +kernel) ⟨Nat.le_of_ble_eq_true rfl, Nat.le_of_ble_eq_true rfl⟩ 0 rfl rfl rfl (rest := [.int (nI (4 * r)), .ref yr]) rfl (Nat.le_of_ble_eq_true rfl) [(m, .inr (6, [.int xth, .ref ys, .ref ya, .ref yt, .int xsm, .ref yn, .int xhs, .ref yx, .int (nI n), .int (nI (i + 1)), .int (1 : Int32), .ref yr, .int (nI r), .int xfb, .int xlr, .ref yd, .int xdm])), (yx, .inl (U.2.2.1 0, 60, .inl gx)), (yr, .inl (U.2.2.1 0, 64, .inl gr))] [0, 1] [2] [1, 2, 0] (wr := [(yr, .inl (U.2.2.1 0, 64, .inl gr))]) rfl rfl rfl rfl (by decide) rfl rfl  dX6_readsStep_22 ⟨Nat.le_of_ble_eq_true rfl, Nat.le_of_ble_eq_true rfl⟩ [.int ((sgF gx n i) - (65 : Int32)), .int (nI (4 * r)), .ref yr] rfl ?_
  refine J_iast C 2 [(m, .inr (6, [.int xth, .ref ys, .ref ya, .ref yt, .int xsm, .ref yn, .int xhs, .ref yx, .int (nI n), .int (nI (i + 1)), .int (1 : Int32), .ref yr, .int (nI r), .int xfb, .int xlr, .ref yd, .int xdm])), (yx, .inl (U.2.2.1 0, 60, .inl gx)), (yr, .inl (U.2.2.1 0, 64, .inl (upd gr (4 * r) ((sgF gx n i) - (65 : Int32)))))] rfl (vp_in_nI (n := 4 * r) (by omega) (by decide)) (by rw [(nI_clamp (n := 4 * r) (by omega))]; rfl) dX6_readsStep_25 ?_
  refine J_aload_n C dX6_readsStep_26 rfl rfl ?_
  refine J_bipush C (v := (61 : Int32)) dX6_readsStep_27 (by decide) ?_
  refine J_bipush C (v := (61 : Int32)) dX6_readsStep_29 (by decide) ?_
  refine J_callV C (c_X6_takes_f U m ys ya yt yn yx yr yd xth xsm xhs (0 : Int32) (0 : Int32) (0 : Int32) (nI r) xfb xlr xdm gx n (i + 1) (61 : Int32) (61 : Int32) v_1 hn (by omega)) gX6_readsStep_X6_takes (n := 2) rfl rfl rfl (by decide +kernel) ⟨Nat.le_of_ble_eq_true rfl, Nat.le_of_ble_eq_true rfl⟩ 0 rfl rfl rfl (rest := []) rfl (Nat.le_of_ble_eq_true rfl) [(m, .inr (6, [.int xth, .ref ys, .ref ya, .ref yt, .int xsm, .ref yn, .int xhs, .ref yx, .int (nI n), .int (nI (i + 1)), .int (0 : Int32), .ref yr, .int (nI r), .int xfb, .int xlr, .ref yd, .int xdm])), (yx, .inl (U.2.2.1 0, 60, .inl gx)), (yr, .inl (U.2.2.1 0, 64, .inl (upd gr (4 * r) ((sgF gx n i) - (65 : Int32)))))] [0, 1] [2] [1, 2, 0] (wr := [(yr, .inl (U.2.2.1 0, 64, .inl (upd gr (4 * r) ((sgF gx n i) - (65 : Int32)))))]) rfl rfl rfl rfl (by decide) rfl rfl  dX6_readsStep_31 ⟨Nat.le_of_ble_eq_true rfl, Nat.le_of_ble_eq_true rfl⟩ [.int ((sgF gx n (i + 1)) - (61 : Int32))] rfl ?_
  refine J_pop C dX6_readsStep_34 rfl ?_
  refine J_aload_n C dX6_readsStep_35 rfl rfl ?_
  refine J_get C 0 10 rfl rfl i_X6_readsStep_X6 (by decide) k_X6_readsStep_102 rfl rfl dX6_readsStep_36 ?_
  refine J_if_eq C 49 dX6_readsStep_39 (by decide) (fun _ => ?_) (fun h => absurd (by decide) h)
  refine J_iconst C (v := (0 : Int32)) dX6_readsStep_49 (by decide) ?_
  refine J_istore_n C [some (.ref m), some (.int (nI (4 * r))), some (.int (0 : Int32)), none, none] dX6_readsStep_50 rfl (hN 2 (by decide)) rfl ?_
  refine J_iload_n C dX6_readsStep_51 rfl rfl ?_
  refine J_bipush C (v := (45 : Int32)) dX6_readsStep_52 (by decide) ?_
  refine J_icmp_eq C 63 dX6_readsStep_54 (by decide) (fun h => absurd h (by decide)) (fun _ => ?_)
  refine J_iload_n C dX6_readsStep_57 rfl rfl ?_
  refine J_bipush C (v := (35 : Int32)) dX6_readsStep_58 (by decide) ?_
  refine J_icmp_ne C 67 dX6_readsStep_60 (by decide) (fun _ => ?_) (fun h => absurd h (by decide))
  refine J_iconst C (v := (0 : Int32)) dX6_readsStep_67 (by decide) ?_
  refine J_istore_n C [some (.ref m), some (.int (nI (4 * r))), some (.int (0 : Int32)), some (.int (0 : Int32)), none] dX6_readsStep_68 rfl (hN 3 (by decide)) rfl ?_
  refine J_aload_n C dX6_readsStep_69 rfl rfl ?_
  refine J_dup C dX6_readsStep_70 rfl ?_
  refine J_get C 0 9 rfl rfl i_X6_readsStep_X6 (by decide) k_X6_readsStep_99 rfl rfl dX6_readsStep_71 ?_
  refine J_iload_n C dX6_readsStep_74 rfl rfl ?_
  refine J_if_eq C 82 dX6_readsStep_75 (by decide) (fun _ => ?_) (fun h => absurd (by decide) h)
  refine J_iconst C (v := (0 : Int32)) dX6_readsStep_82 (by decide) ?_
  refine J_iadd C (v := nI (i + 1)) dX6_readsStep_83 (nI_add (i + 1) 0) ?_
  refine J_put C tyX6 0 9 [(m, .inr (6, [.int xth, .ref ys, .ref ya, .ref yt, .int xsm, .ref yn, .int xhs, .ref yx, .int (nI n), .int (nI (i + 1)), .int (0 : Int32), .ref yr, .int (nI r), .int xfb, .int xlr, .ref yd, .int xdm])), (yx, .inl (U.2.2.1 0, 60, .inl gx)), (yr, .inl (U.2.2.1 0, 64, .inl (upd gr (4 * r) ((sgF gx n i) - (65 : Int32)))))] rfl rfl i_X6_readsStep_X6 tyX6_ok nmX6 (by decide) k_X6_readsStep_99 rfl rfl rfl rfl (Nat.le_of_ble_eq_true rfl) rfl dX6_readsStep_84 ?_
  refine J_aload_n C dX6_readsStep_87 rfl rfl ?_
  refine J_get C 0 11 rfl rfl i_X6_readsStep_X6 (by decide) k_X6_readsStep_25 rfl rfl dX6_readsStep_88 ?_
  refine J_iload_n C dX6_readsStep_91 rfl rfl ?_
  refine J_iconst C (v := (1 : Int32)) dX6_readsStep_92 (by decide) ?_
  refine J_iadd C (v := nI ((4 * r) + 1)) dX6_readsStep_93 (nI_add (4 * r) 1) ?_
  refine J_iload_n C dX6_readsStep_94 rfl rfl ?_
  refine J_if_eq C 102 dX6_readsStep_95 (by decide) (fun _ => ?_) (fun h => absurd (by decide) h)
  refine J_iconst C (v := (0 : Int32)) dX6_readsStep_102 (by decide) ?_
  refine J_iast C 2 [(m, .inr (6, [.int xth, .ref ys, .ref ya, .ref yt, .int xsm, .ref yn, .int xhs, .ref yx, .int (nI n), .int (nI (i + 1)), .int (0 : Int32), .ref yr, .int (nI r), .int xfb, .int xlr, .ref yd, .int xdm])), (yx, .inl (U.2.2.1 0, 60, .inl gx)), (yr, .inl (U.2.2.1 0, 64, .inl (upd (upd gr (4 * r) ((sgF gx n i) - (65 : Int32))) ((4 * r) + 1) (0 : Int32))))] rfl (vp_in_nI (n := (4 * r) + 1) (by omega) (by decide)) (by rw [(nI_clamp (n := (4 * r) + 1) (by omega))]; rfl) dX6_readsStep_103 ?_
  refine J_iload_n C dX6_readsStep_104 rfl rfl ?_
  refine J_bipush C (v := (35 : Int32)) dX6_readsStep_105 (by decide) ?_
  refine J_icmp_ne C 125 dX6_readsStep_107 (by decide) (fun _ => ?_) (fun h => absurd h (by decide))
  refine J_aload_n C dX6_readsStep_125 rfl rfl ?_
  refine J_get C 0 11 rfl rfl i_X6_readsStep_X6 (by decide) k_X6_readsStep_25 rfl rfl dX6_readsStep_126 ?_
  refine J_iload_n C dX6_readsStep_129 rfl rfl ?_
  refine J_iconst C (v := (2 : Int32)) dX6_readsStep_130 (by decide) ?_
  refine J_iadd C (v := nI ((4 * r) + 2)) dX6_readsStep_131 (nI_add (4 * r) 2) ?_
  refine J_aload_n C dX6_readsStep_132 rfl rfl ?_
  refine J_bipush C (v := (65 : Int32)) dX6_readsStep_133 (by decide) ?_
  refine J_bipush C (v := (70 : Int32)) dX6_readsStep_135 (by decide) ?_
  refine J_callV C (c_X6_takes_n U m ys ya yt yn yx yr yd xth xsm xhs (0 : Int32) (0 : Int32) (0 : Int32) (nI r) xfb xlr xdm gx n (i + 1) (65 : Int32) (70 : Int32) hn (by omega)) gX6_readsStep_X6_takes (n := 2) rfl rfl rfl (by decide +kernel) ⟨Nat.le_of_ble_eq_true rfl, Nat.le_of_ble_eq_true rfl⟩ 0 rfl rfl rfl (rest := [.int (nI ((4 * r) + 2)), .ref yr]) rfl (Nat.le_of_ble_eq_true rfl) [(m, .inr (6, [.int xth, .ref ys, .ref ya, .ref yt, .int xsm, .ref yn, .int xhs, .ref yx, .int (nI n), .int (nI (i + 1)), .int (0 : Int32), .ref yr, .int (nI r), .int xfb, .int xlr, .ref yd, .int xdm])), (yx, .inl (U.2.2.1 0, 60, .inl gx)), (yr, .inl (U.2.2.1 0, 64, .inl (upd (upd gr (4 * r) ((sgF gx n i) - (65 : Int32))) ((4 * r) + 1) (0 : Int32))))] [0, 1] [2] [1, 2, 0] (wr := [(yr, .inl (U.2.2.1 0, 64, .inl (upd (upd gr (4 * r) ((sgF gx n i) - (65 : Int32))) ((4 * r) + 1) (0 : Int32))))]) rfl rfl rfl rfl (by decide) rfl rfl  dX6_readsStep_137 ⟨Nat.le_of_ble_eq_true rfl, Nat.le_of_ble_eq_true rfl⟩ [.int ((sgF gx n (i + 1)) - (65 : Int32)), .int (nI ((4 * r) + 2)), .ref yr] rfl ?_
  refine J_iast C 2 [(m, .inr (6, [.int xth, .ref ys, .ref ya, .ref yt, .int xsm, .ref yn, .int xhs, .ref yx, .int (nI n), .int (nI (i + 1)), .int (0 : Int32), .ref yr, .int (nI r), .int xfb, .int xlr, .ref yd, .int xdm])), (yx, .inl (U.2.2.1 0, 60, .inl gx)), (yr, .inl (U.2.2.1 0, 64, .inl (upd (upd (upd gr (4 * r) ((sgF gx n i) - (65 : Int32))) ((4 * r) + 1) (0 : Int32)) ((4 * r) + 2) ((sgF gx n (i + 1)) - (65 : Int32)))))] rfl (vp_in_nI (n := (4 * r) + 2) (by omega) (by decide)) (by rw [(nI_clamp (n := (4 * r) + 2) (by omega))]; rfl) dX6_readsStep_140 ?_
  refine J_aload_n C dX6_readsStep_141 rfl rfl ?_
  refine J_get C 0 10 rfl rfl i_X6_readsStep_X6 (by decide) k_X6_readsStep_102 rfl rfl dX6_readsStep_142 ?_
  refine J_if_eq C 159 dX6_readsStep_145 (by decide) (fun _ => ?_) (fun h => absurd (by decide) h)
  refine J_iconst C (v := (0 : Int32)) dX6_readsStep_159 (by decide) ?_
  refine J_istore C [some (.ref m), some (.int (nI (4 * r))), some (.int (0 : Int32)), some (.int (0 : Int32)), some (.int (0 : Int32))] dX6_readsStep_160 (hN 4 (by decide)) rfl ?_
  refine J_iload C dX6_readsStep_162 rfl ?_
  refine J_bipush C (v := (43 : Int32)) dX6_readsStep_164 (by decide) ?_
  refine J_icmp_eq C 183 dX6_readsStep_166 (by decide) (fun h => absurd h (by decide)) (fun _ => ?_)
  refine J_iload C dX6_readsStep_169 rfl ?_
  refine J_bipush C (v := (45 : Int32)) dX6_readsStep_171 (by decide) ?_
  refine J_icmp_eq C 183 dX6_readsStep_173 (by decide) (fun h => absurd h (by decide)) (fun _ => ?_)
  refine J_iload C dX6_readsStep_176 rfl ?_
  refine J_bipush C (v := (42 : Int32)) dX6_readsStep_178 (by decide) ?_
  refine J_icmp_ne C 231 dX6_readsStep_180 (by decide) (fun _ => ?_) (fun h => absurd h (by decide))
  refine J_aload_n C dX6_readsStep_231 rfl rfl ?_
  refine J_dup C dX6_readsStep_232 rfl ?_
  refine J_get C 0 12 rfl rfl i_X6_readsStep_X6 (by decide) k_X6_readsStep_113 rfl rfl dX6_readsStep_233 ?_
  refine J_aload_n C dX6_readsStep_236 rfl rfl ?_
  refine J_get C 0 10 rfl rfl i_X6_readsStep_X6 (by decide) k_X6_readsStep_102 rfl rfl dX6_readsStep_237 ?_
  refine J_if_eq C 247 dX6_readsStep_240 (by decide) (fun _ => ?_) (fun h => absurd (by decide) h)
  refine J_iconst C (v := (0 : Int32)) dX6_readsStep_247 (by decide) ?_
  refine J_iadd C (v := nI r) dX6_readsStep_248 (nI_add r 0) ?_
  refine J_put C tyX6 0 12 [(m, .inr (6, [.int xth, .ref ys, .ref ya, .ref yt, .int xsm, .ref yn, .int xhs, .ref yx, .int (nI n), .int (nI (i + 1)), .int (0 : Int32), .ref yr, .int (nI r), .int xfb, .int xlr, .ref yd, .int xdm])), (yx, .inl (U.2.2.1 0, 60, .inl gx)), (yr, .inl (U.2.2.1 0, 64, .inl (upd (upd (upd gr (4 * r) ((sgF gx n i) - (65 : Int32))) ((4 * r) + 1) (0 : Int32)) ((4 * r) + 2) ((sgF gx n (i + 1)) - (65 : Int32)))))] rfl rfl i_X6_readsStep_X6 tyX6_ok nmX6 (by decide) k_X6_readsStep_113 rfl rfl rfl rfl (Nat.le_of_ble_eq_true rfl) rfl dX6_readsStep_249 ?_
  exact J_vret C R dX6_readsStep_252 (Nat.le_of_ble_eq_true rfl) (Nat.le_of_ble_eq_true rfl) rfl rfl
set_option maxHeartbeats 4000000 in
set_option maxRecDepth 100000 in
theorem c_X6_readsStep_F3 (U : jU) (m ys ya yt yn yx yr yd : Nat) (xth xsm xhs xln xat xiw xrm xfb xlr xdm : Int32) (gx gr : Nat → Int32) (n i r : Nat) (v_0 : inF (sgF gx n i) 65 70) (v_1 : inF (sgF gx n (i + 1)) 61 61) (v_2 : (sgF gx n ((i + 1) + 1)) = 45) (v_9 : ¬ (sgF gx n ((i + 1) + 1)) = 35) (v_3 : ¬ inF (sgF gx n (((i + 1) + 1) + 1)) 65 70) (hn : n ≤ 60) (hi : i ≤ 60) (hr : r ≤ 15) : Fn U yX6_readsStep wsX6_readsStep { frames := 3, cells := 0, slots := 0, locals := 68 } [.ref m] [(m, .inr (6, [.int xth, .ref ys, .ref ya, .ref yt, .int xsm, .ref yn, .int xhs, .ref yx, .int (nI n), .int (nI i), .int xiw, .ref yr, .int (nI r), .int xfb, .int xlr, .ref yd, .int xdm])), (yx, .inl (U.2.2.1 0, 60, .inl gx)), (yr, .inl (U.2.2.1 0, 64, .inl gr))] none [(m, .inr (6, [.int xth, .ref ys, .ref ya, .ref yt, .int xsm, .ref yn, .int xhs, .ref yx, .int (nI n), .int (nI (((i + 1) + 1) + 1)), .int (0 : Int32), .ref yr, .int (nI r), .int xfb, .int xlr, .ref yd, .int xdm])), (yx, .inl (U.2.2.1 0, 60, .inl gx)), (yr, .inl (U.2.2.1 0, 64, .inl (upd (upd (upd gr (4 * r) ((sgF gx n i) - (65 : Int32))) ((4 * r) + 1) (sgF gx n ((i + 1) + 1))) ((4 * r) + 2) ((sgF gx n (((i + 1) + 1) + 1)) - (65 : Int32)))))] 0 0 := by
  refine Fn_of (cc := cX6_readsStep) (maxL := 5) (ret := none) [some (.ref m), none, none, none, none] (by decide +kernel) rfl (jcat rfl) (Nat.le_of_ble_eq_true rfl) rfl (fun k C R hin hnL => ?_)
  have hN : ∀ i, i < 5 → i < k.2.2.2.2.2.2.2.2.2.2.2.1 := fun i h => by rw [hnL]; exact h
  refine J_iconst C (v := (4 : Int32)) dX6_readsStep_0 (by decide) ?_
  refine J_aload_n C dX6_readsStep_1 rfl rfl ?_
  refine J_get C 0 12 rfl rfl i_X6_readsStep_X6 (by decide) k_X6_readsStep_113 rfl rfl dX6_readsStep_2 ?_
  refine J_imul C (v := nI (4 * r)) dX6_readsStep_5 (pk_mul 4 r) ?_
  refine J_istore_n C [some (.ref m), some (.int (nI (4 * r))), none, none, none] dX6_readsStep_6 rfl (hN 1 (by decide)) rfl ?_
  refine J_aload_n C dX6_readsStep_7 rfl rfl ?_
  refine J_iconst C (v := (1 : Int32)) dX6_readsStep_8 (by decide) ?_
  refine J_put C tyX6 0 10 [(m, .inr (6, [.int xth, .ref ys, .ref ya, .ref yt, .int xsm, .ref yn, .int xhs, .ref yx, .int (nI n), .int (nI i), .int (1 : Int32), .ref yr, .int (nI r), .int xfb, .int xlr, .ref yd, .int xdm])), (yx, .inl (U.2.2.1 0, 60, .inl gx)), (yr, .inl (U.2.2.1 0, 64, .inl gr))] rfl rfl i_X6_readsStep_X6 tyX6_ok nmX6 (by decide) k_X6_readsStep_102 rfl rfl rfl rfl (Nat.le_of_ble_eq_true rfl) rfl dX6_readsStep_9 ?_
  refine J_aload_n C dX6_readsStep_12 rfl rfl ?_
  refine J_get C 0 11 rfl rfl i_X6_readsStep_X6 (by decide) k_X6_readsStep_25 rfl rfl dX6_readsStep_13 ?_
  refine J_iload_n C dX6_readsStep_16 rfl rfl ?_
  refine J_aload_n C dX6_readsStep_17 rfl rfl ?_
  refine J_bipush C (v := (65 : Int32)) dX6_readsStep_18 (by decide) ?_
  refine J_bipush C (v := (70 : Int32)) dX6_readsStep_20 (by decide) ?_
  refine J_callV C (c_X6_takes_y U m ys ya yt yn yx yr yd xth xsm xhs (0 : Int32) (0 : Int32) (0 : Int32) (nI r) xfb xlr xdm gx n i (65 : Int32) (70 : Int32) v_0 hn (by omega)) gX6_readsStep_X6_takes (n := 2) rfl rfl rfl (by decide +kernel) ⟨Nat.le_of_ble_eq_true rfl, Nat.le_of_ble_eq_true rfl⟩ 0 rfl rfl rfl (rest := [.int (nI (4 * r)), .ref yr]) rfl (Nat.le_of_ble_eq_true rfl) [(m, .inr (6, [.int xth, .ref ys, .ref ya, .ref yt, .int xsm, .ref yn, .int xhs, .ref yx, .int (nI n), .int (nI (i + 1)), .int (1 : Int32), .ref yr, .int (nI r), .int xfb, .int xlr, .ref yd, .int xdm])), (yx, .inl (U.2.2.1 0, 60, .inl gx)), (yr, .inl (U.2.2.1 0, 64, .inl gr))] [0, 1] [2] [1, 2, 0] (wr := [(yr, .inl (U.2.2.1 0, 64, .inl gr))]) rfl rfl rfl rfl (by decide) rfl rfl  dX6_readsStep_22 ⟨Nat.le_of_ble_eq_true rfl, Nat.le_of_ble_eq_true rfl⟩ [.int ((sgF gx n i) - (65 : Int32)), .int (nI (4 * r)), .ref yr] rfl ?_
  refine J_iast C 2 [(m, .inr (6, [.int xth, .ref ys, .ref ya, .ref yt, .int xsm, .ref yn, .int xhs, .ref yx, .int (nI n), .int (nI (i + 1)), .int (1 : Int32), .ref yr, .int (nI r), .int xfb, .int xlr, .ref yd, .int xdm])), (yx, .inl (U.2.2.1 0, 60, .inl gx)), (yr, .inl (U.2.2.1 0, 64, .inl (upd gr (4 * r) ((sgF gx n i) - (65 : Int32)))))] rfl (vp_in_nI (n := 4 * r) (by omega) (by decide)) (by rw [(nI_clamp (n := 4 * r) (by omega))]; rfl) dX6_readsStep_25 ?_
  refine J_aload_n C dX6_readsStep_26 rfl rfl ?_
  refine J_bipush C (v := (61 : Int32)) dX6_readsStep_27 (by decide) ?_
  refine J_bipush C (v := (61 : Int32)) dX6_readsStep_29 (by decide) ?_
  refine J_callV C (c_X6_takes_y U m ys ya yt yn yx yr yd xth xsm xhs (0 : Int32) (0 : Int32) (0 : Int32) (nI r) xfb xlr xdm gx n (i + 1) (61 : Int32) (61 : Int32) v_1 hn (by omega)) gX6_readsStep_X6_takes (n := 2) rfl rfl rfl (by decide +kernel) ⟨Nat.le_of_ble_eq_true rfl, Nat.le_of_ble_eq_true rfl⟩ 0 rfl rfl rfl (rest := []) rfl (Nat.le_of_ble_eq_true rfl) [(m, .inr (6, [.int xth, .ref ys, .ref ya, .ref yt, .int xsm, .ref yn, .int xhs, .ref yx, .int (nI n), .int (nI ((i + 1) + 1)), .int (1 : Int32), .ref yr, .int (nI r), .int xfb, .int xlr, .ref yd, .int xdm])), (yx, .inl (U.2.2.1 0, 60, .inl gx)), (yr, .inl (U.2.2.1 0, 64, .inl (upd gr (4 * r) ((sgF gx n i) - (65 : Int32)))))] [0, 1] [2] [1, 2, 0] (wr := [(yr, .inl (U.2.2.1 0, 64, .inl (upd gr (4 * r) ((sgF gx n i) - (65 : Int32)))))]) rfl rfl rfl rfl (by decide) rfl rfl  dX6_readsStep_31 ⟨Nat.le_of_ble_eq_true rfl, Nat.le_of_ble_eq_true rfl⟩ [.int ((sgF gx n (i + 1)) - (61 : Int32))] rfl ?_
  refine J_pop C dX6_readsStep_34 rfl ?_
  refine J_aload_n C dX6_readsStep_35 rfl rfl ?_
  refine J_get C 0 10 rfl rfl i_X6_readsStep_X6 (by decide) k_X6_readsStep_102 rfl rfl dX6_readsStep_36 ?_
  refine J_if_eq C 49 dX6_readsStep_39 (by decide) (fun h => absurd h (by decide)) (fun _ => ?_)
  refine J_aload_n C dX6_readsStep_42 rfl rfl ?_
  refine J_callV C (c_X6_sign U m ys ya yt yn yx yr yd xth xsm xhs (0 : Int32) (0 : Int32) (1 : Int32) (nI r) xfb xlr xdm gx n ((i + 1) + 1) hn (by omega)) gX6_readsStep_X6_sign (n := 0) rfl rfl rfl (by decide +kernel) ⟨Nat.le_of_ble_eq_true rfl, Nat.le_of_ble_eq_true rfl⟩ 0 rfl rfl rfl (rest := []) rfl (Nat.le_of_ble_eq_true rfl) [(m, .inr (6, [.int xth, .ref ys, .ref ya, .ref yt, .int xsm, .ref yn, .int xhs, .ref yx, .int (nI n), .int (nI ((i + 1) + 1)), .int (1 : Int32), .ref yr, .int (nI r), .int xfb, .int xlr, .ref yd, .int xdm])), (yx, .inl (U.2.2.1 0, 60, .inl gx)), (yr, .inl (U.2.2.1 0, 64, .inl (upd gr (4 * r) ((sgF gx n i) - (65 : Int32)))))] [0, 1] [2] [1, 2, 0] (wr := [(yr, .inl (U.2.2.1 0, 64, .inl (upd gr (4 * r) ((sgF gx n i) - (65 : Int32)))))]) rfl rfl rfl rfl (by decide) rfl rfl  dX6_readsStep_43 ⟨Nat.le_of_ble_eq_true rfl, Nat.le_of_ble_eq_true rfl⟩ [.int (sgF gx n ((i + 1) + 1))] rfl ?_
  refine J_goto C 50 dX6_readsStep_46 (by decide) ?_
  refine J_istore_n C [some (.ref m), some (.int (nI (4 * r))), some (.int (sgF gx n ((i + 1) + 1))), none, none] dX6_readsStep_50 rfl (hN 2 (by decide)) rfl ?_
  refine J_iload_n C dX6_readsStep_51 rfl rfl ?_
  refine J_bipush C (v := (45 : Int32)) dX6_readsStep_52 (by decide) ?_
  refine J_icmp_eq C 63 dX6_readsStep_54 (by decide) (fun _ => ?_) (fun h => absurd v_2 h)
  refine J_iconst C (v := (1 : Int32)) dX6_readsStep_63 (by decide) ?_
  refine J_goto C 68 dX6_readsStep_64 (by decide) ?_
  refine J_istore_n C [some (.ref m), some (.int (nI (4 * r))), some (.int (sgF gx n ((i + 1) + 1))), some (.int (1 : Int32)), none] dX6_readsStep_68 rfl (hN 3 (by decide)) rfl ?_
  refine J_aload_n C dX6_readsStep_69 rfl rfl ?_
  refine J_dup C dX6_readsStep_70 rfl ?_
  refine J_get C 0 9 rfl rfl i_X6_readsStep_X6 (by decide) k_X6_readsStep_99 rfl rfl dX6_readsStep_71 ?_
  refine J_iload_n C dX6_readsStep_74 rfl rfl ?_
  refine J_if_eq C 82 dX6_readsStep_75 (by decide) (fun h => absurd h (by decide)) (fun _ => ?_)
  refine J_iconst C (v := (1 : Int32)) dX6_readsStep_78 (by decide) ?_
  refine J_goto C 83 dX6_readsStep_79 (by decide) ?_
  refine J_iadd C (v := nI (((i + 1) + 1) + 1)) dX6_readsStep_83 (nI_add ((i + 1) + 1) 1) ?_
  refine J_put C tyX6 0 9 [(m, .inr (6, [.int xth, .ref ys, .ref ya, .ref yt, .int xsm, .ref yn, .int xhs, .ref yx, .int (nI n), .int (nI (((i + 1) + 1) + 1)), .int (1 : Int32), .ref yr, .int (nI r), .int xfb, .int xlr, .ref yd, .int xdm])), (yx, .inl (U.2.2.1 0, 60, .inl gx)), (yr, .inl (U.2.2.1 0, 64, .inl (upd gr (4 * r) ((sgF gx n i) - (65 : Int32)))))] rfl rfl i_X6_readsStep_X6 tyX6_ok nmX6 (by decide) k_X6_readsStep_99 rfl rfl rfl rfl (Nat.le_of_ble_eq_true rfl) rfl dX6_readsStep_84 ?_
  refine J_aload_n C dX6_readsStep_87 rfl rfl ?_
  refine J_get C 0 11 rfl rfl i_X6_readsStep_X6 (by decide) k_X6_readsStep_25 rfl rfl dX6_readsStep_88 ?_
  refine J_iload_n C dX6_readsStep_91 rfl rfl ?_
  refine J_iconst C (v := (1 : Int32)) dX6_readsStep_92 (by decide) ?_
  refine J_iadd C (v := nI ((4 * r) + 1)) dX6_readsStep_93 (nI_add (4 * r) 1) ?_
  refine J_iload_n C dX6_readsStep_94 rfl rfl ?_
  refine J_if_eq C 102 dX6_readsStep_95 (by decide) (fun h => absurd h (by decide)) (fun _ => ?_)
  refine J_iload_n C dX6_readsStep_98 rfl rfl ?_
  refine J_goto C 103 dX6_readsStep_99 (by decide) ?_
  refine J_iast C 2 [(m, .inr (6, [.int xth, .ref ys, .ref ya, .ref yt, .int xsm, .ref yn, .int xhs, .ref yx, .int (nI n), .int (nI (((i + 1) + 1) + 1)), .int (1 : Int32), .ref yr, .int (nI r), .int xfb, .int xlr, .ref yd, .int xdm])), (yx, .inl (U.2.2.1 0, 60, .inl gx)), (yr, .inl (U.2.2.1 0, 64, .inl (upd (upd gr (4 * r) ((sgF gx n i) - (65 : Int32))) ((4 * r) + 1) (sgF gx n ((i + 1) + 1)))))] rfl (vp_in_nI (n := (4 * r) + 1) (by omega) (by decide)) (by rw [(nI_clamp (n := (4 * r) + 1) (by omega))]; rfl) dX6_readsStep_103 ?_
  refine J_iload_n C dX6_readsStep_104 rfl rfl ?_
  refine J_bipush C (v := (35 : Int32)) dX6_readsStep_105 (by decide) ?_
  refine J_icmp_ne C 125 dX6_readsStep_107 (by decide) (fun _ => ?_) (fun h => absurd h v_9)
  refine J_aload_n C dX6_readsStep_125 rfl rfl ?_
  refine J_get C 0 11 rfl rfl i_X6_readsStep_X6 (by decide) k_X6_readsStep_25 rfl rfl dX6_readsStep_126 ?_
  refine J_iload_n C dX6_readsStep_129 rfl rfl ?_
  refine J_iconst C (v := (2 : Int32)) dX6_readsStep_130 (by decide) ?_
  refine J_iadd C (v := nI ((4 * r) + 2)) dX6_readsStep_131 (nI_add (4 * r) 2) ?_
  refine J_aload_n C dX6_readsStep_132 rfl rfl ?_
  refine J_bipush C (v := (65 : Int32)) dX6_readsStep_133 (by decide) ?_
  refine J_bipush C (v := (70 : Int32)) dX6_readsStep_135 (by decide) ?_
  refine J_callV C (c_X6_takes_f U m ys ya yt yn yx yr yd xth xsm xhs (0 : Int32) (0 : Int32) (0 : Int32) (nI r) xfb xlr xdm gx n (((i + 1) + 1) + 1) (65 : Int32) (70 : Int32) v_3 hn (by omega)) gX6_readsStep_X6_takes (n := 2) rfl rfl rfl (by decide +kernel) ⟨Nat.le_of_ble_eq_true rfl, Nat.le_of_ble_eq_true rfl⟩ 0 rfl rfl rfl (rest := [.int (nI ((4 * r) + 2)), .ref yr]) rfl (Nat.le_of_ble_eq_true rfl) [(m, .inr (6, [.int xth, .ref ys, .ref ya, .ref yt, .int xsm, .ref yn, .int xhs, .ref yx, .int (nI n), .int (nI (((i + 1) + 1) + 1)), .int (0 : Int32), .ref yr, .int (nI r), .int xfb, .int xlr, .ref yd, .int xdm])), (yx, .inl (U.2.2.1 0, 60, .inl gx)), (yr, .inl (U.2.2.1 0, 64, .inl (upd (upd gr (4 * r) ((sgF gx n i) - (65 : Int32))) ((4 * r) + 1) (sgF gx n ((i + 1) + 1)))))] [0, 1] [2] [1, 2, 0] (wr := [(yr, .inl (U.2.2.1 0, 64, .inl (upd (upd gr (4 * r) ((sgF gx n i) - (65 : Int32))) ((4 * r) + 1) (sgF gx n ((i + 1) + 1)))))]) rfl rfl rfl rfl (by decide) rfl rfl  dX6_readsStep_137 ⟨Nat.le_of_ble_eq_true rfl, Nat.le_of_ble_eq_true rfl⟩ [.int ((sgF gx n (((i + 1) + 1) + 1)) - (65 : Int32)), .int (nI ((4 * r) + 2)), .ref yr] rfl ?_
  refine J_iast C 2 [(m, .inr (6, [.int xth, .ref ys, .ref ya, .ref yt, .int xsm, .ref yn, .int xhs, .ref yx, .int (nI n), .int (nI (((i + 1) + 1) + 1)), .int (0 : Int32), .ref yr, .int (nI r), .int xfb, .int xlr, .ref yd, .int xdm])), (yx, .inl (U.2.2.1 0, 60, .inl gx)), (yr, .inl (U.2.2.1 0, 64, .inl (upd (upd (upd gr (4 * r) ((sgF gx n i) - (65 : Int32))) ((4 * r) + 1) (sgF gx n ((i + 1) + 1))) ((4 * r) + 2) ((sgF gx n (((i + 1) + 1) + 1)) - (65 : Int32)))))] rfl (vp_in_nI (n := (4 * r) + 2) (by omega) (by decide)) (by rw [(nI_clamp (n := (4 * r) + 2) (by omega))]; rfl) dX6_readsStep_140 ?_
  refine J_aload_n C dX6_readsStep_141 rfl rfl ?_
  refine J_get C 0 10 rfl rfl i_X6_readsStep_X6 (by decide) k_X6_readsStep_102 rfl rfl dX6_readsStep_142 ?_
  refine J_if_eq C 159 dX6_readsStep_145 (by decide) (fun _ => ?_) (fun h => absurd (by decide) h)
  refine J_iconst C (v := (0 : Int32)) dX6_readsStep_159 (by decide) ?_
  refine J_istore C [some (.ref m), some (.int (nI (4 * r))), some (.int (sgF gx n ((i + 1) + 1))), some (.int (1 : Int32)), some (.int (0 : Int32))] dX6_readsStep_160 (hN 4 (by decide)) rfl ?_
  refine J_iload C dX6_readsStep_162 rfl ?_
  refine J_bipush C (v := (43 : Int32)) dX6_readsStep_164 (by decide) ?_
  refine J_icmp_eq C 183 dX6_readsStep_166 (by decide) (fun h => absurd h (by decide)) (fun _ => ?_)
  refine J_iload C dX6_readsStep_169 rfl ?_
  refine J_bipush C (v := (45 : Int32)) dX6_readsStep_171 (by decide) ?_
  refine J_icmp_eq C 183 dX6_readsStep_173 (by decide) (fun h => absurd h (by decide)) (fun _ => ?_)
  refine J_iload C dX6_readsStep_176 rfl ?_
  refine J_bipush C (v := (42 : Int32)) dX6_readsStep_178 (by decide) ?_
  refine J_icmp_ne C 231 dX6_readsStep_180 (by decide) (fun _ => ?_) (fun h => absurd h (by decide))
  refine J_aload_n C dX6_readsStep_231 rfl rfl ?_
  refine J_dup C dX6_readsStep_232 rfl ?_
  refine J_get C 0 12 rfl rfl i_X6_readsStep_X6 (by decide) k_X6_readsStep_113 rfl rfl dX6_readsStep_233 ?_
  refine J_aload_n C dX6_readsStep_236 rfl rfl ?_
  refine J_get C 0 10 rfl rfl i_X6_readsStep_X6 (by decide) k_X6_readsStep_102 rfl rfl dX6_readsStep_237 ?_
  refine J_if_eq C 247 dX6_readsStep_240 (by decide) (fun _ => ?_) (fun h => absurd (by decide) h)
  refine J_iconst C (v := (0 : Int32)) dX6_readsStep_247 (by decide) ?_
  refine J_iadd C (v := nI r) dX6_readsStep_248 (nI_add r 0) ?_
  refine J_put C tyX6 0 12 [(m, .inr (6, [.int xth, .ref ys, .ref ya, .ref yt, .int xsm, .ref yn, .int xhs, .ref yx, .int (nI n), .int (nI (((i + 1) + 1) + 1)), .int (0 : Int32), .ref yr, .int (nI r), .int xfb, .int xlr, .ref yd, .int xdm])), (yx, .inl (U.2.2.1 0, 60, .inl gx)), (yr, .inl (U.2.2.1 0, 64, .inl (upd (upd (upd gr (4 * r) ((sgF gx n i) - (65 : Int32))) ((4 * r) + 1) (sgF gx n ((i + 1) + 1))) ((4 * r) + 2) ((sgF gx n (((i + 1) + 1) + 1)) - (65 : Int32)))))] rfl rfl i_X6_readsStep_X6 tyX6_ok nmX6 (by decide) k_X6_readsStep_113 rfl rfl rfl rfl (Nat.le_of_ble_eq_true rfl) rfl dX6_readsStep_249 ?_
  exact J_vret C R dX6_readsStep_252 (Nat.le_of_ble_eq_true rfl) (Nat.le_of_ble_eq_true rfl) rfl rfl
set_option maxHeartbeats 4000000 in
set_option maxRecDepth 100000 in
theorem c_X6_readsStep_O1 (U : jU) (m ys ya yt yn yx yr yd : Nat) (xth xsm xhs xln xat xiw xrm xfb xlr xdm : Int32) (gx gr : Nat → Int32) (n i r : Nat) (v_0 : inF (sgF gx n i) 65 70) (v_1 : inF (sgF gx n (i + 1)) 61 61) (v_2 : (sgF gx n ((i + 1) + 1)) = 45) (v_9 : ¬ (sgF gx n ((i + 1) + 1)) = 35) (v_3 : inF (sgF gx n (((i + 1) + 1) + 1)) 65 70) (hn : n ≤ 60) (hi : i ≤ 60) (hr : r ≤ 15) : Fn U yX6_readsStep wsX6_readsStep { frames := 3, cells := 0, slots := 0, locals := 68 } [.ref m] [(m, .inr (6, [.int xth, .ref ys, .ref ya, .ref yt, .int xsm, .ref yn, .int xhs, .ref yx, .int (nI n), .int (nI i), .int xiw, .ref yr, .int (nI r), .int xfb, .int xlr, .ref yd, .int xdm])), (yx, .inl (U.2.2.1 0, 60, .inl gx)), (yr, .inl (U.2.2.1 0, 64, .inl gr))] none [(m, .inr (6, [.int xth, .ref ys, .ref ya, .ref yt, .int xsm, .ref yn, .int xhs, .ref yx, .int (nI n), .int (nI ((((i + 1) + 1) + 1) + 1)), .int (1 : Int32), .ref yr, .int (nI (r + 1)), .int xfb, .int xlr, .ref yd, .int xdm])), (yx, .inl (U.2.2.1 0, 60, .inl gx)), (yr, .inl (U.2.2.1 0, 64, .inl (upd (upd (upd gr (4 * r) ((sgF gx n i) - (65 : Int32))) ((4 * r) + 1) (sgF gx n ((i + 1) + 1))) ((4 * r) + 2) ((sgF gx n (((i + 1) + 1) + 1)) - (65 : Int32)))))] 0 0 := by
  refine Fn_of (cc := cX6_readsStep) (maxL := 5) (ret := none) [some (.ref m), none, none, none, none] (by decide +kernel) rfl (jcat rfl) (Nat.le_of_ble_eq_true rfl) rfl (fun k C R hin hnL => ?_)
  have hN : ∀ i, i < 5 → i < k.2.2.2.2.2.2.2.2.2.2.2.1 := fun i h => by rw [hnL]; exact h
  refine J_iconst C (v := (4 : Int32)) dX6_readsStep_0 (by decide) ?_
  refine J_aload_n C dX6_readsStep_1 rfl rfl ?_
  refine J_get C 0 12 rfl rfl i_X6_readsStep_X6 (by decide) k_X6_readsStep_113 rfl rfl dX6_readsStep_2 ?_
  refine J_imul C (v := nI (4 * r)) dX6_readsStep_5 (pk_mul 4 r) ?_
  refine J_istore_n C [some (.ref m), some (.int (nI (4 * r))), none, none, none] dX6_readsStep_6 rfl (hN 1 (by decide)) rfl ?_
  refine J_aload_n C dX6_readsStep_7 rfl rfl ?_
  refine J_iconst C (v := (1 : Int32)) dX6_readsStep_8 (by decide) ?_
  refine J_put C tyX6 0 10 [(m, .inr (6, [.int xth, .ref ys, .ref ya, .ref yt, .int xsm, .ref yn, .int xhs, .ref yx, .int (nI n), .int (nI i), .int (1 : Int32), .ref yr, .int (nI r), .int xfb, .int xlr, .ref yd, .int xdm])), (yx, .inl (U.2.2.1 0, 60, .inl gx)), (yr, .inl (U.2.2.1 0, 64, .inl gr))] rfl rfl i_X6_readsStep_X6 tyX6_ok nmX6 (by decide) k_X6_readsStep_102 rfl rfl rfl rfl (Nat.le_of_ble_eq_true rfl) rfl dX6_readsStep_9 ?_
  refine J_aload_n C dX6_readsStep_12 rfl rfl ?_
  refine J_get C 0 11 rfl rfl i_X6_readsStep_X6 (by decide) k_X6_readsStep_25 rfl rfl dX6_readsStep_13 ?_
  refine J_iload_n C dX6_readsStep_16 rfl rfl ?_
  refine J_aload_n C dX6_readsStep_17 rfl rfl ?_
  refine J_bipush C (v := (65 : Int32)) dX6_readsStep_18 (by decide) ?_
  refine J_bipush C (v := (70 : Int32)) dX6_readsStep_20 (by decide) ?_
  refine J_callV C (c_X6_takes_y U m ys ya yt yn yx yr yd xth xsm xhs (0 : Int32) (0 : Int32) (0 : Int32) (nI r) xfb xlr xdm gx n i (65 : Int32) (70 : Int32) v_0 hn (by omega)) gX6_readsStep_X6_takes (n := 2) rfl rfl rfl (by decide +kernel) ⟨Nat.le_of_ble_eq_true rfl, Nat.le_of_ble_eq_true rfl⟩ 0 rfl rfl rfl (rest := [.int (nI (4 * r)), .ref yr]) rfl (Nat.le_of_ble_eq_true rfl) [(m, .inr (6, [.int xth, .ref ys, .ref ya, .ref yt, .int xsm, .ref yn, .int xhs, .ref yx, .int (nI n), .int (nI (i + 1)), .int (1 : Int32), .ref yr, .int (nI r), .int xfb, .int xlr, .ref yd, .int xdm])), (yx, .inl (U.2.2.1 0, 60, .inl gx)), (yr, .inl (U.2.2.1 0, 64, .inl gr))] [0, 1] [2] [1, 2, 0] (wr := [(yr, .inl (U.2.2.1 0, 64, .inl gr))]) rfl rfl rfl rfl (by decide) rfl rfl  dX6_readsStep_22 ⟨Nat.le_of_ble_eq_true rfl, Nat.le_of_ble_eq_true rfl⟩ [.int ((sgF gx n i) - (65 : Int32)), .int (nI (4 * r)), .ref yr] rfl ?_
  refine J_iast C 2 [(m, .inr (6, [.int xth, .ref ys, .ref ya, .ref yt, .int xsm, .ref yn, .int xhs, .ref yx, .int (nI n), .int (nI (i + 1)), .int (1 : Int32), .ref yr, .int (nI r), .int xfb, .int xlr, .ref yd, .int xdm])), (yx, .inl (U.2.2.1 0, 60, .inl gx)), (yr, .inl (U.2.2.1 0, 64, .inl (upd gr (4 * r) ((sgF gx n i) - (65 : Int32)))))] rfl (vp_in_nI (n := 4 * r) (by omega) (by decide)) (by rw [(nI_clamp (n := 4 * r) (by omega))]; rfl) dX6_readsStep_25 ?_
  refine J_aload_n C dX6_readsStep_26 rfl rfl ?_
  refine J_bipush C (v := (61 : Int32)) dX6_readsStep_27 (by decide) ?_
  refine J_bipush C (v := (61 : Int32)) dX6_readsStep_29 (by decide) ?_
  refine J_callV C (c_X6_takes_y U m ys ya yt yn yx yr yd xth xsm xhs (0 : Int32) (0 : Int32) (0 : Int32) (nI r) xfb xlr xdm gx n (i + 1) (61 : Int32) (61 : Int32) v_1 hn (by omega)) gX6_readsStep_X6_takes (n := 2) rfl rfl rfl (by decide +kernel) ⟨Nat.le_of_ble_eq_true rfl, Nat.le_of_ble_eq_true rfl⟩ 0 rfl rfl rfl (rest := []) rfl (Nat.le_of_ble_eq_true rfl) [(m, .inr (6, [.int xth, .ref ys, .ref ya, .ref yt, .int xsm, .ref yn, .int xhs, .ref yx, .int (nI n), .int (nI ((i + 1) + 1)), .int (1 : Int32), .ref yr, .int (nI r), .int xfb, .int xlr, .ref yd, .int xdm])), (yx, .inl (U.2.2.1 0, 60, .inl gx)), (yr, .inl (U.2.2.1 0, 64, .inl (upd gr (4 * r) ((sgF gx n i) - (65 : Int32)))))] [0, 1] [2] [1, 2, 0] (wr := [(yr, .inl (U.2.2.1 0, 64, .inl (upd gr (4 * r) ((sgF gx n i) - (65 : Int32)))))]) rfl rfl rfl rfl (by decide) rfl rfl  dX6_readsStep_31 ⟨Nat.le_of_ble_eq_true rfl, Nat.le_of_ble_eq_true rfl⟩ [.int ((sgF gx n (i + 1)) - (61 : Int32))] rfl ?_
  refine J_pop C dX6_readsStep_34 rfl ?_
  refine J_aload_n C dX6_readsStep_35 rfl rfl ?_
  refine J_get C 0 10 rfl rfl i_X6_readsStep_X6 (by decide) k_X6_readsStep_102 rfl rfl dX6_readsStep_36 ?_
  refine J_if_eq C 49 dX6_readsStep_39 (by decide) (fun h => absurd h (by decide)) (fun _ => ?_)
  refine J_aload_n C dX6_readsStep_42 rfl rfl ?_
  refine J_callV C (c_X6_sign U m ys ya yt yn yx yr yd xth xsm xhs (0 : Int32) (0 : Int32) (1 : Int32) (nI r) xfb xlr xdm gx n ((i + 1) + 1) hn (by omega)) gX6_readsStep_X6_sign (n := 0) rfl rfl rfl (by decide +kernel) ⟨Nat.le_of_ble_eq_true rfl, Nat.le_of_ble_eq_true rfl⟩ 0 rfl rfl rfl (rest := []) rfl (Nat.le_of_ble_eq_true rfl) [(m, .inr (6, [.int xth, .ref ys, .ref ya, .ref yt, .int xsm, .ref yn, .int xhs, .ref yx, .int (nI n), .int (nI ((i + 1) + 1)), .int (1 : Int32), .ref yr, .int (nI r), .int xfb, .int xlr, .ref yd, .int xdm])), (yx, .inl (U.2.2.1 0, 60, .inl gx)), (yr, .inl (U.2.2.1 0, 64, .inl (upd gr (4 * r) ((sgF gx n i) - (65 : Int32)))))] [0, 1] [2] [1, 2, 0] (wr := [(yr, .inl (U.2.2.1 0, 64, .inl (upd gr (4 * r) ((sgF gx n i) - (65 : Int32)))))]) rfl rfl rfl rfl (by decide) rfl rfl  dX6_readsStep_43 ⟨Nat.le_of_ble_eq_true rfl, Nat.le_of_ble_eq_true rfl⟩ [.int (sgF gx n ((i + 1) + 1))] rfl ?_
  refine J_goto C 50 dX6_readsStep_46 (by decide) ?_
  refine J_istore_n C [some (.ref m), some (.int (nI (4 * r))), some (.int (sgF gx n ((i + 1) + 1))), none, none] dX6_readsStep_50 rfl (hN 2 (by decide)) rfl ?_
  refine J_iload_n C dX6_readsStep_51 rfl rfl ?_
  refine J_bipush C (v := (45 : Int32)) dX6_readsStep_52 (by decide) ?_
  refine J_icmp_eq C 63 dX6_readsStep_54 (by decide) (fun _ => ?_) (fun h => absurd v_2 h)
  refine J_iconst C (v := (1 : Int32)) dX6_readsStep_63 (by decide) ?_
  refine J_goto C 68 dX6_readsStep_64 (by decide) ?_
  refine J_istore_n C [some (.ref m), some (.int (nI (4 * r))), some (.int (sgF gx n ((i + 1) + 1))), some (.int (1 : Int32)), none] dX6_readsStep_68 rfl (hN 3 (by decide)) rfl ?_
  refine J_aload_n C dX6_readsStep_69 rfl rfl ?_
  refine J_dup C dX6_readsStep_70 rfl ?_
  refine J_get C 0 9 rfl rfl i_X6_readsStep_X6 (by decide) k_X6_readsStep_99 rfl rfl dX6_readsStep_71 ?_
  refine J_iload_n C dX6_readsStep_74 rfl rfl ?_
  refine J_if_eq C 82 dX6_readsStep_75 (by decide) (fun h => absurd h (by decide)) (fun _ => ?_)
  refine J_iconst C (v := (1 : Int32)) dX6_readsStep_78 (by decide) ?_
  refine J_goto C 83 dX6_readsStep_79 (by decide) ?_
  refine J_iadd C (v := nI (((i + 1) + 1) + 1)) dX6_readsStep_83 (nI_add ((i + 1) + 1) 1) ?_
  refine J_put C tyX6 0 9 [(m, .inr (6, [.int xth, .ref ys, .ref ya, .ref yt, .int xsm, .ref yn, .int xhs, .ref yx, .int (nI n), .int (nI (((i + 1) + 1) + 1)), .int (1 : Int32), .ref yr, .int (nI r), .int xfb, .int xlr, .ref yd, .int xdm])), (yx, .inl (U.2.2.1 0, 60, .inl gx)), (yr, .inl (U.2.2.1 0, 64, .inl (upd gr (4 * r) ((sgF gx n i) - (65 : Int32)))))] rfl rfl i_X6_readsStep_X6 tyX6_ok nmX6 (by decide) k_X6_readsStep_99 rfl rfl rfl rfl (Nat.le_of_ble_eq_true rfl) rfl dX6_readsStep_84 ?_
  refine J_aload_n C dX6_readsStep_87 rfl rfl ?_
  refine J_get C 0 11 rfl rfl i_X6_readsStep_X6 (by decide) k_X6_readsStep_25 rfl rfl dX6_readsStep_88 ?_
  refine J_iload_n C dX6_readsStep_91 rfl rfl ?_
  refine J_iconst C (v := (1 : Int32)) dX6_readsStep_92 (by decide) ?_
  refine J_iadd C (v := nI ((4 * r) + 1)) dX6_readsStep_93 (nI_add (4 * r) 1) ?_
  refine J_iload_n C dX6_readsStep_94 rfl rfl ?_
  refine J_if_eq C 102 dX6_readsStep_95 (by decide) (fun h => absurd h (by decide)) (fun _ => ?_)
  refine J_iload_n C dX6_readsStep_98 rfl rfl ?_
  refine J_goto C 103 dX6_readsStep_99 (by decide) ?_
  refine J_iast C 2 [(m, .inr (6, [.int xth, .ref ys, .ref ya, .ref yt, .int xsm, .ref yn, .int xhs, .ref yx, .int (nI n), .int (nI (((i + 1) + 1) + 1)), .int (1 : Int32), .ref yr, .int (nI r), .int xfb, .int xlr, .ref yd, .int xdm])), (yx, .inl (U.2.2.1 0, 60, .inl gx)), (yr, .inl (U.2.2.1 0, 64, .inl (upd (upd gr (4 * r) ((sgF gx n i) - (65 : Int32))) ((4 * r) + 1) (sgF gx n ((i + 1) + 1)))))] rfl (vp_in_nI (n := (4 * r) + 1) (by omega) (by decide)) (by rw [(nI_clamp (n := (4 * r) + 1) (by omega))]; rfl) dX6_readsStep_103 ?_
  refine J_iload_n C dX6_readsStep_104 rfl rfl ?_
  refine J_bipush C (v := (35 : Int32)) dX6_readsStep_105 (by decide) ?_
  refine J_icmp_ne C 125 dX6_readsStep_107 (by decide) (fun _ => ?_) (fun h => absurd h v_9)
  refine J_aload_n C dX6_readsStep_125 rfl rfl ?_
  refine J_get C 0 11 rfl rfl i_X6_readsStep_X6 (by decide) k_X6_readsStep_25 rfl rfl dX6_readsStep_126 ?_
  refine J_iload_n C dX6_readsStep_129 rfl rfl ?_
  refine J_iconst C (v := (2 : Int32)) dX6_readsStep_130 (by decide) ?_
  refine J_iadd C (v := nI ((4 * r) + 2)) dX6_readsStep_131 (nI_add (4 * r) 2) ?_
  refine J_aload_n C dX6_readsStep_132 rfl rfl ?_
  refine J_bipush C (v := (65 : Int32)) dX6_readsStep_133 (by decide) ?_
  refine J_bipush C (v := (70 : Int32)) dX6_readsStep_135 (by decide) ?_
  refine J_callV C (c_X6_takes_y U m ys ya yt yn yx yr yd xth xsm xhs (0 : Int32) (0 : Int32) (0 : Int32) (nI r) xfb xlr xdm gx n (((i + 1) + 1) + 1) (65 : Int32) (70 : Int32) v_3 hn (by omega)) gX6_readsStep_X6_takes (n := 2) rfl rfl rfl (by decide +kernel) ⟨Nat.le_of_ble_eq_true rfl, Nat.le_of_ble_eq_true rfl⟩ 0 rfl rfl rfl (rest := [.int (nI ((4 * r) + 2)), .ref yr]) rfl (Nat.le_of_ble_eq_true rfl) [(m, .inr (6, [.int xth, .ref ys, .ref ya, .ref yt, .int xsm, .ref yn, .int xhs, .ref yx, .int (nI n), .int (nI ((((i + 1) + 1) + 1) + 1)), .int (1 : Int32), .ref yr, .int (nI r), .int xfb, .int xlr, .ref yd, .int xdm])), (yx, .inl (U.2.2.1 0, 60, .inl gx)), (yr, .inl (U.2.2.1 0, 64, .inl (upd (upd gr (4 * r) ((sgF gx n i) - (65 : Int32))) ((4 * r) + 1) (sgF gx n ((i + 1) + 1)))))] [0, 1] [2] [1, 2, 0] (wr := [(yr, .inl (U.2.2.1 0, 64, .inl (upd (upd gr (4 * r) ((sgF gx n i) - (65 : Int32))) ((4 * r) + 1) (sgF gx n ((i + 1) + 1)))))]) rfl rfl rfl rfl (by decide) rfl rfl  dX6_readsStep_137 ⟨Nat.le_of_ble_eq_true rfl, Nat.le_of_ble_eq_true rfl⟩ [.int ((sgF gx n (((i + 1) + 1) + 1)) - (65 : Int32)), .int (nI ((4 * r) + 2)), .ref yr] rfl ?_
  refine J_iast C 2 [(m, .inr (6, [.int xth, .ref ys, .ref ya, .ref yt, .int xsm, .ref yn, .int xhs, .ref yx, .int (nI n), .int (nI ((((i + 1) + 1) + 1) + 1)), .int (1 : Int32), .ref yr, .int (nI r), .int xfb, .int xlr, .ref yd, .int xdm])), (yx, .inl (U.2.2.1 0, 60, .inl gx)), (yr, .inl (U.2.2.1 0, 64, .inl (upd (upd (upd gr (4 * r) ((sgF gx n i) - (65 : Int32))) ((4 * r) + 1) (sgF gx n ((i + 1) + 1))) ((4 * r) + 2) ((sgF gx n (((i + 1) + 1) + 1)) - (65 : Int32)))))] rfl (vp_in_nI (n := (4 * r) + 2) (by omega) (by decide)) (by rw [(nI_clamp (n := (4 * r) + 2) (by omega))]; rfl) dX6_readsStep_140 ?_
  refine J_aload_n C dX6_readsStep_141 rfl rfl ?_
  refine J_get C 0 10 rfl rfl i_X6_readsStep_X6 (by decide) k_X6_readsStep_102 rfl rfl dX6_readsStep_142 ?_
  refine J_if_eq C 159 dX6_readsStep_145 (by decide) (fun h => absurd h (by decide)) (fun _ => ?_)
  refine J_iload_n C dX6_readsStep_148 rfl rfl ?_
  refine J_if_ne C 159 dX6_readsStep_149 (by decide) (fun _ => ?_) (fun h => absurd h (by decide))
  refine J_iconst C (v := (0 : Int32)) dX6_readsStep_159 (by decide) ?_
  refine J_istore C [some (.ref m), some (.int (nI (4 * r))), some (.int (sgF gx n ((i + 1) + 1))), some (.int (1 : Int32)), some (.int (0 : Int32))] dX6_readsStep_160 (hN 4 (by decide)) rfl ?_
  refine J_iload C dX6_readsStep_162 rfl ?_
  refine J_bipush C (v := (43 : Int32)) dX6_readsStep_164 (by decide) ?_
  refine J_icmp_eq C 183 dX6_readsStep_166 (by decide) (fun h => absurd h (by decide)) (fun _ => ?_)
  refine J_iload C dX6_readsStep_169 rfl ?_
  refine J_bipush C (v := (45 : Int32)) dX6_readsStep_171 (by decide) ?_
  refine J_icmp_eq C 183 dX6_readsStep_173 (by decide) (fun h => absurd h (by decide)) (fun _ => ?_)
  refine J_iload C dX6_readsStep_176 rfl ?_
  refine J_bipush C (v := (42 : Int32)) dX6_readsStep_178 (by decide) ?_
  refine J_icmp_ne C 231 dX6_readsStep_180 (by decide) (fun _ => ?_) (fun h => absurd h (by decide))
  refine J_aload_n C dX6_readsStep_231 rfl rfl ?_
  refine J_dup C dX6_readsStep_232 rfl ?_
  refine J_get C 0 12 rfl rfl i_X6_readsStep_X6 (by decide) k_X6_readsStep_113 rfl rfl dX6_readsStep_233 ?_
  refine J_aload_n C dX6_readsStep_236 rfl rfl ?_
  refine J_get C 0 10 rfl rfl i_X6_readsStep_X6 (by decide) k_X6_readsStep_102 rfl rfl dX6_readsStep_237 ?_
  refine J_if_eq C 247 dX6_readsStep_240 (by decide) (fun h => absurd h (by decide)) (fun _ => ?_)
  refine J_iconst C (v := (1 : Int32)) dX6_readsStep_243 (by decide) ?_
  refine J_goto C 248 dX6_readsStep_244 (by decide) ?_
  refine J_iadd C (v := nI (r + 1)) dX6_readsStep_248 (nI_add r 1) ?_
  refine J_put C tyX6 0 12 [(m, .inr (6, [.int xth, .ref ys, .ref ya, .ref yt, .int xsm, .ref yn, .int xhs, .ref yx, .int (nI n), .int (nI ((((i + 1) + 1) + 1) + 1)), .int (1 : Int32), .ref yr, .int (nI (r + 1)), .int xfb, .int xlr, .ref yd, .int xdm])), (yx, .inl (U.2.2.1 0, 60, .inl gx)), (yr, .inl (U.2.2.1 0, 64, .inl (upd (upd (upd gr (4 * r) ((sgF gx n i) - (65 : Int32))) ((4 * r) + 1) (sgF gx n ((i + 1) + 1))) ((4 * r) + 2) ((sgF gx n (((i + 1) + 1) + 1)) - (65 : Int32)))))] rfl rfl i_X6_readsStep_X6 tyX6_ok nmX6 (by decide) k_X6_readsStep_113 rfl rfl rfl rfl (Nat.le_of_ble_eq_true rfl) rfl dX6_readsStep_249 ?_
  exact J_vret C R dX6_readsStep_252 (Nat.le_of_ble_eq_true rfl) (Nat.le_of_ble_eq_true rfl) rfl rfl
set_option maxHeartbeats 4000000 in
set_option maxRecDepth 100000 in
theorem c_X6_readsStep_F4 (U : jU) (m ys ya yt yn yx yr yd : Nat) (xth xsm xhs xln xat xiw xrm xfb xlr xdm : Int32) (gx gr : Nat → Int32) (n i r : Nat) (v_0 : inF (sgF gx n i) 65 70) (v_1 : inF (sgF gx n (i + 1)) 61 61) (v_2 : ¬ (sgF gx n ((i + 1) + 1)) = 45) (v_3 : (sgF gx n ((i + 1) + 1)) = 35) (v_4 : (sgF gx n (((i + 1) + 1) + 1)) = 45) (v_5 : ¬ inF (sgF gx n ((((i + 1) + 1) + 1) + 1)) 49 57) (hn : n ≤ 60) (hi : i ≤ 60) (hr : r ≤ 15) : Fn U yX6_readsStep wsX6_readsStep { frames := 3, cells := 0, slots := 0, locals := 68 } [.ref m] [(m, .inr (6, [.int xth, .ref ys, .ref ya, .ref yt, .int xsm, .ref yn, .int xhs, .ref yx, .int (nI n), .int (nI i), .int xiw, .ref yr, .int (nI r), .int xfb, .int xlr, .ref yd, .int xdm])), (yx, .inl (U.2.2.1 0, 60, .inl gx)), (yr, .inl (U.2.2.1 0, 64, .inl gr))] none [(m, .inr (6, [.int xth, .ref ys, .ref ya, .ref yt, .int xsm, .ref yn, .int xhs, .ref yx, .int (nI n), .int (nI ((((i + 1) + 1) + 1) + 1)), .int (0 : Int32), .ref yr, .int (nI r), .int xfb, .int xlr, .ref yd, .int xdm])), (yx, .inl (U.2.2.1 0, 60, .inl gx)), (yr, .inl (U.2.2.1 0, 64, .inl (upd (upd (upd gr (4 * r) ((sgF gx n i) - (65 : Int32))) ((4 * r) + 1) (sgF gx n ((i + 1) + 1))) ((4 * r) + 2) (-(1 + ((sgF gx n ((((i + 1) + 1) + 1) + 1)) - 49))))))] 0 0 := by
  refine Fn_of (cc := cX6_readsStep) (maxL := 5) (ret := none) [some (.ref m), none, none, none, none] (by decide +kernel) rfl (jcat rfl) (Nat.le_of_ble_eq_true rfl) rfl (fun k C R hin hnL => ?_)
  have hN : ∀ i, i < 5 → i < k.2.2.2.2.2.2.2.2.2.2.2.1 := fun i h => by rw [hnL]; exact h
  refine J_iconst C (v := (4 : Int32)) dX6_readsStep_0 (by decide) ?_
  refine J_aload_n C dX6_readsStep_1 rfl rfl ?_
  refine J_get C 0 12 rfl rfl i_X6_readsStep_X6 (by decide) k_X6_readsStep_113 rfl rfl dX6_readsStep_2 ?_
  refine J_imul C (v := nI (4 * r)) dX6_readsStep_5 (pk_mul 4 r) ?_
  refine J_istore_n C [some (.ref m), some (.int (nI (4 * r))), none, none, none] dX6_readsStep_6 rfl (hN 1 (by decide)) rfl ?_
  refine J_aload_n C dX6_readsStep_7 rfl rfl ?_
  refine J_iconst C (v := (1 : Int32)) dX6_readsStep_8 (by decide) ?_
  refine J_put C tyX6 0 10 [(m, .inr (6, [.int xth, .ref ys, .ref ya, .ref yt, .int xsm, .ref yn, .int xhs, .ref yx, .int (nI n), .int (nI i), .int (1 : Int32), .ref yr, .int (nI r), .int xfb, .int xlr, .ref yd, .int xdm])), (yx, .inl (U.2.2.1 0, 60, .inl gx)), (yr, .inl (U.2.2.1 0, 64, .inl gr))] rfl rfl i_X6_readsStep_X6 tyX6_ok nmX6 (by decide) k_X6_readsStep_102 rfl rfl rfl rfl (Nat.le_of_ble_eq_true rfl) rfl dX6_readsStep_9 ?_
  refine J_aload_n C dX6_readsStep_12 rfl rfl ?_
  refine J_get C 0 11 rfl rfl i_X6_readsStep_X6 (by decide) k_X6_readsStep_25 rfl rfl dX6_readsStep_13 ?_
  refine J_iload_n C dX6_readsStep_16 rfl rfl ?_
  refine J_aload_n C dX6_readsStep_17 rfl rfl ?_
  refine J_bipush C (v := (65 : Int32)) dX6_readsStep_18 (by decide) ?_
  refine J_bipush C (v := (70 : Int32)) dX6_readsStep_20 (by decide) ?_
  refine J_callV C (c_X6_takes_y U m ys ya yt yn yx yr yd xth xsm xhs (0 : Int32) (0 : Int32) (0 : Int32) (nI r) xfb xlr xdm gx n i (65 : Int32) (70 : Int32) v_0 hn (by omega)) gX6_readsStep_X6_takes (n := 2) rfl rfl rfl (by decide +kernel) ⟨Nat.le_of_ble_eq_true rfl, Nat.le_of_ble_eq_true rfl⟩ 0 rfl rfl rfl (rest := [.int (nI (4 * r)), .ref yr]) rfl (Nat.le_of_ble_eq_true rfl) [(m, .inr (6, [.int xth, .ref ys, .ref ya, .ref yt, .int xsm, .ref yn, .int xhs, .ref yx, .int (nI n), .int (nI (i + 1)), .int (1 : Int32), .ref yr, .int (nI r), .int xfb, .int xlr, .ref yd, .int xdm])), (yx, .inl (U.2.2.1 0, 60, .inl gx)), (yr, .inl (U.2.2.1 0, 64, .inl gr))] [0, 1] [2] [1, 2, 0] (wr := [(yr, .inl (U.2.2.1 0, 64, .inl gr))]) rfl rfl rfl rfl (by decide) rfl rfl  dX6_readsStep_22 ⟨Nat.le_of_ble_eq_true rfl, Nat.le_of_ble_eq_true rfl⟩ [.int ((sgF gx n i) - (65 : Int32)), .int (nI (4 * r)), .ref yr] rfl ?_
  refine J_iast C 2 [(m, .inr (6, [.int xth, .ref ys, .ref ya, .ref yt, .int xsm, .ref yn, .int xhs, .ref yx, .int (nI n), .int (nI (i + 1)), .int (1 : Int32), .ref yr, .int (nI r), .int xfb, .int xlr, .ref yd, .int xdm])), (yx, .inl (U.2.2.1 0, 60, .inl gx)), (yr, .inl (U.2.2.1 0, 64, .inl (upd gr (4 * r) ((sgF gx n i) - (65 : Int32)))))] rfl (vp_in_nI (n := 4 * r) (by omega) (by decide)) (by rw [(nI_clamp (n := 4 * r) (by omega))]; rfl) dX6_readsStep_25 ?_
  refine J_aload_n C dX6_readsStep_26 rfl rfl ?_
  refine J_bipush C (v := (61 : Int32)) dX6_readsStep_27 (by decide) ?_
  refine J_bipush C (v := (61 : Int32)) dX6_readsStep_29 (by decide) ?_
  refine J_callV C (c_X6_takes_y U m ys ya yt yn yx yr yd xth xsm xhs (0 : Int32) (0 : Int32) (0 : Int32) (nI r) xfb xlr xdm gx n (i + 1) (61 : Int32) (61 : Int32) v_1 hn (by omega)) gX6_readsStep_X6_takes (n := 2) rfl rfl rfl (by decide +kernel) ⟨Nat.le_of_ble_eq_true rfl, Nat.le_of_ble_eq_true rfl⟩ 0 rfl rfl rfl (rest := []) rfl (Nat.le_of_ble_eq_true rfl) [(m, .inr (6, [.int xth, .ref ys, .ref ya, .ref yt, .int xsm, .ref yn, .int xhs, .ref yx, .int (nI n), .int (nI ((i + 1) + 1)), .int (1 : Int32), .ref yr, .int (nI r), .int xfb, .int xlr, .ref yd, .int xdm])), (yx, .inl (U.2.2.1 0, 60, .inl gx)), (yr, .inl (U.2.2.1 0, 64, .inl (upd gr (4 * r) ((sgF gx n i) - (65 : Int32)))))] [0, 1] [2] [1, 2, 0] (wr := [(yr, .inl (U.2.2.1 0, 64, .inl (upd gr (4 * r) ((sgF gx n i) - (65 : Int32)))))]) rfl rfl rfl rfl (by decide) rfl rfl  dX6_readsStep_31 ⟨Nat.le_of_ble_eq_true rfl, Nat.le_of_ble_eq_true rfl⟩ [.int ((sgF gx n (i + 1)) - (61 : Int32))] rfl ?_
  refine J_pop C dX6_readsStep_34 rfl ?_
  refine J_aload_n C dX6_readsStep_35 rfl rfl ?_
  refine J_get C 0 10 rfl rfl i_X6_readsStep_X6 (by decide) k_X6_readsStep_102 rfl rfl dX6_readsStep_36 ?_
  refine J_if_eq C 49 dX6_readsStep_39 (by decide) (fun h => absurd h (by decide)) (fun _ => ?_)
  refine J_aload_n C dX6_readsStep_42 rfl rfl ?_
  refine J_callV C (c_X6_sign U m ys ya yt yn yx yr yd xth xsm xhs (0 : Int32) (0 : Int32) (1 : Int32) (nI r) xfb xlr xdm gx n ((i + 1) + 1) hn (by omega)) gX6_readsStep_X6_sign (n := 0) rfl rfl rfl (by decide +kernel) ⟨Nat.le_of_ble_eq_true rfl, Nat.le_of_ble_eq_true rfl⟩ 0 rfl rfl rfl (rest := []) rfl (Nat.le_of_ble_eq_true rfl) [(m, .inr (6, [.int xth, .ref ys, .ref ya, .ref yt, .int xsm, .ref yn, .int xhs, .ref yx, .int (nI n), .int (nI ((i + 1) + 1)), .int (1 : Int32), .ref yr, .int (nI r), .int xfb, .int xlr, .ref yd, .int xdm])), (yx, .inl (U.2.2.1 0, 60, .inl gx)), (yr, .inl (U.2.2.1 0, 64, .inl (upd gr (4 * r) ((sgF gx n i) - (65 : Int32)))))] [0, 1] [2] [1, 2, 0] (wr := [(yr, .inl (U.2.2.1 0, 64, .inl (upd gr (4 * r) ((sgF gx n i) - (65 : Int32)))))]) rfl rfl rfl rfl (by decide) rfl rfl  dX6_readsStep_43 ⟨Nat.le_of_ble_eq_true rfl, Nat.le_of_ble_eq_true rfl⟩ [.int (sgF gx n ((i + 1) + 1))] rfl ?_
  refine J_goto C 50 dX6_readsStep_46 (by decide) ?_
  refine J_istore_n C [some (.ref m), some (.int (nI (4 * r))), some (.int (sgF gx n ((i + 1) + 1))), none, none] dX6_readsStep_50 rfl (hN 2 (by decide)) rfl ?_
  refine J_iload_n C dX6_readsStep_51 rfl rfl ?_
  refine J_bipush C (v := (45 : Int32)) dX6_readsStep_52 (by decide) ?_
  refine J_icmp_eq C 63 dX6_readsStep_54 (by decide) (fun h => absurd h v_2) (fun _ => ?_)
  refine J_iload_n C dX6_readsStep_57 rfl rfl ?_
  refine J_bipush C (v := (35 : Int32)) dX6_readsStep_58 (by decide) ?_
  refine J_icmp_ne C 67 dX6_readsStep_60 (by decide) (fun h => absurd h (fun hh => hh v_3)) (fun _ => ?_)
  refine J_iconst C (v := (1 : Int32)) dX6_readsStep_63 (by decide) ?_
  refine J_goto C 68 dX6_readsStep_64 (by decide) ?_
  refine J_istore_n C [some (.ref m), some (.int (nI (4 * r))), some (.int (sgF gx n ((i + 1) + 1))), some (.int (1 : Int32)), none] dX6_readsStep_68 rfl (hN 3 (by decide)) rfl ?_
  refine J_aload_n C dX6_readsStep_69 rfl rfl ?_
  refine J_dup C dX6_readsStep_70 rfl ?_
  refine J_get C 0 9 rfl rfl i_X6_readsStep_X6 (by decide) k_X6_readsStep_99 rfl rfl dX6_readsStep_71 ?_
  refine J_iload_n C dX6_readsStep_74 rfl rfl ?_
  refine J_if_eq C 82 dX6_readsStep_75 (by decide) (fun h => absurd h (by decide)) (fun _ => ?_)
  refine J_iconst C (v := (1 : Int32)) dX6_readsStep_78 (by decide) ?_
  refine J_goto C 83 dX6_readsStep_79 (by decide) ?_
  refine J_iadd C (v := nI (((i + 1) + 1) + 1)) dX6_readsStep_83 (nI_add ((i + 1) + 1) 1) ?_
  refine J_put C tyX6 0 9 [(m, .inr (6, [.int xth, .ref ys, .ref ya, .ref yt, .int xsm, .ref yn, .int xhs, .ref yx, .int (nI n), .int (nI (((i + 1) + 1) + 1)), .int (1 : Int32), .ref yr, .int (nI r), .int xfb, .int xlr, .ref yd, .int xdm])), (yx, .inl (U.2.2.1 0, 60, .inl gx)), (yr, .inl (U.2.2.1 0, 64, .inl (upd gr (4 * r) ((sgF gx n i) - (65 : Int32)))))] rfl rfl i_X6_readsStep_X6 tyX6_ok nmX6 (by decide) k_X6_readsStep_99 rfl rfl rfl rfl (Nat.le_of_ble_eq_true rfl) rfl dX6_readsStep_84 ?_
  refine J_aload_n C dX6_readsStep_87 rfl rfl ?_
  refine J_get C 0 11 rfl rfl i_X6_readsStep_X6 (by decide) k_X6_readsStep_25 rfl rfl dX6_readsStep_88 ?_
  refine J_iload_n C dX6_readsStep_91 rfl rfl ?_
  refine J_iconst C (v := (1 : Int32)) dX6_readsStep_92 (by decide) ?_
  refine J_iadd C (v := nI ((4 * r) + 1)) dX6_readsStep_93 (nI_add (4 * r) 1) ?_
  refine J_iload_n C dX6_readsStep_94 rfl rfl ?_
  refine J_if_eq C 102 dX6_readsStep_95 (by decide) (fun h => absurd h (by decide)) (fun _ => ?_)
  refine J_iload_n C dX6_readsStep_98 rfl rfl ?_
  refine J_goto C 103 dX6_readsStep_99 (by decide) ?_
  refine J_iast C 2 [(m, .inr (6, [.int xth, .ref ys, .ref ya, .ref yt, .int xsm, .ref yn, .int xhs, .ref yx, .int (nI n), .int (nI (((i + 1) + 1) + 1)), .int (1 : Int32), .ref yr, .int (nI r), .int xfb, .int xlr, .ref yd, .int xdm])), (yx, .inl (U.2.2.1 0, 60, .inl gx)), (yr, .inl (U.2.2.1 0, 64, .inl (upd (upd gr (4 * r) ((sgF gx n i) - (65 : Int32))) ((4 * r) + 1) (sgF gx n ((i + 1) + 1)))))] rfl (vp_in_nI (n := (4 * r) + 1) (by omega) (by decide)) (by rw [(nI_clamp (n := (4 * r) + 1) (by omega))]; rfl) dX6_readsStep_103 ?_
  refine J_iload_n C dX6_readsStep_104 rfl rfl ?_
  refine J_bipush C (v := (35 : Int32)) dX6_readsStep_105 (by decide) ?_
  refine J_icmp_ne C 125 dX6_readsStep_107 (by decide) (fun h => absurd h (fun hh => hh v_3)) (fun _ => ?_)
  refine J_aload_n C dX6_readsStep_110 rfl rfl ?_
  refine J_get C 0 11 rfl rfl i_X6_readsStep_X6 (by decide) k_X6_readsStep_25 rfl rfl dX6_readsStep_111 ?_
  refine J_iload_n C dX6_readsStep_114 rfl rfl ?_
  refine J_iconst C (v := (2 : Int32)) dX6_readsStep_115 (by decide) ?_
  refine J_iadd C (v := nI ((4 * r) + 2)) dX6_readsStep_116 (nI_add (4 * r) 2) ?_
  refine J_aload_n C dX6_readsStep_117 rfl rfl ?_
  refine J_callV C (c_X6_readsNumber_nf U m ys ya yt yn yx yr yd xth xsm xhs (0 : Int32) (0 : Int32) (0 : Int32) (nI r) xfb xlr xdm gx n (((i + 1) + 1) + 1) v_4 v_5 hn (by omega)) gX6_readsStep_X6_readsNumber (n := 0) rfl rfl rfl (by decide +kernel) ⟨Nat.le_of_ble_eq_true rfl, Nat.le_of_ble_eq_true rfl⟩ 0 rfl rfl rfl (rest := [.int (nI ((4 * r) + 2)), .ref yr]) rfl (Nat.le_of_ble_eq_true rfl) [(m, .inr (6, [.int xth, .ref ys, .ref ya, .ref yt, .int xsm, .ref yn, .int xhs, .ref yx, .int (nI n), .int (nI ((((i + 1) + 1) + 1) + 1)), .int (0 : Int32), .ref yr, .int (nI r), .int xfb, .int xlr, .ref yd, .int xdm])), (yx, .inl (U.2.2.1 0, 60, .inl gx)), (yr, .inl (U.2.2.1 0, 64, .inl (upd (upd gr (4 * r) ((sgF gx n i) - (65 : Int32))) ((4 * r) + 1) (sgF gx n ((i + 1) + 1)))))] [0, 1] [2] [1, 2, 0] (wr := [(yr, .inl (U.2.2.1 0, 64, .inl (upd (upd gr (4 * r) ((sgF gx n i) - (65 : Int32))) ((4 * r) + 1) (sgF gx n ((i + 1) + 1)))))]) rfl rfl rfl rfl (by decide) rfl rfl  dX6_readsStep_118 ⟨Nat.le_of_ble_eq_true rfl, Nat.le_of_ble_eq_true rfl⟩ [.int (-(1 + ((sgF gx n ((((i + 1) + 1) + 1) + 1)) - 49))), .int (nI ((4 * r) + 2)), .ref yr] rfl ?_
  refine J_iast C 2 [(m, .inr (6, [.int xth, .ref ys, .ref ya, .ref yt, .int xsm, .ref yn, .int xhs, .ref yx, .int (nI n), .int (nI ((((i + 1) + 1) + 1) + 1)), .int (0 : Int32), .ref yr, .int (nI r), .int xfb, .int xlr, .ref yd, .int xdm])), (yx, .inl (U.2.2.1 0, 60, .inl gx)), (yr, .inl (U.2.2.1 0, 64, .inl (upd (upd (upd gr (4 * r) ((sgF gx n i) - (65 : Int32))) ((4 * r) + 1) (sgF gx n ((i + 1) + 1))) ((4 * r) + 2) (-(1 + ((sgF gx n ((((i + 1) + 1) + 1) + 1)) - 49))))))] rfl (vp_in_nI (n := (4 * r) + 2) (by omega) (by decide)) (by rw [(nI_clamp (n := (4 * r) + 2) (by omega))]; rfl) dX6_readsStep_121 ?_
  refine J_goto C 231 dX6_readsStep_122 (by decide) ?_
  refine J_aload_n C dX6_readsStep_231 rfl rfl ?_
  refine J_dup C dX6_readsStep_232 rfl ?_
  refine J_get C 0 12 rfl rfl i_X6_readsStep_X6 (by decide) k_X6_readsStep_113 rfl rfl dX6_readsStep_233 ?_
  refine J_aload_n C dX6_readsStep_236 rfl rfl ?_
  refine J_get C 0 10 rfl rfl i_X6_readsStep_X6 (by decide) k_X6_readsStep_102 rfl rfl dX6_readsStep_237 ?_
  refine J_if_eq C 247 dX6_readsStep_240 (by decide) (fun _ => ?_) (fun h => absurd (by decide) h)
  refine J_iconst C (v := (0 : Int32)) dX6_readsStep_247 (by decide) ?_
  refine J_iadd C (v := nI r) dX6_readsStep_248 (nI_add r 0) ?_
  refine J_put C tyX6 0 12 [(m, .inr (6, [.int xth, .ref ys, .ref ya, .ref yt, .int xsm, .ref yn, .int xhs, .ref yx, .int (nI n), .int (nI ((((i + 1) + 1) + 1) + 1)), .int (0 : Int32), .ref yr, .int (nI r), .int xfb, .int xlr, .ref yd, .int xdm])), (yx, .inl (U.2.2.1 0, 60, .inl gx)), (yr, .inl (U.2.2.1 0, 64, .inl (upd (upd (upd gr (4 * r) ((sgF gx n i) - (65 : Int32))) ((4 * r) + 1) (sgF gx n ((i + 1) + 1))) ((4 * r) + 2) (-(1 + ((sgF gx n ((((i + 1) + 1) + 1) + 1)) - 49))))))] rfl rfl i_X6_readsStep_X6 tyX6_ok nmX6 (by decide) k_X6_readsStep_113 rfl rfl rfl rfl (Nat.le_of_ble_eq_true rfl) rfl dX6_readsStep_249 ?_
  exact J_vret C R dX6_readsStep_252 (Nat.le_of_ble_eq_true rfl) (Nat.le_of_ble_eq_true rfl) rfl rfl
set_option maxHeartbeats 4000000 in
set_option maxRecDepth 100000 in
theorem c_X6_readsStep_O2 (U : jU) (m ys ya yt yn yx yr yd : Nat) (xth xsm xhs xln xat xiw xrm xfb xlr xdm : Int32) (gx gr : Nat → Int32) (n i r : Nat) (v_0 : inF (sgF gx n i) 65 70) (v_1 : inF (sgF gx n (i + 1)) 61 61) (v_2 : ¬ (sgF gx n ((i + 1) + 1)) = 45) (v_3 : (sgF gx n ((i + 1) + 1)) = 35) (v_4 : (sgF gx n (((i + 1) + 1) + 1)) = 45) (v_5 : inF (sgF gx n ((((i + 1) + 1) + 1) + 1)) 49 57) (hn : n ≤ 60) (hi : i ≤ 60) (hr : r ≤ 15) : Fn U yX6_readsStep wsX6_readsStep { frames := 3, cells := 0, slots := 0, locals := 68 } [.ref m] [(m, .inr (6, [.int xth, .ref ys, .ref ya, .ref yt, .int xsm, .ref yn, .int xhs, .ref yx, .int (nI n), .int (nI i), .int xiw, .ref yr, .int (nI r), .int xfb, .int xlr, .ref yd, .int xdm])), (yx, .inl (U.2.2.1 0, 60, .inl gx)), (yr, .inl (U.2.2.1 0, 64, .inl gr))] none [(m, .inr (6, [.int xth, .ref ys, .ref ya, .ref yt, .int xsm, .ref yn, .int xhs, .ref yx, .int (nI n), .int (nI (nlF gx n 32768 (n - ((((i + 1) + 1) + 1) + 2)) ((((i + 1) + 1) + 1) + 2) (1 + ((sgF gx n ((((i + 1) + 1) + 1) + 1)) - 49))).1), .int (1 : Int32), .ref yr, .int (nI (r + 1)), .int xfb, .int xlr, .ref yd, .int xdm])), (yx, .inl (U.2.2.1 0, 60, .inl gx)), (yr, .inl (U.2.2.1 0, 64, .inl (upd (upd (upd gr (4 * r) ((sgF gx n i) - (65 : Int32))) ((4 * r) + 1) (sgF gx n ((i + 1) + 1))) ((4 * r) + 2) (-(nlF gx n 32768 (n - ((((i + 1) + 1) + 1) + 2)) ((((i + 1) + 1) + 1) + 2) (1 + ((sgF gx n ((((i + 1) + 1) + 1) + 1)) - 49))).2))))] 0 0 := by
  refine Fn_of (cc := cX6_readsStep) (maxL := 5) (ret := none) [some (.ref m), none, none, none, none] (by decide +kernel) rfl (jcat rfl) (Nat.le_of_ble_eq_true rfl) rfl (fun k C R hin hnL => ?_)
  have hN : ∀ i, i < 5 → i < k.2.2.2.2.2.2.2.2.2.2.2.1 := fun i h => by rw [hnL]; exact h
  refine J_iconst C (v := (4 : Int32)) dX6_readsStep_0 (by decide) ?_
  refine J_aload_n C dX6_readsStep_1 rfl rfl ?_
  refine J_get C 0 12 rfl rfl i_X6_readsStep_X6 (by decide) k_X6_readsStep_113 rfl rfl dX6_readsStep_2 ?_
  refine J_imul C (v := nI (4 * r)) dX6_readsStep_5 (pk_mul 4 r) ?_
  refine J_istore_n C [some (.ref m), some (.int (nI (4 * r))), none, none, none] dX6_readsStep_6 rfl (hN 1 (by decide)) rfl ?_
  refine J_aload_n C dX6_readsStep_7 rfl rfl ?_
  refine J_iconst C (v := (1 : Int32)) dX6_readsStep_8 (by decide) ?_
  refine J_put C tyX6 0 10 [(m, .inr (6, [.int xth, .ref ys, .ref ya, .ref yt, .int xsm, .ref yn, .int xhs, .ref yx, .int (nI n), .int (nI i), .int (1 : Int32), .ref yr, .int (nI r), .int xfb, .int xlr, .ref yd, .int xdm])), (yx, .inl (U.2.2.1 0, 60, .inl gx)), (yr, .inl (U.2.2.1 0, 64, .inl gr))] rfl rfl i_X6_readsStep_X6 tyX6_ok nmX6 (by decide) k_X6_readsStep_102 rfl rfl rfl rfl (Nat.le_of_ble_eq_true rfl) rfl dX6_readsStep_9 ?_
  refine J_aload_n C dX6_readsStep_12 rfl rfl ?_
  refine J_get C 0 11 rfl rfl i_X6_readsStep_X6 (by decide) k_X6_readsStep_25 rfl rfl dX6_readsStep_13 ?_
  refine J_iload_n C dX6_readsStep_16 rfl rfl ?_
  refine J_aload_n C dX6_readsStep_17 rfl rfl ?_
  refine J_bipush C (v := (65 : Int32)) dX6_readsStep_18 (by decide) ?_
  refine J_bipush C (v := (70 : Int32)) dX6_readsStep_20 (by decide) ?_
  refine J_callV C (c_X6_takes_y U m ys ya yt yn yx yr yd xth xsm xhs (0 : Int32) (0 : Int32) (0 : Int32) (nI r) xfb xlr xdm gx n i (65 : Int32) (70 : Int32) v_0 hn (by omega)) gX6_readsStep_X6_takes (n := 2) rfl rfl rfl (by decide +kernel) ⟨Nat.le_of_ble_eq_true rfl, Nat.le_of_ble_eq_true rfl⟩ 0 rfl rfl rfl (rest := [.int (nI (4 * r)), .ref yr]) rfl (Nat.le_of_ble_eq_true rfl) [(m, .inr (6, [.int xth, .ref ys, .ref ya, .ref yt, .int xsm, .ref yn, .int xhs, .ref yx, .int (nI n), .int (nI (i + 1)), .int (1 : Int32), .ref yr, .int (nI r), .int xfb, .int xlr, .ref yd, .int xdm])), (yx, .inl (U.2.2.1 0, 60, .inl gx)), (yr, .inl (U.2.2.1 0, 64, .inl gr))] [0, 1] [2] [1, 2, 0] (wr := [(yr, .inl (U.2.2.1 0, 64, .inl gr))]) rfl rfl rfl rfl (by decide) rfl rfl  dX6_readsStep_22 ⟨Nat.le_of_ble_eq_true rfl, Nat.le_of_ble_eq_true rfl⟩ [.int ((sgF gx n i) - (65 : Int32)), .int (nI (4 * r)), .ref yr] rfl ?_
  refine J_iast C 2 [(m, .inr (6, [.int xth, .ref ys, .ref ya, .ref yt, .int xsm, .ref yn, .int xhs, .ref yx, .int (nI n), .int (nI (i + 1)), .int (1 : Int32), .ref yr, .int (nI r), .int xfb, .int xlr, .ref yd, .int xdm])), (yx, .inl (U.2.2.1 0, 60, .inl gx)), (yr, .inl (U.2.2.1 0, 64, .inl (upd gr (4 * r) ((sgF gx n i) - (65 : Int32)))))] rfl (vp_in_nI (n := 4 * r) (by omega) (by decide)) (by rw [(nI_clamp (n := 4 * r) (by omega))]; rfl) dX6_readsStep_25 ?_
  refine J_aload_n C dX6_readsStep_26 rfl rfl ?_
  refine J_bipush C (v := (61 : Int32)) dX6_readsStep_27 (by decide) ?_
  refine J_bipush C (v := (61 : Int32)) dX6_readsStep_29 (by decide) ?_
  refine J_callV C (c_X6_takes_y U m ys ya yt yn yx yr yd xth xsm xhs (0 : Int32) (0 : Int32) (0 : Int32) (nI r) xfb xlr xdm gx n (i + 1) (61 : Int32) (61 : Int32) v_1 hn (by omega)) gX6_readsStep_X6_takes (n := 2) rfl rfl rfl (by decide +kernel) ⟨Nat.le_of_ble_eq_true rfl, Nat.le_of_ble_eq_true rfl⟩ 0 rfl rfl rfl (rest := []) rfl (Nat.le_of_ble_eq_true rfl) [(m, .inr (6, [.int xth, .ref ys, .ref ya, .ref yt, .int xsm, .ref yn, .int xhs, .ref yx, .int (nI n), .int (nI ((i + 1) + 1)), .int (1 : Int32), .ref yr, .int (nI r), .int xfb, .int xlr, .ref yd, .int xdm])), (yx, .inl (U.2.2.1 0, 60, .inl gx)), (yr, .inl (U.2.2.1 0, 64, .inl (upd gr (4 * r) ((sgF gx n i) - (65 : Int32)))))] [0, 1] [2] [1, 2, 0] (wr := [(yr, .inl (U.2.2.1 0, 64, .inl (upd gr (4 * r) ((sgF gx n i) - (65 : Int32)))))]) rfl rfl rfl rfl (by decide) rfl rfl  dX6_readsStep_31 ⟨Nat.le_of_ble_eq_true rfl, Nat.le_of_ble_eq_true rfl⟩ [.int ((sgF gx n (i + 1)) - (61 : Int32))] rfl ?_
  refine J_pop C dX6_readsStep_34 rfl ?_
  refine J_aload_n C dX6_readsStep_35 rfl rfl ?_
  refine J_get C 0 10 rfl rfl i_X6_readsStep_X6 (by decide) k_X6_readsStep_102 rfl rfl dX6_readsStep_36 ?_
  refine J_if_eq C 49 dX6_readsStep_39 (by decide) (fun h => absurd h (by decide)) (fun _ => ?_)
  refine J_aload_n C dX6_readsStep_42 rfl rfl ?_
  refine J_callV C (c_X6_sign U m ys ya yt yn yx yr yd xth xsm xhs (0 : Int32) (0 : Int32) (1 : Int32) (nI r) xfb xlr xdm gx n ((i + 1) + 1) hn (by omega)) gX6_readsStep_X6_sign (n := 0) rfl rfl rfl (by decide +kernel) ⟨Nat.le_of_ble_eq_true rfl, Nat.le_of_ble_eq_true rfl⟩ 0 rfl rfl rfl (rest := []) rfl (Nat.le_of_ble_eq_true rfl) [(m, .inr (6, [.int xth, .ref ys, .ref ya, .ref yt, .int xsm, .ref yn, .int xhs, .ref yx, .int (nI n), .int (nI ((i + 1) + 1)), .int (1 : Int32), .ref yr, .int (nI r), .int xfb, .int xlr, .ref yd, .int xdm])), (yx, .inl (U.2.2.1 0, 60, .inl gx)), (yr, .inl (U.2.2.1 0, 64, .inl (upd gr (4 * r) ((sgF gx n i) - (65 : Int32)))))] [0, 1] [2] [1, 2, 0] (wr := [(yr, .inl (U.2.2.1 0, 64, .inl (upd gr (4 * r) ((sgF gx n i) - (65 : Int32)))))]) rfl rfl rfl rfl (by decide) rfl rfl  dX6_readsStep_43 ⟨Nat.le_of_ble_eq_true rfl, Nat.le_of_ble_eq_true rfl⟩ [.int (sgF gx n ((i + 1) + 1))] rfl ?_
  refine J_goto C 50 dX6_readsStep_46 (by decide) ?_
  refine J_istore_n C [some (.ref m), some (.int (nI (4 * r))), some (.int (sgF gx n ((i + 1) + 1))), none, none] dX6_readsStep_50 rfl (hN 2 (by decide)) rfl ?_
  refine J_iload_n C dX6_readsStep_51 rfl rfl ?_
  refine J_bipush C (v := (45 : Int32)) dX6_readsStep_52 (by decide) ?_
  refine J_icmp_eq C 63 dX6_readsStep_54 (by decide) (fun h => absurd h v_2) (fun _ => ?_)
  refine J_iload_n C dX6_readsStep_57 rfl rfl ?_
  refine J_bipush C (v := (35 : Int32)) dX6_readsStep_58 (by decide) ?_
  refine J_icmp_ne C 67 dX6_readsStep_60 (by decide) (fun h => absurd h (fun hh => hh v_3)) (fun _ => ?_)
  refine J_iconst C (v := (1 : Int32)) dX6_readsStep_63 (by decide) ?_
  refine J_goto C 68 dX6_readsStep_64 (by decide) ?_
  refine J_istore_n C [some (.ref m), some (.int (nI (4 * r))), some (.int (sgF gx n ((i + 1) + 1))), some (.int (1 : Int32)), none] dX6_readsStep_68 rfl (hN 3 (by decide)) rfl ?_
  refine J_aload_n C dX6_readsStep_69 rfl rfl ?_
  refine J_dup C dX6_readsStep_70 rfl ?_
  refine J_get C 0 9 rfl rfl i_X6_readsStep_X6 (by decide) k_X6_readsStep_99 rfl rfl dX6_readsStep_71 ?_
  refine J_iload_n C dX6_readsStep_74 rfl rfl ?_
  refine J_if_eq C 82 dX6_readsStep_75 (by decide) (fun h => absurd h (by decide)) (fun _ => ?_)
  refine J_iconst C (v := (1 : Int32)) dX6_readsStep_78 (by decide) ?_
  refine J_goto C 83 dX6_readsStep_79 (by decide) ?_
  refine J_iadd C (v := nI (((i + 1) + 1) + 1)) dX6_readsStep_83 (nI_add ((i + 1) + 1) 1) ?_
  refine J_put C tyX6 0 9 [(m, .inr (6, [.int xth, .ref ys, .ref ya, .ref yt, .int xsm, .ref yn, .int xhs, .ref yx, .int (nI n), .int (nI (((i + 1) + 1) + 1)), .int (1 : Int32), .ref yr, .int (nI r), .int xfb, .int xlr, .ref yd, .int xdm])), (yx, .inl (U.2.2.1 0, 60, .inl gx)), (yr, .inl (U.2.2.1 0, 64, .inl (upd gr (4 * r) ((sgF gx n i) - (65 : Int32)))))] rfl rfl i_X6_readsStep_X6 tyX6_ok nmX6 (by decide) k_X6_readsStep_99 rfl rfl rfl rfl (Nat.le_of_ble_eq_true rfl) rfl dX6_readsStep_84 ?_
  refine J_aload_n C dX6_readsStep_87 rfl rfl ?_
  refine J_get C 0 11 rfl rfl i_X6_readsStep_X6 (by decide) k_X6_readsStep_25 rfl rfl dX6_readsStep_88 ?_
  refine J_iload_n C dX6_readsStep_91 rfl rfl ?_
  refine J_iconst C (v := (1 : Int32)) dX6_readsStep_92 (by decide) ?_
  refine J_iadd C (v := nI ((4 * r) + 1)) dX6_readsStep_93 (nI_add (4 * r) 1) ?_
  refine J_iload_n C dX6_readsStep_94 rfl rfl ?_
  refine J_if_eq C 102 dX6_readsStep_95 (by decide) (fun h => absurd h (by decide)) (fun _ => ?_)
  refine J_iload_n C dX6_readsStep_98 rfl rfl ?_
  refine J_goto C 103 dX6_readsStep_99 (by decide) ?_
  refine J_iast C 2 [(m, .inr (6, [.int xth, .ref ys, .ref ya, .ref yt, .int xsm, .ref yn, .int xhs, .ref yx, .int (nI n), .int (nI (((i + 1) + 1) + 1)), .int (1 : Int32), .ref yr, .int (nI r), .int xfb, .int xlr, .ref yd, .int xdm])), (yx, .inl (U.2.2.1 0, 60, .inl gx)), (yr, .inl (U.2.2.1 0, 64, .inl (upd (upd gr (4 * r) ((sgF gx n i) - (65 : Int32))) ((4 * r) + 1) (sgF gx n ((i + 1) + 1)))))] rfl (vp_in_nI (n := (4 * r) + 1) (by omega) (by decide)) (by rw [(nI_clamp (n := (4 * r) + 1) (by omega))]; rfl) dX6_readsStep_103 ?_
  refine J_iload_n C dX6_readsStep_104 rfl rfl ?_
  refine J_bipush C (v := (35 : Int32)) dX6_readsStep_105 (by decide) ?_
  refine J_icmp_ne C 125 dX6_readsStep_107 (by decide) (fun h => absurd h (fun hh => hh v_3)) (fun _ => ?_)
  refine J_aload_n C dX6_readsStep_110 rfl rfl ?_
  refine J_get C 0 11 rfl rfl i_X6_readsStep_X6 (by decide) k_X6_readsStep_25 rfl rfl dX6_readsStep_111 ?_
  refine J_iload_n C dX6_readsStep_114 rfl rfl ?_
  refine J_iconst C (v := (2 : Int32)) dX6_readsStep_115 (by decide) ?_
  refine J_iadd C (v := nI ((4 * r) + 2)) dX6_readsStep_116 (nI_add (4 * r) 2) ?_
  refine J_aload_n C dX6_readsStep_117 rfl rfl ?_
  refine J_callV C (c_X6_readsNumber_np U m ys ya yt yn yx yr yd xth xsm xhs (0 : Int32) (0 : Int32) (0 : Int32) (nI r) xfb xlr xdm gx n (((i + 1) + 1) + 1) v_4 v_5 hn (by omega)) gX6_readsStep_X6_readsNumber (n := 0) rfl rfl rfl (by decide +kernel) ⟨Nat.le_of_ble_eq_true rfl, Nat.le_of_ble_eq_true rfl⟩ 0 rfl rfl rfl (rest := [.int (nI ((4 * r) + 2)), .ref yr]) rfl (Nat.le_of_ble_eq_true rfl) [(m, .inr (6, [.int xth, .ref ys, .ref ya, .ref yt, .int xsm, .ref yn, .int xhs, .ref yx, .int (nI n), .int (nI (nlF gx n 32768 (n - ((((i + 1) + 1) + 1) + 2)) ((((i + 1) + 1) + 1) + 2) (1 + ((sgF gx n ((((i + 1) + 1) + 1) + 1)) - 49))).1), .int (1 : Int32), .ref yr, .int (nI r), .int xfb, .int xlr, .ref yd, .int xdm])), (yx, .inl (U.2.2.1 0, 60, .inl gx)), (yr, .inl (U.2.2.1 0, 64, .inl (upd (upd gr (4 * r) ((sgF gx n i) - (65 : Int32))) ((4 * r) + 1) (sgF gx n ((i + 1) + 1)))))] [0, 1] [2] [1, 2, 0] (wr := [(yr, .inl (U.2.2.1 0, 64, .inl (upd (upd gr (4 * r) ((sgF gx n i) - (65 : Int32))) ((4 * r) + 1) (sgF gx n ((i + 1) + 1)))))]) rfl rfl rfl rfl (by decide) rfl rfl  dX6_readsStep_118 ⟨Nat.le_of_ble_eq_true rfl, Nat.le_of_ble_eq_true rfl⟩ [.int (-(nlF gx n 32768 (n - ((((i + 1) + 1) + 1) + 2)) ((((i + 1) + 1) + 1) + 2) (1 + ((sgF gx n ((((i + 1) + 1) + 1) + 1)) - 49))).2), .int (nI ((4 * r) + 2)), .ref yr] rfl ?_
  refine J_iast C 2 [(m, .inr (6, [.int xth, .ref ys, .ref ya, .ref yt, .int xsm, .ref yn, .int xhs, .ref yx, .int (nI n), .int (nI (nlF gx n 32768 (n - ((((i + 1) + 1) + 1) + 2)) ((((i + 1) + 1) + 1) + 2) (1 + ((sgF gx n ((((i + 1) + 1) + 1) + 1)) - 49))).1), .int (1 : Int32), .ref yr, .int (nI r), .int xfb, .int xlr, .ref yd, .int xdm])), (yx, .inl (U.2.2.1 0, 60, .inl gx)), (yr, .inl (U.2.2.1 0, 64, .inl (upd (upd (upd gr (4 * r) ((sgF gx n i) - (65 : Int32))) ((4 * r) + 1) (sgF gx n ((i + 1) + 1))) ((4 * r) + 2) (-(nlF gx n 32768 (n - ((((i + 1) + 1) + 1) + 2)) ((((i + 1) + 1) + 1) + 2) (1 + ((sgF gx n ((((i + 1) + 1) + 1) + 1)) - 49))).2))))] rfl (vp_in_nI (n := (4 * r) + 2) (by omega) (by decide)) (by rw [(nI_clamp (n := (4 * r) + 2) (by omega))]; rfl) dX6_readsStep_121 ?_
  refine J_goto C 231 dX6_readsStep_122 (by decide) ?_
  refine J_aload_n C dX6_readsStep_231 rfl rfl ?_
  refine J_dup C dX6_readsStep_232 rfl ?_
  refine J_get C 0 12 rfl rfl i_X6_readsStep_X6 (by decide) k_X6_readsStep_113 rfl rfl dX6_readsStep_233 ?_
  refine J_aload_n C dX6_readsStep_236 rfl rfl ?_
  refine J_get C 0 10 rfl rfl i_X6_readsStep_X6 (by decide) k_X6_readsStep_102 rfl rfl dX6_readsStep_237 ?_
  refine J_if_eq C 247 dX6_readsStep_240 (by decide) (fun h => absurd h (by decide)) (fun _ => ?_)
  refine J_iconst C (v := (1 : Int32)) dX6_readsStep_243 (by decide) ?_
  refine J_goto C 248 dX6_readsStep_244 (by decide) ?_
  refine J_iadd C (v := nI (r + 1)) dX6_readsStep_248 (nI_add r 1) ?_
  refine J_put C tyX6 0 12 [(m, .inr (6, [.int xth, .ref ys, .ref ya, .ref yt, .int xsm, .ref yn, .int xhs, .ref yx, .int (nI n), .int (nI (nlF gx n 32768 (n - ((((i + 1) + 1) + 1) + 2)) ((((i + 1) + 1) + 1) + 2) (1 + ((sgF gx n ((((i + 1) + 1) + 1) + 1)) - 49))).1), .int (1 : Int32), .ref yr, .int (nI (r + 1)), .int xfb, .int xlr, .ref yd, .int xdm])), (yx, .inl (U.2.2.1 0, 60, .inl gx)), (yr, .inl (U.2.2.1 0, 64, .inl (upd (upd (upd gr (4 * r) ((sgF gx n i) - (65 : Int32))) ((4 * r) + 1) (sgF gx n ((i + 1) + 1))) ((4 * r) + 2) (-(nlF gx n 32768 (n - ((((i + 1) + 1) + 1) + 2)) ((((i + 1) + 1) + 1) + 2) (1 + ((sgF gx n ((((i + 1) + 1) + 1) + 1)) - 49))).2))))] rfl rfl i_X6_readsStep_X6 tyX6_ok nmX6 (by decide) k_X6_readsStep_113 rfl rfl rfl rfl (Nat.le_of_ble_eq_true rfl) rfl dX6_readsStep_249 ?_
  exact J_vret C R dX6_readsStep_252 (Nat.le_of_ble_eq_true rfl) (Nat.le_of_ble_eq_true rfl) rfl rfl
set_option maxHeartbeats 4000000 in
set_option maxRecDepth 100000 in
theorem c_X6_readsStep_F5 (U : jU) (m ys ya yt yn yx yr yd : Nat) (xth xsm xhs xln xat xiw xrm xfb xlr xdm : Int32) (gx gr : Nat → Int32) (n i r : Nat) (v_0 : inF (sgF gx n i) 65 70) (v_1 : inF (sgF gx n (i + 1)) 61 61) (v_2 : ¬ (sgF gx n ((i + 1) + 1)) = 45) (v_3 : (sgF gx n ((i + 1) + 1)) = 35) (v_4 : ¬ (sgF gx n (((i + 1) + 1) + 1)) = 45) (v_5 : ¬ inF (sgF gx n (((i + 1) + 1) + 1)) 48 57) (hn : n ≤ 60) (hi : i ≤ 60) (hr : r ≤ 15) : Fn U yX6_readsStep wsX6_readsStep { frames := 3, cells := 0, slots := 0, locals := 68 } [.ref m] [(m, .inr (6, [.int xth, .ref ys, .ref ya, .ref yt, .int xsm, .ref yn, .int xhs, .ref yx, .int (nI n), .int (nI i), .int xiw, .ref yr, .int (nI r), .int xfb, .int xlr, .ref yd, .int xdm])), (yx, .inl (U.2.2.1 0, 60, .inl gx)), (yr, .inl (U.2.2.1 0, 64, .inl gr))] none [(m, .inr (6, [.int xth, .ref ys, .ref ya, .ref yt, .int xsm, .ref yn, .int xhs, .ref yx, .int (nI n), .int (nI (((i + 1) + 1) + 1)), .int (0 : Int32), .ref yr, .int (nI r), .int xfb, .int xlr, .ref yd, .int xdm])), (yx, .inl (U.2.2.1 0, 60, .inl gx)), (yr, .inl (U.2.2.1 0, 64, .inl (upd (upd (upd gr (4 * r) ((sgF gx n i) - (65 : Int32))) ((4 * r) + 1) (sgF gx n ((i + 1) + 1))) ((4 * r) + 2) ((sgF gx n (((i + 1) + 1) + 1)) - 48))))] 0 0 := by
  refine Fn_of (cc := cX6_readsStep) (maxL := 5) (ret := none) [some (.ref m), none, none, none, none] (by decide +kernel) rfl (jcat rfl) (Nat.le_of_ble_eq_true rfl) rfl (fun k C R hin hnL => ?_)
  have hN : ∀ i, i < 5 → i < k.2.2.2.2.2.2.2.2.2.2.2.1 := fun i h => by rw [hnL]; exact h
  refine J_iconst C (v := (4 : Int32)) dX6_readsStep_0 (by decide) ?_
  refine J_aload_n C dX6_readsStep_1 rfl rfl ?_
  refine J_get C 0 12 rfl rfl i_X6_readsStep_X6 (by decide) k_X6_readsStep_113 rfl rfl dX6_readsStep_2 ?_
  refine J_imul C (v := nI (4 * r)) dX6_readsStep_5 (pk_mul 4 r) ?_
  refine J_istore_n C [some (.ref m), some (.int (nI (4 * r))), none, none, none] dX6_readsStep_6 rfl (hN 1 (by decide)) rfl ?_
  refine J_aload_n C dX6_readsStep_7 rfl rfl ?_
  refine J_iconst C (v := (1 : Int32)) dX6_readsStep_8 (by decide) ?_
  refine J_put C tyX6 0 10 [(m, .inr (6, [.int xth, .ref ys, .ref ya, .ref yt, .int xsm, .ref yn, .int xhs, .ref yx, .int (nI n), .int (nI i), .int (1 : Int32), .ref yr, .int (nI r), .int xfb, .int xlr, .ref yd, .int xdm])), (yx, .inl (U.2.2.1 0, 60, .inl gx)), (yr, .inl (U.2.2.1 0, 64, .inl gr))] rfl rfl i_X6_readsStep_X6 tyX6_ok nmX6 (by decide) k_X6_readsStep_102 rfl rfl rfl rfl (Nat.le_of_ble_eq_true rfl) rfl dX6_readsStep_9 ?_
  refine J_aload_n C dX6_readsStep_12 rfl rfl ?_
  refine J_get C 0 11 rfl rfl i_X6_readsStep_X6 (by decide) k_X6_readsStep_25 rfl rfl dX6_readsStep_13 ?_
  refine J_iload_n C dX6_readsStep_16 rfl rfl ?_
  refine J_aload_n C dX6_readsStep_17 rfl rfl ?_
  refine J_bipush C (v := (65 : Int32)) dX6_readsStep_18 (by decide) ?_
  refine J_bipush C (v := (70 : Int32)) dX6_readsStep_20 (by decide) ?_
  refine J_callV C (c_X6_takes_y U m ys ya yt yn yx yr yd xth xsm xhs (0 : Int32) (0 : Int32) (0 : Int32) (nI r) xfb xlr xdm gx n i (65 : Int32) (70 : Int32) v_0 hn (by omega)) gX6_readsStep_X6_takes (n := 2) rfl rfl rfl (by decide +kernel) ⟨Nat.le_of_ble_eq_true rfl, Nat.le_of_ble_eq_true rfl⟩ 0 rfl rfl rfl (rest := [.int (nI (4 * r)), .ref yr]) rfl (Nat.le_of_ble_eq_true rfl) [(m, .inr (6, [.int xth, .ref ys, .ref ya, .ref yt, .int xsm, .ref yn, .int xhs, .ref yx, .int (nI n), .int (nI (i + 1)), .int (1 : Int32), .ref yr, .int (nI r), .int xfb, .int xlr, .ref yd, .int xdm])), (yx, .inl (U.2.2.1 0, 60, .inl gx)), (yr, .inl (U.2.2.1 0, 64, .inl gr))] [0, 1] [2] [1, 2, 0] (wr := [(yr, .inl (U.2.2.1 0, 64, .inl gr))]) rfl rfl rfl rfl (by decide) rfl rfl  dX6_readsStep_22 ⟨Nat.le_of_ble_eq_true rfl, Nat.le_of_ble_eq_true rfl⟩ [.int ((sgF gx n i) - (65 : Int32)), .int (nI (4 * r)), .ref yr] rfl ?_
  refine J_iast C 2 [(m, .inr (6, [.int xth, .ref ys, .ref ya, .ref yt, .int xsm, .ref yn, .int xhs, .ref yx, .int (nI n), .int (nI (i + 1)), .int (1 : Int32), .ref yr, .int (nI r), .int xfb, .int xlr, .ref yd, .int xdm])), (yx, .inl (U.2.2.1 0, 60, .inl gx)), (yr, .inl (U.2.2.1 0, 64, .inl (upd gr (4 * r) ((sgF gx n i) - (65 : Int32)))))] rfl (vp_in_nI (n := 4 * r) (by omega) (by decide)) (by rw [(nI_clamp (n := 4 * r) (by omega))]; rfl) dX6_readsStep_25 ?_
  refine J_aload_n C dX6_readsStep_26 rfl rfl ?_
  refine J_bipush C (v := (61 : Int32)) dX6_readsStep_27 (by decide) ?_
  refine J_bipush C (v := (61 : Int32)) dX6_readsStep_29 (by decide) ?_
  refine J_callV C (c_X6_takes_y U m ys ya yt yn yx yr yd xth xsm xhs (0 : Int32) (0 : Int32) (0 : Int32) (nI r) xfb xlr xdm gx n (i + 1) (61 : Int32) (61 : Int32) v_1 hn (by omega)) gX6_readsStep_X6_takes (n := 2) rfl rfl rfl (by decide +kernel) ⟨Nat.le_of_ble_eq_true rfl, Nat.le_of_ble_eq_true rfl⟩ 0 rfl rfl rfl (rest := []) rfl (Nat.le_of_ble_eq_true rfl) [(m, .inr (6, [.int xth, .ref ys, .ref ya, .ref yt, .int xsm, .ref yn, .int xhs, .ref yx, .int (nI n), .int (nI ((i + 1) + 1)), .int (1 : Int32), .ref yr, .int (nI r), .int xfb, .int xlr, .ref yd, .int xdm])), (yx, .inl (U.2.2.1 0, 60, .inl gx)), (yr, .inl (U.2.2.1 0, 64, .inl (upd gr (4 * r) ((sgF gx n i) - (65 : Int32)))))] [0, 1] [2] [1, 2, 0] (wr := [(yr, .inl (U.2.2.1 0, 64, .inl (upd gr (4 * r) ((sgF gx n i) - (65 : Int32)))))]) rfl rfl rfl rfl (by decide) rfl rfl  dX6_readsStep_31 ⟨Nat.le_of_ble_eq_true rfl, Nat.le_of_ble_eq_true rfl⟩ [.int ((sgF gx n (i + 1)) - (61 : Int32))] rfl ?_
  refine J_pop C dX6_readsStep_34 rfl ?_
  refine J_aload_n C dX6_readsStep_35 rfl rfl ?_
  refine J_get C 0 10 rfl rfl i_X6_readsStep_X6 (by decide) k_X6_readsStep_102 rfl rfl dX6_readsStep_36 ?_
  refine J_if_eq C 49 dX6_readsStep_39 (by decide) (fun h => absurd h (by decide)) (fun _ => ?_)
  refine J_aload_n C dX6_readsStep_42 rfl rfl ?_
  refine J_callV C (c_X6_sign U m ys ya yt yn yx yr yd xth xsm xhs (0 : Int32) (0 : Int32) (1 : Int32) (nI r) xfb xlr xdm gx n ((i + 1) + 1) hn (by omega)) gX6_readsStep_X6_sign (n := 0) rfl rfl rfl (by decide +kernel) ⟨Nat.le_of_ble_eq_true rfl, Nat.le_of_ble_eq_true rfl⟩ 0 rfl rfl rfl (rest := []) rfl (Nat.le_of_ble_eq_true rfl) [(m, .inr (6, [.int xth, .ref ys, .ref ya, .ref yt, .int xsm, .ref yn, .int xhs, .ref yx, .int (nI n), .int (nI ((i + 1) + 1)), .int (1 : Int32), .ref yr, .int (nI r), .int xfb, .int xlr, .ref yd, .int xdm])), (yx, .inl (U.2.2.1 0, 60, .inl gx)), (yr, .inl (U.2.2.1 0, 64, .inl (upd gr (4 * r) ((sgF gx n i) - (65 : Int32)))))] [0, 1] [2] [1, 2, 0] (wr := [(yr, .inl (U.2.2.1 0, 64, .inl (upd gr (4 * r) ((sgF gx n i) - (65 : Int32)))))]) rfl rfl rfl rfl (by decide) rfl rfl  dX6_readsStep_43 ⟨Nat.le_of_ble_eq_true rfl, Nat.le_of_ble_eq_true rfl⟩ [.int (sgF gx n ((i + 1) + 1))] rfl ?_
  refine J_goto C 50 dX6_readsStep_46 (by decide) ?_
  refine J_istore_n C [some (.ref m), some (.int (nI (4 * r))), some (.int (sgF gx n ((i + 1) + 1))), none, none] dX6_readsStep_50 rfl (hN 2 (by decide)) rfl ?_
  refine J_iload_n C dX6_readsStep_51 rfl rfl ?_
  refine J_bipush C (v := (45 : Int32)) dX6_readsStep_52 (by decide) ?_
  refine J_icmp_eq C 63 dX6_readsStep_54 (by decide) (fun h => absurd h v_2) (fun _ => ?_)
  refine J_iload_n C dX6_readsStep_57 rfl rfl ?_
  refine J_bipush C (v := (35 : Int32)) dX6_readsStep_58 (by decide) ?_
  refine J_icmp_ne C 67 dX6_readsStep_60 (by decide) (fun h => absurd h (fun hh => hh v_3)) (fun _ => ?_)
  refine J_iconst C (v := (1 : Int32)) dX6_readsStep_63 (by decide) ?_
  refine J_goto C 68 dX6_readsStep_64 (by decide) ?_
  refine J_istore_n C [some (.ref m), some (.int (nI (4 * r))), some (.int (sgF gx n ((i + 1) + 1))), some (.int (1 : Int32)), none] dX6_readsStep_68 rfl (hN 3 (by decide)) rfl ?_
  refine J_aload_n C dX6_readsStep_69 rfl rfl ?_
  refine J_dup C dX6_readsStep_70 rfl ?_
  refine J_get C 0 9 rfl rfl i_X6_readsStep_X6 (by decide) k_X6_readsStep_99 rfl rfl dX6_readsStep_71 ?_
  refine J_iload_n C dX6_readsStep_74 rfl rfl ?_
  refine J_if_eq C 82 dX6_readsStep_75 (by decide) (fun h => absurd h (by decide)) (fun _ => ?_)
  refine J_iconst C (v := (1 : Int32)) dX6_readsStep_78 (by decide) ?_
  refine J_goto C 83 dX6_readsStep_79 (by decide) ?_
  refine J_iadd C (v := nI (((i + 1) + 1) + 1)) dX6_readsStep_83 (nI_add ((i + 1) + 1) 1) ?_
  refine J_put C tyX6 0 9 [(m, .inr (6, [.int xth, .ref ys, .ref ya, .ref yt, .int xsm, .ref yn, .int xhs, .ref yx, .int (nI n), .int (nI (((i + 1) + 1) + 1)), .int (1 : Int32), .ref yr, .int (nI r), .int xfb, .int xlr, .ref yd, .int xdm])), (yx, .inl (U.2.2.1 0, 60, .inl gx)), (yr, .inl (U.2.2.1 0, 64, .inl (upd gr (4 * r) ((sgF gx n i) - (65 : Int32)))))] rfl rfl i_X6_readsStep_X6 tyX6_ok nmX6 (by decide) k_X6_readsStep_99 rfl rfl rfl rfl (Nat.le_of_ble_eq_true rfl) rfl dX6_readsStep_84 ?_
  refine J_aload_n C dX6_readsStep_87 rfl rfl ?_
  refine J_get C 0 11 rfl rfl i_X6_readsStep_X6 (by decide) k_X6_readsStep_25 rfl rfl dX6_readsStep_88 ?_
  refine J_iload_n C dX6_readsStep_91 rfl rfl ?_
  refine J_iconst C (v := (1 : Int32)) dX6_readsStep_92 (by decide) ?_
  refine J_iadd C (v := nI ((4 * r) + 1)) dX6_readsStep_93 (nI_add (4 * r) 1) ?_
  refine J_iload_n C dX6_readsStep_94 rfl rfl ?_
  refine J_if_eq C 102 dX6_readsStep_95 (by decide) (fun h => absurd h (by decide)) (fun _ => ?_)
  refine J_iload_n C dX6_readsStep_98 rfl rfl ?_
  refine J_goto C 103 dX6_readsStep_99 (by decide) ?_
  refine J_iast C 2 [(m, .inr (6, [.int xth, .ref ys, .ref ya, .ref yt, .int xsm, .ref yn, .int xhs, .ref yx, .int (nI n), .int (nI (((i + 1) + 1) + 1)), .int (1 : Int32), .ref yr, .int (nI r), .int xfb, .int xlr, .ref yd, .int xdm])), (yx, .inl (U.2.2.1 0, 60, .inl gx)), (yr, .inl (U.2.2.1 0, 64, .inl (upd (upd gr (4 * r) ((sgF gx n i) - (65 : Int32))) ((4 * r) + 1) (sgF gx n ((i + 1) + 1)))))] rfl (vp_in_nI (n := (4 * r) + 1) (by omega) (by decide)) (by rw [(nI_clamp (n := (4 * r) + 1) (by omega))]; rfl) dX6_readsStep_103 ?_
  refine J_iload_n C dX6_readsStep_104 rfl rfl ?_
  refine J_bipush C (v := (35 : Int32)) dX6_readsStep_105 (by decide) ?_
  refine J_icmp_ne C 125 dX6_readsStep_107 (by decide) (fun h => absurd h (fun hh => hh v_3)) (fun _ => ?_)
  refine J_aload_n C dX6_readsStep_110 rfl rfl ?_
  refine J_get C 0 11 rfl rfl i_X6_readsStep_X6 (by decide) k_X6_readsStep_25 rfl rfl dX6_readsStep_111 ?_
  refine J_iload_n C dX6_readsStep_114 rfl rfl ?_
  refine J_iconst C (v := (2 : Int32)) dX6_readsStep_115 (by decide) ?_
  refine J_iadd C (v := nI ((4 * r) + 2)) dX6_readsStep_116 (nI_add (4 * r) 2) ?_
  refine J_aload_n C dX6_readsStep_117 rfl rfl ?_
  refine J_callV C (c_X6_readsNumber_pf U m ys ya yt yn yx yr yd xth xsm xhs (0 : Int32) (0 : Int32) (0 : Int32) (nI r) xfb xlr xdm gx n (((i + 1) + 1) + 1) v_4 v_5 hn (by omega)) gX6_readsStep_X6_readsNumber (n := 0) rfl rfl rfl (by decide +kernel) ⟨Nat.le_of_ble_eq_true rfl, Nat.le_of_ble_eq_true rfl⟩ 0 rfl rfl rfl (rest := [.int (nI ((4 * r) + 2)), .ref yr]) rfl (Nat.le_of_ble_eq_true rfl) [(m, .inr (6, [.int xth, .ref ys, .ref ya, .ref yt, .int xsm, .ref yn, .int xhs, .ref yx, .int (nI n), .int (nI (((i + 1) + 1) + 1)), .int (0 : Int32), .ref yr, .int (nI r), .int xfb, .int xlr, .ref yd, .int xdm])), (yx, .inl (U.2.2.1 0, 60, .inl gx)), (yr, .inl (U.2.2.1 0, 64, .inl (upd (upd gr (4 * r) ((sgF gx n i) - (65 : Int32))) ((4 * r) + 1) (sgF gx n ((i + 1) + 1)))))] [0, 1] [2] [1, 2, 0] (wr := [(yr, .inl (U.2.2.1 0, 64, .inl (upd (upd gr (4 * r) ((sgF gx n i) - (65 : Int32))) ((4 * r) + 1) (sgF gx n ((i + 1) + 1)))))]) rfl rfl rfl rfl (by decide) rfl rfl  dX6_readsStep_118 ⟨Nat.le_of_ble_eq_true rfl, Nat.le_of_ble_eq_true rfl⟩ [.int ((sgF gx n (((i + 1) + 1) + 1)) - 48), .int (nI ((4 * r) + 2)), .ref yr] rfl ?_
  refine J_iast C 2 [(m, .inr (6, [.int xth, .ref ys, .ref ya, .ref yt, .int xsm, .ref yn, .int xhs, .ref yx, .int (nI n), .int (nI (((i + 1) + 1) + 1)), .int (0 : Int32), .ref yr, .int (nI r), .int xfb, .int xlr, .ref yd, .int xdm])), (yx, .inl (U.2.2.1 0, 60, .inl gx)), (yr, .inl (U.2.2.1 0, 64, .inl (upd (upd (upd gr (4 * r) ((sgF gx n i) - (65 : Int32))) ((4 * r) + 1) (sgF gx n ((i + 1) + 1))) ((4 * r) + 2) ((sgF gx n (((i + 1) + 1) + 1)) - 48))))] rfl (vp_in_nI (n := (4 * r) + 2) (by omega) (by decide)) (by rw [(nI_clamp (n := (4 * r) + 2) (by omega))]; rfl) dX6_readsStep_121 ?_
  refine J_goto C 231 dX6_readsStep_122 (by decide) ?_
  refine J_aload_n C dX6_readsStep_231 rfl rfl ?_
  refine J_dup C dX6_readsStep_232 rfl ?_
  refine J_get C 0 12 rfl rfl i_X6_readsStep_X6 (by decide) k_X6_readsStep_113 rfl rfl dX6_readsStep_233 ?_
  refine J_aload_n C dX6_readsStep_236 rfl rfl ?_
  refine J_get C 0 10 rfl rfl i_X6_readsStep_X6 (by decide) k_X6_readsStep_102 rfl rfl dX6_readsStep_237 ?_
  refine J_if_eq C 247 dX6_readsStep_240 (by decide) (fun _ => ?_) (fun h => absurd (by decide) h)
  refine J_iconst C (v := (0 : Int32)) dX6_readsStep_247 (by decide) ?_
  refine J_iadd C (v := nI r) dX6_readsStep_248 (nI_add r 0) ?_
  refine J_put C tyX6 0 12 [(m, .inr (6, [.int xth, .ref ys, .ref ya, .ref yt, .int xsm, .ref yn, .int xhs, .ref yx, .int (nI n), .int (nI (((i + 1) + 1) + 1)), .int (0 : Int32), .ref yr, .int (nI r), .int xfb, .int xlr, .ref yd, .int xdm])), (yx, .inl (U.2.2.1 0, 60, .inl gx)), (yr, .inl (U.2.2.1 0, 64, .inl (upd (upd (upd gr (4 * r) ((sgF gx n i) - (65 : Int32))) ((4 * r) + 1) (sgF gx n ((i + 1) + 1))) ((4 * r) + 2) ((sgF gx n (((i + 1) + 1) + 1)) - 48))))] rfl rfl i_X6_readsStep_X6 tyX6_ok nmX6 (by decide) k_X6_readsStep_113 rfl rfl rfl rfl (Nat.le_of_ble_eq_true rfl) rfl dX6_readsStep_249 ?_
  exact J_vret C R dX6_readsStep_252 (Nat.le_of_ble_eq_true rfl) (Nat.le_of_ble_eq_true rfl) rfl rfl
set_option maxHeartbeats 4000000 in
set_option maxRecDepth 100000 in
theorem c_X6_readsStep_O3 (U : jU) (m ys ya yt yn yx yr yd : Nat) (xth xsm xhs xln xat xiw xrm xfb xlr xdm : Int32) (gx gr : Nat → Int32) (n i r : Nat) (v_0 : inF (sgF gx n i) 65 70) (v_1 : inF (sgF gx n (i + 1)) 61 61) (v_2 : ¬ (sgF gx n ((i + 1) + 1)) = 45) (v_3 : (sgF gx n ((i + 1) + 1)) = 35) (v_4 : ¬ (sgF gx n (((i + 1) + 1) + 1)) = 45) (v_5 : inF (sgF gx n (((i + 1) + 1) + 1)) 48 57) (hn : n ≤ 60) (hi : i ≤ 60) (hr : r ≤ 15) : Fn U yX6_readsStep wsX6_readsStep { frames := 3, cells := 0, slots := 0, locals := 68 } [.ref m] [(m, .inr (6, [.int xth, .ref ys, .ref ya, .ref yt, .int xsm, .ref yn, .int xhs, .ref yx, .int (nI n), .int (nI i), .int xiw, .ref yr, .int (nI r), .int xfb, .int xlr, .ref yd, .int xdm])), (yx, .inl (U.2.2.1 0, 60, .inl gx)), (yr, .inl (U.2.2.1 0, 64, .inl gr))] none [(m, .inr (6, [.int xth, .ref ys, .ref ya, .ref yt, .int xsm, .ref yn, .int xhs, .ref yx, .int (nI n), .int (nI (nlF gx n 32767 (n - ((((i + 1) + 1) + 1) + 1)) ((((i + 1) + 1) + 1) + 1) ((sgF gx n (((i + 1) + 1) + 1)) - 48)).1), .int (1 : Int32), .ref yr, .int (nI (r + 1)), .int xfb, .int xlr, .ref yd, .int xdm])), (yx, .inl (U.2.2.1 0, 60, .inl gx)), (yr, .inl (U.2.2.1 0, 64, .inl (upd (upd (upd gr (4 * r) ((sgF gx n i) - (65 : Int32))) ((4 * r) + 1) (sgF gx n ((i + 1) + 1))) ((4 * r) + 2) ((nlF gx n 32767 (n - ((((i + 1) + 1) + 1) + 1)) ((((i + 1) + 1) + 1) + 1) ((sgF gx n (((i + 1) + 1) + 1)) - 48)).2))))] 0 0 := by
  refine Fn_of (cc := cX6_readsStep) (maxL := 5) (ret := none) [some (.ref m), none, none, none, none] (by decide +kernel) rfl (jcat rfl) (Nat.le_of_ble_eq_true rfl) rfl (fun k C R hin hnL => ?_)
  have hN : ∀ i, i < 5 → i < k.2.2.2.2.2.2.2.2.2.2.2.1 := fun i h => by rw [hnL]; exact h
  refine J_iconst C (v := (4 : Int32)) dX6_readsStep_0 (by decide) ?_
  refine J_aload_n C dX6_readsStep_1 rfl rfl ?_
  refine J_get C 0 12 rfl rfl i_X6_readsStep_X6 (by decide) k_X6_readsStep_113 rfl rfl dX6_readsStep_2 ?_
  refine J_imul C (v := nI (4 * r)) dX6_readsStep_5 (pk_mul 4 r) ?_
  refine J_istore_n C [some (.ref m), some (.int (nI (4 * r))), none, none, none] dX6_readsStep_6 rfl (hN 1 (by decide)) rfl ?_
  refine J_aload_n C dX6_readsStep_7 rfl rfl ?_
  refine J_iconst C (v := (1 : Int32)) dX6_readsStep_8 (by decide) ?_
  refine J_put C tyX6 0 10 [(m, .inr (6, [.int xth, .ref ys, .ref ya, .ref yt, .int xsm, .ref yn, .int xhs, .ref yx, .int (nI n), .int (nI i), .int (1 : Int32), .ref yr, .int (nI r), .int xfb, .int xlr, .ref yd, .int xdm])), (yx, .inl (U.2.2.1 0, 60, .inl gx)), (yr, .inl (U.2.2.1 0, 64, .inl gr))] rfl rfl i_X6_readsStep_X6 tyX6_ok nmX6 (by decide) k_X6_readsStep_102 rfl rfl rfl rfl (Nat.le_of_ble_eq_true rfl) rfl dX6_readsStep_9 ?_
  refine J_aload_n C dX6_readsStep_12 rfl rfl ?_
  refine J_get C 0 11 rfl rfl i_X6_readsStep_X6 (by decide) k_X6_readsStep_25 rfl rfl dX6_readsStep_13 ?_
  refine J_iload_n C dX6_readsStep_16 rfl rfl ?_
  refine J_aload_n C dX6_readsStep_17 rfl rfl ?_
  refine J_bipush C (v := (65 : Int32)) dX6_readsStep_18 (by decide) ?_
  refine J_bipush C (v := (70 : Int32)) dX6_readsStep_20 (by decide) ?_
  refine J_callV C (c_X6_takes_y U m ys ya yt yn yx yr yd xth xsm xhs (0 : Int32) (0 : Int32) (0 : Int32) (nI r) xfb xlr xdm gx n i (65 : Int32) (70 : Int32) v_0 hn (by omega)) gX6_readsStep_X6_takes (n := 2) rfl rfl rfl (by decide +kernel) ⟨Nat.le_of_ble_eq_true rfl, Nat.le_of_ble_eq_true rfl⟩ 0 rfl rfl rfl (rest := [.int (nI (4 * r)), .ref yr]) rfl (Nat.le_of_ble_eq_true rfl) [(m, .inr (6, [.int xth, .ref ys, .ref ya, .ref yt, .int xsm, .ref yn, .int xhs, .ref yx, .int (nI n), .int (nI (i + 1)), .int (1 : Int32), .ref yr, .int (nI r), .int xfb, .int xlr, .ref yd, .int xdm])), (yx, .inl (U.2.2.1 0, 60, .inl gx)), (yr, .inl (U.2.2.1 0, 64, .inl gr))] [0, 1] [2] [1, 2, 0] (wr := [(yr, .inl (U.2.2.1 0, 64, .inl gr))]) rfl rfl rfl rfl (by decide) rfl rfl  dX6_readsStep_22 ⟨Nat.le_of_ble_eq_true rfl, Nat.le_of_ble_eq_true rfl⟩ [.int ((sgF gx n i) - (65 : Int32)), .int (nI (4 * r)), .ref yr] rfl ?_
  refine J_iast C 2 [(m, .inr (6, [.int xth, .ref ys, .ref ya, .ref yt, .int xsm, .ref yn, .int xhs, .ref yx, .int (nI n), .int (nI (i + 1)), .int (1 : Int32), .ref yr, .int (nI r), .int xfb, .int xlr, .ref yd, .int xdm])), (yx, .inl (U.2.2.1 0, 60, .inl gx)), (yr, .inl (U.2.2.1 0, 64, .inl (upd gr (4 * r) ((sgF gx n i) - (65 : Int32)))))] rfl (vp_in_nI (n := 4 * r) (by omega) (by decide)) (by rw [(nI_clamp (n := 4 * r) (by omega))]; rfl) dX6_readsStep_25 ?_
  refine J_aload_n C dX6_readsStep_26 rfl rfl ?_
  refine J_bipush C (v := (61 : Int32)) dX6_readsStep_27 (by decide) ?_
  refine J_bipush C (v := (61 : Int32)) dX6_readsStep_29 (by decide) ?_
  refine J_callV C (c_X6_takes_y U m ys ya yt yn yx yr yd xth xsm xhs (0 : Int32) (0 : Int32) (0 : Int32) (nI r) xfb xlr xdm gx n (i + 1) (61 : Int32) (61 : Int32) v_1 hn (by omega)) gX6_readsStep_X6_takes (n := 2) rfl rfl rfl (by decide +kernel) ⟨Nat.le_of_ble_eq_true rfl, Nat.le_of_ble_eq_true rfl⟩ 0 rfl rfl rfl (rest := []) rfl (Nat.le_of_ble_eq_true rfl) [(m, .inr (6, [.int xth, .ref ys, .ref ya, .ref yt, .int xsm, .ref yn, .int xhs, .ref yx, .int (nI n), .int (nI ((i + 1) + 1)), .int (1 : Int32), .ref yr, .int (nI r), .int xfb, .int xlr, .ref yd, .int xdm])), (yx, .inl (U.2.2.1 0, 60, .inl gx)), (yr, .inl (U.2.2.1 0, 64, .inl (upd gr (4 * r) ((sgF gx n i) - (65 : Int32)))))] [0, 1] [2] [1, 2, 0] (wr := [(yr, .inl (U.2.2.1 0, 64, .inl (upd gr (4 * r) ((sgF gx n i) - (65 : Int32)))))]) rfl rfl rfl rfl (by decide) rfl rfl  dX6_readsStep_31 ⟨Nat.le_of_ble_eq_true rfl, Nat.le_of_ble_eq_true rfl⟩ [.int ((sgF gx n (i + 1)) - (61 : Int32))] rfl ?_
  refine J_pop C dX6_readsStep_34 rfl ?_
  refine J_aload_n C dX6_readsStep_35 rfl rfl ?_
  refine J_get C 0 10 rfl rfl i_X6_readsStep_X6 (by decide) k_X6_readsStep_102 rfl rfl dX6_readsStep_36 ?_
  refine J_if_eq C 49 dX6_readsStep_39 (by decide) (fun h => absurd h (by decide)) (fun _ => ?_)
  refine J_aload_n C dX6_readsStep_42 rfl rfl ?_
  refine J_callV C (c_X6_sign U m ys ya yt yn yx yr yd xth xsm xhs (0 : Int32) (0 : Int32) (1 : Int32) (nI r) xfb xlr xdm gx n ((i + 1) + 1) hn (by omega)) gX6_readsStep_X6_sign (n := 0) rfl rfl rfl (by decide +kernel) ⟨Nat.le_of_ble_eq_true rfl, Nat.le_of_ble_eq_true rfl⟩ 0 rfl rfl rfl (rest := []) rfl (Nat.le_of_ble_eq_true rfl) [(m, .inr (6, [.int xth, .ref ys, .ref ya, .ref yt, .int xsm, .ref yn, .int xhs, .ref yx, .int (nI n), .int (nI ((i + 1) + 1)), .int (1 : Int32), .ref yr, .int (nI r), .int xfb, .int xlr, .ref yd, .int xdm])), (yx, .inl (U.2.2.1 0, 60, .inl gx)), (yr, .inl (U.2.2.1 0, 64, .inl (upd gr (4 * r) ((sgF gx n i) - (65 : Int32)))))] [0, 1] [2] [1, 2, 0] (wr := [(yr, .inl (U.2.2.1 0, 64, .inl (upd gr (4 * r) ((sgF gx n i) - (65 : Int32)))))]) rfl rfl rfl rfl (by decide) rfl rfl  dX6_readsStep_43 ⟨Nat.le_of_ble_eq_true rfl, Nat.le_of_ble_eq_true rfl⟩ [.int (sgF gx n ((i + 1) + 1))] rfl ?_
  refine J_goto C 50 dX6_readsStep_46 (by decide) ?_
  refine J_istore_n C [some (.ref m), some (.int (nI (4 * r))), some (.int (sgF gx n ((i + 1) + 1))), none, none] dX6_readsStep_50 rfl (hN 2 (by decide)) rfl ?_
  refine J_iload_n C dX6_readsStep_51 rfl rfl ?_
  refine J_bipush C (v := (45 : Int32)) dX6_readsStep_52 (by decide) ?_
  refine J_icmp_eq C 63 dX6_readsStep_54 (by decide) (fun h => absurd h v_2) (fun _ => ?_)
  refine J_iload_n C dX6_readsStep_57 rfl rfl ?_
  refine J_bipush C (v := (35 : Int32)) dX6_readsStep_58 (by decide) ?_
  refine J_icmp_ne C 67 dX6_readsStep_60 (by decide) (fun h => absurd h (fun hh => hh v_3)) (fun _ => ?_)
  refine J_iconst C (v := (1 : Int32)) dX6_readsStep_63 (by decide) ?_
  refine J_goto C 68 dX6_readsStep_64 (by decide) ?_
  refine J_istore_n C [some (.ref m), some (.int (nI (4 * r))), some (.int (sgF gx n ((i + 1) + 1))), some (.int (1 : Int32)), none] dX6_readsStep_68 rfl (hN 3 (by decide)) rfl ?_
  refine J_aload_n C dX6_readsStep_69 rfl rfl ?_
  refine J_dup C dX6_readsStep_70 rfl ?_
  refine J_get C 0 9 rfl rfl i_X6_readsStep_X6 (by decide) k_X6_readsStep_99 rfl rfl dX6_readsStep_71 ?_
  refine J_iload_n C dX6_readsStep_74 rfl rfl ?_
  refine J_if_eq C 82 dX6_readsStep_75 (by decide) (fun h => absurd h (by decide)) (fun _ => ?_)
  refine J_iconst C (v := (1 : Int32)) dX6_readsStep_78 (by decide) ?_
  refine J_goto C 83 dX6_readsStep_79 (by decide) ?_
  refine J_iadd C (v := nI (((i + 1) + 1) + 1)) dX6_readsStep_83 (nI_add ((i + 1) + 1) 1) ?_
  refine J_put C tyX6 0 9 [(m, .inr (6, [.int xth, .ref ys, .ref ya, .ref yt, .int xsm, .ref yn, .int xhs, .ref yx, .int (nI n), .int (nI (((i + 1) + 1) + 1)), .int (1 : Int32), .ref yr, .int (nI r), .int xfb, .int xlr, .ref yd, .int xdm])), (yx, .inl (U.2.2.1 0, 60, .inl gx)), (yr, .inl (U.2.2.1 0, 64, .inl (upd gr (4 * r) ((sgF gx n i) - (65 : Int32)))))] rfl rfl i_X6_readsStep_X6 tyX6_ok nmX6 (by decide) k_X6_readsStep_99 rfl rfl rfl rfl (Nat.le_of_ble_eq_true rfl) rfl dX6_readsStep_84 ?_
  refine J_aload_n C dX6_readsStep_87 rfl rfl ?_
  refine J_get C 0 11 rfl rfl i_X6_readsStep_X6 (by decide) k_X6_readsStep_25 rfl rfl dX6_readsStep_88 ?_
  refine J_iload_n C dX6_readsStep_91 rfl rfl ?_
  refine J_iconst C (v := (1 : Int32)) dX6_readsStep_92 (by decide) ?_
  refine J_iadd C (v := nI ((4 * r) + 1)) dX6_readsStep_93 (nI_add (4 * r) 1) ?_
  refine J_iload_n C dX6_readsStep_94 rfl rfl ?_
  refine J_if_eq C 102 dX6_readsStep_95 (by decide) (fun h => absurd h (by decide)) (fun _ => ?_)
  refine J_iload_n C dX6_readsStep_98 rfl rfl ?_
  refine J_goto C 103 dX6_readsStep_99 (by decide) ?_
  refine J_iast C 2 [(m, .inr (6, [.int xth, .ref ys, .ref ya, .ref yt, .int xsm, .ref yn, .int xhs, .ref yx, .int (nI n), .int (nI (((i + 1) + 1) + 1)), .int (1 : Int32), .ref yr, .int (nI r), .int xfb, .int xlr, .ref yd, .int xdm])), (yx, .inl (U.2.2.1 0, 60, .inl gx)), (yr, .inl (U.2.2.1 0, 64, .inl (upd (upd gr (4 * r) ((sgF gx n i) - (65 : Int32))) ((4 * r) + 1) (sgF gx n ((i + 1) + 1)))))] rfl (vp_in_nI (n := (4 * r) + 1) (by omega) (by decide)) (by rw [(nI_clamp (n := (4 * r) + 1) (by omega))]; rfl) dX6_readsStep_103 ?_
  refine J_iload_n C dX6_readsStep_104 rfl rfl ?_
  refine J_bipush C (v := (35 : Int32)) dX6_readsStep_105 (by decide) ?_
  refine J_icmp_ne C 125 dX6_readsStep_107 (by decide) (fun h => absurd h (fun hh => hh v_3)) (fun _ => ?_)
  refine J_aload_n C dX6_readsStep_110 rfl rfl ?_
  refine J_get C 0 11 rfl rfl i_X6_readsStep_X6 (by decide) k_X6_readsStep_25 rfl rfl dX6_readsStep_111 ?_
  refine J_iload_n C dX6_readsStep_114 rfl rfl ?_
  refine J_iconst C (v := (2 : Int32)) dX6_readsStep_115 (by decide) ?_
  refine J_iadd C (v := nI ((4 * r) + 2)) dX6_readsStep_116 (nI_add (4 * r) 2) ?_
  refine J_aload_n C dX6_readsStep_117 rfl rfl ?_
  refine J_callV C (c_X6_readsNumber_pp U m ys ya yt yn yx yr yd xth xsm xhs (0 : Int32) (0 : Int32) (0 : Int32) (nI r) xfb xlr xdm gx n (((i + 1) + 1) + 1) v_4 v_5 hn (by omega)) gX6_readsStep_X6_readsNumber (n := 0) rfl rfl rfl (by decide +kernel) ⟨Nat.le_of_ble_eq_true rfl, Nat.le_of_ble_eq_true rfl⟩ 0 rfl rfl rfl (rest := [.int (nI ((4 * r) + 2)), .ref yr]) rfl (Nat.le_of_ble_eq_true rfl) [(m, .inr (6, [.int xth, .ref ys, .ref ya, .ref yt, .int xsm, .ref yn, .int xhs, .ref yx, .int (nI n), .int (nI (nlF gx n 32767 (n - ((((i + 1) + 1) + 1) + 1)) ((((i + 1) + 1) + 1) + 1) ((sgF gx n (((i + 1) + 1) + 1)) - 48)).1), .int (1 : Int32), .ref yr, .int (nI r), .int xfb, .int xlr, .ref yd, .int xdm])), (yx, .inl (U.2.2.1 0, 60, .inl gx)), (yr, .inl (U.2.2.1 0, 64, .inl (upd (upd gr (4 * r) ((sgF gx n i) - (65 : Int32))) ((4 * r) + 1) (sgF gx n ((i + 1) + 1)))))] [0, 1] [2] [1, 2, 0] (wr := [(yr, .inl (U.2.2.1 0, 64, .inl (upd (upd gr (4 * r) ((sgF gx n i) - (65 : Int32))) ((4 * r) + 1) (sgF gx n ((i + 1) + 1)))))]) rfl rfl rfl rfl (by decide) rfl rfl  dX6_readsStep_118 ⟨Nat.le_of_ble_eq_true rfl, Nat.le_of_ble_eq_true rfl⟩ [.int ((nlF gx n 32767 (n - ((((i + 1) + 1) + 1) + 1)) ((((i + 1) + 1) + 1) + 1) ((sgF gx n (((i + 1) + 1) + 1)) - 48)).2), .int (nI ((4 * r) + 2)), .ref yr] rfl ?_
  refine J_iast C 2 [(m, .inr (6, [.int xth, .ref ys, .ref ya, .ref yt, .int xsm, .ref yn, .int xhs, .ref yx, .int (nI n), .int (nI (nlF gx n 32767 (n - ((((i + 1) + 1) + 1) + 1)) ((((i + 1) + 1) + 1) + 1) ((sgF gx n (((i + 1) + 1) + 1)) - 48)).1), .int (1 : Int32), .ref yr, .int (nI r), .int xfb, .int xlr, .ref yd, .int xdm])), (yx, .inl (U.2.2.1 0, 60, .inl gx)), (yr, .inl (U.2.2.1 0, 64, .inl (upd (upd (upd gr (4 * r) ((sgF gx n i) - (65 : Int32))) ((4 * r) + 1) (sgF gx n ((i + 1) + 1))) ((4 * r) + 2) ((nlF gx n 32767 (n - ((((i + 1) + 1) + 1) + 1)) ((((i + 1) + 1) + 1) + 1) ((sgF gx n (((i + 1) + 1) + 1)) - 48)).2))))] rfl (vp_in_nI (n := (4 * r) + 2) (by omega) (by decide)) (by rw [(nI_clamp (n := (4 * r) + 2) (by omega))]; rfl) dX6_readsStep_121 ?_
  refine J_goto C 231 dX6_readsStep_122 (by decide) ?_
  refine J_aload_n C dX6_readsStep_231 rfl rfl ?_
  refine J_dup C dX6_readsStep_232 rfl ?_
  refine J_get C 0 12 rfl rfl i_X6_readsStep_X6 (by decide) k_X6_readsStep_113 rfl rfl dX6_readsStep_233 ?_
  refine J_aload_n C dX6_readsStep_236 rfl rfl ?_
  refine J_get C 0 10 rfl rfl i_X6_readsStep_X6 (by decide) k_X6_readsStep_102 rfl rfl dX6_readsStep_237 ?_
  refine J_if_eq C 247 dX6_readsStep_240 (by decide) (fun h => absurd h (by decide)) (fun _ => ?_)
  refine J_iconst C (v := (1 : Int32)) dX6_readsStep_243 (by decide) ?_
  refine J_goto C 248 dX6_readsStep_244 (by decide) ?_
  refine J_iadd C (v := nI (r + 1)) dX6_readsStep_248 (nI_add r 1) ?_
  refine J_put C tyX6 0 12 [(m, .inr (6, [.int xth, .ref ys, .ref ya, .ref yt, .int xsm, .ref yn, .int xhs, .ref yx, .int (nI n), .int (nI (nlF gx n 32767 (n - ((((i + 1) + 1) + 1) + 1)) ((((i + 1) + 1) + 1) + 1) ((sgF gx n (((i + 1) + 1) + 1)) - 48)).1), .int (1 : Int32), .ref yr, .int (nI (r + 1)), .int xfb, .int xlr, .ref yd, .int xdm])), (yx, .inl (U.2.2.1 0, 60, .inl gx)), (yr, .inl (U.2.2.1 0, 64, .inl (upd (upd (upd gr (4 * r) ((sgF gx n i) - (65 : Int32))) ((4 * r) + 1) (sgF gx n ((i + 1) + 1))) ((4 * r) + 2) ((nlF gx n 32767 (n - ((((i + 1) + 1) + 1) + 1)) ((((i + 1) + 1) + 1) + 1) ((sgF gx n (((i + 1) + 1) + 1)) - 48)).2))))] rfl rfl i_X6_readsStep_X6 tyX6_ok nmX6 (by decide) k_X6_readsStep_113 rfl rfl rfl rfl (Nat.le_of_ble_eq_true rfl) rfl dX6_readsStep_249 ?_
  exact J_vret C R dX6_readsStep_252 (Nat.le_of_ble_eq_true rfl) (Nat.le_of_ble_eq_true rfl) rfl rfl
set_option maxHeartbeats 4000000 in
set_option maxRecDepth 100000 in
theorem c_X6_readsStep_F6 (U : jU) (m ys ya yt yn yx yr yd : Nat) (xth xsm xhs xln xat xiw xrm xfb xlr xdm : Int32) (gx gr : Nat → Int32) (n i r : Nat) (v_0 : inF (sgF gx n i) 65 70) (v_1 : inF (sgF gx n (i + 1)) 61 61) (v_2 : ¬ (sgF gx n ((i + 1) + 1)) = 45) (v_3 : ¬ (sgF gx n ((i + 1) + 1)) = 35) (v_4 : ¬ inF (sgF gx n ((i + 1) + 1)) 65 70) (hn : n ≤ 60) (hi : i ≤ 60) (hr : r ≤ 15) : Fn U yX6_readsStep wsX6_readsStep { frames := 3, cells := 0, slots := 0, locals := 68 } [.ref m] [(m, .inr (6, [.int xth, .ref ys, .ref ya, .ref yt, .int xsm, .ref yn, .int xhs, .ref yx, .int (nI n), .int (nI i), .int xiw, .ref yr, .int (nI r), .int xfb, .int xlr, .ref yd, .int xdm])), (yx, .inl (U.2.2.1 0, 60, .inl gx)), (yr, .inl (U.2.2.1 0, 64, .inl gr))] none [(m, .inr (6, [.int xth, .ref ys, .ref ya, .ref yt, .int xsm, .ref yn, .int xhs, .ref yx, .int (nI n), .int (nI ((i + 1) + 1)), .int (0 : Int32), .ref yr, .int (nI r), .int xfb, .int xlr, .ref yd, .int xdm])), (yx, .inl (U.2.2.1 0, 60, .inl gx)), (yr, .inl (U.2.2.1 0, 64, .inl (upd (upd (upd gr (4 * r) ((sgF gx n i) - (65 : Int32))) ((4 * r) + 1) (0 : Int32)) ((4 * r) + 2) ((sgF gx n ((i + 1) + 1)) - (65 : Int32)))))] 0 0 := by
  refine Fn_of (cc := cX6_readsStep) (maxL := 5) (ret := none) [some (.ref m), none, none, none, none] (by decide +kernel) rfl (jcat rfl) (Nat.le_of_ble_eq_true rfl) rfl (fun k C R hin hnL => ?_)
  have hN : ∀ i, i < 5 → i < k.2.2.2.2.2.2.2.2.2.2.2.1 := fun i h => by rw [hnL]; exact h
  refine J_iconst C (v := (4 : Int32)) dX6_readsStep_0 (by decide) ?_
  refine J_aload_n C dX6_readsStep_1 rfl rfl ?_
  refine J_get C 0 12 rfl rfl i_X6_readsStep_X6 (by decide) k_X6_readsStep_113 rfl rfl dX6_readsStep_2 ?_
  refine J_imul C (v := nI (4 * r)) dX6_readsStep_5 (pk_mul 4 r) ?_
  refine J_istore_n C [some (.ref m), some (.int (nI (4 * r))), none, none, none] dX6_readsStep_6 rfl (hN 1 (by decide)) rfl ?_
  refine J_aload_n C dX6_readsStep_7 rfl rfl ?_
  refine J_iconst C (v := (1 : Int32)) dX6_readsStep_8 (by decide) ?_
  refine J_put C tyX6 0 10 [(m, .inr (6, [.int xth, .ref ys, .ref ya, .ref yt, .int xsm, .ref yn, .int xhs, .ref yx, .int (nI n), .int (nI i), .int (1 : Int32), .ref yr, .int (nI r), .int xfb, .int xlr, .ref yd, .int xdm])), (yx, .inl (U.2.2.1 0, 60, .inl gx)), (yr, .inl (U.2.2.1 0, 64, .inl gr))] rfl rfl i_X6_readsStep_X6 tyX6_ok nmX6 (by decide) k_X6_readsStep_102 rfl rfl rfl rfl (Nat.le_of_ble_eq_true rfl) rfl dX6_readsStep_9 ?_
  refine J_aload_n C dX6_readsStep_12 rfl rfl ?_
  refine J_get C 0 11 rfl rfl i_X6_readsStep_X6 (by decide) k_X6_readsStep_25 rfl rfl dX6_readsStep_13 ?_
  refine J_iload_n C dX6_readsStep_16 rfl rfl ?_
  refine J_aload_n C dX6_readsStep_17 rfl rfl ?_
  refine J_bipush C (v := (65 : Int32)) dX6_readsStep_18 (by decide) ?_
  refine J_bipush C (v := (70 : Int32)) dX6_readsStep_20 (by decide) ?_
  refine J_callV C (c_X6_takes_y U m ys ya yt yn yx yr yd xth xsm xhs (0 : Int32) (0 : Int32) (0 : Int32) (nI r) xfb xlr xdm gx n i (65 : Int32) (70 : Int32) v_0 hn (by omega)) gX6_readsStep_X6_takes (n := 2) rfl rfl rfl (by decide +kernel) ⟨Nat.le_of_ble_eq_true rfl, Nat.le_of_ble_eq_true rfl⟩ 0 rfl rfl rfl (rest := [.int (nI (4 * r)), .ref yr]) rfl (Nat.le_of_ble_eq_true rfl) [(m, .inr (6, [.int xth, .ref ys, .ref ya, .ref yt, .int xsm, .ref yn, .int xhs, .ref yx, .int (nI n), .int (nI (i + 1)), .int (1 : Int32), .ref yr, .int (nI r), .int xfb, .int xlr, .ref yd, .int xdm])), (yx, .inl (U.2.2.1 0, 60, .inl gx)), (yr, .inl (U.2.2.1 0, 64, .inl gr))] [0, 1] [2] [1, 2, 0] (wr := [(yr, .inl (U.2.2.1 0, 64, .inl gr))]) rfl rfl rfl rfl (by decide) rfl rfl  dX6_readsStep_22 ⟨Nat.le_of_ble_eq_true rfl, Nat.le_of_ble_eq_true rfl⟩ [.int ((sgF gx n i) - (65 : Int32)), .int (nI (4 * r)), .ref yr] rfl ?_
  refine J_iast C 2 [(m, .inr (6, [.int xth, .ref ys, .ref ya, .ref yt, .int xsm, .ref yn, .int xhs, .ref yx, .int (nI n), .int (nI (i + 1)), .int (1 : Int32), .ref yr, .int (nI r), .int xfb, .int xlr, .ref yd, .int xdm])), (yx, .inl (U.2.2.1 0, 60, .inl gx)), (yr, .inl (U.2.2.1 0, 64, .inl (upd gr (4 * r) ((sgF gx n i) - (65 : Int32)))))] rfl (vp_in_nI (n := 4 * r) (by omega) (by decide)) (by rw [(nI_clamp (n := 4 * r) (by omega))]; rfl) dX6_readsStep_25 ?_
  refine J_aload_n C dX6_readsStep_26 rfl rfl ?_
  refine J_bipush C (v := (61 : Int32)) dX6_readsStep_27 (by decide) ?_
  refine J_bipush C (v := (61 : Int32)) dX6_readsStep_29 (by decide) ?_
  refine J_callV C (c_X6_takes_y U m ys ya yt yn yx yr yd xth xsm xhs (0 : Int32) (0 : Int32) (0 : Int32) (nI r) xfb xlr xdm gx n (i + 1) (61 : Int32) (61 : Int32) v_1 hn (by omega)) gX6_readsStep_X6_takes (n := 2) rfl rfl rfl (by decide +kernel) ⟨Nat.le_of_ble_eq_true rfl, Nat.le_of_ble_eq_true rfl⟩ 0 rfl rfl rfl (rest := []) rfl (Nat.le_of_ble_eq_true rfl) [(m, .inr (6, [.int xth, .ref ys, .ref ya, .ref yt, .int xsm, .ref yn, .int xhs, .ref yx, .int (nI n), .int (nI ((i + 1) + 1)), .int (1 : Int32), .ref yr, .int (nI r), .int xfb, .int xlr, .ref yd, .int xdm])), (yx, .inl (U.2.2.1 0, 60, .inl gx)), (yr, .inl (U.2.2.1 0, 64, .inl (upd gr (4 * r) ((sgF gx n i) - (65 : Int32)))))] [0, 1] [2] [1, 2, 0] (wr := [(yr, .inl (U.2.2.1 0, 64, .inl (upd gr (4 * r) ((sgF gx n i) - (65 : Int32)))))]) rfl rfl rfl rfl (by decide) rfl rfl  dX6_readsStep_31 ⟨Nat.le_of_ble_eq_true rfl, Nat.le_of_ble_eq_true rfl⟩ [.int ((sgF gx n (i + 1)) - (61 : Int32))] rfl ?_
  refine J_pop C dX6_readsStep_34 rfl ?_
  refine J_aload_n C dX6_readsStep_35 rfl rfl ?_
  refine J_get C 0 10 rfl rfl i_X6_readsStep_X6 (by decide) k_X6_readsStep_102 rfl rfl dX6_readsStep_36 ?_
  refine J_if_eq C 49 dX6_readsStep_39 (by decide) (fun h => absurd h (by decide)) (fun _ => ?_)
  refine J_aload_n C dX6_readsStep_42 rfl rfl ?_
  refine J_callV C (c_X6_sign U m ys ya yt yn yx yr yd xth xsm xhs (0 : Int32) (0 : Int32) (1 : Int32) (nI r) xfb xlr xdm gx n ((i + 1) + 1) hn (by omega)) gX6_readsStep_X6_sign (n := 0) rfl rfl rfl (by decide +kernel) ⟨Nat.le_of_ble_eq_true rfl, Nat.le_of_ble_eq_true rfl⟩ 0 rfl rfl rfl (rest := []) rfl (Nat.le_of_ble_eq_true rfl) [(m, .inr (6, [.int xth, .ref ys, .ref ya, .ref yt, .int xsm, .ref yn, .int xhs, .ref yx, .int (nI n), .int (nI ((i + 1) + 1)), .int (1 : Int32), .ref yr, .int (nI r), .int xfb, .int xlr, .ref yd, .int xdm])), (yx, .inl (U.2.2.1 0, 60, .inl gx)), (yr, .inl (U.2.2.1 0, 64, .inl (upd gr (4 * r) ((sgF gx n i) - (65 : Int32)))))] [0, 1] [2] [1, 2, 0] (wr := [(yr, .inl (U.2.2.1 0, 64, .inl (upd gr (4 * r) ((sgF gx n i) - (65 : Int32)))))]) rfl rfl rfl rfl (by decide) rfl rfl  dX6_readsStep_43 ⟨Nat.le_of_ble_eq_true rfl, Nat.le_of_ble_eq_true rfl⟩ [.int (sgF gx n ((i + 1) + 1))] rfl ?_
  refine J_goto C 50 dX6_readsStep_46 (by decide) ?_
  refine J_istore_n C [some (.ref m), some (.int (nI (4 * r))), some (.int (sgF gx n ((i + 1) + 1))), none, none] dX6_readsStep_50 rfl (hN 2 (by decide)) rfl ?_
  refine J_iload_n C dX6_readsStep_51 rfl rfl ?_
  refine J_bipush C (v := (45 : Int32)) dX6_readsStep_52 (by decide) ?_
  refine J_icmp_eq C 63 dX6_readsStep_54 (by decide) (fun h => absurd h v_2) (fun _ => ?_)
  refine J_iload_n C dX6_readsStep_57 rfl rfl ?_
  refine J_bipush C (v := (35 : Int32)) dX6_readsStep_58 (by decide) ?_
  refine J_icmp_ne C 67 dX6_readsStep_60 (by decide) (fun _ => ?_) (fun h => absurd h v_3)
  refine J_iconst C (v := (0 : Int32)) dX6_readsStep_67 (by decide) ?_
  refine J_istore_n C [some (.ref m), some (.int (nI (4 * r))), some (.int (sgF gx n ((i + 1) + 1))), some (.int (0 : Int32)), none] dX6_readsStep_68 rfl (hN 3 (by decide)) rfl ?_
  refine J_aload_n C dX6_readsStep_69 rfl rfl ?_
  refine J_dup C dX6_readsStep_70 rfl ?_
  refine J_get C 0 9 rfl rfl i_X6_readsStep_X6 (by decide) k_X6_readsStep_99 rfl rfl dX6_readsStep_71 ?_
  refine J_iload_n C dX6_readsStep_74 rfl rfl ?_
  refine J_if_eq C 82 dX6_readsStep_75 (by decide) (fun _ => ?_) (fun h => absurd (by decide) h)
  refine J_iconst C (v := (0 : Int32)) dX6_readsStep_82 (by decide) ?_
  refine J_iadd C (v := nI ((i + 1) + 1)) dX6_readsStep_83 (nI_add ((i + 1) + 1) 0) ?_
  refine J_put C tyX6 0 9 [(m, .inr (6, [.int xth, .ref ys, .ref ya, .ref yt, .int xsm, .ref yn, .int xhs, .ref yx, .int (nI n), .int (nI ((i + 1) + 1)), .int (1 : Int32), .ref yr, .int (nI r), .int xfb, .int xlr, .ref yd, .int xdm])), (yx, .inl (U.2.2.1 0, 60, .inl gx)), (yr, .inl (U.2.2.1 0, 64, .inl (upd gr (4 * r) ((sgF gx n i) - (65 : Int32)))))] rfl rfl i_X6_readsStep_X6 tyX6_ok nmX6 (by decide) k_X6_readsStep_99 rfl rfl rfl rfl (Nat.le_of_ble_eq_true rfl) rfl dX6_readsStep_84 ?_
  refine J_aload_n C dX6_readsStep_87 rfl rfl ?_
  refine J_get C 0 11 rfl rfl i_X6_readsStep_X6 (by decide) k_X6_readsStep_25 rfl rfl dX6_readsStep_88 ?_
  refine J_iload_n C dX6_readsStep_91 rfl rfl ?_
  refine J_iconst C (v := (1 : Int32)) dX6_readsStep_92 (by decide) ?_
  refine J_iadd C (v := nI ((4 * r) + 1)) dX6_readsStep_93 (nI_add (4 * r) 1) ?_
  refine J_iload_n C dX6_readsStep_94 rfl rfl ?_
  refine J_if_eq C 102 dX6_readsStep_95 (by decide) (fun _ => ?_) (fun h => absurd (by decide) h)
  refine J_iconst C (v := (0 : Int32)) dX6_readsStep_102 (by decide) ?_
  refine J_iast C 2 [(m, .inr (6, [.int xth, .ref ys, .ref ya, .ref yt, .int xsm, .ref yn, .int xhs, .ref yx, .int (nI n), .int (nI ((i + 1) + 1)), .int (1 : Int32), .ref yr, .int (nI r), .int xfb, .int xlr, .ref yd, .int xdm])), (yx, .inl (U.2.2.1 0, 60, .inl gx)), (yr, .inl (U.2.2.1 0, 64, .inl (upd (upd gr (4 * r) ((sgF gx n i) - (65 : Int32))) ((4 * r) + 1) (0 : Int32))))] rfl (vp_in_nI (n := (4 * r) + 1) (by omega) (by decide)) (by rw [(nI_clamp (n := (4 * r) + 1) (by omega))]; rfl) dX6_readsStep_103 ?_
  refine J_iload_n C dX6_readsStep_104 rfl rfl ?_
  refine J_bipush C (v := (35 : Int32)) dX6_readsStep_105 (by decide) ?_
  refine J_icmp_ne C 125 dX6_readsStep_107 (by decide) (fun _ => ?_) (fun h => absurd h v_3)
  refine J_aload_n C dX6_readsStep_125 rfl rfl ?_
  refine J_get C 0 11 rfl rfl i_X6_readsStep_X6 (by decide) k_X6_readsStep_25 rfl rfl dX6_readsStep_126 ?_
  refine J_iload_n C dX6_readsStep_129 rfl rfl ?_
  refine J_iconst C (v := (2 : Int32)) dX6_readsStep_130 (by decide) ?_
  refine J_iadd C (v := nI ((4 * r) + 2)) dX6_readsStep_131 (nI_add (4 * r) 2) ?_
  refine J_aload_n C dX6_readsStep_132 rfl rfl ?_
  refine J_bipush C (v := (65 : Int32)) dX6_readsStep_133 (by decide) ?_
  refine J_bipush C (v := (70 : Int32)) dX6_readsStep_135 (by decide) ?_
  refine J_callV C (c_X6_takes_f U m ys ya yt yn yx yr yd xth xsm xhs (0 : Int32) (0 : Int32) (0 : Int32) (nI r) xfb xlr xdm gx n ((i + 1) + 1) (65 : Int32) (70 : Int32) v_4 hn (by omega)) gX6_readsStep_X6_takes (n := 2) rfl rfl rfl (by decide +kernel) ⟨Nat.le_of_ble_eq_true rfl, Nat.le_of_ble_eq_true rfl⟩ 0 rfl rfl rfl (rest := [.int (nI ((4 * r) + 2)), .ref yr]) rfl (Nat.le_of_ble_eq_true rfl) [(m, .inr (6, [.int xth, .ref ys, .ref ya, .ref yt, .int xsm, .ref yn, .int xhs, .ref yx, .int (nI n), .int (nI ((i + 1) + 1)), .int (0 : Int32), .ref yr, .int (nI r), .int xfb, .int xlr, .ref yd, .int xdm])), (yx, .inl (U.2.2.1 0, 60, .inl gx)), (yr, .inl (U.2.2.1 0, 64, .inl (upd (upd gr (4 * r) ((sgF gx n i) - (65 : Int32))) ((4 * r) + 1) (0 : Int32))))] [0, 1] [2] [1, 2, 0] (wr := [(yr, .inl (U.2.2.1 0, 64, .inl (upd (upd gr (4 * r) ((sgF gx n i) - (65 : Int32))) ((4 * r) + 1) (0 : Int32))))]) rfl rfl rfl rfl (by decide) rfl rfl  dX6_readsStep_137 ⟨Nat.le_of_ble_eq_true rfl, Nat.le_of_ble_eq_true rfl⟩ [.int ((sgF gx n ((i + 1) + 1)) - (65 : Int32)), .int (nI ((4 * r) + 2)), .ref yr] rfl ?_
  refine J_iast C 2 [(m, .inr (6, [.int xth, .ref ys, .ref ya, .ref yt, .int xsm, .ref yn, .int xhs, .ref yx, .int (nI n), .int (nI ((i + 1) + 1)), .int (0 : Int32), .ref yr, .int (nI r), .int xfb, .int xlr, .ref yd, .int xdm])), (yx, .inl (U.2.2.1 0, 60, .inl gx)), (yr, .inl (U.2.2.1 0, 64, .inl (upd (upd (upd gr (4 * r) ((sgF gx n i) - (65 : Int32))) ((4 * r) + 1) (0 : Int32)) ((4 * r) + 2) ((sgF gx n ((i + 1) + 1)) - (65 : Int32)))))] rfl (vp_in_nI (n := (4 * r) + 2) (by omega) (by decide)) (by rw [(nI_clamp (n := (4 * r) + 2) (by omega))]; rfl) dX6_readsStep_140 ?_
  refine J_aload_n C dX6_readsStep_141 rfl rfl ?_
  refine J_get C 0 10 rfl rfl i_X6_readsStep_X6 (by decide) k_X6_readsStep_102 rfl rfl dX6_readsStep_142 ?_
  refine J_if_eq C 159 dX6_readsStep_145 (by decide) (fun _ => ?_) (fun h => absurd (by decide) h)
  refine J_iconst C (v := (0 : Int32)) dX6_readsStep_159 (by decide) ?_
  refine J_istore C [some (.ref m), some (.int (nI (4 * r))), some (.int (sgF gx n ((i + 1) + 1))), some (.int (0 : Int32)), some (.int (0 : Int32))] dX6_readsStep_160 (hN 4 (by decide)) rfl ?_
  refine J_iload C dX6_readsStep_162 rfl ?_
  refine J_bipush C (v := (43 : Int32)) dX6_readsStep_164 (by decide) ?_
  refine J_icmp_eq C 183 dX6_readsStep_166 (by decide) (fun h => absurd h (by decide)) (fun _ => ?_)
  refine J_iload C dX6_readsStep_169 rfl ?_
  refine J_bipush C (v := (45 : Int32)) dX6_readsStep_171 (by decide) ?_
  refine J_icmp_eq C 183 dX6_readsStep_173 (by decide) (fun h => absurd h (by decide)) (fun _ => ?_)
  refine J_iload C dX6_readsStep_176 rfl ?_
  refine J_bipush C (v := (42 : Int32)) dX6_readsStep_178 (by decide) ?_
  refine J_icmp_ne C 231 dX6_readsStep_180 (by decide) (fun _ => ?_) (fun h => absurd h (by decide))
  refine J_aload_n C dX6_readsStep_231 rfl rfl ?_
  refine J_dup C dX6_readsStep_232 rfl ?_
  refine J_get C 0 12 rfl rfl i_X6_readsStep_X6 (by decide) k_X6_readsStep_113 rfl rfl dX6_readsStep_233 ?_
  refine J_aload_n C dX6_readsStep_236 rfl rfl ?_
  refine J_get C 0 10 rfl rfl i_X6_readsStep_X6 (by decide) k_X6_readsStep_102 rfl rfl dX6_readsStep_237 ?_
  refine J_if_eq C 247 dX6_readsStep_240 (by decide) (fun _ => ?_) (fun h => absurd (by decide) h)
  refine J_iconst C (v := (0 : Int32)) dX6_readsStep_247 (by decide) ?_
  refine J_iadd C (v := nI r) dX6_readsStep_248 (nI_add r 0) ?_
  refine J_put C tyX6 0 12 [(m, .inr (6, [.int xth, .ref ys, .ref ya, .ref yt, .int xsm, .ref yn, .int xhs, .ref yx, .int (nI n), .int (nI ((i + 1) + 1)), .int (0 : Int32), .ref yr, .int (nI r), .int xfb, .int xlr, .ref yd, .int xdm])), (yx, .inl (U.2.2.1 0, 60, .inl gx)), (yr, .inl (U.2.2.1 0, 64, .inl (upd (upd (upd gr (4 * r) ((sgF gx n i) - (65 : Int32))) ((4 * r) + 1) (0 : Int32)) ((4 * r) + 2) ((sgF gx n ((i + 1) + 1)) - (65 : Int32)))))] rfl rfl i_X6_readsStep_X6 tyX6_ok nmX6 (by decide) k_X6_readsStep_113 rfl rfl rfl rfl (Nat.le_of_ble_eq_true rfl) rfl dX6_readsStep_249 ?_
  exact J_vret C R dX6_readsStep_252 (Nat.le_of_ble_eq_true rfl) (Nat.le_of_ble_eq_true rfl) rfl rfl
set_option maxHeartbeats 4000000 in
set_option maxRecDepth 100000 in
theorem c_X6_readsStep_O4 (U : jU) (m ys ya yt yn yx yr yd : Nat) (xth xsm xhs xln xat xiw xrm xfb xlr xdm : Int32) (gx gr : Nat → Int32) (n i r : Nat) (v_0 : inF (sgF gx n i) 65 70) (v_1 : inF (sgF gx n (i + 1)) 61 61) (v_2 : ¬ (sgF gx n ((i + 1) + 1)) = 45) (v_3 : ¬ (sgF gx n ((i + 1) + 1)) = 35) (v_4 : inF (sgF gx n ((i + 1) + 1)) 65 70) (v_5 : ¬ (sgF gx n (((i + 1) + 1) + 1)) = 43) (v_6 : ¬ (sgF gx n (((i + 1) + 1) + 1)) = 45) (v_7 : ¬ (sgF gx n (((i + 1) + 1) + 1)) = 42) (hn : n ≤ 60) (hi : i ≤ 60) (hr : r ≤ 15) : Fn U yX6_readsStep wsX6_readsStep { frames := 3, cells := 0, slots := 0, locals := 68 } [.ref m] [(m, .inr (6, [.int xth, .ref ys, .ref ya, .ref yt, .int xsm, .ref yn, .int xhs, .ref yx, .int (nI n), .int (nI i), .int xiw, .ref yr, .int (nI r), .int xfb, .int xlr, .ref yd, .int xdm])), (yx, .inl (U.2.2.1 0, 60, .inl gx)), (yr, .inl (U.2.2.1 0, 64, .inl gr))] none [(m, .inr (6, [.int xth, .ref ys, .ref ya, .ref yt, .int xsm, .ref yn, .int xhs, .ref yx, .int (nI n), .int (nI (((i + 1) + 1) + 1)), .int (1 : Int32), .ref yr, .int (nI (r + 1)), .int xfb, .int xlr, .ref yd, .int xdm])), (yx, .inl (U.2.2.1 0, 60, .inl gx)), (yr, .inl (U.2.2.1 0, 64, .inl (upd (upd (upd gr (4 * r) ((sgF gx n i) - (65 : Int32))) ((4 * r) + 1) (0 : Int32)) ((4 * r) + 2) ((sgF gx n ((i + 1) + 1)) - (65 : Int32)))))] 0 0 := by
  refine Fn_of (cc := cX6_readsStep) (maxL := 5) (ret := none) [some (.ref m), none, none, none, none] (by decide +kernel) rfl (jcat rfl) (Nat.le_of_ble_eq_true rfl) rfl (fun k C R hin hnL => ?_)
  have hN : ∀ i, i < 5 → i < k.2.2.2.2.2.2.2.2.2.2.2.1 := fun i h => by rw [hnL]; exact h
  refine J_iconst C (v := (4 : Int32)) dX6_readsStep_0 (by decide) ?_
  refine J_aload_n C dX6_readsStep_1 rfl rfl ?_
  refine J_get C 0 12 rfl rfl i_X6_readsStep_X6 (by decide) k_X6_readsStep_113 rfl rfl dX6_readsStep_2 ?_
  refine J_imul C (v := nI (4 * r)) dX6_readsStep_5 (pk_mul 4 r) ?_
  refine J_istore_n C [some (.ref m), some (.int (nI (4 * r))), none, none, none] dX6_readsStep_6 rfl (hN 1 (by decide)) rfl ?_
  refine J_aload_n C dX6_readsStep_7 rfl rfl ?_
  refine J_iconst C (v := (1 : Int32)) dX6_readsStep_8 (by decide) ?_
  refine J_put C tyX6 0 10 [(m, .inr (6, [.int xth, .ref ys, .ref ya, .ref yt, .int xsm, .ref yn, .int xhs, .ref yx, .int (nI n), .int (nI i), .int (1 : Int32), .ref yr, .int (nI r), .int xfb, .int xlr, .ref yd, .int xdm])), (yx, .inl (U.2.2.1 0, 60, .inl gx)), (yr, .inl (U.2.2.1 0, 64, .inl gr))] rfl rfl i_X6_readsStep_X6 tyX6_ok nmX6 (by decide) k_X6_readsStep_102 rfl rfl rfl rfl (Nat.le_of_ble_eq_true rfl) rfl dX6_readsStep_9 ?_
  refine J_aload_n C dX6_readsStep_12 rfl rfl ?_
  refine J_get C 0 11 rfl rfl i_X6_readsStep_X6 (by decide) k_X6_readsStep_25 rfl rfl dX6_readsStep_13 ?_
  refine J_iload_n C dX6_readsStep_16 rfl rfl ?_
  refine J_aload_n C dX6_readsStep_17 rfl rfl ?_
  refine J_bipush C (v := (65 : Int32)) dX6_readsStep_18 (by decide) ?_
  refine J_bipush C (v := (70 : Int32)) dX6_readsStep_20 (by decide) ?_
  refine J_callV C (c_X6_takes_y U m ys ya yt yn yx yr yd xth xsm xhs (0 : Int32) (0 : Int32) (0 : Int32) (nI r) xfb xlr xdm gx n i (65 : Int32) (70 : Int32) v_0 hn (by omega)) gX6_readsStep_X6_takes (n := 2) rfl rfl rfl (by decide +kernel) ⟨Nat.le_of_ble_eq_true rfl, Nat.le_of_ble_eq_true rfl⟩ 0 rfl rfl rfl (rest := [.int (nI (4 * r)), .ref yr]) rfl (Nat.le_of_ble_eq_true rfl) [(m, .inr (6, [.int xth, .ref ys, .ref ya, .ref yt, .int xsm, .ref yn, .int xhs, .ref yx, .int (nI n), .int (nI (i + 1)), .int (1 : Int32), .ref yr, .int (nI r), .int xfb, .int xlr, .ref yd, .int xdm])), (yx, .inl (U.2.2.1 0, 60, .inl gx)), (yr, .inl (U.2.2.1 0, 64, .inl gr))] [0, 1] [2] [1, 2, 0] (wr := [(yr, .inl (U.2.2.1 0, 64, .inl gr))]) rfl rfl rfl rfl (by decide) rfl rfl  dX6_readsStep_22 ⟨Nat.le_of_ble_eq_true rfl, Nat.le_of_ble_eq_true rfl⟩ [.int ((sgF gx n i) - (65 : Int32)), .int (nI (4 * r)), .ref yr] rfl ?_
  refine J_iast C 2 [(m, .inr (6, [.int xth, .ref ys, .ref ya, .ref yt, .int xsm, .ref yn, .int xhs, .ref yx, .int (nI n), .int (nI (i + 1)), .int (1 : Int32), .ref yr, .int (nI r), .int xfb, .int xlr, .ref yd, .int xdm])), (yx, .inl (U.2.2.1 0, 60, .inl gx)), (yr, .inl (U.2.2.1 0, 64, .inl (upd gr (4 * r) ((sgF gx n i) - (65 : Int32)))))] rfl (vp_in_nI (n := 4 * r) (by omega) (by decide)) (by rw [(nI_clamp (n := 4 * r) (by omega))]; rfl) dX6_readsStep_25 ?_
  refine J_aload_n C dX6_readsStep_26 rfl rfl ?_
  refine J_bipush C (v := (61 : Int32)) dX6_readsStep_27 (by decide) ?_
  refine J_bipush C (v := (61 : Int32)) dX6_readsStep_29 (by decide) ?_
  refine J_callV C (c_X6_takes_y U m ys ya yt yn yx yr yd xth xsm xhs (0 : Int32) (0 : Int32) (0 : Int32) (nI r) xfb xlr xdm gx n (i + 1) (61 : Int32) (61 : Int32) v_1 hn (by omega)) gX6_readsStep_X6_takes (n := 2) rfl rfl rfl (by decide +kernel) ⟨Nat.le_of_ble_eq_true rfl, Nat.le_of_ble_eq_true rfl⟩ 0 rfl rfl rfl (rest := []) rfl (Nat.le_of_ble_eq_true rfl) [(m, .inr (6, [.int xth, .ref ys, .ref ya, .ref yt, .int xsm, .ref yn, .int xhs, .ref yx, .int (nI n), .int (nI ((i + 1) + 1)), .int (1 : Int32), .ref yr, .int (nI r), .int xfb, .int xlr, .ref yd, .int xdm])), (yx, .inl (U.2.2.1 0, 60, .inl gx)), (yr, .inl (U.2.2.1 0, 64, .inl (upd gr (4 * r) ((sgF gx n i) - (65 : Int32)))))] [0, 1] [2] [1, 2, 0] (wr := [(yr, .inl (U.2.2.1 0, 64, .inl (upd gr (4 * r) ((sgF gx n i) - (65 : Int32)))))]) rfl rfl rfl rfl (by decide) rfl rfl  dX6_readsStep_31 ⟨Nat.le_of_ble_eq_true rfl, Nat.le_of_ble_eq_true rfl⟩ [.int ((sgF gx n (i + 1)) - (61 : Int32))] rfl ?_
  refine J_pop C dX6_readsStep_34 rfl ?_
  refine J_aload_n C dX6_readsStep_35 rfl rfl ?_
  refine J_get C 0 10 rfl rfl i_X6_readsStep_X6 (by decide) k_X6_readsStep_102 rfl rfl dX6_readsStep_36 ?_
  refine J_if_eq C 49 dX6_readsStep_39 (by decide) (fun h => absurd h (by decide)) (fun _ => ?_)
  refine J_aload_n C dX6_readsStep_42 rfl rfl ?_
  refine J_callV C (c_X6_sign U m ys ya yt yn yx yr yd xth xsm xhs (0 : Int32) (0 : Int32) (1 : Int32) (nI r) xfb xlr xdm gx n ((i + 1) + 1) hn (by omega)) gX6_readsStep_X6_sign (n := 0) rfl rfl rfl (by decide +kernel) ⟨Nat.le_of_ble_eq_true rfl, Nat.le_of_ble_eq_true rfl⟩ 0 rfl rfl rfl (rest := []) rfl (Nat.le_of_ble_eq_true rfl) [(m, .inr (6, [.int xth, .ref ys, .ref ya, .ref yt, .int xsm, .ref yn, .int xhs, .ref yx, .int (nI n), .int (nI ((i + 1) + 1)), .int (1 : Int32), .ref yr, .int (nI r), .int xfb, .int xlr, .ref yd, .int xdm])), (yx, .inl (U.2.2.1 0, 60, .inl gx)), (yr, .inl (U.2.2.1 0, 64, .inl (upd gr (4 * r) ((sgF gx n i) - (65 : Int32)))))] [0, 1] [2] [1, 2, 0] (wr := [(yr, .inl (U.2.2.1 0, 64, .inl (upd gr (4 * r) ((sgF gx n i) - (65 : Int32)))))]) rfl rfl rfl rfl (by decide) rfl rfl  dX6_readsStep_43 ⟨Nat.le_of_ble_eq_true rfl, Nat.le_of_ble_eq_true rfl⟩ [.int (sgF gx n ((i + 1) + 1))] rfl ?_
  refine J_goto C 50 dX6_readsStep_46 (by decide) ?_
  refine J_istore_n C [some (.ref m), some (.int (nI (4 * r))), some (.int (sgF gx n ((i + 1) + 1))), none, none] dX6_readsStep_50 rfl (hN 2 (by decide)) rfl ?_
  refine J_iload_n C dX6_readsStep_51 rfl rfl ?_
  refine J_bipush C (v := (45 : Int32)) dX6_readsStep_52 (by decide) ?_
  refine J_icmp_eq C 63 dX6_readsStep_54 (by decide) (fun h => absurd h v_2) (fun _ => ?_)
  refine J_iload_n C dX6_readsStep_57 rfl rfl ?_
  refine J_bipush C (v := (35 : Int32)) dX6_readsStep_58 (by decide) ?_
  refine J_icmp_ne C 67 dX6_readsStep_60 (by decide) (fun _ => ?_) (fun h => absurd h v_3)
  refine J_iconst C (v := (0 : Int32)) dX6_readsStep_67 (by decide) ?_
  refine J_istore_n C [some (.ref m), some (.int (nI (4 * r))), some (.int (sgF gx n ((i + 1) + 1))), some (.int (0 : Int32)), none] dX6_readsStep_68 rfl (hN 3 (by decide)) rfl ?_
  refine J_aload_n C dX6_readsStep_69 rfl rfl ?_
  refine J_dup C dX6_readsStep_70 rfl ?_
  refine J_get C 0 9 rfl rfl i_X6_readsStep_X6 (by decide) k_X6_readsStep_99 rfl rfl dX6_readsStep_71 ?_
  refine J_iload_n C dX6_readsStep_74 rfl rfl ?_
  refine J_if_eq C 82 dX6_readsStep_75 (by decide) (fun _ => ?_) (fun h => absurd (by decide) h)
  refine J_iconst C (v := (0 : Int32)) dX6_readsStep_82 (by decide) ?_
  refine J_iadd C (v := nI ((i + 1) + 1)) dX6_readsStep_83 (nI_add ((i + 1) + 1) 0) ?_
  refine J_put C tyX6 0 9 [(m, .inr (6, [.int xth, .ref ys, .ref ya, .ref yt, .int xsm, .ref yn, .int xhs, .ref yx, .int (nI n), .int (nI ((i + 1) + 1)), .int (1 : Int32), .ref yr, .int (nI r), .int xfb, .int xlr, .ref yd, .int xdm])), (yx, .inl (U.2.2.1 0, 60, .inl gx)), (yr, .inl (U.2.2.1 0, 64, .inl (upd gr (4 * r) ((sgF gx n i) - (65 : Int32)))))] rfl rfl i_X6_readsStep_X6 tyX6_ok nmX6 (by decide) k_X6_readsStep_99 rfl rfl rfl rfl (Nat.le_of_ble_eq_true rfl) rfl dX6_readsStep_84 ?_
  refine J_aload_n C dX6_readsStep_87 rfl rfl ?_
  refine J_get C 0 11 rfl rfl i_X6_readsStep_X6 (by decide) k_X6_readsStep_25 rfl rfl dX6_readsStep_88 ?_
  refine J_iload_n C dX6_readsStep_91 rfl rfl ?_
  refine J_iconst C (v := (1 : Int32)) dX6_readsStep_92 (by decide) ?_
  refine J_iadd C (v := nI ((4 * r) + 1)) dX6_readsStep_93 (nI_add (4 * r) 1) ?_
  refine J_iload_n C dX6_readsStep_94 rfl rfl ?_
  refine J_if_eq C 102 dX6_readsStep_95 (by decide) (fun _ => ?_) (fun h => absurd (by decide) h)
  refine J_iconst C (v := (0 : Int32)) dX6_readsStep_102 (by decide) ?_
  refine J_iast C 2 [(m, .inr (6, [.int xth, .ref ys, .ref ya, .ref yt, .int xsm, .ref yn, .int xhs, .ref yx, .int (nI n), .int (nI ((i + 1) + 1)), .int (1 : Int32), .ref yr, .int (nI r), .int xfb, .int xlr, .ref yd, .int xdm])), (yx, .inl (U.2.2.1 0, 60, .inl gx)), (yr, .inl (U.2.2.1 0, 64, .inl (upd (upd gr (4 * r) ((sgF gx n i) - (65 : Int32))) ((4 * r) + 1) (0 : Int32))))] rfl (vp_in_nI (n := (4 * r) + 1) (by omega) (by decide)) (by rw [(nI_clamp (n := (4 * r) + 1) (by omega))]; rfl) dX6_readsStep_103 ?_
  refine J_iload_n C dX6_readsStep_104 rfl rfl ?_
  refine J_bipush C (v := (35 : Int32)) dX6_readsStep_105 (by decide) ?_
  refine J_icmp_ne C 125 dX6_readsStep_107 (by decide) (fun _ => ?_) (fun h => absurd h v_3)
  refine J_aload_n C dX6_readsStep_125 rfl rfl ?_
  refine J_get C 0 11 rfl rfl i_X6_readsStep_X6 (by decide) k_X6_readsStep_25 rfl rfl dX6_readsStep_126 ?_
  refine J_iload_n C dX6_readsStep_129 rfl rfl ?_
  refine J_iconst C (v := (2 : Int32)) dX6_readsStep_130 (by decide) ?_
  refine J_iadd C (v := nI ((4 * r) + 2)) dX6_readsStep_131 (nI_add (4 * r) 2) ?_
  refine J_aload_n C dX6_readsStep_132 rfl rfl ?_
  refine J_bipush C (v := (65 : Int32)) dX6_readsStep_133 (by decide) ?_
  refine J_bipush C (v := (70 : Int32)) dX6_readsStep_135 (by decide) ?_
  refine J_callV C (c_X6_takes_y U m ys ya yt yn yx yr yd xth xsm xhs (0 : Int32) (0 : Int32) (0 : Int32) (nI r) xfb xlr xdm gx n ((i + 1) + 1) (65 : Int32) (70 : Int32) v_4 hn (by omega)) gX6_readsStep_X6_takes (n := 2) rfl rfl rfl (by decide +kernel) ⟨Nat.le_of_ble_eq_true rfl, Nat.le_of_ble_eq_true rfl⟩ 0 rfl rfl rfl (rest := [.int (nI ((4 * r) + 2)), .ref yr]) rfl (Nat.le_of_ble_eq_true rfl) [(m, .inr (6, [.int xth, .ref ys, .ref ya, .ref yt, .int xsm, .ref yn, .int xhs, .ref yx, .int (nI n), .int (nI (((i + 1) + 1) + 1)), .int (1 : Int32), .ref yr, .int (nI r), .int xfb, .int xlr, .ref yd, .int xdm])), (yx, .inl (U.2.2.1 0, 60, .inl gx)), (yr, .inl (U.2.2.1 0, 64, .inl (upd (upd gr (4 * r) ((sgF gx n i) - (65 : Int32))) ((4 * r) + 1) (0 : Int32))))] [0, 1] [2] [1, 2, 0] (wr := [(yr, .inl (U.2.2.1 0, 64, .inl (upd (upd gr (4 * r) ((sgF gx n i) - (65 : Int32))) ((4 * r) + 1) (0 : Int32))))]) rfl rfl rfl rfl (by decide) rfl rfl  dX6_readsStep_137 ⟨Nat.le_of_ble_eq_true rfl, Nat.le_of_ble_eq_true rfl⟩ [.int ((sgF gx n ((i + 1) + 1)) - (65 : Int32)), .int (nI ((4 * r) + 2)), .ref yr] rfl ?_
  refine J_iast C 2 [(m, .inr (6, [.int xth, .ref ys, .ref ya, .ref yt, .int xsm, .ref yn, .int xhs, .ref yx, .int (nI n), .int (nI (((i + 1) + 1) + 1)), .int (1 : Int32), .ref yr, .int (nI r), .int xfb, .int xlr, .ref yd, .int xdm])), (yx, .inl (U.2.2.1 0, 60, .inl gx)), (yr, .inl (U.2.2.1 0, 64, .inl (upd (upd (upd gr (4 * r) ((sgF gx n i) - (65 : Int32))) ((4 * r) + 1) (0 : Int32)) ((4 * r) + 2) ((sgF gx n ((i + 1) + 1)) - (65 : Int32)))))] rfl (vp_in_nI (n := (4 * r) + 2) (by omega) (by decide)) (by rw [(nI_clamp (n := (4 * r) + 2) (by omega))]; rfl) dX6_readsStep_140 ?_
  refine J_aload_n C dX6_readsStep_141 rfl rfl ?_
  refine J_get C 0 10 rfl rfl i_X6_readsStep_X6 (by decide) k_X6_readsStep_102 rfl rfl dX6_readsStep_142 ?_
  refine J_if_eq C 159 dX6_readsStep_145 (by decide) (fun h => absurd h (by decide)) (fun _ => ?_)
  refine J_iload_n C dX6_readsStep_148 rfl rfl ?_
  refine J_if_ne C 159 dX6_readsStep_149 (by decide) (fun h => absurd (by decide) h) (fun _ => ?_)
  refine J_aload_n C dX6_readsStep_152 rfl rfl ?_
  refine J_callV C (c_X6_sign U m ys ya yt yn yx yr yd xth xsm xhs (0 : Int32) (0 : Int32) (1 : Int32) (nI r) xfb xlr xdm gx n (((i + 1) + 1) + 1) hn (by omega)) gX6_readsStep_X6_sign (n := 0) rfl rfl rfl (by decide +kernel) ⟨Nat.le_of_ble_eq_true rfl, Nat.le_of_ble_eq_true rfl⟩ 0 rfl rfl rfl (rest := []) rfl (Nat.le_of_ble_eq_true rfl) [(m, .inr (6, [.int xth, .ref ys, .ref ya, .ref yt, .int xsm, .ref yn, .int xhs, .ref yx, .int (nI n), .int (nI (((i + 1) + 1) + 1)), .int (1 : Int32), .ref yr, .int (nI r), .int xfb, .int xlr, .ref yd, .int xdm])), (yx, .inl (U.2.2.1 0, 60, .inl gx)), (yr, .inl (U.2.2.1 0, 64, .inl (upd (upd (upd gr (4 * r) ((sgF gx n i) - (65 : Int32))) ((4 * r) + 1) (0 : Int32)) ((4 * r) + 2) ((sgF gx n ((i + 1) + 1)) - (65 : Int32)))))] [0, 1] [2] [1, 2, 0] (wr := [(yr, .inl (U.2.2.1 0, 64, .inl (upd (upd (upd gr (4 * r) ((sgF gx n i) - (65 : Int32))) ((4 * r) + 1) (0 : Int32)) ((4 * r) + 2) ((sgF gx n ((i + 1) + 1)) - (65 : Int32)))))]) rfl rfl rfl rfl (by decide) rfl rfl  dX6_readsStep_153 ⟨Nat.le_of_ble_eq_true rfl, Nat.le_of_ble_eq_true rfl⟩ [.int (sgF gx n (((i + 1) + 1) + 1))] rfl ?_
  refine J_goto C 160 dX6_readsStep_156 (by decide) ?_
  refine J_istore C [some (.ref m), some (.int (nI (4 * r))), some (.int (sgF gx n ((i + 1) + 1))), some (.int (0 : Int32)), some (.int (sgF gx n (((i + 1) + 1) + 1)))] dX6_readsStep_160 (hN 4 (by decide)) rfl ?_
  refine J_iload C dX6_readsStep_162 rfl ?_
  refine J_bipush C (v := (43 : Int32)) dX6_readsStep_164 (by decide) ?_
  refine J_icmp_eq C 183 dX6_readsStep_166 (by decide) (fun h => absurd h v_5) (fun _ => ?_)
  refine J_iload C dX6_readsStep_169 rfl ?_
  refine J_bipush C (v := (45 : Int32)) dX6_readsStep_171 (by decide) ?_
  refine J_icmp_eq C 183 dX6_readsStep_173 (by decide) (fun h => absurd h v_6) (fun _ => ?_)
  refine J_iload C dX6_readsStep_176 rfl ?_
  refine J_bipush C (v := (42 : Int32)) dX6_readsStep_178 (by decide) ?_
  refine J_icmp_ne C 231 dX6_readsStep_180 (by decide) (fun _ => ?_) (fun h => absurd h v_7)
  refine J_aload_n C dX6_readsStep_231 rfl rfl ?_
  refine J_dup C dX6_readsStep_232 rfl ?_
  refine J_get C 0 12 rfl rfl i_X6_readsStep_X6 (by decide) k_X6_readsStep_113 rfl rfl dX6_readsStep_233 ?_
  refine J_aload_n C dX6_readsStep_236 rfl rfl ?_
  refine J_get C 0 10 rfl rfl i_X6_readsStep_X6 (by decide) k_X6_readsStep_102 rfl rfl dX6_readsStep_237 ?_
  refine J_if_eq C 247 dX6_readsStep_240 (by decide) (fun h => absurd h (by decide)) (fun _ => ?_)
  refine J_iconst C (v := (1 : Int32)) dX6_readsStep_243 (by decide) ?_
  refine J_goto C 248 dX6_readsStep_244 (by decide) ?_
  refine J_iadd C (v := nI (r + 1)) dX6_readsStep_248 (nI_add r 1) ?_
  refine J_put C tyX6 0 12 [(m, .inr (6, [.int xth, .ref ys, .ref ya, .ref yt, .int xsm, .ref yn, .int xhs, .ref yx, .int (nI n), .int (nI (((i + 1) + 1) + 1)), .int (1 : Int32), .ref yr, .int (nI (r + 1)), .int xfb, .int xlr, .ref yd, .int xdm])), (yx, .inl (U.2.2.1 0, 60, .inl gx)), (yr, .inl (U.2.2.1 0, 64, .inl (upd (upd (upd gr (4 * r) ((sgF gx n i) - (65 : Int32))) ((4 * r) + 1) (0 : Int32)) ((4 * r) + 2) ((sgF gx n ((i + 1) + 1)) - (65 : Int32)))))] rfl rfl i_X6_readsStep_X6 tyX6_ok nmX6 (by decide) k_X6_readsStep_113 rfl rfl rfl rfl (Nat.le_of_ble_eq_true rfl) rfl dX6_readsStep_249 ?_
  exact J_vret C R dX6_readsStep_252 (Nat.le_of_ble_eq_true rfl) (Nat.le_of_ble_eq_true rfl) rfl rfl
set_option maxHeartbeats 4000000 in
set_option maxRecDepth 100000 in
theorem c_X6_readsStep_O5p (U : jU) (m ys ya yt yn yx yr yd : Nat) (xth xsm xhs xln xat xiw xrm xfb xlr xdm : Int32) (gx gr : Nat → Int32) (n i r : Nat) (v_0 : inF (sgF gx n i) 65 70) (v_1 : inF (sgF gx n (i + 1)) 61 61) (v_2 : ¬ (sgF gx n ((i + 1) + 1)) = 45) (v_3 : ¬ (sgF gx n ((i + 1) + 1)) = 35) (v_4 : inF (sgF gx n ((i + 1) + 1)) 65 70) (v_5 : (sgF gx n (((i + 1) + 1) + 1)) = 43) (v_6 : ¬ (sgF gx n (((i + 1) + 1) + 1)) = 45) (v_8 : inF (sgF gx n ((((i + 1) + 1) + 1) + 1)) 65 70) (hn : n ≤ 60) (hi : i ≤ 60) (hr : r ≤ 15) : Fn U yX6_readsStep wsX6_readsStep { frames := 3, cells := 0, slots := 0, locals := 68 } [.ref m] [(m, .inr (6, [.int xth, .ref ys, .ref ya, .ref yt, .int xsm, .ref yn, .int xhs, .ref yx, .int (nI n), .int (nI i), .int xiw, .ref yr, .int (nI r), .int xfb, .int xlr, .ref yd, .int xdm])), (yx, .inl (U.2.2.1 0, 60, .inl gx)), (yr, .inl (U.2.2.1 0, 64, .inl gr))] none [(m, .inr (6, [.int xth, .ref ys, .ref ya, .ref yt, .int xsm, .ref yn, .int xhs, .ref yx, .int (nI n), .int (nI (((((i + 1) + 1) + 1) + 1) + 1)), .int (1 : Int32), .ref yr, .int (nI (r + 1)), .int xfb, .int xlr, .ref yd, .int xdm])), (yx, .inl (U.2.2.1 0, 60, .inl gx)), (yr, .inl (U.2.2.1 0, 64, .inl (upd (upd (upd (upd (upd gr (4 * r) ((sgF gx n i) - (65 : Int32))) ((4 * r) + 1) (0 : Int32)) ((4 * r) + 2) ((sgF gx n ((i + 1) + 1)) - (65 : Int32))) ((4 * r) + 1) (sgF gx n (((i + 1) + 1) + 1))) ((4 * r) + 3) ((sgF gx n ((((i + 1) + 1) + 1) + 1)) - (65 : Int32)))))] 0 0 := by
  refine Fn_of (cc := cX6_readsStep) (maxL := 5) (ret := none) [some (.ref m), none, none, none, none] (by decide +kernel) rfl (jcat rfl) (Nat.le_of_ble_eq_true rfl) rfl (fun k C R hin hnL => ?_)
  have hN : ∀ i, i < 5 → i < k.2.2.2.2.2.2.2.2.2.2.2.1 := fun i h => by rw [hnL]; exact h
  refine J_iconst C (v := (4 : Int32)) dX6_readsStep_0 (by decide) ?_
  refine J_aload_n C dX6_readsStep_1 rfl rfl ?_
  refine J_get C 0 12 rfl rfl i_X6_readsStep_X6 (by decide) k_X6_readsStep_113 rfl rfl dX6_readsStep_2 ?_
  refine J_imul C (v := nI (4 * r)) dX6_readsStep_5 (pk_mul 4 r) ?_
  refine J_istore_n C [some (.ref m), some (.int (nI (4 * r))), none, none, none] dX6_readsStep_6 rfl (hN 1 (by decide)) rfl ?_
  refine J_aload_n C dX6_readsStep_7 rfl rfl ?_
  refine J_iconst C (v := (1 : Int32)) dX6_readsStep_8 (by decide) ?_
  refine J_put C tyX6 0 10 [(m, .inr (6, [.int xth, .ref ys, .ref ya, .ref yt, .int xsm, .ref yn, .int xhs, .ref yx, .int (nI n), .int (nI i), .int (1 : Int32), .ref yr, .int (nI r), .int xfb, .int xlr, .ref yd, .int xdm])), (yx, .inl (U.2.2.1 0, 60, .inl gx)), (yr, .inl (U.2.2.1 0, 64, .inl gr))] rfl rfl i_X6_readsStep_X6 tyX6_ok nmX6 (by decide) k_X6_readsStep_102 rfl rfl rfl rfl (Nat.le_of_ble_eq_true rfl) rfl dX6_readsStep_9 ?_
  refine J_aload_n C dX6_readsStep_12 rfl rfl ?_
  refine J_get C 0 11 rfl rfl i_X6_readsStep_X6 (by decide) k_X6_readsStep_25 rfl rfl dX6_readsStep_13 ?_
  refine J_iload_n C dX6_readsStep_16 rfl rfl ?_
  refine J_aload_n C dX6_readsStep_17 rfl rfl ?_
  refine J_bipush C (v := (65 : Int32)) dX6_readsStep_18 (by decide) ?_
  refine J_bipush C (v := (70 : Int32)) dX6_readsStep_20 (by decide) ?_
  refine J_callV C (c_X6_takes_y U m ys ya yt yn yx yr yd xth xsm xhs (0 : Int32) (0 : Int32) (0 : Int32) (nI r) xfb xlr xdm gx n i (65 : Int32) (70 : Int32) v_0 hn (by omega)) gX6_readsStep_X6_takes (n := 2) rfl rfl rfl (by decide +kernel) ⟨Nat.le_of_ble_eq_true rfl, Nat.le_of_ble_eq_true rfl⟩ 0 rfl rfl rfl (rest := [.int (nI (4 * r)), .ref yr]) rfl (Nat.le_of_ble_eq_true rfl) [(m, .inr (6, [.int xth, .ref ys, .ref ya, .ref yt, .int xsm, .ref yn, .int xhs, .ref yx, .int (nI n), .int (nI (i + 1)), .int (1 : Int32), .ref yr, .int (nI r), .int xfb, .int xlr, .ref yd, .int xdm])), (yx, .inl (U.2.2.1 0, 60, .inl gx)), (yr, .inl (U.2.2.1 0, 64, .inl gr))] [0, 1] [2] [1, 2, 0] (wr := [(yr, .inl (U.2.2.1 0, 64, .inl gr))]) rfl rfl rfl rfl (by decide) rfl rfl  dX6_readsStep_22 ⟨Nat.le_of_ble_eq_true rfl, Nat.le_of_ble_eq_true rfl⟩ [.int ((sgF gx n i) - (65 : Int32)), .int (nI (4 * r)), .ref yr] rfl ?_
  refine J_iast C 2 [(m, .inr (6, [.int xth, .ref ys, .ref ya, .ref yt, .int xsm, .ref yn, .int xhs, .ref yx, .int (nI n), .int (nI (i + 1)), .int (1 : Int32), .ref yr, .int (nI r), .int xfb, .int xlr, .ref yd, .int xdm])), (yx, .inl (U.2.2.1 0, 60, .inl gx)), (yr, .inl (U.2.2.1 0, 64, .inl (upd gr (4 * r) ((sgF gx n i) - (65 : Int32)))))] rfl (vp_in_nI (n := 4 * r) (by omega) (by decide)) (by rw [(nI_clamp (n := 4 * r) (by omega))]; rfl) dX6_readsStep_25 ?_
  refine J_aload_n C dX6_readsStep_26 rfl rfl ?_
  refine J_bipush C (v := (61 : Int32)) dX6_readsStep_27 (by decide) ?_
  refine J_bipush C (v := (61 : Int32)) dX6_readsStep_29 (by decide) ?_
  refine J_callV C (c_X6_takes_y U m ys ya yt yn yx yr yd xth xsm xhs (0 : Int32) (0 : Int32) (0 : Int32) (nI r) xfb xlr xdm gx n (i + 1) (61 : Int32) (61 : Int32) v_1 hn (by omega)) gX6_readsStep_X6_takes (n := 2) rfl rfl rfl (by decide +kernel) ⟨Nat.le_of_ble_eq_true rfl, Nat.le_of_ble_eq_true rfl⟩ 0 rfl rfl rfl (rest := []) rfl (Nat.le_of_ble_eq_true rfl) [(m, .inr (6, [.int xth, .ref ys, .ref ya, .ref yt, .int xsm, .ref yn, .int xhs, .ref yx, .int (nI n), .int (nI ((i + 1) + 1)), .int (1 : Int32), .ref yr, .int (nI r), .int xfb, .int xlr, .ref yd, .int xdm])), (yx, .inl (U.2.2.1 0, 60, .inl gx)), (yr, .inl (U.2.2.1 0, 64, .inl (upd gr (4 * r) ((sgF gx n i) - (65 : Int32)))))] [0, 1] [2] [1, 2, 0] (wr := [(yr, .inl (U.2.2.1 0, 64, .inl (upd gr (4 * r) ((sgF gx n i) - (65 : Int32)))))]) rfl rfl rfl rfl (by decide) rfl rfl  dX6_readsStep_31 ⟨Nat.le_of_ble_eq_true rfl, Nat.le_of_ble_eq_true rfl⟩ [.int ((sgF gx n (i + 1)) - (61 : Int32))] rfl ?_
  refine J_pop C dX6_readsStep_34 rfl ?_
  refine J_aload_n C dX6_readsStep_35 rfl rfl ?_
  refine J_get C 0 10 rfl rfl i_X6_readsStep_X6 (by decide) k_X6_readsStep_102 rfl rfl dX6_readsStep_36 ?_
  refine J_if_eq C 49 dX6_readsStep_39 (by decide) (fun h => absurd h (by decide)) (fun _ => ?_)
  refine J_aload_n C dX6_readsStep_42 rfl rfl ?_
  refine J_callV C (c_X6_sign U m ys ya yt yn yx yr yd xth xsm xhs (0 : Int32) (0 : Int32) (1 : Int32) (nI r) xfb xlr xdm gx n ((i + 1) + 1) hn (by omega)) gX6_readsStep_X6_sign (n := 0) rfl rfl rfl (by decide +kernel) ⟨Nat.le_of_ble_eq_true rfl, Nat.le_of_ble_eq_true rfl⟩ 0 rfl rfl rfl (rest := []) rfl (Nat.le_of_ble_eq_true rfl) [(m, .inr (6, [.int xth, .ref ys, .ref ya, .ref yt, .int xsm, .ref yn, .int xhs, .ref yx, .int (nI n), .int (nI ((i + 1) + 1)), .int (1 : Int32), .ref yr, .int (nI r), .int xfb, .int xlr, .ref yd, .int xdm])), (yx, .inl (U.2.2.1 0, 60, .inl gx)), (yr, .inl (U.2.2.1 0, 64, .inl (upd gr (4 * r) ((sgF gx n i) - (65 : Int32)))))] [0, 1] [2] [1, 2, 0] (wr := [(yr, .inl (U.2.2.1 0, 64, .inl (upd gr (4 * r) ((sgF gx n i) - (65 : Int32)))))]) rfl rfl rfl rfl (by decide) rfl rfl  dX6_readsStep_43 ⟨Nat.le_of_ble_eq_true rfl, Nat.le_of_ble_eq_true rfl⟩ [.int (sgF gx n ((i + 1) + 1))] rfl ?_
  refine J_goto C 50 dX6_readsStep_46 (by decide) ?_
  refine J_istore_n C [some (.ref m), some (.int (nI (4 * r))), some (.int (sgF gx n ((i + 1) + 1))), none, none] dX6_readsStep_50 rfl (hN 2 (by decide)) rfl ?_
  refine J_iload_n C dX6_readsStep_51 rfl rfl ?_
  refine J_bipush C (v := (45 : Int32)) dX6_readsStep_52 (by decide) ?_
  refine J_icmp_eq C 63 dX6_readsStep_54 (by decide) (fun h => absurd h v_2) (fun _ => ?_)
  refine J_iload_n C dX6_readsStep_57 rfl rfl ?_
  refine J_bipush C (v := (35 : Int32)) dX6_readsStep_58 (by decide) ?_
  refine J_icmp_ne C 67 dX6_readsStep_60 (by decide) (fun _ => ?_) (fun h => absurd h v_3)
  refine J_iconst C (v := (0 : Int32)) dX6_readsStep_67 (by decide) ?_
  refine J_istore_n C [some (.ref m), some (.int (nI (4 * r))), some (.int (sgF gx n ((i + 1) + 1))), some (.int (0 : Int32)), none] dX6_readsStep_68 rfl (hN 3 (by decide)) rfl ?_
  refine J_aload_n C dX6_readsStep_69 rfl rfl ?_
  refine J_dup C dX6_readsStep_70 rfl ?_
  refine J_get C 0 9 rfl rfl i_X6_readsStep_X6 (by decide) k_X6_readsStep_99 rfl rfl dX6_readsStep_71 ?_
  refine J_iload_n C dX6_readsStep_74 rfl rfl ?_
  refine J_if_eq C 82 dX6_readsStep_75 (by decide) (fun _ => ?_) (fun h => absurd (by decide) h)
  refine J_iconst C (v := (0 : Int32)) dX6_readsStep_82 (by decide) ?_
  refine J_iadd C (v := nI ((i + 1) + 1)) dX6_readsStep_83 (nI_add ((i + 1) + 1) 0) ?_
  refine J_put C tyX6 0 9 [(m, .inr (6, [.int xth, .ref ys, .ref ya, .ref yt, .int xsm, .ref yn, .int xhs, .ref yx, .int (nI n), .int (nI ((i + 1) + 1)), .int (1 : Int32), .ref yr, .int (nI r), .int xfb, .int xlr, .ref yd, .int xdm])), (yx, .inl (U.2.2.1 0, 60, .inl gx)), (yr, .inl (U.2.2.1 0, 64, .inl (upd gr (4 * r) ((sgF gx n i) - (65 : Int32)))))] rfl rfl i_X6_readsStep_X6 tyX6_ok nmX6 (by decide) k_X6_readsStep_99 rfl rfl rfl rfl (Nat.le_of_ble_eq_true rfl) rfl dX6_readsStep_84 ?_
  refine J_aload_n C dX6_readsStep_87 rfl rfl ?_
  refine J_get C 0 11 rfl rfl i_X6_readsStep_X6 (by decide) k_X6_readsStep_25 rfl rfl dX6_readsStep_88 ?_
  refine J_iload_n C dX6_readsStep_91 rfl rfl ?_
  refine J_iconst C (v := (1 : Int32)) dX6_readsStep_92 (by decide) ?_
  refine J_iadd C (v := nI ((4 * r) + 1)) dX6_readsStep_93 (nI_add (4 * r) 1) ?_
  refine J_iload_n C dX6_readsStep_94 rfl rfl ?_
  refine J_if_eq C 102 dX6_readsStep_95 (by decide) (fun _ => ?_) (fun h => absurd (by decide) h)
  refine J_iconst C (v := (0 : Int32)) dX6_readsStep_102 (by decide) ?_
  refine J_iast C 2 [(m, .inr (6, [.int xth, .ref ys, .ref ya, .ref yt, .int xsm, .ref yn, .int xhs, .ref yx, .int (nI n), .int (nI ((i + 1) + 1)), .int (1 : Int32), .ref yr, .int (nI r), .int xfb, .int xlr, .ref yd, .int xdm])), (yx, .inl (U.2.2.1 0, 60, .inl gx)), (yr, .inl (U.2.2.1 0, 64, .inl (upd (upd gr (4 * r) ((sgF gx n i) - (65 : Int32))) ((4 * r) + 1) (0 : Int32))))] rfl (vp_in_nI (n := (4 * r) + 1) (by omega) (by decide)) (by rw [(nI_clamp (n := (4 * r) + 1) (by omega))]; rfl) dX6_readsStep_103 ?_
  refine J_iload_n C dX6_readsStep_104 rfl rfl ?_
  refine J_bipush C (v := (35 : Int32)) dX6_readsStep_105 (by decide) ?_
  refine J_icmp_ne C 125 dX6_readsStep_107 (by decide) (fun _ => ?_) (fun h => absurd h v_3)
  refine J_aload_n C dX6_readsStep_125 rfl rfl ?_
  refine J_get C 0 11 rfl rfl i_X6_readsStep_X6 (by decide) k_X6_readsStep_25 rfl rfl dX6_readsStep_126 ?_
  refine J_iload_n C dX6_readsStep_129 rfl rfl ?_
  refine J_iconst C (v := (2 : Int32)) dX6_readsStep_130 (by decide) ?_
  refine J_iadd C (v := nI ((4 * r) + 2)) dX6_readsStep_131 (nI_add (4 * r) 2) ?_
  refine J_aload_n C dX6_readsStep_132 rfl rfl ?_
  refine J_bipush C (v := (65 : Int32)) dX6_readsStep_133 (by decide) ?_
  refine J_bipush C (v := (70 : Int32)) dX6_readsStep_135 (by decide) ?_
  refine J_callV C (c_X6_takes_y U m ys ya yt yn yx yr yd xth xsm xhs (0 : Int32) (0 : Int32) (0 : Int32) (nI r) xfb xlr xdm gx n ((i + 1) + 1) (65 : Int32) (70 : Int32) v_4 hn (by omega)) gX6_readsStep_X6_takes (n := 2) rfl rfl rfl (by decide +kernel) ⟨Nat.le_of_ble_eq_true rfl, Nat.le_of_ble_eq_true rfl⟩ 0 rfl rfl rfl (rest := [.int (nI ((4 * r) + 2)), .ref yr]) rfl (Nat.le_of_ble_eq_true rfl) [(m, .inr (6, [.int xth, .ref ys, .ref ya, .ref yt, .int xsm, .ref yn, .int xhs, .ref yx, .int (nI n), .int (nI (((i + 1) + 1) + 1)), .int (1 : Int32), .ref yr, .int (nI r), .int xfb, .int xlr, .ref yd, .int xdm])), (yx, .inl (U.2.2.1 0, 60, .inl gx)), (yr, .inl (U.2.2.1 0, 64, .inl (upd (upd gr (4 * r) ((sgF gx n i) - (65 : Int32))) ((4 * r) + 1) (0 : Int32))))] [0, 1] [2] [1, 2, 0] (wr := [(yr, .inl (U.2.2.1 0, 64, .inl (upd (upd gr (4 * r) ((sgF gx n i) - (65 : Int32))) ((4 * r) + 1) (0 : Int32))))]) rfl rfl rfl rfl (by decide) rfl rfl  dX6_readsStep_137 ⟨Nat.le_of_ble_eq_true rfl, Nat.le_of_ble_eq_true rfl⟩ [.int ((sgF gx n ((i + 1) + 1)) - (65 : Int32)), .int (nI ((4 * r) + 2)), .ref yr] rfl ?_
  refine J_iast C 2 [(m, .inr (6, [.int xth, .ref ys, .ref ya, .ref yt, .int xsm, .ref yn, .int xhs, .ref yx, .int (nI n), .int (nI (((i + 1) + 1) + 1)), .int (1 : Int32), .ref yr, .int (nI r), .int xfb, .int xlr, .ref yd, .int xdm])), (yx, .inl (U.2.2.1 0, 60, .inl gx)), (yr, .inl (U.2.2.1 0, 64, .inl (upd (upd (upd gr (4 * r) ((sgF gx n i) - (65 : Int32))) ((4 * r) + 1) (0 : Int32)) ((4 * r) + 2) ((sgF gx n ((i + 1) + 1)) - (65 : Int32)))))] rfl (vp_in_nI (n := (4 * r) + 2) (by omega) (by decide)) (by rw [(nI_clamp (n := (4 * r) + 2) (by omega))]; rfl) dX6_readsStep_140 ?_
  refine J_aload_n C dX6_readsStep_141 rfl rfl ?_
  refine J_get C 0 10 rfl rfl i_X6_readsStep_X6 (by decide) k_X6_readsStep_102 rfl rfl dX6_readsStep_142 ?_
  refine J_if_eq C 159 dX6_readsStep_145 (by decide) (fun h => absurd h (by decide)) (fun _ => ?_)
  refine J_iload_n C dX6_readsStep_148 rfl rfl ?_
  refine J_if_ne C 159 dX6_readsStep_149 (by decide) (fun h => absurd (by decide) h) (fun _ => ?_)
  refine J_aload_n C dX6_readsStep_152 rfl rfl ?_
  refine J_callV C (c_X6_sign U m ys ya yt yn yx yr yd xth xsm xhs (0 : Int32) (0 : Int32) (1 : Int32) (nI r) xfb xlr xdm gx n (((i + 1) + 1) + 1) hn (by omega)) gX6_readsStep_X6_sign (n := 0) rfl rfl rfl (by decide +kernel) ⟨Nat.le_of_ble_eq_true rfl, Nat.le_of_ble_eq_true rfl⟩ 0 rfl rfl rfl (rest := []) rfl (Nat.le_of_ble_eq_true rfl) [(m, .inr (6, [.int xth, .ref ys, .ref ya, .ref yt, .int xsm, .ref yn, .int xhs, .ref yx, .int (nI n), .int (nI (((i + 1) + 1) + 1)), .int (1 : Int32), .ref yr, .int (nI r), .int xfb, .int xlr, .ref yd, .int xdm])), (yx, .inl (U.2.2.1 0, 60, .inl gx)), (yr, .inl (U.2.2.1 0, 64, .inl (upd (upd (upd gr (4 * r) ((sgF gx n i) - (65 : Int32))) ((4 * r) + 1) (0 : Int32)) ((4 * r) + 2) ((sgF gx n ((i + 1) + 1)) - (65 : Int32)))))] [0, 1] [2] [1, 2, 0] (wr := [(yr, .inl (U.2.2.1 0, 64, .inl (upd (upd (upd gr (4 * r) ((sgF gx n i) - (65 : Int32))) ((4 * r) + 1) (0 : Int32)) ((4 * r) + 2) ((sgF gx n ((i + 1) + 1)) - (65 : Int32)))))]) rfl rfl rfl rfl (by decide) rfl rfl  dX6_readsStep_153 ⟨Nat.le_of_ble_eq_true rfl, Nat.le_of_ble_eq_true rfl⟩ [.int (sgF gx n (((i + 1) + 1) + 1))] rfl ?_
  refine J_goto C 160 dX6_readsStep_156 (by decide) ?_
  refine J_istore C [some (.ref m), some (.int (nI (4 * r))), some (.int (sgF gx n ((i + 1) + 1))), some (.int (0 : Int32)), some (.int (sgF gx n (((i + 1) + 1) + 1)))] dX6_readsStep_160 (hN 4 (by decide)) rfl ?_
  refine J_iload C dX6_readsStep_162 rfl ?_
  refine J_bipush C (v := (43 : Int32)) dX6_readsStep_164 (by decide) ?_
  refine J_icmp_eq C 183 dX6_readsStep_166 (by decide) (fun _ => ?_) (fun h => absurd v_5 h)
  refine J_aload_n C dX6_readsStep_183 rfl rfl ?_
  refine J_dup C dX6_readsStep_184 rfl ?_
  refine J_get C 0 9 rfl rfl i_X6_readsStep_X6 (by decide) k_X6_readsStep_99 rfl rfl dX6_readsStep_185 ?_
  refine J_iconst C (v := (1 : Int32)) dX6_readsStep_188 (by decide) ?_
  refine J_iadd C (v := nI ((((i + 1) + 1) + 1) + 1)) dX6_readsStep_189 (nI_add (((i + 1) + 1) + 1) 1) ?_
  refine J_put C tyX6 0 9 [(m, .inr (6, [.int xth, .ref ys, .ref ya, .ref yt, .int xsm, .ref yn, .int xhs, .ref yx, .int (nI n), .int (nI ((((i + 1) + 1) + 1) + 1)), .int (1 : Int32), .ref yr, .int (nI r), .int xfb, .int xlr, .ref yd, .int xdm])), (yx, .inl (U.2.2.1 0, 60, .inl gx)), (yr, .inl (U.2.2.1 0, 64, .inl (upd (upd (upd gr (4 * r) ((sgF gx n i) - (65 : Int32))) ((4 * r) + 1) (0 : Int32)) ((4 * r) + 2) ((sgF gx n ((i + 1) + 1)) - (65 : Int32)))))] rfl rfl i_X6_readsStep_X6 tyX6_ok nmX6 (by decide) k_X6_readsStep_99 rfl rfl rfl rfl (Nat.le_of_ble_eq_true rfl) rfl dX6_readsStep_190 ?_
  refine J_aload_n C dX6_readsStep_193 rfl rfl ?_
  refine J_get C 0 11 rfl rfl i_X6_readsStep_X6 (by decide) k_X6_readsStep_25 rfl rfl dX6_readsStep_194 ?_
  refine J_iload_n C dX6_readsStep_197 rfl rfl ?_
  refine J_iconst C (v := (1 : Int32)) dX6_readsStep_198 (by decide) ?_
  refine J_iadd C (v := nI ((4 * r) + 1)) dX6_readsStep_199 (nI_add (4 * r) 1) ?_
  refine J_iload C dX6_readsStep_200 rfl ?_
  refine J_bipush C (v := (45 : Int32)) dX6_readsStep_202 (by decide) ?_
  refine J_icmp_ne C 212 dX6_readsStep_204 (by decide) (fun _ => ?_) (fun h => absurd h v_6)
  refine J_iload C dX6_readsStep_212 rfl ?_
  refine J_iast C 2 [(m, .inr (6, [.int xth, .ref ys, .ref ya, .ref yt, .int xsm, .ref yn, .int xhs, .ref yx, .int (nI n), .int (nI ((((i + 1) + 1) + 1) + 1)), .int (1 : Int32), .ref yr, .int (nI r), .int xfb, .int xlr, .ref yd, .int xdm])), (yx, .inl (U.2.2.1 0, 60, .inl gx)), (yr, .inl (U.2.2.1 0, 64, .inl (upd (upd (upd (upd gr (4 * r) ((sgF gx n i) - (65 : Int32))) ((4 * r) + 1) (0 : Int32)) ((4 * r) + 2) ((sgF gx n ((i + 1) + 1)) - (65 : Int32))) ((4 * r) + 1) (sgF gx n (((i + 1) + 1) + 1)))))] rfl (vp_in_nI (n := (4 * r) + 1) (by omega) (by decide)) (by rw [(nI_clamp (n := (4 * r) + 1) (by omega))]; rfl) dX6_readsStep_214 ?_
  refine J_aload_n C dX6_readsStep_215 rfl rfl ?_
  refine J_get C 0 11 rfl rfl i_X6_readsStep_X6 (by decide) k_X6_readsStep_25 rfl rfl dX6_readsStep_216 ?_
  refine J_iload_n C dX6_readsStep_219 rfl rfl ?_
  refine J_iconst C (v := (3 : Int32)) dX6_readsStep_220 (by decide) ?_
  refine J_iadd C (v := nI ((4 * r) + 3)) dX6_readsStep_221 (nI_add (4 * r) 3) ?_
  refine J_aload_n C dX6_readsStep_222 rfl rfl ?_
  refine J_bipush C (v := (65 : Int32)) dX6_readsStep_223 (by decide) ?_
  refine J_bipush C (v := (70 : Int32)) dX6_readsStep_225 (by decide) ?_
  refine J_callV C (c_X6_takes_y U m ys ya yt yn yx yr yd xth xsm xhs (0 : Int32) (0 : Int32) (0 : Int32) (nI r) xfb xlr xdm gx n ((((i + 1) + 1) + 1) + 1) (65 : Int32) (70 : Int32) v_8 hn (by omega)) gX6_readsStep_X6_takes (n := 2) rfl rfl rfl (by decide +kernel) ⟨Nat.le_of_ble_eq_true rfl, Nat.le_of_ble_eq_true rfl⟩ 0 rfl rfl rfl (rest := [.int (nI ((4 * r) + 3)), .ref yr]) rfl (Nat.le_of_ble_eq_true rfl) [(m, .inr (6, [.int xth, .ref ys, .ref ya, .ref yt, .int xsm, .ref yn, .int xhs, .ref yx, .int (nI n), .int (nI (((((i + 1) + 1) + 1) + 1) + 1)), .int (1 : Int32), .ref yr, .int (nI r), .int xfb, .int xlr, .ref yd, .int xdm])), (yx, .inl (U.2.2.1 0, 60, .inl gx)), (yr, .inl (U.2.2.1 0, 64, .inl (upd (upd (upd (upd gr (4 * r) ((sgF gx n i) - (65 : Int32))) ((4 * r) + 1) (0 : Int32)) ((4 * r) + 2) ((sgF gx n ((i + 1) + 1)) - (65 : Int32))) ((4 * r) + 1) (sgF gx n (((i + 1) + 1) + 1)))))] [0, 1] [2] [1, 2, 0] (wr := [(yr, .inl (U.2.2.1 0, 64, .inl (upd (upd (upd (upd gr (4 * r) ((sgF gx n i) - (65 : Int32))) ((4 * r) + 1) (0 : Int32)) ((4 * r) + 2) ((sgF gx n ((i + 1) + 1)) - (65 : Int32))) ((4 * r) + 1) (sgF gx n (((i + 1) + 1) + 1)))))]) rfl rfl rfl rfl (by decide) rfl rfl  dX6_readsStep_227 ⟨Nat.le_of_ble_eq_true rfl, Nat.le_of_ble_eq_true rfl⟩ [.int ((sgF gx n ((((i + 1) + 1) + 1) + 1)) - (65 : Int32)), .int (nI ((4 * r) + 3)), .ref yr] rfl ?_
  refine J_iast C 2 [(m, .inr (6, [.int xth, .ref ys, .ref ya, .ref yt, .int xsm, .ref yn, .int xhs, .ref yx, .int (nI n), .int (nI (((((i + 1) + 1) + 1) + 1) + 1)), .int (1 : Int32), .ref yr, .int (nI r), .int xfb, .int xlr, .ref yd, .int xdm])), (yx, .inl (U.2.2.1 0, 60, .inl gx)), (yr, .inl (U.2.2.1 0, 64, .inl (upd (upd (upd (upd (upd gr (4 * r) ((sgF gx n i) - (65 : Int32))) ((4 * r) + 1) (0 : Int32)) ((4 * r) + 2) ((sgF gx n ((i + 1) + 1)) - (65 : Int32))) ((4 * r) + 1) (sgF gx n (((i + 1) + 1) + 1))) ((4 * r) + 3) ((sgF gx n ((((i + 1) + 1) + 1) + 1)) - (65 : Int32)))))] rfl (vp_in_nI (n := (4 * r) + 3) (by omega) (by decide)) (by rw [(nI_clamp (n := (4 * r) + 3) (by omega))]; rfl) dX6_readsStep_230 ?_
  refine J_aload_n C dX6_readsStep_231 rfl rfl ?_
  refine J_dup C dX6_readsStep_232 rfl ?_
  refine J_get C 0 12 rfl rfl i_X6_readsStep_X6 (by decide) k_X6_readsStep_113 rfl rfl dX6_readsStep_233 ?_
  refine J_aload_n C dX6_readsStep_236 rfl rfl ?_
  refine J_get C 0 10 rfl rfl i_X6_readsStep_X6 (by decide) k_X6_readsStep_102 rfl rfl dX6_readsStep_237 ?_
  refine J_if_eq C 247 dX6_readsStep_240 (by decide) (fun h => absurd h (by decide)) (fun _ => ?_)
  refine J_iconst C (v := (1 : Int32)) dX6_readsStep_243 (by decide) ?_
  refine J_goto C 248 dX6_readsStep_244 (by decide) ?_
  refine J_iadd C (v := nI (r + 1)) dX6_readsStep_248 (nI_add r 1) ?_
  refine J_put C tyX6 0 12 [(m, .inr (6, [.int xth, .ref ys, .ref ya, .ref yt, .int xsm, .ref yn, .int xhs, .ref yx, .int (nI n), .int (nI (((((i + 1) + 1) + 1) + 1) + 1)), .int (1 : Int32), .ref yr, .int (nI (r + 1)), .int xfb, .int xlr, .ref yd, .int xdm])), (yx, .inl (U.2.2.1 0, 60, .inl gx)), (yr, .inl (U.2.2.1 0, 64, .inl (upd (upd (upd (upd (upd gr (4 * r) ((sgF gx n i) - (65 : Int32))) ((4 * r) + 1) (0 : Int32)) ((4 * r) + 2) ((sgF gx n ((i + 1) + 1)) - (65 : Int32))) ((4 * r) + 1) (sgF gx n (((i + 1) + 1) + 1))) ((4 * r) + 3) ((sgF gx n ((((i + 1) + 1) + 1) + 1)) - (65 : Int32)))))] rfl rfl i_X6_readsStep_X6 tyX6_ok nmX6 (by decide) k_X6_readsStep_113 rfl rfl rfl rfl (Nat.le_of_ble_eq_true rfl) rfl dX6_readsStep_249 ?_
  exact J_vret C R dX6_readsStep_252 (Nat.le_of_ble_eq_true rfl) (Nat.le_of_ble_eq_true rfl) rfl rfl
set_option maxHeartbeats 4000000 in
set_option maxRecDepth 100000 in
theorem c_X6_readsStep_F7p (U : jU) (m ys ya yt yn yx yr yd : Nat) (xth xsm xhs xln xat xiw xrm xfb xlr xdm : Int32) (gx gr : Nat → Int32) (n i r : Nat) (v_0 : inF (sgF gx n i) 65 70) (v_1 : inF (sgF gx n (i + 1)) 61 61) (v_2 : ¬ (sgF gx n ((i + 1) + 1)) = 45) (v_3 : ¬ (sgF gx n ((i + 1) + 1)) = 35) (v_4 : inF (sgF gx n ((i + 1) + 1)) 65 70) (v_5 : (sgF gx n (((i + 1) + 1) + 1)) = 43) (v_6 : ¬ (sgF gx n (((i + 1) + 1) + 1)) = 45) (v_8 : ¬ inF (sgF gx n ((((i + 1) + 1) + 1) + 1)) 65 70) (hn : n ≤ 60) (hi : i ≤ 60) (hr : r ≤ 15) : Fn U yX6_readsStep wsX6_readsStep { frames := 3, cells := 0, slots := 0, locals := 68 } [.ref m] [(m, .inr (6, [.int xth, .ref ys, .ref ya, .ref yt, .int xsm, .ref yn, .int xhs, .ref yx, .int (nI n), .int (nI i), .int xiw, .ref yr, .int (nI r), .int xfb, .int xlr, .ref yd, .int xdm])), (yx, .inl (U.2.2.1 0, 60, .inl gx)), (yr, .inl (U.2.2.1 0, 64, .inl gr))] none [(m, .inr (6, [.int xth, .ref ys, .ref ya, .ref yt, .int xsm, .ref yn, .int xhs, .ref yx, .int (nI n), .int (nI ((((i + 1) + 1) + 1) + 1)), .int (0 : Int32), .ref yr, .int (nI r), .int xfb, .int xlr, .ref yd, .int xdm])), (yx, .inl (U.2.2.1 0, 60, .inl gx)), (yr, .inl (U.2.2.1 0, 64, .inl (upd (upd (upd (upd (upd gr (4 * r) ((sgF gx n i) - (65 : Int32))) ((4 * r) + 1) (0 : Int32)) ((4 * r) + 2) ((sgF gx n ((i + 1) + 1)) - (65 : Int32))) ((4 * r) + 1) (sgF gx n (((i + 1) + 1) + 1))) ((4 * r) + 3) ((sgF gx n ((((i + 1) + 1) + 1) + 1)) - (65 : Int32)))))] 0 0 := by
  refine Fn_of (cc := cX6_readsStep) (maxL := 5) (ret := none) [some (.ref m), none, none, none, none] (by decide +kernel) rfl (jcat rfl) (Nat.le_of_ble_eq_true rfl) rfl (fun k C R hin hnL => ?_)
  have hN : ∀ i, i < 5 → i < k.2.2.2.2.2.2.2.2.2.2.2.1 := fun i h => by rw [hnL]; exact h
  refine J_iconst C (v := (4 : Int32)) dX6_readsStep_0 (by decide) ?_
  refine J_aload_n C dX6_readsStep_1 rfl rfl ?_
  refine J_get C 0 12 rfl rfl i_X6_readsStep_X6 (by decide) k_X6_readsStep_113 rfl rfl dX6_readsStep_2 ?_
  refine J_imul C (v := nI (4 * r)) dX6_readsStep_5 (pk_mul 4 r) ?_
  refine J_istore_n C [some (.ref m), some (.int (nI (4 * r))), none, none, none] dX6_readsStep_6 rfl (hN 1 (by decide)) rfl ?_
  refine J_aload_n C dX6_readsStep_7 rfl rfl ?_
  refine J_iconst C (v := (1 : Int32)) dX6_readsStep_8 (by decide) ?_
  refine J_put C tyX6 0 10 [(m, .inr (6, [.int xth, .ref ys, .ref ya, .ref yt, .int xsm, .ref yn, .int xhs, .ref yx, .int (nI n), .int (nI i), .int (1 : Int32), .ref yr, .int (nI r), .int xfb, .int xlr, .ref yd, .int xdm])), (yx, .inl (U.2.2.1 0, 60, .inl gx)), (yr, .inl (U.2.2.1 0, 64, .inl gr))] rfl rfl i_X6_readsStep_X6 tyX6_ok nmX6 (by decide) k_X6_readsStep_102 rfl rfl rfl rfl (Nat.le_of_ble_eq_true rfl) rfl dX6_readsStep_9 ?_
  refine J_aload_n C dX6_readsStep_12 rfl rfl ?_
  refine J_get C 0 11 rfl rfl i_X6_readsStep_X6 (by decide) k_X6_readsStep_25 rfl rfl dX6_readsStep_13 ?_
  refine J_iload_n C dX6_readsStep_16 rfl rfl ?_
  refine J_aload_n C dX6_readsStep_17 rfl rfl ?_
  refine J_bipush C (v := (65 : Int32)) dX6_readsStep_18 (by decide) ?_
  refine J_bipush C (v := (70 : Int32)) dX6_readsStep_20 (by decide) ?_
  refine J_callV C (c_X6_takes_y U m ys ya yt yn yx yr yd xth xsm xhs (0 : Int32) (0 : Int32) (0 : Int32) (nI r) xfb xlr xdm gx n i (65 : Int32) (70 : Int32) v_0 hn (by omega)) gX6_readsStep_X6_takes (n := 2) rfl rfl rfl (by decide +kernel) ⟨Nat.le_of_ble_eq_true rfl, Nat.le_of_ble_eq_true rfl⟩ 0 rfl rfl rfl (rest := [.int (nI (4 * r)), .ref yr]) rfl (Nat.le_of_ble_eq_true rfl) [(m, .inr (6, [.int xth, .ref ys, .ref ya, .ref yt, .int xsm, .ref yn, .int xhs, .ref yx, .int (nI n), .int (nI (i + 1)), .int (1 : Int32), .ref yr, .int (nI r), .int xfb, .int xlr, .ref yd, .int xdm])), (yx, .inl (U.2.2.1 0, 60, .inl gx)), (yr, .inl (U.2.2.1 0, 64, .inl gr))] [0, 1] [2] [1, 2, 0] (wr := [(yr, .inl (U.2.2.1 0, 64, .inl gr))]) rfl rfl rfl rfl (by decide) rfl rfl  dX6_readsStep_22 ⟨Nat.le_of_ble_eq_true rfl, Nat.le_of_ble_eq_true rfl⟩ [.int ((sgF gx n i) - (65 : Int32)), .int (nI (4 * r)), .ref yr] rfl ?_
  refine J_iast C 2 [(m, .inr (6, [.int xth, .ref ys, .ref ya, .ref yt, .int xsm, .ref yn, .int xhs, .ref yx, .int (nI n), .int (nI (i + 1)), .int (1 : Int32), .ref yr, .int (nI r), .int xfb, .int xlr, .ref yd, .int xdm])), (yx, .inl (U.2.2.1 0, 60, .inl gx)), (yr, .inl (U.2.2.1 0, 64, .inl (upd gr (4 * r) ((sgF gx n i) - (65 : Int32)))))] rfl (vp_in_nI (n := 4 * r) (by omega) (by decide)) (by rw [(nI_clamp (n := 4 * r) (by omega))]; rfl) dX6_readsStep_25 ?_
  refine J_aload_n C dX6_readsStep_26 rfl rfl ?_
  refine J_bipush C (v := (61 : Int32)) dX6_readsStep_27 (by decide) ?_
  refine J_bipush C (v := (61 : Int32)) dX6_readsStep_29 (by decide) ?_
  refine J_callV C (c_X6_takes_y U m ys ya yt yn yx yr yd xth xsm xhs (0 : Int32) (0 : Int32) (0 : Int32) (nI r) xfb xlr xdm gx n (i + 1) (61 : Int32) (61 : Int32) v_1 hn (by omega)) gX6_readsStep_X6_takes (n := 2) rfl rfl rfl (by decide +kernel) ⟨Nat.le_of_ble_eq_true rfl, Nat.le_of_ble_eq_true rfl⟩ 0 rfl rfl rfl (rest := []) rfl (Nat.le_of_ble_eq_true rfl) [(m, .inr (6, [.int xth, .ref ys, .ref ya, .ref yt, .int xsm, .ref yn, .int xhs, .ref yx, .int (nI n), .int (nI ((i + 1) + 1)), .int (1 : Int32), .ref yr, .int (nI r), .int xfb, .int xlr, .ref yd, .int xdm])), (yx, .inl (U.2.2.1 0, 60, .inl gx)), (yr, .inl (U.2.2.1 0, 64, .inl (upd gr (4 * r) ((sgF gx n i) - (65 : Int32)))))] [0, 1] [2] [1, 2, 0] (wr := [(yr, .inl (U.2.2.1 0, 64, .inl (upd gr (4 * r) ((sgF gx n i) - (65 : Int32)))))]) rfl rfl rfl rfl (by decide) rfl rfl  dX6_readsStep_31 ⟨Nat.le_of_ble_eq_true rfl, Nat.le_of_ble_eq_true rfl⟩ [.int ((sgF gx n (i + 1)) - (61 : Int32))] rfl ?_
  refine J_pop C dX6_readsStep_34 rfl ?_
  refine J_aload_n C dX6_readsStep_35 rfl rfl ?_
  refine J_get C 0 10 rfl rfl i_X6_readsStep_X6 (by decide) k_X6_readsStep_102 rfl rfl dX6_readsStep_36 ?_
  refine J_if_eq C 49 dX6_readsStep_39 (by decide) (fun h => absurd h (by decide)) (fun _ => ?_)
  refine J_aload_n C dX6_readsStep_42 rfl rfl ?_
  refine J_callV C (c_X6_sign U m ys ya yt yn yx yr yd xth xsm xhs (0 : Int32) (0 : Int32) (1 : Int32) (nI r) xfb xlr xdm gx n ((i + 1) + 1) hn (by omega)) gX6_readsStep_X6_sign (n := 0) rfl rfl rfl (by decide +kernel) ⟨Nat.le_of_ble_eq_true rfl, Nat.le_of_ble_eq_true rfl⟩ 0 rfl rfl rfl (rest := []) rfl (Nat.le_of_ble_eq_true rfl) [(m, .inr (6, [.int xth, .ref ys, .ref ya, .ref yt, .int xsm, .ref yn, .int xhs, .ref yx, .int (nI n), .int (nI ((i + 1) + 1)), .int (1 : Int32), .ref yr, .int (nI r), .int xfb, .int xlr, .ref yd, .int xdm])), (yx, .inl (U.2.2.1 0, 60, .inl gx)), (yr, .inl (U.2.2.1 0, 64, .inl (upd gr (4 * r) ((sgF gx n i) - (65 : Int32)))))] [0, 1] [2] [1, 2, 0] (wr := [(yr, .inl (U.2.2.1 0, 64, .inl (upd gr (4 * r) ((sgF gx n i) - (65 : Int32)))))]) rfl rfl rfl rfl (by decide) rfl rfl  dX6_readsStep_43 ⟨Nat.le_of_ble_eq_true rfl, Nat.le_of_ble_eq_true rfl⟩ [.int (sgF gx n ((i + 1) + 1))] rfl ?_
  refine J_goto C 50 dX6_readsStep_46 (by decide) ?_
  refine J_istore_n C [some (.ref m), some (.int (nI (4 * r))), some (.int (sgF gx n ((i + 1) + 1))), none, none] dX6_readsStep_50 rfl (hN 2 (by decide)) rfl ?_
  refine J_iload_n C dX6_readsStep_51 rfl rfl ?_
  refine J_bipush C (v := (45 : Int32)) dX6_readsStep_52 (by decide) ?_
  refine J_icmp_eq C 63 dX6_readsStep_54 (by decide) (fun h => absurd h v_2) (fun _ => ?_)
  refine J_iload_n C dX6_readsStep_57 rfl rfl ?_
  refine J_bipush C (v := (35 : Int32)) dX6_readsStep_58 (by decide) ?_
  refine J_icmp_ne C 67 dX6_readsStep_60 (by decide) (fun _ => ?_) (fun h => absurd h v_3)
  refine J_iconst C (v := (0 : Int32)) dX6_readsStep_67 (by decide) ?_
  refine J_istore_n C [some (.ref m), some (.int (nI (4 * r))), some (.int (sgF gx n ((i + 1) + 1))), some (.int (0 : Int32)), none] dX6_readsStep_68 rfl (hN 3 (by decide)) rfl ?_
  refine J_aload_n C dX6_readsStep_69 rfl rfl ?_
  refine J_dup C dX6_readsStep_70 rfl ?_
  refine J_get C 0 9 rfl rfl i_X6_readsStep_X6 (by decide) k_X6_readsStep_99 rfl rfl dX6_readsStep_71 ?_
  refine J_iload_n C dX6_readsStep_74 rfl rfl ?_
  refine J_if_eq C 82 dX6_readsStep_75 (by decide) (fun _ => ?_) (fun h => absurd (by decide) h)
  refine J_iconst C (v := (0 : Int32)) dX6_readsStep_82 (by decide) ?_
  refine J_iadd C (v := nI ((i + 1) + 1)) dX6_readsStep_83 (nI_add ((i + 1) + 1) 0) ?_
  refine J_put C tyX6 0 9 [(m, .inr (6, [.int xth, .ref ys, .ref ya, .ref yt, .int xsm, .ref yn, .int xhs, .ref yx, .int (nI n), .int (nI ((i + 1) + 1)), .int (1 : Int32), .ref yr, .int (nI r), .int xfb, .int xlr, .ref yd, .int xdm])), (yx, .inl (U.2.2.1 0, 60, .inl gx)), (yr, .inl (U.2.2.1 0, 64, .inl (upd gr (4 * r) ((sgF gx n i) - (65 : Int32)))))] rfl rfl i_X6_readsStep_X6 tyX6_ok nmX6 (by decide) k_X6_readsStep_99 rfl rfl rfl rfl (Nat.le_of_ble_eq_true rfl) rfl dX6_readsStep_84 ?_
  refine J_aload_n C dX6_readsStep_87 rfl rfl ?_
  refine J_get C 0 11 rfl rfl i_X6_readsStep_X6 (by decide) k_X6_readsStep_25 rfl rfl dX6_readsStep_88 ?_
  refine J_iload_n C dX6_readsStep_91 rfl rfl ?_
  refine J_iconst C (v := (1 : Int32)) dX6_readsStep_92 (by decide) ?_
  refine J_iadd C (v := nI ((4 * r) + 1)) dX6_readsStep_93 (nI_add (4 * r) 1) ?_
  refine J_iload_n C dX6_readsStep_94 rfl rfl ?_
  refine J_if_eq C 102 dX6_readsStep_95 (by decide) (fun _ => ?_) (fun h => absurd (by decide) h)
  refine J_iconst C (v := (0 : Int32)) dX6_readsStep_102 (by decide) ?_
  refine J_iast C 2 [(m, .inr (6, [.int xth, .ref ys, .ref ya, .ref yt, .int xsm, .ref yn, .int xhs, .ref yx, .int (nI n), .int (nI ((i + 1) + 1)), .int (1 : Int32), .ref yr, .int (nI r), .int xfb, .int xlr, .ref yd, .int xdm])), (yx, .inl (U.2.2.1 0, 60, .inl gx)), (yr, .inl (U.2.2.1 0, 64, .inl (upd (upd gr (4 * r) ((sgF gx n i) - (65 : Int32))) ((4 * r) + 1) (0 : Int32))))] rfl (vp_in_nI (n := (4 * r) + 1) (by omega) (by decide)) (by rw [(nI_clamp (n := (4 * r) + 1) (by omega))]; rfl) dX6_readsStep_103 ?_
  refine J_iload_n C dX6_readsStep_104 rfl rfl ?_
  refine J_bipush C (v := (35 : Int32)) dX6_readsStep_105 (by decide) ?_
  refine J_icmp_ne C 125 dX6_readsStep_107 (by decide) (fun _ => ?_) (fun h => absurd h v_3)
  refine J_aload_n C dX6_readsStep_125 rfl rfl ?_
  refine J_get C 0 11 rfl rfl i_X6_readsStep_X6 (by decide) k_X6_readsStep_25 rfl rfl dX6_readsStep_126 ?_
  refine J_iload_n C dX6_readsStep_129 rfl rfl ?_
  refine J_iconst C (v := (2 : Int32)) dX6_readsStep_130 (by decide) ?_
  refine J_iadd C (v := nI ((4 * r) + 2)) dX6_readsStep_131 (nI_add (4 * r) 2) ?_
  refine J_aload_n C dX6_readsStep_132 rfl rfl ?_
  refine J_bipush C (v := (65 : Int32)) dX6_readsStep_133 (by decide) ?_
  refine J_bipush C (v := (70 : Int32)) dX6_readsStep_135 (by decide) ?_
  refine J_callV C (c_X6_takes_y U m ys ya yt yn yx yr yd xth xsm xhs (0 : Int32) (0 : Int32) (0 : Int32) (nI r) xfb xlr xdm gx n ((i + 1) + 1) (65 : Int32) (70 : Int32) v_4 hn (by omega)) gX6_readsStep_X6_takes (n := 2) rfl rfl rfl (by decide +kernel) ⟨Nat.le_of_ble_eq_true rfl, Nat.le_of_ble_eq_true rfl⟩ 0 rfl rfl rfl (rest := [.int (nI ((4 * r) + 2)), .ref yr]) rfl (Nat.le_of_ble_eq_true rfl) [(m, .inr (6, [.int xth, .ref ys, .ref ya, .ref yt, .int xsm, .ref yn, .int xhs, .ref yx, .int (nI n), .int (nI (((i + 1) + 1) + 1)), .int (1 : Int32), .ref yr, .int (nI r), .int xfb, .int xlr, .ref yd, .int xdm])), (yx, .inl (U.2.2.1 0, 60, .inl gx)), (yr, .inl (U.2.2.1 0, 64, .inl (upd (upd gr (4 * r) ((sgF gx n i) - (65 : Int32))) ((4 * r) + 1) (0 : Int32))))] [0, 1] [2] [1, 2, 0] (wr := [(yr, .inl (U.2.2.1 0, 64, .inl (upd (upd gr (4 * r) ((sgF gx n i) - (65 : Int32))) ((4 * r) + 1) (0 : Int32))))]) rfl rfl rfl rfl (by decide) rfl rfl  dX6_readsStep_137 ⟨Nat.le_of_ble_eq_true rfl, Nat.le_of_ble_eq_true rfl⟩ [.int ((sgF gx n ((i + 1) + 1)) - (65 : Int32)), .int (nI ((4 * r) + 2)), .ref yr] rfl ?_
  refine J_iast C 2 [(m, .inr (6, [.int xth, .ref ys, .ref ya, .ref yt, .int xsm, .ref yn, .int xhs, .ref yx, .int (nI n), .int (nI (((i + 1) + 1) + 1)), .int (1 : Int32), .ref yr, .int (nI r), .int xfb, .int xlr, .ref yd, .int xdm])), (yx, .inl (U.2.2.1 0, 60, .inl gx)), (yr, .inl (U.2.2.1 0, 64, .inl (upd (upd (upd gr (4 * r) ((sgF gx n i) - (65 : Int32))) ((4 * r) + 1) (0 : Int32)) ((4 * r) + 2) ((sgF gx n ((i + 1) + 1)) - (65 : Int32)))))] rfl (vp_in_nI (n := (4 * r) + 2) (by omega) (by decide)) (by rw [(nI_clamp (n := (4 * r) + 2) (by omega))]; rfl) dX6_readsStep_140 ?_
  refine J_aload_n C dX6_readsStep_141 rfl rfl ?_
  refine J_get C 0 10 rfl rfl i_X6_readsStep_X6 (by decide) k_X6_readsStep_102 rfl rfl dX6_readsStep_142 ?_
  refine J_if_eq C 159 dX6_readsStep_145 (by decide) (fun h => absurd h (by decide)) (fun _ => ?_)
  refine J_iload_n C dX6_readsStep_148 rfl rfl ?_
  refine J_if_ne C 159 dX6_readsStep_149 (by decide) (fun h => absurd (by decide) h) (fun _ => ?_)
  refine J_aload_n C dX6_readsStep_152 rfl rfl ?_
  refine J_callV C (c_X6_sign U m ys ya yt yn yx yr yd xth xsm xhs (0 : Int32) (0 : Int32) (1 : Int32) (nI r) xfb xlr xdm gx n (((i + 1) + 1) + 1) hn (by omega)) gX6_readsStep_X6_sign (n := 0) rfl rfl rfl (by decide +kernel) ⟨Nat.le_of_ble_eq_true rfl, Nat.le_of_ble_eq_true rfl⟩ 0 rfl rfl rfl (rest := []) rfl (Nat.le_of_ble_eq_true rfl) [(m, .inr (6, [.int xth, .ref ys, .ref ya, .ref yt, .int xsm, .ref yn, .int xhs, .ref yx, .int (nI n), .int (nI (((i + 1) + 1) + 1)), .int (1 : Int32), .ref yr, .int (nI r), .int xfb, .int xlr, .ref yd, .int xdm])), (yx, .inl (U.2.2.1 0, 60, .inl gx)), (yr, .inl (U.2.2.1 0, 64, .inl (upd (upd (upd gr (4 * r) ((sgF gx n i) - (65 : Int32))) ((4 * r) + 1) (0 : Int32)) ((4 * r) + 2) ((sgF gx n ((i + 1) + 1)) - (65 : Int32)))))] [0, 1] [2] [1, 2, 0] (wr := [(yr, .inl (U.2.2.1 0, 64, .inl (upd (upd (upd gr (4 * r) ((sgF gx n i) - (65 : Int32))) ((4 * r) + 1) (0 : Int32)) ((4 * r) + 2) ((sgF gx n ((i + 1) + 1)) - (65 : Int32)))))]) rfl rfl rfl rfl (by decide) rfl rfl  dX6_readsStep_153 ⟨Nat.le_of_ble_eq_true rfl, Nat.le_of_ble_eq_true rfl⟩ [.int (sgF gx n (((i + 1) + 1) + 1))] rfl ?_
  refine J_goto C 160 dX6_readsStep_156 (by decide) ?_
  refine J_istore C [some (.ref m), some (.int (nI (4 * r))), some (.int (sgF gx n ((i + 1) + 1))), some (.int (0 : Int32)), some (.int (sgF gx n (((i + 1) + 1) + 1)))] dX6_readsStep_160 (hN 4 (by decide)) rfl ?_
  refine J_iload C dX6_readsStep_162 rfl ?_
  refine J_bipush C (v := (43 : Int32)) dX6_readsStep_164 (by decide) ?_
  refine J_icmp_eq C 183 dX6_readsStep_166 (by decide) (fun _ => ?_) (fun h => absurd v_5 h)
  refine J_aload_n C dX6_readsStep_183 rfl rfl ?_
  refine J_dup C dX6_readsStep_184 rfl ?_
  refine J_get C 0 9 rfl rfl i_X6_readsStep_X6 (by decide) k_X6_readsStep_99 rfl rfl dX6_readsStep_185 ?_
  refine J_iconst C (v := (1 : Int32)) dX6_readsStep_188 (by decide) ?_
  refine J_iadd C (v := nI ((((i + 1) + 1) + 1) + 1)) dX6_readsStep_189 (nI_add (((i + 1) + 1) + 1) 1) ?_
  refine J_put C tyX6 0 9 [(m, .inr (6, [.int xth, .ref ys, .ref ya, .ref yt, .int xsm, .ref yn, .int xhs, .ref yx, .int (nI n), .int (nI ((((i + 1) + 1) + 1) + 1)), .int (1 : Int32), .ref yr, .int (nI r), .int xfb, .int xlr, .ref yd, .int xdm])), (yx, .inl (U.2.2.1 0, 60, .inl gx)), (yr, .inl (U.2.2.1 0, 64, .inl (upd (upd (upd gr (4 * r) ((sgF gx n i) - (65 : Int32))) ((4 * r) + 1) (0 : Int32)) ((4 * r) + 2) ((sgF gx n ((i + 1) + 1)) - (65 : Int32)))))] rfl rfl i_X6_readsStep_X6 tyX6_ok nmX6 (by decide) k_X6_readsStep_99 rfl rfl rfl rfl (Nat.le_of_ble_eq_true rfl) rfl dX6_readsStep_190 ?_
  refine J_aload_n C dX6_readsStep_193 rfl rfl ?_
  refine J_get C 0 11 rfl rfl i_X6_readsStep_X6 (by decide) k_X6_readsStep_25 rfl rfl dX6_readsStep_194 ?_
  refine J_iload_n C dX6_readsStep_197 rfl rfl ?_
  refine J_iconst C (v := (1 : Int32)) dX6_readsStep_198 (by decide) ?_
  refine J_iadd C (v := nI ((4 * r) + 1)) dX6_readsStep_199 (nI_add (4 * r) 1) ?_
  refine J_iload C dX6_readsStep_200 rfl ?_
  refine J_bipush C (v := (45 : Int32)) dX6_readsStep_202 (by decide) ?_
  refine J_icmp_ne C 212 dX6_readsStep_204 (by decide) (fun _ => ?_) (fun h => absurd h v_6)
  refine J_iload C dX6_readsStep_212 rfl ?_
  refine J_iast C 2 [(m, .inr (6, [.int xth, .ref ys, .ref ya, .ref yt, .int xsm, .ref yn, .int xhs, .ref yx, .int (nI n), .int (nI ((((i + 1) + 1) + 1) + 1)), .int (1 : Int32), .ref yr, .int (nI r), .int xfb, .int xlr, .ref yd, .int xdm])), (yx, .inl (U.2.2.1 0, 60, .inl gx)), (yr, .inl (U.2.2.1 0, 64, .inl (upd (upd (upd (upd gr (4 * r) ((sgF gx n i) - (65 : Int32))) ((4 * r) + 1) (0 : Int32)) ((4 * r) + 2) ((sgF gx n ((i + 1) + 1)) - (65 : Int32))) ((4 * r) + 1) (sgF gx n (((i + 1) + 1) + 1)))))] rfl (vp_in_nI (n := (4 * r) + 1) (by omega) (by decide)) (by rw [(nI_clamp (n := (4 * r) + 1) (by omega))]; rfl) dX6_readsStep_214 ?_
  refine J_aload_n C dX6_readsStep_215 rfl rfl ?_
  refine J_get C 0 11 rfl rfl i_X6_readsStep_X6 (by decide) k_X6_readsStep_25 rfl rfl dX6_readsStep_216 ?_
  refine J_iload_n C dX6_readsStep_219 rfl rfl ?_
  refine J_iconst C (v := (3 : Int32)) dX6_readsStep_220 (by decide) ?_
  refine J_iadd C (v := nI ((4 * r) + 3)) dX6_readsStep_221 (nI_add (4 * r) 3) ?_
  refine J_aload_n C dX6_readsStep_222 rfl rfl ?_
  refine J_bipush C (v := (65 : Int32)) dX6_readsStep_223 (by decide) ?_
  refine J_bipush C (v := (70 : Int32)) dX6_readsStep_225 (by decide) ?_
  refine J_callV C (c_X6_takes_f U m ys ya yt yn yx yr yd xth xsm xhs (0 : Int32) (0 : Int32) (0 : Int32) (nI r) xfb xlr xdm gx n ((((i + 1) + 1) + 1) + 1) (65 : Int32) (70 : Int32) v_8 hn (by omega)) gX6_readsStep_X6_takes (n := 2) rfl rfl rfl (by decide +kernel) ⟨Nat.le_of_ble_eq_true rfl, Nat.le_of_ble_eq_true rfl⟩ 0 rfl rfl rfl (rest := [.int (nI ((4 * r) + 3)), .ref yr]) rfl (Nat.le_of_ble_eq_true rfl) [(m, .inr (6, [.int xth, .ref ys, .ref ya, .ref yt, .int xsm, .ref yn, .int xhs, .ref yx, .int (nI n), .int (nI ((((i + 1) + 1) + 1) + 1)), .int (0 : Int32), .ref yr, .int (nI r), .int xfb, .int xlr, .ref yd, .int xdm])), (yx, .inl (U.2.2.1 0, 60, .inl gx)), (yr, .inl (U.2.2.1 0, 64, .inl (upd (upd (upd (upd gr (4 * r) ((sgF gx n i) - (65 : Int32))) ((4 * r) + 1) (0 : Int32)) ((4 * r) + 2) ((sgF gx n ((i + 1) + 1)) - (65 : Int32))) ((4 * r) + 1) (sgF gx n (((i + 1) + 1) + 1)))))] [0, 1] [2] [1, 2, 0] (wr := [(yr, .inl (U.2.2.1 0, 64, .inl (upd (upd (upd (upd gr (4 * r) ((sgF gx n i) - (65 : Int32))) ((4 * r) + 1) (0 : Int32)) ((4 * r) + 2) ((sgF gx n ((i + 1) + 1)) - (65 : Int32))) ((4 * r) + 1) (sgF gx n (((i + 1) + 1) + 1)))))]) rfl rfl rfl rfl (by decide) rfl rfl  dX6_readsStep_227 ⟨Nat.le_of_ble_eq_true rfl, Nat.le_of_ble_eq_true rfl⟩ [.int ((sgF gx n ((((i + 1) + 1) + 1) + 1)) - (65 : Int32)), .int (nI ((4 * r) + 3)), .ref yr] rfl ?_
  refine J_iast C 2 [(m, .inr (6, [.int xth, .ref ys, .ref ya, .ref yt, .int xsm, .ref yn, .int xhs, .ref yx, .int (nI n), .int (nI ((((i + 1) + 1) + 1) + 1)), .int (0 : Int32), .ref yr, .int (nI r), .int xfb, .int xlr, .ref yd, .int xdm])), (yx, .inl (U.2.2.1 0, 60, .inl gx)), (yr, .inl (U.2.2.1 0, 64, .inl (upd (upd (upd (upd (upd gr (4 * r) ((sgF gx n i) - (65 : Int32))) ((4 * r) + 1) (0 : Int32)) ((4 * r) + 2) ((sgF gx n ((i + 1) + 1)) - (65 : Int32))) ((4 * r) + 1) (sgF gx n (((i + 1) + 1) + 1))) ((4 * r) + 3) ((sgF gx n ((((i + 1) + 1) + 1) + 1)) - (65 : Int32)))))] rfl (vp_in_nI (n := (4 * r) + 3) (by omega) (by decide)) (by rw [(nI_clamp (n := (4 * r) + 3) (by omega))]; rfl) dX6_readsStep_230 ?_
  refine J_aload_n C dX6_readsStep_231 rfl rfl ?_
  refine J_dup C dX6_readsStep_232 rfl ?_
  refine J_get C 0 12 rfl rfl i_X6_readsStep_X6 (by decide) k_X6_readsStep_113 rfl rfl dX6_readsStep_233 ?_
  refine J_aload_n C dX6_readsStep_236 rfl rfl ?_
  refine J_get C 0 10 rfl rfl i_X6_readsStep_X6 (by decide) k_X6_readsStep_102 rfl rfl dX6_readsStep_237 ?_
  refine J_if_eq C 247 dX6_readsStep_240 (by decide) (fun _ => ?_) (fun h => absurd (by decide) h)
  refine J_iconst C (v := (0 : Int32)) dX6_readsStep_247 (by decide) ?_
  refine J_iadd C (v := nI r) dX6_readsStep_248 (nI_add r 0) ?_
  refine J_put C tyX6 0 12 [(m, .inr (6, [.int xth, .ref ys, .ref ya, .ref yt, .int xsm, .ref yn, .int xhs, .ref yx, .int (nI n), .int (nI ((((i + 1) + 1) + 1) + 1)), .int (0 : Int32), .ref yr, .int (nI r), .int xfb, .int xlr, .ref yd, .int xdm])), (yx, .inl (U.2.2.1 0, 60, .inl gx)), (yr, .inl (U.2.2.1 0, 64, .inl (upd (upd (upd (upd (upd gr (4 * r) ((sgF gx n i) - (65 : Int32))) ((4 * r) + 1) (0 : Int32)) ((4 * r) + 2) ((sgF gx n ((i + 1) + 1)) - (65 : Int32))) ((4 * r) + 1) (sgF gx n (((i + 1) + 1) + 1))) ((4 * r) + 3) ((sgF gx n ((((i + 1) + 1) + 1) + 1)) - (65 : Int32)))))] rfl rfl i_X6_readsStep_X6 tyX6_ok nmX6 (by decide) k_X6_readsStep_113 rfl rfl rfl rfl (Nat.le_of_ble_eq_true rfl) rfl dX6_readsStep_249 ?_
  exact J_vret C R dX6_readsStep_252 (Nat.le_of_ble_eq_true rfl) (Nat.le_of_ble_eq_true rfl) rfl rfl
set_option maxHeartbeats 4000000 in
set_option maxRecDepth 100000 in
theorem c_X6_readsStep_O5m (U : jU) (m ys ya yt yn yx yr yd : Nat) (xth xsm xhs xln xat xiw xrm xfb xlr xdm : Int32) (gx gr : Nat → Int32) (n i r : Nat) (v_0 : inF (sgF gx n i) 65 70) (v_1 : inF (sgF gx n (i + 1)) 61 61) (v_2 : ¬ (sgF gx n ((i + 1) + 1)) = 45) (v_3 : ¬ (sgF gx n ((i + 1) + 1)) = 35) (v_4 : inF (sgF gx n ((i + 1) + 1)) 65 70) (v_5 : ¬ (sgF gx n (((i + 1) + 1) + 1)) = 43) (v_6 : (sgF gx n (((i + 1) + 1) + 1)) = 45) (v_8 : inF (sgF gx n ((((i + 1) + 1) + 1) + 1)) 65 70) (hn : n ≤ 60) (hi : i ≤ 60) (hr : r ≤ 15) : Fn U yX6_readsStep wsX6_readsStep { frames := 3, cells := 0, slots := 0, locals := 68 } [.ref m] [(m, .inr (6, [.int xth, .ref ys, .ref ya, .ref yt, .int xsm, .ref yn, .int xhs, .ref yx, .int (nI n), .int (nI i), .int xiw, .ref yr, .int (nI r), .int xfb, .int xlr, .ref yd, .int xdm])), (yx, .inl (U.2.2.1 0, 60, .inl gx)), (yr, .inl (U.2.2.1 0, 64, .inl gr))] none [(m, .inr (6, [.int xth, .ref ys, .ref ya, .ref yt, .int xsm, .ref yn, .int xhs, .ref yx, .int (nI n), .int (nI (((((i + 1) + 1) + 1) + 1) + 1)), .int (1 : Int32), .ref yr, .int (nI (r + 1)), .int xfb, .int xlr, .ref yd, .int xdm])), (yx, .inl (U.2.2.1 0, 60, .inl gx)), (yr, .inl (U.2.2.1 0, 64, .inl (upd (upd (upd (upd (upd gr (4 * r) ((sgF gx n i) - (65 : Int32))) ((4 * r) + 1) (0 : Int32)) ((4 * r) + 2) ((sgF gx n ((i + 1) + 1)) - (65 : Int32))) ((4 * r) + 1) (115 : Int32)) ((4 * r) + 3) ((sgF gx n ((((i + 1) + 1) + 1) + 1)) - (65 : Int32)))))] 0 0 := by
  refine Fn_of (cc := cX6_readsStep) (maxL := 5) (ret := none) [some (.ref m), none, none, none, none] (by decide +kernel) rfl (jcat rfl) (Nat.le_of_ble_eq_true rfl) rfl (fun k C R hin hnL => ?_)
  have hN : ∀ i, i < 5 → i < k.2.2.2.2.2.2.2.2.2.2.2.1 := fun i h => by rw [hnL]; exact h
  refine J_iconst C (v := (4 : Int32)) dX6_readsStep_0 (by decide) ?_
  refine J_aload_n C dX6_readsStep_1 rfl rfl ?_
  refine J_get C 0 12 rfl rfl i_X6_readsStep_X6 (by decide) k_X6_readsStep_113 rfl rfl dX6_readsStep_2 ?_
  refine J_imul C (v := nI (4 * r)) dX6_readsStep_5 (pk_mul 4 r) ?_
  refine J_istore_n C [some (.ref m), some (.int (nI (4 * r))), none, none, none] dX6_readsStep_6 rfl (hN 1 (by decide)) rfl ?_
  refine J_aload_n C dX6_readsStep_7 rfl rfl ?_
  refine J_iconst C (v := (1 : Int32)) dX6_readsStep_8 (by decide) ?_
  refine J_put C tyX6 0 10 [(m, .inr (6, [.int xth, .ref ys, .ref ya, .ref yt, .int xsm, .ref yn, .int xhs, .ref yx, .int (nI n), .int (nI i), .int (1 : Int32), .ref yr, .int (nI r), .int xfb, .int xlr, .ref yd, .int xdm])), (yx, .inl (U.2.2.1 0, 60, .inl gx)), (yr, .inl (U.2.2.1 0, 64, .inl gr))] rfl rfl i_X6_readsStep_X6 tyX6_ok nmX6 (by decide) k_X6_readsStep_102 rfl rfl rfl rfl (Nat.le_of_ble_eq_true rfl) rfl dX6_readsStep_9 ?_
  refine J_aload_n C dX6_readsStep_12 rfl rfl ?_
  refine J_get C 0 11 rfl rfl i_X6_readsStep_X6 (by decide) k_X6_readsStep_25 rfl rfl dX6_readsStep_13 ?_
  refine J_iload_n C dX6_readsStep_16 rfl rfl ?_
  refine J_aload_n C dX6_readsStep_17 rfl rfl ?_
  refine J_bipush C (v := (65 : Int32)) dX6_readsStep_18 (by decide) ?_
  refine J_bipush C (v := (70 : Int32)) dX6_readsStep_20 (by decide) ?_
  refine J_callV C (c_X6_takes_y U m ys ya yt yn yx yr yd xth xsm xhs (0 : Int32) (0 : Int32) (0 : Int32) (nI r) xfb xlr xdm gx n i (65 : Int32) (70 : Int32) v_0 hn (by omega)) gX6_readsStep_X6_takes (n := 2) rfl rfl rfl (by decide +kernel) ⟨Nat.le_of_ble_eq_true rfl, Nat.le_of_ble_eq_true rfl⟩ 0 rfl rfl rfl (rest := [.int (nI (4 * r)), .ref yr]) rfl (Nat.le_of_ble_eq_true rfl) [(m, .inr (6, [.int xth, .ref ys, .ref ya, .ref yt, .int xsm, .ref yn, .int xhs, .ref yx, .int (nI n), .int (nI (i + 1)), .int (1 : Int32), .ref yr, .int (nI r), .int xfb, .int xlr, .ref yd, .int xdm])), (yx, .inl (U.2.2.1 0, 60, .inl gx)), (yr, .inl (U.2.2.1 0, 64, .inl gr))] [0, 1] [2] [1, 2, 0] (wr := [(yr, .inl (U.2.2.1 0, 64, .inl gr))]) rfl rfl rfl rfl (by decide) rfl rfl  dX6_readsStep_22 ⟨Nat.le_of_ble_eq_true rfl, Nat.le_of_ble_eq_true rfl⟩ [.int ((sgF gx n i) - (65 : Int32)), .int (nI (4 * r)), .ref yr] rfl ?_
  refine J_iast C 2 [(m, .inr (6, [.int xth, .ref ys, .ref ya, .ref yt, .int xsm, .ref yn, .int xhs, .ref yx, .int (nI n), .int (nI (i + 1)), .int (1 : Int32), .ref yr, .int (nI r), .int xfb, .int xlr, .ref yd, .int xdm])), (yx, .inl (U.2.2.1 0, 60, .inl gx)), (yr, .inl (U.2.2.1 0, 64, .inl (upd gr (4 * r) ((sgF gx n i) - (65 : Int32)))))] rfl (vp_in_nI (n := 4 * r) (by omega) (by decide)) (by rw [(nI_clamp (n := 4 * r) (by omega))]; rfl) dX6_readsStep_25 ?_
  refine J_aload_n C dX6_readsStep_26 rfl rfl ?_
  refine J_bipush C (v := (61 : Int32)) dX6_readsStep_27 (by decide) ?_
  refine J_bipush C (v := (61 : Int32)) dX6_readsStep_29 (by decide) ?_
  refine J_callV C (c_X6_takes_y U m ys ya yt yn yx yr yd xth xsm xhs (0 : Int32) (0 : Int32) (0 : Int32) (nI r) xfb xlr xdm gx n (i + 1) (61 : Int32) (61 : Int32) v_1 hn (by omega)) gX6_readsStep_X6_takes (n := 2) rfl rfl rfl (by decide +kernel) ⟨Nat.le_of_ble_eq_true rfl, Nat.le_of_ble_eq_true rfl⟩ 0 rfl rfl rfl (rest := []) rfl (Nat.le_of_ble_eq_true rfl) [(m, .inr (6, [.int xth, .ref ys, .ref ya, .ref yt, .int xsm, .ref yn, .int xhs, .ref yx, .int (nI n), .int (nI ((i + 1) + 1)), .int (1 : Int32), .ref yr, .int (nI r), .int xfb, .int xlr, .ref yd, .int xdm])), (yx, .inl (U.2.2.1 0, 60, .inl gx)), (yr, .inl (U.2.2.1 0, 64, .inl (upd gr (4 * r) ((sgF gx n i) - (65 : Int32)))))] [0, 1] [2] [1, 2, 0] (wr := [(yr, .inl (U.2.2.1 0, 64, .inl (upd gr (4 * r) ((sgF gx n i) - (65 : Int32)))))]) rfl rfl rfl rfl (by decide) rfl rfl  dX6_readsStep_31 ⟨Nat.le_of_ble_eq_true rfl, Nat.le_of_ble_eq_true rfl⟩ [.int ((sgF gx n (i + 1)) - (61 : Int32))] rfl ?_
  refine J_pop C dX6_readsStep_34 rfl ?_
  refine J_aload_n C dX6_readsStep_35 rfl rfl ?_
  refine J_get C 0 10 rfl rfl i_X6_readsStep_X6 (by decide) k_X6_readsStep_102 rfl rfl dX6_readsStep_36 ?_
  refine J_if_eq C 49 dX6_readsStep_39 (by decide) (fun h => absurd h (by decide)) (fun _ => ?_)
  refine J_aload_n C dX6_readsStep_42 rfl rfl ?_
  refine J_callV C (c_X6_sign U m ys ya yt yn yx yr yd xth xsm xhs (0 : Int32) (0 : Int32) (1 : Int32) (nI r) xfb xlr xdm gx n ((i + 1) + 1) hn (by omega)) gX6_readsStep_X6_sign (n := 0) rfl rfl rfl (by decide +kernel) ⟨Nat.le_of_ble_eq_true rfl, Nat.le_of_ble_eq_true rfl⟩ 0 rfl rfl rfl (rest := []) rfl (Nat.le_of_ble_eq_true rfl) [(m, .inr (6, [.int xth, .ref ys, .ref ya, .ref yt, .int xsm, .ref yn, .int xhs, .ref yx, .int (nI n), .int (nI ((i + 1) + 1)), .int (1 : Int32), .ref yr, .int (nI r), .int xfb, .int xlr, .ref yd, .int xdm])), (yx, .inl (U.2.2.1 0, 60, .inl gx)), (yr, .inl (U.2.2.1 0, 64, .inl (upd gr (4 * r) ((sgF gx n i) - (65 : Int32)))))] [0, 1] [2] [1, 2, 0] (wr := [(yr, .inl (U.2.2.1 0, 64, .inl (upd gr (4 * r) ((sgF gx n i) - (65 : Int32)))))]) rfl rfl rfl rfl (by decide) rfl rfl  dX6_readsStep_43 ⟨Nat.le_of_ble_eq_true rfl, Nat.le_of_ble_eq_true rfl⟩ [.int (sgF gx n ((i + 1) + 1))] rfl ?_
  refine J_goto C 50 dX6_readsStep_46 (by decide) ?_
  refine J_istore_n C [some (.ref m), some (.int (nI (4 * r))), some (.int (sgF gx n ((i + 1) + 1))), none, none] dX6_readsStep_50 rfl (hN 2 (by decide)) rfl ?_
  refine J_iload_n C dX6_readsStep_51 rfl rfl ?_
  refine J_bipush C (v := (45 : Int32)) dX6_readsStep_52 (by decide) ?_
  refine J_icmp_eq C 63 dX6_readsStep_54 (by decide) (fun h => absurd h v_2) (fun _ => ?_)
  refine J_iload_n C dX6_readsStep_57 rfl rfl ?_
  refine J_bipush C (v := (35 : Int32)) dX6_readsStep_58 (by decide) ?_
  refine J_icmp_ne C 67 dX6_readsStep_60 (by decide) (fun _ => ?_) (fun h => absurd h v_3)
  refine J_iconst C (v := (0 : Int32)) dX6_readsStep_67 (by decide) ?_
  refine J_istore_n C [some (.ref m), some (.int (nI (4 * r))), some (.int (sgF gx n ((i + 1) + 1))), some (.int (0 : Int32)), none] dX6_readsStep_68 rfl (hN 3 (by decide)) rfl ?_
  refine J_aload_n C dX6_readsStep_69 rfl rfl ?_
  refine J_dup C dX6_readsStep_70 rfl ?_
  refine J_get C 0 9 rfl rfl i_X6_readsStep_X6 (by decide) k_X6_readsStep_99 rfl rfl dX6_readsStep_71 ?_
  refine J_iload_n C dX6_readsStep_74 rfl rfl ?_
  refine J_if_eq C 82 dX6_readsStep_75 (by decide) (fun _ => ?_) (fun h => absurd (by decide) h)
  refine J_iconst C (v := (0 : Int32)) dX6_readsStep_82 (by decide) ?_
  refine J_iadd C (v := nI ((i + 1) + 1)) dX6_readsStep_83 (nI_add ((i + 1) + 1) 0) ?_
  refine J_put C tyX6 0 9 [(m, .inr (6, [.int xth, .ref ys, .ref ya, .ref yt, .int xsm, .ref yn, .int xhs, .ref yx, .int (nI n), .int (nI ((i + 1) + 1)), .int (1 : Int32), .ref yr, .int (nI r), .int xfb, .int xlr, .ref yd, .int xdm])), (yx, .inl (U.2.2.1 0, 60, .inl gx)), (yr, .inl (U.2.2.1 0, 64, .inl (upd gr (4 * r) ((sgF gx n i) - (65 : Int32)))))] rfl rfl i_X6_readsStep_X6 tyX6_ok nmX6 (by decide) k_X6_readsStep_99 rfl rfl rfl rfl (Nat.le_of_ble_eq_true rfl) rfl dX6_readsStep_84 ?_
  refine J_aload_n C dX6_readsStep_87 rfl rfl ?_
  refine J_get C 0 11 rfl rfl i_X6_readsStep_X6 (by decide) k_X6_readsStep_25 rfl rfl dX6_readsStep_88 ?_
  refine J_iload_n C dX6_readsStep_91 rfl rfl ?_
  refine J_iconst C (v := (1 : Int32)) dX6_readsStep_92 (by decide) ?_
  refine J_iadd C (v := nI ((4 * r) + 1)) dX6_readsStep_93 (nI_add (4 * r) 1) ?_
  refine J_iload_n C dX6_readsStep_94 rfl rfl ?_
  refine J_if_eq C 102 dX6_readsStep_95 (by decide) (fun _ => ?_) (fun h => absurd (by decide) h)
  refine J_iconst C (v := (0 : Int32)) dX6_readsStep_102 (by decide) ?_
  refine J_iast C 2 [(m, .inr (6, [.int xth, .ref ys, .ref ya, .ref yt, .int xsm, .ref yn, .int xhs, .ref yx, .int (nI n), .int (nI ((i + 1) + 1)), .int (1 : Int32), .ref yr, .int (nI r), .int xfb, .int xlr, .ref yd, .int xdm])), (yx, .inl (U.2.2.1 0, 60, .inl gx)), (yr, .inl (U.2.2.1 0, 64, .inl (upd (upd gr (4 * r) ((sgF gx n i) - (65 : Int32))) ((4 * r) + 1) (0 : Int32))))] rfl (vp_in_nI (n := (4 * r) + 1) (by omega) (by decide)) (by rw [(nI_clamp (n := (4 * r) + 1) (by omega))]; rfl) dX6_readsStep_103 ?_
  refine J_iload_n C dX6_readsStep_104 rfl rfl ?_
  refine J_bipush C (v := (35 : Int32)) dX6_readsStep_105 (by decide) ?_
  refine J_icmp_ne C 125 dX6_readsStep_107 (by decide) (fun _ => ?_) (fun h => absurd h v_3)
  refine J_aload_n C dX6_readsStep_125 rfl rfl ?_
  refine J_get C 0 11 rfl rfl i_X6_readsStep_X6 (by decide) k_X6_readsStep_25 rfl rfl dX6_readsStep_126 ?_
  refine J_iload_n C dX6_readsStep_129 rfl rfl ?_
  refine J_iconst C (v := (2 : Int32)) dX6_readsStep_130 (by decide) ?_
  refine J_iadd C (v := nI ((4 * r) + 2)) dX6_readsStep_131 (nI_add (4 * r) 2) ?_
  refine J_aload_n C dX6_readsStep_132 rfl rfl ?_
  refine J_bipush C (v := (65 : Int32)) dX6_readsStep_133 (by decide) ?_
  refine J_bipush C (v := (70 : Int32)) dX6_readsStep_135 (by decide) ?_
  refine J_callV C (c_X6_takes_y U m ys ya yt yn yx yr yd xth xsm xhs (0 : Int32) (0 : Int32) (0 : Int32) (nI r) xfb xlr xdm gx n ((i + 1) + 1) (65 : Int32) (70 : Int32) v_4 hn (by omega)) gX6_readsStep_X6_takes (n := 2) rfl rfl rfl (by decide +kernel) ⟨Nat.le_of_ble_eq_true rfl, Nat.le_of_ble_eq_true rfl⟩ 0 rfl rfl rfl (rest := [.int (nI ((4 * r) + 2)), .ref yr]) rfl (Nat.le_of_ble_eq_true rfl) [(m, .inr (6, [.int xth, .ref ys, .ref ya, .ref yt, .int xsm, .ref yn, .int xhs, .ref yx, .int (nI n), .int (nI (((i + 1) + 1) + 1)), .int (1 : Int32), .ref yr, .int (nI r), .int xfb, .int xlr, .ref yd, .int xdm])), (yx, .inl (U.2.2.1 0, 60, .inl gx)), (yr, .inl (U.2.2.1 0, 64, .inl (upd (upd gr (4 * r) ((sgF gx n i) - (65 : Int32))) ((4 * r) + 1) (0 : Int32))))] [0, 1] [2] [1, 2, 0] (wr := [(yr, .inl (U.2.2.1 0, 64, .inl (upd (upd gr (4 * r) ((sgF gx n i) - (65 : Int32))) ((4 * r) + 1) (0 : Int32))))]) rfl rfl rfl rfl (by decide) rfl rfl  dX6_readsStep_137 ⟨Nat.le_of_ble_eq_true rfl, Nat.le_of_ble_eq_true rfl⟩ [.int ((sgF gx n ((i + 1) + 1)) - (65 : Int32)), .int (nI ((4 * r) + 2)), .ref yr] rfl ?_
  refine J_iast C 2 [(m, .inr (6, [.int xth, .ref ys, .ref ya, .ref yt, .int xsm, .ref yn, .int xhs, .ref yx, .int (nI n), .int (nI (((i + 1) + 1) + 1)), .int (1 : Int32), .ref yr, .int (nI r), .int xfb, .int xlr, .ref yd, .int xdm])), (yx, .inl (U.2.2.1 0, 60, .inl gx)), (yr, .inl (U.2.2.1 0, 64, .inl (upd (upd (upd gr (4 * r) ((sgF gx n i) - (65 : Int32))) ((4 * r) + 1) (0 : Int32)) ((4 * r) + 2) ((sgF gx n ((i + 1) + 1)) - (65 : Int32)))))] rfl (vp_in_nI (n := (4 * r) + 2) (by omega) (by decide)) (by rw [(nI_clamp (n := (4 * r) + 2) (by omega))]; rfl) dX6_readsStep_140 ?_
  refine J_aload_n C dX6_readsStep_141 rfl rfl ?_
  refine J_get C 0 10 rfl rfl i_X6_readsStep_X6 (by decide) k_X6_readsStep_102 rfl rfl dX6_readsStep_142 ?_
  refine J_if_eq C 159 dX6_readsStep_145 (by decide) (fun h => absurd h (by decide)) (fun _ => ?_)
  refine J_iload_n C dX6_readsStep_148 rfl rfl ?_
  refine J_if_ne C 159 dX6_readsStep_149 (by decide) (fun h => absurd (by decide) h) (fun _ => ?_)
  refine J_aload_n C dX6_readsStep_152 rfl rfl ?_
  refine J_callV C (c_X6_sign U m ys ya yt yn yx yr yd xth xsm xhs (0 : Int32) (0 : Int32) (1 : Int32) (nI r) xfb xlr xdm gx n (((i + 1) + 1) + 1) hn (by omega)) gX6_readsStep_X6_sign (n := 0) rfl rfl rfl (by decide +kernel) ⟨Nat.le_of_ble_eq_true rfl, Nat.le_of_ble_eq_true rfl⟩ 0 rfl rfl rfl (rest := []) rfl (Nat.le_of_ble_eq_true rfl) [(m, .inr (6, [.int xth, .ref ys, .ref ya, .ref yt, .int xsm, .ref yn, .int xhs, .ref yx, .int (nI n), .int (nI (((i + 1) + 1) + 1)), .int (1 : Int32), .ref yr, .int (nI r), .int xfb, .int xlr, .ref yd, .int xdm])), (yx, .inl (U.2.2.1 0, 60, .inl gx)), (yr, .inl (U.2.2.1 0, 64, .inl (upd (upd (upd gr (4 * r) ((sgF gx n i) - (65 : Int32))) ((4 * r) + 1) (0 : Int32)) ((4 * r) + 2) ((sgF gx n ((i + 1) + 1)) - (65 : Int32)))))] [0, 1] [2] [1, 2, 0] (wr := [(yr, .inl (U.2.2.1 0, 64, .inl (upd (upd (upd gr (4 * r) ((sgF gx n i) - (65 : Int32))) ((4 * r) + 1) (0 : Int32)) ((4 * r) + 2) ((sgF gx n ((i + 1) + 1)) - (65 : Int32)))))]) rfl rfl rfl rfl (by decide) rfl rfl  dX6_readsStep_153 ⟨Nat.le_of_ble_eq_true rfl, Nat.le_of_ble_eq_true rfl⟩ [.int (sgF gx n (((i + 1) + 1) + 1))] rfl ?_
  refine J_goto C 160 dX6_readsStep_156 (by decide) ?_
  refine J_istore C [some (.ref m), some (.int (nI (4 * r))), some (.int (sgF gx n ((i + 1) + 1))), some (.int (0 : Int32)), some (.int (sgF gx n (((i + 1) + 1) + 1)))] dX6_readsStep_160 (hN 4 (by decide)) rfl ?_
  refine J_iload C dX6_readsStep_162 rfl ?_
  refine J_bipush C (v := (43 : Int32)) dX6_readsStep_164 (by decide) ?_
  refine J_icmp_eq C 183 dX6_readsStep_166 (by decide) (fun h => absurd h v_5) (fun _ => ?_)
  refine J_iload C dX6_readsStep_169 rfl ?_
  refine J_bipush C (v := (45 : Int32)) dX6_readsStep_171 (by decide) ?_
  refine J_icmp_eq C 183 dX6_readsStep_173 (by decide) (fun _ => ?_) (fun h => absurd v_6 h)
  refine J_aload_n C dX6_readsStep_183 rfl rfl ?_
  refine J_dup C dX6_readsStep_184 rfl ?_
  refine J_get C 0 9 rfl rfl i_X6_readsStep_X6 (by decide) k_X6_readsStep_99 rfl rfl dX6_readsStep_185 ?_
  refine J_iconst C (v := (1 : Int32)) dX6_readsStep_188 (by decide) ?_
  refine J_iadd C (v := nI ((((i + 1) + 1) + 1) + 1)) dX6_readsStep_189 (nI_add (((i + 1) + 1) + 1) 1) ?_
  refine J_put C tyX6 0 9 [(m, .inr (6, [.int xth, .ref ys, .ref ya, .ref yt, .int xsm, .ref yn, .int xhs, .ref yx, .int (nI n), .int (nI ((((i + 1) + 1) + 1) + 1)), .int (1 : Int32), .ref yr, .int (nI r), .int xfb, .int xlr, .ref yd, .int xdm])), (yx, .inl (U.2.2.1 0, 60, .inl gx)), (yr, .inl (U.2.2.1 0, 64, .inl (upd (upd (upd gr (4 * r) ((sgF gx n i) - (65 : Int32))) ((4 * r) + 1) (0 : Int32)) ((4 * r) + 2) ((sgF gx n ((i + 1) + 1)) - (65 : Int32)))))] rfl rfl i_X6_readsStep_X6 tyX6_ok nmX6 (by decide) k_X6_readsStep_99 rfl rfl rfl rfl (Nat.le_of_ble_eq_true rfl) rfl dX6_readsStep_190 ?_
  refine J_aload_n C dX6_readsStep_193 rfl rfl ?_
  refine J_get C 0 11 rfl rfl i_X6_readsStep_X6 (by decide) k_X6_readsStep_25 rfl rfl dX6_readsStep_194 ?_
  refine J_iload_n C dX6_readsStep_197 rfl rfl ?_
  refine J_iconst C (v := (1 : Int32)) dX6_readsStep_198 (by decide) ?_
  refine J_iadd C (v := nI ((4 * r) + 1)) dX6_readsStep_199 (nI_add (4 * r) 1) ?_
  refine J_iload C dX6_readsStep_200 rfl ?_
  refine J_bipush C (v := (45 : Int32)) dX6_readsStep_202 (by decide) ?_
  refine J_icmp_ne C 212 dX6_readsStep_204 (by decide) (fun h => absurd h (fun hh => hh v_6)) (fun _ => ?_)
  refine J_bipush C (v := (115 : Int32)) dX6_readsStep_207 (by decide) ?_
  refine J_goto C 214 dX6_readsStep_209 (by decide) ?_
  refine J_iast C 2 [(m, .inr (6, [.int xth, .ref ys, .ref ya, .ref yt, .int xsm, .ref yn, .int xhs, .ref yx, .int (nI n), .int (nI ((((i + 1) + 1) + 1) + 1)), .int (1 : Int32), .ref yr, .int (nI r), .int xfb, .int xlr, .ref yd, .int xdm])), (yx, .inl (U.2.2.1 0, 60, .inl gx)), (yr, .inl (U.2.2.1 0, 64, .inl (upd (upd (upd (upd gr (4 * r) ((sgF gx n i) - (65 : Int32))) ((4 * r) + 1) (0 : Int32)) ((4 * r) + 2) ((sgF gx n ((i + 1) + 1)) - (65 : Int32))) ((4 * r) + 1) (115 : Int32))))] rfl (vp_in_nI (n := (4 * r) + 1) (by omega) (by decide)) (by rw [(nI_clamp (n := (4 * r) + 1) (by omega))]; rfl) dX6_readsStep_214 ?_
  refine J_aload_n C dX6_readsStep_215 rfl rfl ?_
  refine J_get C 0 11 rfl rfl i_X6_readsStep_X6 (by decide) k_X6_readsStep_25 rfl rfl dX6_readsStep_216 ?_
  refine J_iload_n C dX6_readsStep_219 rfl rfl ?_
  refine J_iconst C (v := (3 : Int32)) dX6_readsStep_220 (by decide) ?_
  refine J_iadd C (v := nI ((4 * r) + 3)) dX6_readsStep_221 (nI_add (4 * r) 3) ?_
  refine J_aload_n C dX6_readsStep_222 rfl rfl ?_
  refine J_bipush C (v := (65 : Int32)) dX6_readsStep_223 (by decide) ?_
  refine J_bipush C (v := (70 : Int32)) dX6_readsStep_225 (by decide) ?_
  refine J_callV C (c_X6_takes_y U m ys ya yt yn yx yr yd xth xsm xhs (0 : Int32) (0 : Int32) (0 : Int32) (nI r) xfb xlr xdm gx n ((((i + 1) + 1) + 1) + 1) (65 : Int32) (70 : Int32) v_8 hn (by omega)) gX6_readsStep_X6_takes (n := 2) rfl rfl rfl (by decide +kernel) ⟨Nat.le_of_ble_eq_true rfl, Nat.le_of_ble_eq_true rfl⟩ 0 rfl rfl rfl (rest := [.int (nI ((4 * r) + 3)), .ref yr]) rfl (Nat.le_of_ble_eq_true rfl) [(m, .inr (6, [.int xth, .ref ys, .ref ya, .ref yt, .int xsm, .ref yn, .int xhs, .ref yx, .int (nI n), .int (nI (((((i + 1) + 1) + 1) + 1) + 1)), .int (1 : Int32), .ref yr, .int (nI r), .int xfb, .int xlr, .ref yd, .int xdm])), (yx, .inl (U.2.2.1 0, 60, .inl gx)), (yr, .inl (U.2.2.1 0, 64, .inl (upd (upd (upd (upd gr (4 * r) ((sgF gx n i) - (65 : Int32))) ((4 * r) + 1) (0 : Int32)) ((4 * r) + 2) ((sgF gx n ((i + 1) + 1)) - (65 : Int32))) ((4 * r) + 1) (115 : Int32))))] [0, 1] [2] [1, 2, 0] (wr := [(yr, .inl (U.2.2.1 0, 64, .inl (upd (upd (upd (upd gr (4 * r) ((sgF gx n i) - (65 : Int32))) ((4 * r) + 1) (0 : Int32)) ((4 * r) + 2) ((sgF gx n ((i + 1) + 1)) - (65 : Int32))) ((4 * r) + 1) (115 : Int32))))]) rfl rfl rfl rfl (by decide) rfl rfl  dX6_readsStep_227 ⟨Nat.le_of_ble_eq_true rfl, Nat.le_of_ble_eq_true rfl⟩ [.int ((sgF gx n ((((i + 1) + 1) + 1) + 1)) - (65 : Int32)), .int (nI ((4 * r) + 3)), .ref yr] rfl ?_
  refine J_iast C 2 [(m, .inr (6, [.int xth, .ref ys, .ref ya, .ref yt, .int xsm, .ref yn, .int xhs, .ref yx, .int (nI n), .int (nI (((((i + 1) + 1) + 1) + 1) + 1)), .int (1 : Int32), .ref yr, .int (nI r), .int xfb, .int xlr, .ref yd, .int xdm])), (yx, .inl (U.2.2.1 0, 60, .inl gx)), (yr, .inl (U.2.2.1 0, 64, .inl (upd (upd (upd (upd (upd gr (4 * r) ((sgF gx n i) - (65 : Int32))) ((4 * r) + 1) (0 : Int32)) ((4 * r) + 2) ((sgF gx n ((i + 1) + 1)) - (65 : Int32))) ((4 * r) + 1) (115 : Int32)) ((4 * r) + 3) ((sgF gx n ((((i + 1) + 1) + 1) + 1)) - (65 : Int32)))))] rfl (vp_in_nI (n := (4 * r) + 3) (by omega) (by decide)) (by rw [(nI_clamp (n := (4 * r) + 3) (by omega))]; rfl) dX6_readsStep_230 ?_
  refine J_aload_n C dX6_readsStep_231 rfl rfl ?_
  refine J_dup C dX6_readsStep_232 rfl ?_
  refine J_get C 0 12 rfl rfl i_X6_readsStep_X6 (by decide) k_X6_readsStep_113 rfl rfl dX6_readsStep_233 ?_
  refine J_aload_n C dX6_readsStep_236 rfl rfl ?_
  refine J_get C 0 10 rfl rfl i_X6_readsStep_X6 (by decide) k_X6_readsStep_102 rfl rfl dX6_readsStep_237 ?_
  refine J_if_eq C 247 dX6_readsStep_240 (by decide) (fun h => absurd h (by decide)) (fun _ => ?_)
  refine J_iconst C (v := (1 : Int32)) dX6_readsStep_243 (by decide) ?_
  refine J_goto C 248 dX6_readsStep_244 (by decide) ?_
  refine J_iadd C (v := nI (r + 1)) dX6_readsStep_248 (nI_add r 1) ?_
  refine J_put C tyX6 0 12 [(m, .inr (6, [.int xth, .ref ys, .ref ya, .ref yt, .int xsm, .ref yn, .int xhs, .ref yx, .int (nI n), .int (nI (((((i + 1) + 1) + 1) + 1) + 1)), .int (1 : Int32), .ref yr, .int (nI (r + 1)), .int xfb, .int xlr, .ref yd, .int xdm])), (yx, .inl (U.2.2.1 0, 60, .inl gx)), (yr, .inl (U.2.2.1 0, 64, .inl (upd (upd (upd (upd (upd gr (4 * r) ((sgF gx n i) - (65 : Int32))) ((4 * r) + 1) (0 : Int32)) ((4 * r) + 2) ((sgF gx n ((i + 1) + 1)) - (65 : Int32))) ((4 * r) + 1) (115 : Int32)) ((4 * r) + 3) ((sgF gx n ((((i + 1) + 1) + 1) + 1)) - (65 : Int32)))))] rfl rfl i_X6_readsStep_X6 tyX6_ok nmX6 (by decide) k_X6_readsStep_113 rfl rfl rfl rfl (Nat.le_of_ble_eq_true rfl) rfl dX6_readsStep_249 ?_
  exact J_vret C R dX6_readsStep_252 (Nat.le_of_ble_eq_true rfl) (Nat.le_of_ble_eq_true rfl) rfl rfl
set_option maxHeartbeats 4000000 in
set_option maxRecDepth 100000 in
theorem c_X6_readsStep_F7m (U : jU) (m ys ya yt yn yx yr yd : Nat) (xth xsm xhs xln xat xiw xrm xfb xlr xdm : Int32) (gx gr : Nat → Int32) (n i r : Nat) (v_0 : inF (sgF gx n i) 65 70) (v_1 : inF (sgF gx n (i + 1)) 61 61) (v_2 : ¬ (sgF gx n ((i + 1) + 1)) = 45) (v_3 : ¬ (sgF gx n ((i + 1) + 1)) = 35) (v_4 : inF (sgF gx n ((i + 1) + 1)) 65 70) (v_5 : ¬ (sgF gx n (((i + 1) + 1) + 1)) = 43) (v_6 : (sgF gx n (((i + 1) + 1) + 1)) = 45) (v_8 : ¬ inF (sgF gx n ((((i + 1) + 1) + 1) + 1)) 65 70) (hn : n ≤ 60) (hi : i ≤ 60) (hr : r ≤ 15) : Fn U yX6_readsStep wsX6_readsStep { frames := 3, cells := 0, slots := 0, locals := 68 } [.ref m] [(m, .inr (6, [.int xth, .ref ys, .ref ya, .ref yt, .int xsm, .ref yn, .int xhs, .ref yx, .int (nI n), .int (nI i), .int xiw, .ref yr, .int (nI r), .int xfb, .int xlr, .ref yd, .int xdm])), (yx, .inl (U.2.2.1 0, 60, .inl gx)), (yr, .inl (U.2.2.1 0, 64, .inl gr))] none [(m, .inr (6, [.int xth, .ref ys, .ref ya, .ref yt, .int xsm, .ref yn, .int xhs, .ref yx, .int (nI n), .int (nI ((((i + 1) + 1) + 1) + 1)), .int (0 : Int32), .ref yr, .int (nI r), .int xfb, .int xlr, .ref yd, .int xdm])), (yx, .inl (U.2.2.1 0, 60, .inl gx)), (yr, .inl (U.2.2.1 0, 64, .inl (upd (upd (upd (upd (upd gr (4 * r) ((sgF gx n i) - (65 : Int32))) ((4 * r) + 1) (0 : Int32)) ((4 * r) + 2) ((sgF gx n ((i + 1) + 1)) - (65 : Int32))) ((4 * r) + 1) (115 : Int32)) ((4 * r) + 3) ((sgF gx n ((((i + 1) + 1) + 1) + 1)) - (65 : Int32)))))] 0 0 := by
  refine Fn_of (cc := cX6_readsStep) (maxL := 5) (ret := none) [some (.ref m), none, none, none, none] (by decide +kernel) rfl (jcat rfl) (Nat.le_of_ble_eq_true rfl) rfl (fun k C R hin hnL => ?_)
  have hN : ∀ i, i < 5 → i < k.2.2.2.2.2.2.2.2.2.2.2.1 := fun i h => by rw [hnL]; exact h
  refine J_iconst C (v := (4 : Int32)) dX6_readsStep_0 (by decide) ?_
  refine J_aload_n C dX6_readsStep_1 rfl rfl ?_
  refine J_get C 0 12 rfl rfl i_X6_readsStep_X6 (by decide) k_X6_readsStep_113 rfl rfl dX6_readsStep_2 ?_
  refine J_imul C (v := nI (4 * r)) dX6_readsStep_5 (pk_mul 4 r) ?_
  refine J_istore_n C [some (.ref m), some (.int (nI (4 * r))), none, none, none] dX6_readsStep_6 rfl (hN 1 (by decide)) rfl ?_
  refine J_aload_n C dX6_readsStep_7 rfl rfl ?_
  refine J_iconst C (v := (1 : Int32)) dX6_readsStep_8 (by decide) ?_
  refine J_put C tyX6 0 10 [(m, .inr (6, [.int xth, .ref ys, .ref ya, .ref yt, .int xsm, .ref yn, .int xhs, .ref yx, .int (nI n), .int (nI i), .int (1 : Int32), .ref yr, .int (nI r), .int xfb, .int xlr, .ref yd, .int xdm])), (yx, .inl (U.2.2.1 0, 60, .inl gx)), (yr, .inl (U.2.2.1 0, 64, .inl gr))] rfl rfl i_X6_readsStep_X6 tyX6_ok nmX6 (by decide) k_X6_readsStep_102 rfl rfl rfl rfl (Nat.le_of_ble_eq_true rfl) rfl dX6_readsStep_9 ?_
  refine J_aload_n C dX6_readsStep_12 rfl rfl ?_
  refine J_get C 0 11 rfl rfl i_X6_readsStep_X6 (by decide) k_X6_readsStep_25 rfl rfl dX6_readsStep_13 ?_
  refine J_iload_n C dX6_readsStep_16 rfl rfl ?_
  refine J_aload_n C dX6_readsStep_17 rfl rfl ?_
  refine J_bipush C (v := (65 : Int32)) dX6_readsStep_18 (by decide) ?_
  refine J_bipush C (v := (70 : Int32)) dX6_readsStep_20 (by decide) ?_
  refine J_callV C (c_X6_takes_y U m ys ya yt yn yx yr yd xth xsm xhs (0 : Int32) (0 : Int32) (0 : Int32) (nI r) xfb xlr xdm gx n i (65 : Int32) (70 : Int32) v_0 hn (by omega)) gX6_readsStep_X6_takes (n := 2) rfl rfl rfl (by decide +kernel) ⟨Nat.le_of_ble_eq_true rfl, Nat.le_of_ble_eq_true rfl⟩ 0 rfl rfl rfl (rest := [.int (nI (4 * r)), .ref yr]) rfl (Nat.le_of_ble_eq_true rfl) [(m, .inr (6, [.int xth, .ref ys, .ref ya, .ref yt, .int xsm, .ref yn, .int xhs, .ref yx, .int (nI n), .int (nI (i + 1)), .int (1 : Int32), .ref yr, .int (nI r), .int xfb, .int xlr, .ref yd, .int xdm])), (yx, .inl (U.2.2.1 0, 60, .inl gx)), (yr, .inl (U.2.2.1 0, 64, .inl gr))] [0, 1] [2] [1, 2, 0] (wr := [(yr, .inl (U.2.2.1 0, 64, .inl gr))]) rfl rfl rfl rfl (by decide) rfl rfl  dX6_readsStep_22 ⟨Nat.le_of_ble_eq_true rfl, Nat.le_of_ble_eq_true rfl⟩ [.int ((sgF gx n i) - (65 : Int32)), .int (nI (4 * r)), .ref yr] rfl ?_
  refine J_iast C 2 [(m, .inr (6, [.int xth, .ref ys, .ref ya, .ref yt, .int xsm, .ref yn, .int xhs, .ref yx, .int (nI n), .int (nI (i + 1)), .int (1 : Int32), .ref yr, .int (nI r), .int xfb, .int xlr, .ref yd, .int xdm])), (yx, .inl (U.2.2.1 0, 60, .inl gx)), (yr, .inl (U.2.2.1 0, 64, .inl (upd gr (4 * r) ((sgF gx n i) - (65 : Int32)))))] rfl (vp_in_nI (n := 4 * r) (by omega) (by decide)) (by rw [(nI_clamp (n := 4 * r) (by omega))]; rfl) dX6_readsStep_25 ?_
  refine J_aload_n C dX6_readsStep_26 rfl rfl ?_
  refine J_bipush C (v := (61 : Int32)) dX6_readsStep_27 (by decide) ?_
  refine J_bipush C (v := (61 : Int32)) dX6_readsStep_29 (by decide) ?_
  refine J_callV C (c_X6_takes_y U m ys ya yt yn yx yr yd xth xsm xhs (0 : Int32) (0 : Int32) (0 : Int32) (nI r) xfb xlr xdm gx n (i + 1) (61 : Int32) (61 : Int32) v_1 hn (by omega)) gX6_readsStep_X6_takes (n := 2) rfl rfl rfl (by decide +kernel) ⟨Nat.le_of_ble_eq_true rfl, Nat.le_of_ble_eq_true rfl⟩ 0 rfl rfl rfl (rest := []) rfl (Nat.le_of_ble_eq_true rfl) [(m, .inr (6, [.int xth, .ref ys, .ref ya, .ref yt, .int xsm, .ref yn, .int xhs, .ref yx, .int (nI n), .int (nI ((i + 1) + 1)), .int (1 : Int32), .ref yr, .int (nI r), .int xfb, .int xlr, .ref yd, .int xdm])), (yx, .inl (U.2.2.1 0, 60, .inl gx)), (yr, .inl (U.2.2.1 0, 64, .inl (upd gr (4 * r) ((sgF gx n i) - (65 : Int32)))))] [0, 1] [2] [1, 2, 0] (wr := [(yr, .inl (U.2.2.1 0, 64, .inl (upd gr (4 * r) ((sgF gx n i) - (65 : Int32)))))]) rfl rfl rfl rfl (by decide) rfl rfl  dX6_readsStep_31 ⟨Nat.le_of_ble_eq_true rfl, Nat.le_of_ble_eq_true rfl⟩ [.int ((sgF gx n (i + 1)) - (61 : Int32))] rfl ?_
  refine J_pop C dX6_readsStep_34 rfl ?_
  refine J_aload_n C dX6_readsStep_35 rfl rfl ?_
  refine J_get C 0 10 rfl rfl i_X6_readsStep_X6 (by decide) k_X6_readsStep_102 rfl rfl dX6_readsStep_36 ?_
  refine J_if_eq C 49 dX6_readsStep_39 (by decide) (fun h => absurd h (by decide)) (fun _ => ?_)
  refine J_aload_n C dX6_readsStep_42 rfl rfl ?_
  refine J_callV C (c_X6_sign U m ys ya yt yn yx yr yd xth xsm xhs (0 : Int32) (0 : Int32) (1 : Int32) (nI r) xfb xlr xdm gx n ((i + 1) + 1) hn (by omega)) gX6_readsStep_X6_sign (n := 0) rfl rfl rfl (by decide +kernel) ⟨Nat.le_of_ble_eq_true rfl, Nat.le_of_ble_eq_true rfl⟩ 0 rfl rfl rfl (rest := []) rfl (Nat.le_of_ble_eq_true rfl) [(m, .inr (6, [.int xth, .ref ys, .ref ya, .ref yt, .int xsm, .ref yn, .int xhs, .ref yx, .int (nI n), .int (nI ((i + 1) + 1)), .int (1 : Int32), .ref yr, .int (nI r), .int xfb, .int xlr, .ref yd, .int xdm])), (yx, .inl (U.2.2.1 0, 60, .inl gx)), (yr, .inl (U.2.2.1 0, 64, .inl (upd gr (4 * r) ((sgF gx n i) - (65 : Int32)))))] [0, 1] [2] [1, 2, 0] (wr := [(yr, .inl (U.2.2.1 0, 64, .inl (upd gr (4 * r) ((sgF gx n i) - (65 : Int32)))))]) rfl rfl rfl rfl (by decide) rfl rfl  dX6_readsStep_43 ⟨Nat.le_of_ble_eq_true rfl, Nat.le_of_ble_eq_true rfl⟩ [.int (sgF gx n ((i + 1) + 1))] rfl ?_
  refine J_goto C 50 dX6_readsStep_46 (by decide) ?_
  refine J_istore_n C [some (.ref m), some (.int (nI (4 * r))), some (.int (sgF gx n ((i + 1) + 1))), none, none] dX6_readsStep_50 rfl (hN 2 (by decide)) rfl ?_
  refine J_iload_n C dX6_readsStep_51 rfl rfl ?_
  refine J_bipush C (v := (45 : Int32)) dX6_readsStep_52 (by decide) ?_
  refine J_icmp_eq C 63 dX6_readsStep_54 (by decide) (fun h => absurd h v_2) (fun _ => ?_)
  refine J_iload_n C dX6_readsStep_57 rfl rfl ?_
  refine J_bipush C (v := (35 : Int32)) dX6_readsStep_58 (by decide) ?_
  refine J_icmp_ne C 67 dX6_readsStep_60 (by decide) (fun _ => ?_) (fun h => absurd h v_3)
  refine J_iconst C (v := (0 : Int32)) dX6_readsStep_67 (by decide) ?_
  refine J_istore_n C [some (.ref m), some (.int (nI (4 * r))), some (.int (sgF gx n ((i + 1) + 1))), some (.int (0 : Int32)), none] dX6_readsStep_68 rfl (hN 3 (by decide)) rfl ?_
  refine J_aload_n C dX6_readsStep_69 rfl rfl ?_
  refine J_dup C dX6_readsStep_70 rfl ?_
  refine J_get C 0 9 rfl rfl i_X6_readsStep_X6 (by decide) k_X6_readsStep_99 rfl rfl dX6_readsStep_71 ?_
  refine J_iload_n C dX6_readsStep_74 rfl rfl ?_
  refine J_if_eq C 82 dX6_readsStep_75 (by decide) (fun _ => ?_) (fun h => absurd (by decide) h)
  refine J_iconst C (v := (0 : Int32)) dX6_readsStep_82 (by decide) ?_
  refine J_iadd C (v := nI ((i + 1) + 1)) dX6_readsStep_83 (nI_add ((i + 1) + 1) 0) ?_
  refine J_put C tyX6 0 9 [(m, .inr (6, [.int xth, .ref ys, .ref ya, .ref yt, .int xsm, .ref yn, .int xhs, .ref yx, .int (nI n), .int (nI ((i + 1) + 1)), .int (1 : Int32), .ref yr, .int (nI r), .int xfb, .int xlr, .ref yd, .int xdm])), (yx, .inl (U.2.2.1 0, 60, .inl gx)), (yr, .inl (U.2.2.1 0, 64, .inl (upd gr (4 * r) ((sgF gx n i) - (65 : Int32)))))] rfl rfl i_X6_readsStep_X6 tyX6_ok nmX6 (by decide) k_X6_readsStep_99 rfl rfl rfl rfl (Nat.le_of_ble_eq_true rfl) rfl dX6_readsStep_84 ?_
  refine J_aload_n C dX6_readsStep_87 rfl rfl ?_
  refine J_get C 0 11 rfl rfl i_X6_readsStep_X6 (by decide) k_X6_readsStep_25 rfl rfl dX6_readsStep_88 ?_
  refine J_iload_n C dX6_readsStep_91 rfl rfl ?_
  refine J_iconst C (v := (1 : Int32)) dX6_readsStep_92 (by decide) ?_
  refine J_iadd C (v := nI ((4 * r) + 1)) dX6_readsStep_93 (nI_add (4 * r) 1) ?_
  refine J_iload_n C dX6_readsStep_94 rfl rfl ?_
  refine J_if_eq C 102 dX6_readsStep_95 (by decide) (fun _ => ?_) (fun h => absurd (by decide) h)
  refine J_iconst C (v := (0 : Int32)) dX6_readsStep_102 (by decide) ?_
  refine J_iast C 2 [(m, .inr (6, [.int xth, .ref ys, .ref ya, .ref yt, .int xsm, .ref yn, .int xhs, .ref yx, .int (nI n), .int (nI ((i + 1) + 1)), .int (1 : Int32), .ref yr, .int (nI r), .int xfb, .int xlr, .ref yd, .int xdm])), (yx, .inl (U.2.2.1 0, 60, .inl gx)), (yr, .inl (U.2.2.1 0, 64, .inl (upd (upd gr (4 * r) ((sgF gx n i) - (65 : Int32))) ((4 * r) + 1) (0 : Int32))))] rfl (vp_in_nI (n := (4 * r) + 1) (by omega) (by decide)) (by rw [(nI_clamp (n := (4 * r) + 1) (by omega))]; rfl) dX6_readsStep_103 ?_
  refine J_iload_n C dX6_readsStep_104 rfl rfl ?_
  refine J_bipush C (v := (35 : Int32)) dX6_readsStep_105 (by decide) ?_
  refine J_icmp_ne C 125 dX6_readsStep_107 (by decide) (fun _ => ?_) (fun h => absurd h v_3)
  refine J_aload_n C dX6_readsStep_125 rfl rfl ?_
  refine J_get C 0 11 rfl rfl i_X6_readsStep_X6 (by decide) k_X6_readsStep_25 rfl rfl dX6_readsStep_126 ?_
  refine J_iload_n C dX6_readsStep_129 rfl rfl ?_
  refine J_iconst C (v := (2 : Int32)) dX6_readsStep_130 (by decide) ?_
  refine J_iadd C (v := nI ((4 * r) + 2)) dX6_readsStep_131 (nI_add (4 * r) 2) ?_
  refine J_aload_n C dX6_readsStep_132 rfl rfl ?_
  refine J_bipush C (v := (65 : Int32)) dX6_readsStep_133 (by decide) ?_
  refine J_bipush C (v := (70 : Int32)) dX6_readsStep_135 (by decide) ?_
  refine J_callV C (c_X6_takes_y U m ys ya yt yn yx yr yd xth xsm xhs (0 : Int32) (0 : Int32) (0 : Int32) (nI r) xfb xlr xdm gx n ((i + 1) + 1) (65 : Int32) (70 : Int32) v_4 hn (by omega)) gX6_readsStep_X6_takes (n := 2) rfl rfl rfl (by decide +kernel) ⟨Nat.le_of_ble_eq_true rfl, Nat.le_of_ble_eq_true rfl⟩ 0 rfl rfl rfl (rest := [.int (nI ((4 * r) + 2)), .ref yr]) rfl (Nat.le_of_ble_eq_true rfl) [(m, .inr (6, [.int xth, .ref ys, .ref ya, .ref yt, .int xsm, .ref yn, .int xhs, .ref yx, .int (nI n), .int (nI (((i + 1) + 1) + 1)), .int (1 : Int32), .ref yr, .int (nI r), .int xfb, .int xlr, .ref yd, .int xdm])), (yx, .inl (U.2.2.1 0, 60, .inl gx)), (yr, .inl (U.2.2.1 0, 64, .inl (upd (upd gr (4 * r) ((sgF gx n i) - (65 : Int32))) ((4 * r) + 1) (0 : Int32))))] [0, 1] [2] [1, 2, 0] (wr := [(yr, .inl (U.2.2.1 0, 64, .inl (upd (upd gr (4 * r) ((sgF gx n i) - (65 : Int32))) ((4 * r) + 1) (0 : Int32))))]) rfl rfl rfl rfl (by decide) rfl rfl  dX6_readsStep_137 ⟨Nat.le_of_ble_eq_true rfl, Nat.le_of_ble_eq_true rfl⟩ [.int ((sgF gx n ((i + 1) + 1)) - (65 : Int32)), .int (nI ((4 * r) + 2)), .ref yr] rfl ?_
  refine J_iast C 2 [(m, .inr (6, [.int xth, .ref ys, .ref ya, .ref yt, .int xsm, .ref yn, .int xhs, .ref yx, .int (nI n), .int (nI (((i + 1) + 1) + 1)), .int (1 : Int32), .ref yr, .int (nI r), .int xfb, .int xlr, .ref yd, .int xdm])), (yx, .inl (U.2.2.1 0, 60, .inl gx)), (yr, .inl (U.2.2.1 0, 64, .inl (upd (upd (upd gr (4 * r) ((sgF gx n i) - (65 : Int32))) ((4 * r) + 1) (0 : Int32)) ((4 * r) + 2) ((sgF gx n ((i + 1) + 1)) - (65 : Int32)))))] rfl (vp_in_nI (n := (4 * r) + 2) (by omega) (by decide)) (by rw [(nI_clamp (n := (4 * r) + 2) (by omega))]; rfl) dX6_readsStep_140 ?_
  refine J_aload_n C dX6_readsStep_141 rfl rfl ?_
  refine J_get C 0 10 rfl rfl i_X6_readsStep_X6 (by decide) k_X6_readsStep_102 rfl rfl dX6_readsStep_142 ?_
  refine J_if_eq C 159 dX6_readsStep_145 (by decide) (fun h => absurd h (by decide)) (fun _ => ?_)
  refine J_iload_n C dX6_readsStep_148 rfl rfl ?_
  refine J_if_ne C 159 dX6_readsStep_149 (by decide) (fun h => absurd (by decide) h) (fun _ => ?_)
  refine J_aload_n C dX6_readsStep_152 rfl rfl ?_
  refine J_callV C (c_X6_sign U m ys ya yt yn yx yr yd xth xsm xhs (0 : Int32) (0 : Int32) (1 : Int32) (nI r) xfb xlr xdm gx n (((i + 1) + 1) + 1) hn (by omega)) gX6_readsStep_X6_sign (n := 0) rfl rfl rfl (by decide +kernel) ⟨Nat.le_of_ble_eq_true rfl, Nat.le_of_ble_eq_true rfl⟩ 0 rfl rfl rfl (rest := []) rfl (Nat.le_of_ble_eq_true rfl) [(m, .inr (6, [.int xth, .ref ys, .ref ya, .ref yt, .int xsm, .ref yn, .int xhs, .ref yx, .int (nI n), .int (nI (((i + 1) + 1) + 1)), .int (1 : Int32), .ref yr, .int (nI r), .int xfb, .int xlr, .ref yd, .int xdm])), (yx, .inl (U.2.2.1 0, 60, .inl gx)), (yr, .inl (U.2.2.1 0, 64, .inl (upd (upd (upd gr (4 * r) ((sgF gx n i) - (65 : Int32))) ((4 * r) + 1) (0 : Int32)) ((4 * r) + 2) ((sgF gx n ((i + 1) + 1)) - (65 : Int32)))))] [0, 1] [2] [1, 2, 0] (wr := [(yr, .inl (U.2.2.1 0, 64, .inl (upd (upd (upd gr (4 * r) ((sgF gx n i) - (65 : Int32))) ((4 * r) + 1) (0 : Int32)) ((4 * r) + 2) ((sgF gx n ((i + 1) + 1)) - (65 : Int32)))))]) rfl rfl rfl rfl (by decide) rfl rfl  dX6_readsStep_153 ⟨Nat.le_of_ble_eq_true rfl, Nat.le_of_ble_eq_true rfl⟩ [.int (sgF gx n (((i + 1) + 1) + 1))] rfl ?_
  refine J_goto C 160 dX6_readsStep_156 (by decide) ?_
  refine J_istore C [some (.ref m), some (.int (nI (4 * r))), some (.int (sgF gx n ((i + 1) + 1))), some (.int (0 : Int32)), some (.int (sgF gx n (((i + 1) + 1) + 1)))] dX6_readsStep_160 (hN 4 (by decide)) rfl ?_
  refine J_iload C dX6_readsStep_162 rfl ?_
  refine J_bipush C (v := (43 : Int32)) dX6_readsStep_164 (by decide) ?_
  refine J_icmp_eq C 183 dX6_readsStep_166 (by decide) (fun h => absurd h v_5) (fun _ => ?_)
  refine J_iload C dX6_readsStep_169 rfl ?_
  refine J_bipush C (v := (45 : Int32)) dX6_readsStep_171 (by decide) ?_
  refine J_icmp_eq C 183 dX6_readsStep_173 (by decide) (fun _ => ?_) (fun h => absurd v_6 h)
  refine J_aload_n C dX6_readsStep_183 rfl rfl ?_
  refine J_dup C dX6_readsStep_184 rfl ?_
  refine J_get C 0 9 rfl rfl i_X6_readsStep_X6 (by decide) k_X6_readsStep_99 rfl rfl dX6_readsStep_185 ?_
  refine J_iconst C (v := (1 : Int32)) dX6_readsStep_188 (by decide) ?_
  refine J_iadd C (v := nI ((((i + 1) + 1) + 1) + 1)) dX6_readsStep_189 (nI_add (((i + 1) + 1) + 1) 1) ?_
  refine J_put C tyX6 0 9 [(m, .inr (6, [.int xth, .ref ys, .ref ya, .ref yt, .int xsm, .ref yn, .int xhs, .ref yx, .int (nI n), .int (nI ((((i + 1) + 1) + 1) + 1)), .int (1 : Int32), .ref yr, .int (nI r), .int xfb, .int xlr, .ref yd, .int xdm])), (yx, .inl (U.2.2.1 0, 60, .inl gx)), (yr, .inl (U.2.2.1 0, 64, .inl (upd (upd (upd gr (4 * r) ((sgF gx n i) - (65 : Int32))) ((4 * r) + 1) (0 : Int32)) ((4 * r) + 2) ((sgF gx n ((i + 1) + 1)) - (65 : Int32)))))] rfl rfl i_X6_readsStep_X6 tyX6_ok nmX6 (by decide) k_X6_readsStep_99 rfl rfl rfl rfl (Nat.le_of_ble_eq_true rfl) rfl dX6_readsStep_190 ?_
  refine J_aload_n C dX6_readsStep_193 rfl rfl ?_
  refine J_get C 0 11 rfl rfl i_X6_readsStep_X6 (by decide) k_X6_readsStep_25 rfl rfl dX6_readsStep_194 ?_
  refine J_iload_n C dX6_readsStep_197 rfl rfl ?_
  refine J_iconst C (v := (1 : Int32)) dX6_readsStep_198 (by decide) ?_
  refine J_iadd C (v := nI ((4 * r) + 1)) dX6_readsStep_199 (nI_add (4 * r) 1) ?_
  refine J_iload C dX6_readsStep_200 rfl ?_
  refine J_bipush C (v := (45 : Int32)) dX6_readsStep_202 (by decide) ?_
  refine J_icmp_ne C 212 dX6_readsStep_204 (by decide) (fun h => absurd h (fun hh => hh v_6)) (fun _ => ?_)
  refine J_bipush C (v := (115 : Int32)) dX6_readsStep_207 (by decide) ?_
  refine J_goto C 214 dX6_readsStep_209 (by decide) ?_
  refine J_iast C 2 [(m, .inr (6, [.int xth, .ref ys, .ref ya, .ref yt, .int xsm, .ref yn, .int xhs, .ref yx, .int (nI n), .int (nI ((((i + 1) + 1) + 1) + 1)), .int (1 : Int32), .ref yr, .int (nI r), .int xfb, .int xlr, .ref yd, .int xdm])), (yx, .inl (U.2.2.1 0, 60, .inl gx)), (yr, .inl (U.2.2.1 0, 64, .inl (upd (upd (upd (upd gr (4 * r) ((sgF gx n i) - (65 : Int32))) ((4 * r) + 1) (0 : Int32)) ((4 * r) + 2) ((sgF gx n ((i + 1) + 1)) - (65 : Int32))) ((4 * r) + 1) (115 : Int32))))] rfl (vp_in_nI (n := (4 * r) + 1) (by omega) (by decide)) (by rw [(nI_clamp (n := (4 * r) + 1) (by omega))]; rfl) dX6_readsStep_214 ?_
  refine J_aload_n C dX6_readsStep_215 rfl rfl ?_
  refine J_get C 0 11 rfl rfl i_X6_readsStep_X6 (by decide) k_X6_readsStep_25 rfl rfl dX6_readsStep_216 ?_
  refine J_iload_n C dX6_readsStep_219 rfl rfl ?_
  refine J_iconst C (v := (3 : Int32)) dX6_readsStep_220 (by decide) ?_
  refine J_iadd C (v := nI ((4 * r) + 3)) dX6_readsStep_221 (nI_add (4 * r) 3) ?_
  refine J_aload_n C dX6_readsStep_222 rfl rfl ?_
  refine J_bipush C (v := (65 : Int32)) dX6_readsStep_223 (by decide) ?_
  refine J_bipush C (v := (70 : Int32)) dX6_readsStep_225 (by decide) ?_
  refine J_callV C (c_X6_takes_f U m ys ya yt yn yx yr yd xth xsm xhs (0 : Int32) (0 : Int32) (0 : Int32) (nI r) xfb xlr xdm gx n ((((i + 1) + 1) + 1) + 1) (65 : Int32) (70 : Int32) v_8 hn (by omega)) gX6_readsStep_X6_takes (n := 2) rfl rfl rfl (by decide +kernel) ⟨Nat.le_of_ble_eq_true rfl, Nat.le_of_ble_eq_true rfl⟩ 0 rfl rfl rfl (rest := [.int (nI ((4 * r) + 3)), .ref yr]) rfl (Nat.le_of_ble_eq_true rfl) [(m, .inr (6, [.int xth, .ref ys, .ref ya, .ref yt, .int xsm, .ref yn, .int xhs, .ref yx, .int (nI n), .int (nI ((((i + 1) + 1) + 1) + 1)), .int (0 : Int32), .ref yr, .int (nI r), .int xfb, .int xlr, .ref yd, .int xdm])), (yx, .inl (U.2.2.1 0, 60, .inl gx)), (yr, .inl (U.2.2.1 0, 64, .inl (upd (upd (upd (upd gr (4 * r) ((sgF gx n i) - (65 : Int32))) ((4 * r) + 1) (0 : Int32)) ((4 * r) + 2) ((sgF gx n ((i + 1) + 1)) - (65 : Int32))) ((4 * r) + 1) (115 : Int32))))] [0, 1] [2] [1, 2, 0] (wr := [(yr, .inl (U.2.2.1 0, 64, .inl (upd (upd (upd (upd gr (4 * r) ((sgF gx n i) - (65 : Int32))) ((4 * r) + 1) (0 : Int32)) ((4 * r) + 2) ((sgF gx n ((i + 1) + 1)) - (65 : Int32))) ((4 * r) + 1) (115 : Int32))))]) rfl rfl rfl rfl (by decide) rfl rfl  dX6_readsStep_227 ⟨Nat.le_of_ble_eq_true rfl, Nat.le_of_ble_eq_true rfl⟩ [.int ((sgF gx n ((((i + 1) + 1) + 1) + 1)) - (65 : Int32)), .int (nI ((4 * r) + 3)), .ref yr] rfl ?_
  refine J_iast C 2 [(m, .inr (6, [.int xth, .ref ys, .ref ya, .ref yt, .int xsm, .ref yn, .int xhs, .ref yx, .int (nI n), .int (nI ((((i + 1) + 1) + 1) + 1)), .int (0 : Int32), .ref yr, .int (nI r), .int xfb, .int xlr, .ref yd, .int xdm])), (yx, .inl (U.2.2.1 0, 60, .inl gx)), (yr, .inl (U.2.2.1 0, 64, .inl (upd (upd (upd (upd (upd gr (4 * r) ((sgF gx n i) - (65 : Int32))) ((4 * r) + 1) (0 : Int32)) ((4 * r) + 2) ((sgF gx n ((i + 1) + 1)) - (65 : Int32))) ((4 * r) + 1) (115 : Int32)) ((4 * r) + 3) ((sgF gx n ((((i + 1) + 1) + 1) + 1)) - (65 : Int32)))))] rfl (vp_in_nI (n := (4 * r) + 3) (by omega) (by decide)) (by rw [(nI_clamp (n := (4 * r) + 3) (by omega))]; rfl) dX6_readsStep_230 ?_
  refine J_aload_n C dX6_readsStep_231 rfl rfl ?_
  refine J_dup C dX6_readsStep_232 rfl ?_
  refine J_get C 0 12 rfl rfl i_X6_readsStep_X6 (by decide) k_X6_readsStep_113 rfl rfl dX6_readsStep_233 ?_
  refine J_aload_n C dX6_readsStep_236 rfl rfl ?_
  refine J_get C 0 10 rfl rfl i_X6_readsStep_X6 (by decide) k_X6_readsStep_102 rfl rfl dX6_readsStep_237 ?_
  refine J_if_eq C 247 dX6_readsStep_240 (by decide) (fun _ => ?_) (fun h => absurd (by decide) h)
  refine J_iconst C (v := (0 : Int32)) dX6_readsStep_247 (by decide) ?_
  refine J_iadd C (v := nI r) dX6_readsStep_248 (nI_add r 0) ?_
  refine J_put C tyX6 0 12 [(m, .inr (6, [.int xth, .ref ys, .ref ya, .ref yt, .int xsm, .ref yn, .int xhs, .ref yx, .int (nI n), .int (nI ((((i + 1) + 1) + 1) + 1)), .int (0 : Int32), .ref yr, .int (nI r), .int xfb, .int xlr, .ref yd, .int xdm])), (yx, .inl (U.2.2.1 0, 60, .inl gx)), (yr, .inl (U.2.2.1 0, 64, .inl (upd (upd (upd (upd (upd gr (4 * r) ((sgF gx n i) - (65 : Int32))) ((4 * r) + 1) (0 : Int32)) ((4 * r) + 2) ((sgF gx n ((i + 1) + 1)) - (65 : Int32))) ((4 * r) + 1) (115 : Int32)) ((4 * r) + 3) ((sgF gx n ((((i + 1) + 1) + 1) + 1)) - (65 : Int32)))))] rfl rfl i_X6_readsStep_X6 tyX6_ok nmX6 (by decide) k_X6_readsStep_113 rfl rfl rfl rfl (Nat.le_of_ble_eq_true rfl) rfl dX6_readsStep_249 ?_
  exact J_vret C R dX6_readsStep_252 (Nat.le_of_ble_eq_true rfl) (Nat.le_of_ble_eq_true rfl) rfl rfl
set_option maxHeartbeats 4000000 in
set_option maxRecDepth 100000 in
theorem c_X6_readsStep_O5t (U : jU) (m ys ya yt yn yx yr yd : Nat) (xth xsm xhs xln xat xiw xrm xfb xlr xdm : Int32) (gx gr : Nat → Int32) (n i r : Nat) (v_0 : inF (sgF gx n i) 65 70) (v_1 : inF (sgF gx n (i + 1)) 61 61) (v_2 : ¬ (sgF gx n ((i + 1) + 1)) = 45) (v_3 : ¬ (sgF gx n ((i + 1) + 1)) = 35) (v_4 : inF (sgF gx n ((i + 1) + 1)) 65 70) (v_5 : ¬ (sgF gx n (((i + 1) + 1) + 1)) = 43) (v_6 : ¬ (sgF gx n (((i + 1) + 1) + 1)) = 45) (v_7 : (sgF gx n (((i + 1) + 1) + 1)) = 42) (v_8 : inF (sgF gx n ((((i + 1) + 1) + 1) + 1)) 65 70) (hn : n ≤ 60) (hi : i ≤ 60) (hr : r ≤ 15) : Fn U yX6_readsStep wsX6_readsStep { frames := 3, cells := 0, slots := 0, locals := 68 } [.ref m] [(m, .inr (6, [.int xth, .ref ys, .ref ya, .ref yt, .int xsm, .ref yn, .int xhs, .ref yx, .int (nI n), .int (nI i), .int xiw, .ref yr, .int (nI r), .int xfb, .int xlr, .ref yd, .int xdm])), (yx, .inl (U.2.2.1 0, 60, .inl gx)), (yr, .inl (U.2.2.1 0, 64, .inl gr))] none [(m, .inr (6, [.int xth, .ref ys, .ref ya, .ref yt, .int xsm, .ref yn, .int xhs, .ref yx, .int (nI n), .int (nI (((((i + 1) + 1) + 1) + 1) + 1)), .int (1 : Int32), .ref yr, .int (nI (r + 1)), .int xfb, .int xlr, .ref yd, .int xdm])), (yx, .inl (U.2.2.1 0, 60, .inl gx)), (yr, .inl (U.2.2.1 0, 64, .inl (upd (upd (upd (upd (upd gr (4 * r) ((sgF gx n i) - (65 : Int32))) ((4 * r) + 1) (0 : Int32)) ((4 * r) + 2) ((sgF gx n ((i + 1) + 1)) - (65 : Int32))) ((4 * r) + 1) (sgF gx n (((i + 1) + 1) + 1))) ((4 * r) + 3) ((sgF gx n ((((i + 1) + 1) + 1) + 1)) - (65 : Int32)))))] 0 0 := by
  refine Fn_of (cc := cX6_readsStep) (maxL := 5) (ret := none) [some (.ref m), none, none, none, none] (by decide +kernel) rfl (jcat rfl) (Nat.le_of_ble_eq_true rfl) rfl (fun k C R hin hnL => ?_)
  have hN : ∀ i, i < 5 → i < k.2.2.2.2.2.2.2.2.2.2.2.1 := fun i h => by rw [hnL]; exact h
  refine J_iconst C (v := (4 : Int32)) dX6_readsStep_0 (by decide) ?_
  refine J_aload_n C dX6_readsStep_1 rfl rfl ?_
  refine J_get C 0 12 rfl rfl i_X6_readsStep_X6 (by decide) k_X6_readsStep_113 rfl rfl dX6_readsStep_2 ?_
  refine J_imul C (v := nI (4 * r)) dX6_readsStep_5 (pk_mul 4 r) ?_
  refine J_istore_n C [some (.ref m), some (.int (nI (4 * r))), none, none, none] dX6_readsStep_6 rfl (hN 1 (by decide)) rfl ?_
  refine J_aload_n C dX6_readsStep_7 rfl rfl ?_
  refine J_iconst C (v := (1 : Int32)) dX6_readsStep_8 (by decide) ?_
  refine J_put C tyX6 0 10 [(m, .inr (6, [.int xth, .ref ys, .ref ya, .ref yt, .int xsm, .ref yn, .int xhs, .ref yx, .int (nI n), .int (nI i), .int (1 : Int32), .ref yr, .int (nI r), .int xfb, .int xlr, .ref yd, .int xdm])), (yx, .inl (U.2.2.1 0, 60, .inl gx)), (yr, .inl (U.2.2.1 0, 64, .inl gr))] rfl rfl i_X6_readsStep_X6 tyX6_ok nmX6 (by decide) k_X6_readsStep_102 rfl rfl rfl rfl (Nat.le_of_ble_eq_true rfl) rfl dX6_readsStep_9 ?_
  refine J_aload_n C dX6_readsStep_12 rfl rfl ?_
  refine J_get C 0 11 rfl rfl i_X6_readsStep_X6 (by decide) k_X6_readsStep_25 rfl rfl dX6_readsStep_13 ?_
  refine J_iload_n C dX6_readsStep_16 rfl rfl ?_
  refine J_aload_n C dX6_readsStep_17 rfl rfl ?_
  refine J_bipush C (v := (65 : Int32)) dX6_readsStep_18 (by decide) ?_
  refine J_bipush C (v := (70 : Int32)) dX6_readsStep_20 (by decide) ?_
  refine J_callV C (c_X6_takes_y U m ys ya yt yn yx yr yd xth xsm xhs (0 : Int32) (0 : Int32) (0 : Int32) (nI r) xfb xlr xdm gx n i (65 : Int32) (70 : Int32) v_0 hn (by omega)) gX6_readsStep_X6_takes (n := 2) rfl rfl rfl (by decide +kernel) ⟨Nat.le_of_ble_eq_true rfl, Nat.le_of_ble_eq_true rfl⟩ 0 rfl rfl rfl (rest := [.int (nI (4 * r)), .ref yr]) rfl (Nat.le_of_ble_eq_true rfl) [(m, .inr (6, [.int xth, .ref ys, .ref ya, .ref yt, .int xsm, .ref yn, .int xhs, .ref yx, .int (nI n), .int (nI (i + 1)), .int (1 : Int32), .ref yr, .int (nI r), .int xfb, .int xlr, .ref yd, .int xdm])), (yx, .inl (U.2.2.1 0, 60, .inl gx)), (yr, .inl (U.2.2.1 0, 64, .inl gr))] [0, 1] [2] [1, 2, 0] (wr := [(yr, .inl (U.2.2.1 0, 64, .inl gr))]) rfl rfl rfl rfl (by decide) rfl rfl  dX6_readsStep_22 ⟨Nat.le_of_ble_eq_true rfl, Nat.le_of_ble_eq_true rfl⟩ [.int ((sgF gx n i) - (65 : Int32)), .int (nI (4 * r)), .ref yr] rfl ?_
  refine J_iast C 2 [(m, .inr (6, [.int xth, .ref ys, .ref ya, .ref yt, .int xsm, .ref yn, .int xhs, .ref yx, .int (nI n), .int (nI (i + 1)), .int (1 : Int32), .ref yr, .int (nI r), .int xfb, .int xlr, .ref yd, .int xdm])), (yx, .inl (U.2.2.1 0, 60, .inl gx)), (yr, .inl (U.2.2.1 0, 64, .inl (upd gr (4 * r) ((sgF gx n i) - (65 : Int32)))))] rfl (vp_in_nI (n := 4 * r) (by omega) (by decide)) (by rw [(nI_clamp (n := 4 * r) (by omega))]; rfl) dX6_readsStep_25 ?_
  refine J_aload_n C dX6_readsStep_26 rfl rfl ?_
  refine J_bipush C (v := (61 : Int32)) dX6_readsStep_27 (by decide) ?_
  refine J_bipush C (v := (61 : Int32)) dX6_readsStep_29 (by decide) ?_
  refine J_callV C (c_X6_takes_y U m ys ya yt yn yx yr yd xth xsm xhs (0 : Int32) (0 : Int32) (0 : Int32) (nI r) xfb xlr xdm gx n (i + 1) (61 : Int32) (61 : Int32) v_1 hn (by omega)) gX6_readsStep_X6_takes (n := 2) rfl rfl rfl (by decide +kernel) ⟨Nat.le_of_ble_eq_true rfl, Nat.le_of_ble_eq_true rfl⟩ 0 rfl rfl rfl (rest := []) rfl (Nat.le_of_ble_eq_true rfl) [(m, .inr (6, [.int xth, .ref ys, .ref ya, .ref yt, .int xsm, .ref yn, .int xhs, .ref yx, .int (nI n), .int (nI ((i + 1) + 1)), .int (1 : Int32), .ref yr, .int (nI r), .int xfb, .int xlr, .ref yd, .int xdm])), (yx, .inl (U.2.2.1 0, 60, .inl gx)), (yr, .inl (U.2.2.1 0, 64, .inl (upd gr (4 * r) ((sgF gx n i) - (65 : Int32)))))] [0, 1] [2] [1, 2, 0] (wr := [(yr, .inl (U.2.2.1 0, 64, .inl (upd gr (4 * r) ((sgF gx n i) - (65 : Int32)))))]) rfl rfl rfl rfl (by decide) rfl rfl  dX6_readsStep_31 ⟨Nat.le_of_ble_eq_true rfl, Nat.le_of_ble_eq_true rfl⟩ [.int ((sgF gx n (i + 1)) - (61 : Int32))] rfl ?_
  refine J_pop C dX6_readsStep_34 rfl ?_
  refine J_aload_n C dX6_readsStep_35 rfl rfl ?_
  refine J_get C 0 10 rfl rfl i_X6_readsStep_X6 (by decide) k_X6_readsStep_102 rfl rfl dX6_readsStep_36 ?_
  refine J_if_eq C 49 dX6_readsStep_39 (by decide) (fun h => absurd h (by decide)) (fun _ => ?_)
  refine J_aload_n C dX6_readsStep_42 rfl rfl ?_
  refine J_callV C (c_X6_sign U m ys ya yt yn yx yr yd xth xsm xhs (0 : Int32) (0 : Int32) (1 : Int32) (nI r) xfb xlr xdm gx n ((i + 1) + 1) hn (by omega)) gX6_readsStep_X6_sign (n := 0) rfl rfl rfl (by decide +kernel) ⟨Nat.le_of_ble_eq_true rfl, Nat.le_of_ble_eq_true rfl⟩ 0 rfl rfl rfl (rest := []) rfl (Nat.le_of_ble_eq_true rfl) [(m, .inr (6, [.int xth, .ref ys, .ref ya, .ref yt, .int xsm, .ref yn, .int xhs, .ref yx, .int (nI n), .int (nI ((i + 1) + 1)), .int (1 : Int32), .ref yr, .int (nI r), .int xfb, .int xlr, .ref yd, .int xdm])), (yx, .inl (U.2.2.1 0, 60, .inl gx)), (yr, .inl (U.2.2.1 0, 64, .inl (upd gr (4 * r) ((sgF gx n i) - (65 : Int32)))))] [0, 1] [2] [1, 2, 0] (wr := [(yr, .inl (U.2.2.1 0, 64, .inl (upd gr (4 * r) ((sgF gx n i) - (65 : Int32)))))]) rfl rfl rfl rfl (by decide) rfl rfl  dX6_readsStep_43 ⟨Nat.le_of_ble_eq_true rfl, Nat.le_of_ble_eq_true rfl⟩ [.int (sgF gx n ((i + 1) + 1))] rfl ?_
  refine J_goto C 50 dX6_readsStep_46 (by decide) ?_
  refine J_istore_n C [some (.ref m), some (.int (nI (4 * r))), some (.int (sgF gx n ((i + 1) + 1))), none, none] dX6_readsStep_50 rfl (hN 2 (by decide)) rfl ?_
  refine J_iload_n C dX6_readsStep_51 rfl rfl ?_
  refine J_bipush C (v := (45 : Int32)) dX6_readsStep_52 (by decide) ?_
  refine J_icmp_eq C 63 dX6_readsStep_54 (by decide) (fun h => absurd h v_2) (fun _ => ?_)
  refine J_iload_n C dX6_readsStep_57 rfl rfl ?_
  refine J_bipush C (v := (35 : Int32)) dX6_readsStep_58 (by decide) ?_
  refine J_icmp_ne C 67 dX6_readsStep_60 (by decide) (fun _ => ?_) (fun h => absurd h v_3)
  refine J_iconst C (v := (0 : Int32)) dX6_readsStep_67 (by decide) ?_
  refine J_istore_n C [some (.ref m), some (.int (nI (4 * r))), some (.int (sgF gx n ((i + 1) + 1))), some (.int (0 : Int32)), none] dX6_readsStep_68 rfl (hN 3 (by decide)) rfl ?_
  refine J_aload_n C dX6_readsStep_69 rfl rfl ?_
  refine J_dup C dX6_readsStep_70 rfl ?_
  refine J_get C 0 9 rfl rfl i_X6_readsStep_X6 (by decide) k_X6_readsStep_99 rfl rfl dX6_readsStep_71 ?_
  refine J_iload_n C dX6_readsStep_74 rfl rfl ?_
  refine J_if_eq C 82 dX6_readsStep_75 (by decide) (fun _ => ?_) (fun h => absurd (by decide) h)
  refine J_iconst C (v := (0 : Int32)) dX6_readsStep_82 (by decide) ?_
  refine J_iadd C (v := nI ((i + 1) + 1)) dX6_readsStep_83 (nI_add ((i + 1) + 1) 0) ?_
  refine J_put C tyX6 0 9 [(m, .inr (6, [.int xth, .ref ys, .ref ya, .ref yt, .int xsm, .ref yn, .int xhs, .ref yx, .int (nI n), .int (nI ((i + 1) + 1)), .int (1 : Int32), .ref yr, .int (nI r), .int xfb, .int xlr, .ref yd, .int xdm])), (yx, .inl (U.2.2.1 0, 60, .inl gx)), (yr, .inl (U.2.2.1 0, 64, .inl (upd gr (4 * r) ((sgF gx n i) - (65 : Int32)))))] rfl rfl i_X6_readsStep_X6 tyX6_ok nmX6 (by decide) k_X6_readsStep_99 rfl rfl rfl rfl (Nat.le_of_ble_eq_true rfl) rfl dX6_readsStep_84 ?_
  refine J_aload_n C dX6_readsStep_87 rfl rfl ?_
  refine J_get C 0 11 rfl rfl i_X6_readsStep_X6 (by decide) k_X6_readsStep_25 rfl rfl dX6_readsStep_88 ?_
  refine J_iload_n C dX6_readsStep_91 rfl rfl ?_
  refine J_iconst C (v := (1 : Int32)) dX6_readsStep_92 (by decide) ?_
  refine J_iadd C (v := nI ((4 * r) + 1)) dX6_readsStep_93 (nI_add (4 * r) 1) ?_
  refine J_iload_n C dX6_readsStep_94 rfl rfl ?_
  refine J_if_eq C 102 dX6_readsStep_95 (by decide) (fun _ => ?_) (fun h => absurd (by decide) h)
  refine J_iconst C (v := (0 : Int32)) dX6_readsStep_102 (by decide) ?_
  refine J_iast C 2 [(m, .inr (6, [.int xth, .ref ys, .ref ya, .ref yt, .int xsm, .ref yn, .int xhs, .ref yx, .int (nI n), .int (nI ((i + 1) + 1)), .int (1 : Int32), .ref yr, .int (nI r), .int xfb, .int xlr, .ref yd, .int xdm])), (yx, .inl (U.2.2.1 0, 60, .inl gx)), (yr, .inl (U.2.2.1 0, 64, .inl (upd (upd gr (4 * r) ((sgF gx n i) - (65 : Int32))) ((4 * r) + 1) (0 : Int32))))] rfl (vp_in_nI (n := (4 * r) + 1) (by omega) (by decide)) (by rw [(nI_clamp (n := (4 * r) + 1) (by omega))]; rfl) dX6_readsStep_103 ?_
  refine J_iload_n C dX6_readsStep_104 rfl rfl ?_
  refine J_bipush C (v := (35 : Int32)) dX6_readsStep_105 (by decide) ?_
  refine J_icmp_ne C 125 dX6_readsStep_107 (by decide) (fun _ => ?_) (fun h => absurd h v_3)
  refine J_aload_n C dX6_readsStep_125 rfl rfl ?_
  refine J_get C 0 11 rfl rfl i_X6_readsStep_X6 (by decide) k_X6_readsStep_25 rfl rfl dX6_readsStep_126 ?_
  refine J_iload_n C dX6_readsStep_129 rfl rfl ?_
  refine J_iconst C (v := (2 : Int32)) dX6_readsStep_130 (by decide) ?_
  refine J_iadd C (v := nI ((4 * r) + 2)) dX6_readsStep_131 (nI_add (4 * r) 2) ?_
  refine J_aload_n C dX6_readsStep_132 rfl rfl ?_
  refine J_bipush C (v := (65 : Int32)) dX6_readsStep_133 (by decide) ?_
  refine J_bipush C (v := (70 : Int32)) dX6_readsStep_135 (by decide) ?_
  refine J_callV C (c_X6_takes_y U m ys ya yt yn yx yr yd xth xsm xhs (0 : Int32) (0 : Int32) (0 : Int32) (nI r) xfb xlr xdm gx n ((i + 1) + 1) (65 : Int32) (70 : Int32) v_4 hn (by omega)) gX6_readsStep_X6_takes (n := 2) rfl rfl rfl (by decide +kernel) ⟨Nat.le_of_ble_eq_true rfl, Nat.le_of_ble_eq_true rfl⟩ 0 rfl rfl rfl (rest := [.int (nI ((4 * r) + 2)), .ref yr]) rfl (Nat.le_of_ble_eq_true rfl) [(m, .inr (6, [.int xth, .ref ys, .ref ya, .ref yt, .int xsm, .ref yn, .int xhs, .ref yx, .int (nI n), .int (nI (((i + 1) + 1) + 1)), .int (1 : Int32), .ref yr, .int (nI r), .int xfb, .int xlr, .ref yd, .int xdm])), (yx, .inl (U.2.2.1 0, 60, .inl gx)), (yr, .inl (U.2.2.1 0, 64, .inl (upd (upd gr (4 * r) ((sgF gx n i) - (65 : Int32))) ((4 * r) + 1) (0 : Int32))))] [0, 1] [2] [1, 2, 0] (wr := [(yr, .inl (U.2.2.1 0, 64, .inl (upd (upd gr (4 * r) ((sgF gx n i) - (65 : Int32))) ((4 * r) + 1) (0 : Int32))))]) rfl rfl rfl rfl (by decide) rfl rfl  dX6_readsStep_137 ⟨Nat.le_of_ble_eq_true rfl, Nat.le_of_ble_eq_true rfl⟩ [.int ((sgF gx n ((i + 1) + 1)) - (65 : Int32)), .int (nI ((4 * r) + 2)), .ref yr] rfl ?_
  refine J_iast C 2 [(m, .inr (6, [.int xth, .ref ys, .ref ya, .ref yt, .int xsm, .ref yn, .int xhs, .ref yx, .int (nI n), .int (nI (((i + 1) + 1) + 1)), .int (1 : Int32), .ref yr, .int (nI r), .int xfb, .int xlr, .ref yd, .int xdm])), (yx, .inl (U.2.2.1 0, 60, .inl gx)), (yr, .inl (U.2.2.1 0, 64, .inl (upd (upd (upd gr (4 * r) ((sgF gx n i) - (65 : Int32))) ((4 * r) + 1) (0 : Int32)) ((4 * r) + 2) ((sgF gx n ((i + 1) + 1)) - (65 : Int32)))))] rfl (vp_in_nI (n := (4 * r) + 2) (by omega) (by decide)) (by rw [(nI_clamp (n := (4 * r) + 2) (by omega))]; rfl) dX6_readsStep_140 ?_
  refine J_aload_n C dX6_readsStep_141 rfl rfl ?_
  refine J_get C 0 10 rfl rfl i_X6_readsStep_X6 (by decide) k_X6_readsStep_102 rfl rfl dX6_readsStep_142 ?_
  refine J_if_eq C 159 dX6_readsStep_145 (by decide) (fun h => absurd h (by decide)) (fun _ => ?_)
  refine J_iload_n C dX6_readsStep_148 rfl rfl ?_
  refine J_if_ne C 159 dX6_readsStep_149 (by decide) (fun h => absurd (by decide) h) (fun _ => ?_)
  refine J_aload_n C dX6_readsStep_152 rfl rfl ?_
  refine J_callV C (c_X6_sign U m ys ya yt yn yx yr yd xth xsm xhs (0 : Int32) (0 : Int32) (1 : Int32) (nI r) xfb xlr xdm gx n (((i + 1) + 1) + 1) hn (by omega)) gX6_readsStep_X6_sign (n := 0) rfl rfl rfl (by decide +kernel) ⟨Nat.le_of_ble_eq_true rfl, Nat.le_of_ble_eq_true rfl⟩ 0 rfl rfl rfl (rest := []) rfl (Nat.le_of_ble_eq_true rfl) [(m, .inr (6, [.int xth, .ref ys, .ref ya, .ref yt, .int xsm, .ref yn, .int xhs, .ref yx, .int (nI n), .int (nI (((i + 1) + 1) + 1)), .int (1 : Int32), .ref yr, .int (nI r), .int xfb, .int xlr, .ref yd, .int xdm])), (yx, .inl (U.2.2.1 0, 60, .inl gx)), (yr, .inl (U.2.2.1 0, 64, .inl (upd (upd (upd gr (4 * r) ((sgF gx n i) - (65 : Int32))) ((4 * r) + 1) (0 : Int32)) ((4 * r) + 2) ((sgF gx n ((i + 1) + 1)) - (65 : Int32)))))] [0, 1] [2] [1, 2, 0] (wr := [(yr, .inl (U.2.2.1 0, 64, .inl (upd (upd (upd gr (4 * r) ((sgF gx n i) - (65 : Int32))) ((4 * r) + 1) (0 : Int32)) ((4 * r) + 2) ((sgF gx n ((i + 1) + 1)) - (65 : Int32)))))]) rfl rfl rfl rfl (by decide) rfl rfl  dX6_readsStep_153 ⟨Nat.le_of_ble_eq_true rfl, Nat.le_of_ble_eq_true rfl⟩ [.int (sgF gx n (((i + 1) + 1) + 1))] rfl ?_
  refine J_goto C 160 dX6_readsStep_156 (by decide) ?_
  refine J_istore C [some (.ref m), some (.int (nI (4 * r))), some (.int (sgF gx n ((i + 1) + 1))), some (.int (0 : Int32)), some (.int (sgF gx n (((i + 1) + 1) + 1)))] dX6_readsStep_160 (hN 4 (by decide)) rfl ?_
  refine J_iload C dX6_readsStep_162 rfl ?_
  refine J_bipush C (v := (43 : Int32)) dX6_readsStep_164 (by decide) ?_
  refine J_icmp_eq C 183 dX6_readsStep_166 (by decide) (fun h => absurd h v_5) (fun _ => ?_)
  refine J_iload C dX6_readsStep_169 rfl ?_
  refine J_bipush C (v := (45 : Int32)) dX6_readsStep_171 (by decide) ?_
  refine J_icmp_eq C 183 dX6_readsStep_173 (by decide) (fun h => absurd h v_6) (fun _ => ?_)
  refine J_iload C dX6_readsStep_176 rfl ?_
  refine J_bipush C (v := (42 : Int32)) dX6_readsStep_178 (by decide) ?_
  refine J_icmp_ne C 231 dX6_readsStep_180 (by decide) (fun h => absurd h (fun hh => hh v_7)) (fun _ => ?_)
  refine J_aload_n C dX6_readsStep_183 rfl rfl ?_
  refine J_dup C dX6_readsStep_184 rfl ?_
  refine J_get C 0 9 rfl rfl i_X6_readsStep_X6 (by decide) k_X6_readsStep_99 rfl rfl dX6_readsStep_185 ?_
  refine J_iconst C (v := (1 : Int32)) dX6_readsStep_188 (by decide) ?_
  refine J_iadd C (v := nI ((((i + 1) + 1) + 1) + 1)) dX6_readsStep_189 (nI_add (((i + 1) + 1) + 1) 1) ?_
  refine J_put C tyX6 0 9 [(m, .inr (6, [.int xth, .ref ys, .ref ya, .ref yt, .int xsm, .ref yn, .int xhs, .ref yx, .int (nI n), .int (nI ((((i + 1) + 1) + 1) + 1)), .int (1 : Int32), .ref yr, .int (nI r), .int xfb, .int xlr, .ref yd, .int xdm])), (yx, .inl (U.2.2.1 0, 60, .inl gx)), (yr, .inl (U.2.2.1 0, 64, .inl (upd (upd (upd gr (4 * r) ((sgF gx n i) - (65 : Int32))) ((4 * r) + 1) (0 : Int32)) ((4 * r) + 2) ((sgF gx n ((i + 1) + 1)) - (65 : Int32)))))] rfl rfl i_X6_readsStep_X6 tyX6_ok nmX6 (by decide) k_X6_readsStep_99 rfl rfl rfl rfl (Nat.le_of_ble_eq_true rfl) rfl dX6_readsStep_190 ?_
  refine J_aload_n C dX6_readsStep_193 rfl rfl ?_
  refine J_get C 0 11 rfl rfl i_X6_readsStep_X6 (by decide) k_X6_readsStep_25 rfl rfl dX6_readsStep_194 ?_
  refine J_iload_n C dX6_readsStep_197 rfl rfl ?_
  refine J_iconst C (v := (1 : Int32)) dX6_readsStep_198 (by decide) ?_
  refine J_iadd C (v := nI ((4 * r) + 1)) dX6_readsStep_199 (nI_add (4 * r) 1) ?_
  refine J_iload C dX6_readsStep_200 rfl ?_
  refine J_bipush C (v := (45 : Int32)) dX6_readsStep_202 (by decide) ?_
  refine J_icmp_ne C 212 dX6_readsStep_204 (by decide) (fun _ => ?_) (fun h => absurd h v_6)
  refine J_iload C dX6_readsStep_212 rfl ?_
  refine J_iast C 2 [(m, .inr (6, [.int xth, .ref ys, .ref ya, .ref yt, .int xsm, .ref yn, .int xhs, .ref yx, .int (nI n), .int (nI ((((i + 1) + 1) + 1) + 1)), .int (1 : Int32), .ref yr, .int (nI r), .int xfb, .int xlr, .ref yd, .int xdm])), (yx, .inl (U.2.2.1 0, 60, .inl gx)), (yr, .inl (U.2.2.1 0, 64, .inl (upd (upd (upd (upd gr (4 * r) ((sgF gx n i) - (65 : Int32))) ((4 * r) + 1) (0 : Int32)) ((4 * r) + 2) ((sgF gx n ((i + 1) + 1)) - (65 : Int32))) ((4 * r) + 1) (sgF gx n (((i + 1) + 1) + 1)))))] rfl (vp_in_nI (n := (4 * r) + 1) (by omega) (by decide)) (by rw [(nI_clamp (n := (4 * r) + 1) (by omega))]; rfl) dX6_readsStep_214 ?_
  refine J_aload_n C dX6_readsStep_215 rfl rfl ?_
  refine J_get C 0 11 rfl rfl i_X6_readsStep_X6 (by decide) k_X6_readsStep_25 rfl rfl dX6_readsStep_216 ?_
  refine J_iload_n C dX6_readsStep_219 rfl rfl ?_
  refine J_iconst C (v := (3 : Int32)) dX6_readsStep_220 (by decide) ?_
  refine J_iadd C (v := nI ((4 * r) + 3)) dX6_readsStep_221 (nI_add (4 * r) 3) ?_
  refine J_aload_n C dX6_readsStep_222 rfl rfl ?_
  refine J_bipush C (v := (65 : Int32)) dX6_readsStep_223 (by decide) ?_
  refine J_bipush C (v := (70 : Int32)) dX6_readsStep_225 (by decide) ?_
  refine J_callV C (c_X6_takes_y U m ys ya yt yn yx yr yd xth xsm xhs (0 : Int32) (0 : Int32) (0 : Int32) (nI r) xfb xlr xdm gx n ((((i + 1) + 1) + 1) + 1) (65 : Int32) (70 : Int32) v_8 hn (by omega)) gX6_readsStep_X6_takes (n := 2) rfl rfl rfl (by decide +kernel) ⟨Nat.le_of_ble_eq_true rfl, Nat.le_of_ble_eq_true rfl⟩ 0 rfl rfl rfl (rest := [.int (nI ((4 * r) + 3)), .ref yr]) rfl (Nat.le_of_ble_eq_true rfl) [(m, .inr (6, [.int xth, .ref ys, .ref ya, .ref yt, .int xsm, .ref yn, .int xhs, .ref yx, .int (nI n), .int (nI (((((i + 1) + 1) + 1) + 1) + 1)), .int (1 : Int32), .ref yr, .int (nI r), .int xfb, .int xlr, .ref yd, .int xdm])), (yx, .inl (U.2.2.1 0, 60, .inl gx)), (yr, .inl (U.2.2.1 0, 64, .inl (upd (upd (upd (upd gr (4 * r) ((sgF gx n i) - (65 : Int32))) ((4 * r) + 1) (0 : Int32)) ((4 * r) + 2) ((sgF gx n ((i + 1) + 1)) - (65 : Int32))) ((4 * r) + 1) (sgF gx n (((i + 1) + 1) + 1)))))] [0, 1] [2] [1, 2, 0] (wr := [(yr, .inl (U.2.2.1 0, 64, .inl (upd (upd (upd (upd gr (4 * r) ((sgF gx n i) - (65 : Int32))) ((4 * r) + 1) (0 : Int32)) ((4 * r) + 2) ((sgF gx n ((i + 1) + 1)) - (65 : Int32))) ((4 * r) + 1) (sgF gx n (((i + 1) + 1) + 1)))))]) rfl rfl rfl rfl (by decide) rfl rfl  dX6_readsStep_227 ⟨Nat.le_of_ble_eq_true rfl, Nat.le_of_ble_eq_true rfl⟩ [.int ((sgF gx n ((((i + 1) + 1) + 1) + 1)) - (65 : Int32)), .int (nI ((4 * r) + 3)), .ref yr] rfl ?_
  refine J_iast C 2 [(m, .inr (6, [.int xth, .ref ys, .ref ya, .ref yt, .int xsm, .ref yn, .int xhs, .ref yx, .int (nI n), .int (nI (((((i + 1) + 1) + 1) + 1) + 1)), .int (1 : Int32), .ref yr, .int (nI r), .int xfb, .int xlr, .ref yd, .int xdm])), (yx, .inl (U.2.2.1 0, 60, .inl gx)), (yr, .inl (U.2.2.1 0, 64, .inl (upd (upd (upd (upd (upd gr (4 * r) ((sgF gx n i) - (65 : Int32))) ((4 * r) + 1) (0 : Int32)) ((4 * r) + 2) ((sgF gx n ((i + 1) + 1)) - (65 : Int32))) ((4 * r) + 1) (sgF gx n (((i + 1) + 1) + 1))) ((4 * r) + 3) ((sgF gx n ((((i + 1) + 1) + 1) + 1)) - (65 : Int32)))))] rfl (vp_in_nI (n := (4 * r) + 3) (by omega) (by decide)) (by rw [(nI_clamp (n := (4 * r) + 3) (by omega))]; rfl) dX6_readsStep_230 ?_
  refine J_aload_n C dX6_readsStep_231 rfl rfl ?_
  refine J_dup C dX6_readsStep_232 rfl ?_
  refine J_get C 0 12 rfl rfl i_X6_readsStep_X6 (by decide) k_X6_readsStep_113 rfl rfl dX6_readsStep_233 ?_
  refine J_aload_n C dX6_readsStep_236 rfl rfl ?_
  refine J_get C 0 10 rfl rfl i_X6_readsStep_X6 (by decide) k_X6_readsStep_102 rfl rfl dX6_readsStep_237 ?_
  refine J_if_eq C 247 dX6_readsStep_240 (by decide) (fun h => absurd h (by decide)) (fun _ => ?_)
  refine J_iconst C (v := (1 : Int32)) dX6_readsStep_243 (by decide) ?_
  refine J_goto C 248 dX6_readsStep_244 (by decide) ?_
  refine J_iadd C (v := nI (r + 1)) dX6_readsStep_248 (nI_add r 1) ?_
  refine J_put C tyX6 0 12 [(m, .inr (6, [.int xth, .ref ys, .ref ya, .ref yt, .int xsm, .ref yn, .int xhs, .ref yx, .int (nI n), .int (nI (((((i + 1) + 1) + 1) + 1) + 1)), .int (1 : Int32), .ref yr, .int (nI (r + 1)), .int xfb, .int xlr, .ref yd, .int xdm])), (yx, .inl (U.2.2.1 0, 60, .inl gx)), (yr, .inl (U.2.2.1 0, 64, .inl (upd (upd (upd (upd (upd gr (4 * r) ((sgF gx n i) - (65 : Int32))) ((4 * r) + 1) (0 : Int32)) ((4 * r) + 2) ((sgF gx n ((i + 1) + 1)) - (65 : Int32))) ((4 * r) + 1) (sgF gx n (((i + 1) + 1) + 1))) ((4 * r) + 3) ((sgF gx n ((((i + 1) + 1) + 1) + 1)) - (65 : Int32)))))] rfl rfl i_X6_readsStep_X6 tyX6_ok nmX6 (by decide) k_X6_readsStep_113 rfl rfl rfl rfl (Nat.le_of_ble_eq_true rfl) rfl dX6_readsStep_249 ?_
  exact J_vret C R dX6_readsStep_252 (Nat.le_of_ble_eq_true rfl) (Nat.le_of_ble_eq_true rfl) rfl rfl
set_option maxHeartbeats 4000000 in
set_option maxRecDepth 100000 in
theorem c_X6_readsStep_F7t (U : jU) (m ys ya yt yn yx yr yd : Nat) (xth xsm xhs xln xat xiw xrm xfb xlr xdm : Int32) (gx gr : Nat → Int32) (n i r : Nat) (v_0 : inF (sgF gx n i) 65 70) (v_1 : inF (sgF gx n (i + 1)) 61 61) (v_2 : ¬ (sgF gx n ((i + 1) + 1)) = 45) (v_3 : ¬ (sgF gx n ((i + 1) + 1)) = 35) (v_4 : inF (sgF gx n ((i + 1) + 1)) 65 70) (v_5 : ¬ (sgF gx n (((i + 1) + 1) + 1)) = 43) (v_6 : ¬ (sgF gx n (((i + 1) + 1) + 1)) = 45) (v_7 : (sgF gx n (((i + 1) + 1) + 1)) = 42) (v_8 : ¬ inF (sgF gx n ((((i + 1) + 1) + 1) + 1)) 65 70) (hn : n ≤ 60) (hi : i ≤ 60) (hr : r ≤ 15) : Fn U yX6_readsStep wsX6_readsStep { frames := 3, cells := 0, slots := 0, locals := 68 } [.ref m] [(m, .inr (6, [.int xth, .ref ys, .ref ya, .ref yt, .int xsm, .ref yn, .int xhs, .ref yx, .int (nI n), .int (nI i), .int xiw, .ref yr, .int (nI r), .int xfb, .int xlr, .ref yd, .int xdm])), (yx, .inl (U.2.2.1 0, 60, .inl gx)), (yr, .inl (U.2.2.1 0, 64, .inl gr))] none [(m, .inr (6, [.int xth, .ref ys, .ref ya, .ref yt, .int xsm, .ref yn, .int xhs, .ref yx, .int (nI n), .int (nI ((((i + 1) + 1) + 1) + 1)), .int (0 : Int32), .ref yr, .int (nI r), .int xfb, .int xlr, .ref yd, .int xdm])), (yx, .inl (U.2.2.1 0, 60, .inl gx)), (yr, .inl (U.2.2.1 0, 64, .inl (upd (upd (upd (upd (upd gr (4 * r) ((sgF gx n i) - (65 : Int32))) ((4 * r) + 1) (0 : Int32)) ((4 * r) + 2) ((sgF gx n ((i + 1) + 1)) - (65 : Int32))) ((4 * r) + 1) (sgF gx n (((i + 1) + 1) + 1))) ((4 * r) + 3) ((sgF gx n ((((i + 1) + 1) + 1) + 1)) - (65 : Int32)))))] 0 0 := by
  refine Fn_of (cc := cX6_readsStep) (maxL := 5) (ret := none) [some (.ref m), none, none, none, none] (by decide +kernel) rfl (jcat rfl) (Nat.le_of_ble_eq_true rfl) rfl (fun k C R hin hnL => ?_)
  have hN : ∀ i, i < 5 → i < k.2.2.2.2.2.2.2.2.2.2.2.1 := fun i h => by rw [hnL]; exact h
  refine J_iconst C (v := (4 : Int32)) dX6_readsStep_0 (by decide) ?_
  refine J_aload_n C dX6_readsStep_1 rfl rfl ?_
  refine J_get C 0 12 rfl rfl i_X6_readsStep_X6 (by decide) k_X6_readsStep_113 rfl rfl dX6_readsStep_2 ?_
  refine J_imul C (v := nI (4 * r)) dX6_readsStep_5 (pk_mul 4 r) ?_
  refine J_istore_n C [some (.ref m), some (.int (nI (4 * r))), none, none, none] dX6_readsStep_6 rfl (hN 1 (by decide)) rfl ?_
  refine J_aload_n C dX6_readsStep_7 rfl rfl ?_
  refine J_iconst C (v := (1 : Int32)) dX6_readsStep_8 (by decide) ?_
  refine J_put C tyX6 0 10 [(m, .inr (6, [.int xth, .ref ys, .ref ya, .ref yt, .int xsm, .ref yn, .int xhs, .ref yx, .int (nI n), .int (nI i), .int (1 : Int32), .ref yr, .int (nI r), .int xfb, .int xlr, .ref yd, .int xdm])), (yx, .inl (U.2.2.1 0, 60, .inl gx)), (yr, .inl (U.2.2.1 0, 64, .inl gr))] rfl rfl i_X6_readsStep_X6 tyX6_ok nmX6 (by decide) k_X6_readsStep_102 rfl rfl rfl rfl (Nat.le_of_ble_eq_true rfl) rfl dX6_readsStep_9 ?_
  refine J_aload_n C dX6_readsStep_12 rfl rfl ?_
  refine J_get C 0 11 rfl rfl i_X6_readsStep_X6 (by decide) k_X6_readsStep_25 rfl rfl dX6_readsStep_13 ?_
  refine J_iload_n C dX6_readsStep_16 rfl rfl ?_
  refine J_aload_n C dX6_readsStep_17 rfl rfl ?_
  refine J_bipush C (v := (65 : Int32)) dX6_readsStep_18 (by decide) ?_
  refine J_bipush C (v := (70 : Int32)) dX6_readsStep_20 (by decide) ?_
  refine J_callV C (c_X6_takes_y U m ys ya yt yn yx yr yd xth xsm xhs (0 : Int32) (0 : Int32) (0 : Int32) (nI r) xfb xlr xdm gx n i (65 : Int32) (70 : Int32) v_0 hn (by omega)) gX6_readsStep_X6_takes (n := 2) rfl rfl rfl (by decide +kernel) ⟨Nat.le_of_ble_eq_true rfl, Nat.le_of_ble_eq_true rfl⟩ 0 rfl rfl rfl (rest := [.int (nI (4 * r)), .ref yr]) rfl (Nat.le_of_ble_eq_true rfl) [(m, .inr (6, [.int xth, .ref ys, .ref ya, .ref yt, .int xsm, .ref yn, .int xhs, .ref yx, .int (nI n), .int (nI (i + 1)), .int (1 : Int32), .ref yr, .int (nI r), .int xfb, .int xlr, .ref yd, .int xdm])), (yx, .inl (U.2.2.1 0, 60, .inl gx)), (yr, .inl (U.2.2.1 0, 64, .inl gr))] [0, 1] [2] [1, 2, 0] (wr := [(yr, .inl (U.2.2.1 0, 64, .inl gr))]) rfl rfl rfl rfl (by decide) rfl rfl  dX6_readsStep_22 ⟨Nat.le_of_ble_eq_true rfl, Nat.le_of_ble_eq_true rfl⟩ [.int ((sgF gx n i) - (65 : Int32)), .int (nI (4 * r)), .ref yr] rfl ?_
  refine J_iast C 2 [(m, .inr (6, [.int xth, .ref ys, .ref ya, .ref yt, .int xsm, .ref yn, .int xhs, .ref yx, .int (nI n), .int (nI (i + 1)), .int (1 : Int32), .ref yr, .int (nI r), .int xfb, .int xlr, .ref yd, .int xdm])), (yx, .inl (U.2.2.1 0, 60, .inl gx)), (yr, .inl (U.2.2.1 0, 64, .inl (upd gr (4 * r) ((sgF gx n i) - (65 : Int32)))))] rfl (vp_in_nI (n := 4 * r) (by omega) (by decide)) (by rw [(nI_clamp (n := 4 * r) (by omega))]; rfl) dX6_readsStep_25 ?_
  refine J_aload_n C dX6_readsStep_26 rfl rfl ?_
  refine J_bipush C (v := (61 : Int32)) dX6_readsStep_27 (by decide) ?_
  refine J_bipush C (v := (61 : Int32)) dX6_readsStep_29 (by decide) ?_
  refine J_callV C (c_X6_takes_y U m ys ya yt yn yx yr yd xth xsm xhs (0 : Int32) (0 : Int32) (0 : Int32) (nI r) xfb xlr xdm gx n (i + 1) (61 : Int32) (61 : Int32) v_1 hn (by omega)) gX6_readsStep_X6_takes (n := 2) rfl rfl rfl (by decide +kernel) ⟨Nat.le_of_ble_eq_true rfl, Nat.le_of_ble_eq_true rfl⟩ 0 rfl rfl rfl (rest := []) rfl (Nat.le_of_ble_eq_true rfl) [(m, .inr (6, [.int xth, .ref ys, .ref ya, .ref yt, .int xsm, .ref yn, .int xhs, .ref yx, .int (nI n), .int (nI ((i + 1) + 1)), .int (1 : Int32), .ref yr, .int (nI r), .int xfb, .int xlr, .ref yd, .int xdm])), (yx, .inl (U.2.2.1 0, 60, .inl gx)), (yr, .inl (U.2.2.1 0, 64, .inl (upd gr (4 * r) ((sgF gx n i) - (65 : Int32)))))] [0, 1] [2] [1, 2, 0] (wr := [(yr, .inl (U.2.2.1 0, 64, .inl (upd gr (4 * r) ((sgF gx n i) - (65 : Int32)))))]) rfl rfl rfl rfl (by decide) rfl rfl  dX6_readsStep_31 ⟨Nat.le_of_ble_eq_true rfl, Nat.le_of_ble_eq_true rfl⟩ [.int ((sgF gx n (i + 1)) - (61 : Int32))] rfl ?_
  refine J_pop C dX6_readsStep_34 rfl ?_
  refine J_aload_n C dX6_readsStep_35 rfl rfl ?_
  refine J_get C 0 10 rfl rfl i_X6_readsStep_X6 (by decide) k_X6_readsStep_102 rfl rfl dX6_readsStep_36 ?_
  refine J_if_eq C 49 dX6_readsStep_39 (by decide) (fun h => absurd h (by decide)) (fun _ => ?_)
  refine J_aload_n C dX6_readsStep_42 rfl rfl ?_
  refine J_callV C (c_X6_sign U m ys ya yt yn yx yr yd xth xsm xhs (0 : Int32) (0 : Int32) (1 : Int32) (nI r) xfb xlr xdm gx n ((i + 1) + 1) hn (by omega)) gX6_readsStep_X6_sign (n := 0) rfl rfl rfl (by decide +kernel) ⟨Nat.le_of_ble_eq_true rfl, Nat.le_of_ble_eq_true rfl⟩ 0 rfl rfl rfl (rest := []) rfl (Nat.le_of_ble_eq_true rfl) [(m, .inr (6, [.int xth, .ref ys, .ref ya, .ref yt, .int xsm, .ref yn, .int xhs, .ref yx, .int (nI n), .int (nI ((i + 1) + 1)), .int (1 : Int32), .ref yr, .int (nI r), .int xfb, .int xlr, .ref yd, .int xdm])), (yx, .inl (U.2.2.1 0, 60, .inl gx)), (yr, .inl (U.2.2.1 0, 64, .inl (upd gr (4 * r) ((sgF gx n i) - (65 : Int32)))))] [0, 1] [2] [1, 2, 0] (wr := [(yr, .inl (U.2.2.1 0, 64, .inl (upd gr (4 * r) ((sgF gx n i) - (65 : Int32)))))]) rfl rfl rfl rfl (by decide) rfl rfl  dX6_readsStep_43 ⟨Nat.le_of_ble_eq_true rfl, Nat.le_of_ble_eq_true rfl⟩ [.int (sgF gx n ((i + 1) + 1))] rfl ?_
  refine J_goto C 50 dX6_readsStep_46 (by decide) ?_
  refine J_istore_n C [some (.ref m), some (.int (nI (4 * r))), some (.int (sgF gx n ((i + 1) + 1))), none, none] dX6_readsStep_50 rfl (hN 2 (by decide)) rfl ?_
  refine J_iload_n C dX6_readsStep_51 rfl rfl ?_
  refine J_bipush C (v := (45 : Int32)) dX6_readsStep_52 (by decide) ?_
  refine J_icmp_eq C 63 dX6_readsStep_54 (by decide) (fun h => absurd h v_2) (fun _ => ?_)
  refine J_iload_n C dX6_readsStep_57 rfl rfl ?_
  refine J_bipush C (v := (35 : Int32)) dX6_readsStep_58 (by decide) ?_
  refine J_icmp_ne C 67 dX6_readsStep_60 (by decide) (fun _ => ?_) (fun h => absurd h v_3)
  refine J_iconst C (v := (0 : Int32)) dX6_readsStep_67 (by decide) ?_
  refine J_istore_n C [some (.ref m), some (.int (nI (4 * r))), some (.int (sgF gx n ((i + 1) + 1))), some (.int (0 : Int32)), none] dX6_readsStep_68 rfl (hN 3 (by decide)) rfl ?_
  refine J_aload_n C dX6_readsStep_69 rfl rfl ?_
  refine J_dup C dX6_readsStep_70 rfl ?_
  refine J_get C 0 9 rfl rfl i_X6_readsStep_X6 (by decide) k_X6_readsStep_99 rfl rfl dX6_readsStep_71 ?_
  refine J_iload_n C dX6_readsStep_74 rfl rfl ?_
  refine J_if_eq C 82 dX6_readsStep_75 (by decide) (fun _ => ?_) (fun h => absurd (by decide) h)
  refine J_iconst C (v := (0 : Int32)) dX6_readsStep_82 (by decide) ?_
  refine J_iadd C (v := nI ((i + 1) + 1)) dX6_readsStep_83 (nI_add ((i + 1) + 1) 0) ?_
  refine J_put C tyX6 0 9 [(m, .inr (6, [.int xth, .ref ys, .ref ya, .ref yt, .int xsm, .ref yn, .int xhs, .ref yx, .int (nI n), .int (nI ((i + 1) + 1)), .int (1 : Int32), .ref yr, .int (nI r), .int xfb, .int xlr, .ref yd, .int xdm])), (yx, .inl (U.2.2.1 0, 60, .inl gx)), (yr, .inl (U.2.2.1 0, 64, .inl (upd gr (4 * r) ((sgF gx n i) - (65 : Int32)))))] rfl rfl i_X6_readsStep_X6 tyX6_ok nmX6 (by decide) k_X6_readsStep_99 rfl rfl rfl rfl (Nat.le_of_ble_eq_true rfl) rfl dX6_readsStep_84 ?_
  refine J_aload_n C dX6_readsStep_87 rfl rfl ?_
  refine J_get C 0 11 rfl rfl i_X6_readsStep_X6 (by decide) k_X6_readsStep_25 rfl rfl dX6_readsStep_88 ?_
  refine J_iload_n C dX6_readsStep_91 rfl rfl ?_
  refine J_iconst C (v := (1 : Int32)) dX6_readsStep_92 (by decide) ?_
  refine J_iadd C (v := nI ((4 * r) + 1)) dX6_readsStep_93 (nI_add (4 * r) 1) ?_
  refine J_iload_n C dX6_readsStep_94 rfl rfl ?_
  refine J_if_eq C 102 dX6_readsStep_95 (by decide) (fun _ => ?_) (fun h => absurd (by decide) h)
  refine J_iconst C (v := (0 : Int32)) dX6_readsStep_102 (by decide) ?_
  refine J_iast C 2 [(m, .inr (6, [.int xth, .ref ys, .ref ya, .ref yt, .int xsm, .ref yn, .int xhs, .ref yx, .int (nI n), .int (nI ((i + 1) + 1)), .int (1 : Int32), .ref yr, .int (nI r), .int xfb, .int xlr, .ref yd, .int xdm])), (yx, .inl (U.2.2.1 0, 60, .inl gx)), (yr, .inl (U.2.2.1 0, 64, .inl (upd (upd gr (4 * r) ((sgF gx n i) - (65 : Int32))) ((4 * r) + 1) (0 : Int32))))] rfl (vp_in_nI (n := (4 * r) + 1) (by omega) (by decide)) (by rw [(nI_clamp (n := (4 * r) + 1) (by omega))]; rfl) dX6_readsStep_103 ?_
  refine J_iload_n C dX6_readsStep_104 rfl rfl ?_
  refine J_bipush C (v := (35 : Int32)) dX6_readsStep_105 (by decide) ?_
  refine J_icmp_ne C 125 dX6_readsStep_107 (by decide) (fun _ => ?_) (fun h => absurd h v_3)
  refine J_aload_n C dX6_readsStep_125 rfl rfl ?_
  refine J_get C 0 11 rfl rfl i_X6_readsStep_X6 (by decide) k_X6_readsStep_25 rfl rfl dX6_readsStep_126 ?_
  refine J_iload_n C dX6_readsStep_129 rfl rfl ?_
  refine J_iconst C (v := (2 : Int32)) dX6_readsStep_130 (by decide) ?_
  refine J_iadd C (v := nI ((4 * r) + 2)) dX6_readsStep_131 (nI_add (4 * r) 2) ?_
  refine J_aload_n C dX6_readsStep_132 rfl rfl ?_
  refine J_bipush C (v := (65 : Int32)) dX6_readsStep_133 (by decide) ?_
  refine J_bipush C (v := (70 : Int32)) dX6_readsStep_135 (by decide) ?_
  refine J_callV C (c_X6_takes_y U m ys ya yt yn yx yr yd xth xsm xhs (0 : Int32) (0 : Int32) (0 : Int32) (nI r) xfb xlr xdm gx n ((i + 1) + 1) (65 : Int32) (70 : Int32) v_4 hn (by omega)) gX6_readsStep_X6_takes (n := 2) rfl rfl rfl (by decide +kernel) ⟨Nat.le_of_ble_eq_true rfl, Nat.le_of_ble_eq_true rfl⟩ 0 rfl rfl rfl (rest := [.int (nI ((4 * r) + 2)), .ref yr]) rfl (Nat.le_of_ble_eq_true rfl) [(m, .inr (6, [.int xth, .ref ys, .ref ya, .ref yt, .int xsm, .ref yn, .int xhs, .ref yx, .int (nI n), .int (nI (((i + 1) + 1) + 1)), .int (1 : Int32), .ref yr, .int (nI r), .int xfb, .int xlr, .ref yd, .int xdm])), (yx, .inl (U.2.2.1 0, 60, .inl gx)), (yr, .inl (U.2.2.1 0, 64, .inl (upd (upd gr (4 * r) ((sgF gx n i) - (65 : Int32))) ((4 * r) + 1) (0 : Int32))))] [0, 1] [2] [1, 2, 0] (wr := [(yr, .inl (U.2.2.1 0, 64, .inl (upd (upd gr (4 * r) ((sgF gx n i) - (65 : Int32))) ((4 * r) + 1) (0 : Int32))))]) rfl rfl rfl rfl (by decide) rfl rfl  dX6_readsStep_137 ⟨Nat.le_of_ble_eq_true rfl, Nat.le_of_ble_eq_true rfl⟩ [.int ((sgF gx n ((i + 1) + 1)) - (65 : Int32)), .int (nI ((4 * r) + 2)), .ref yr] rfl ?_
  refine J_iast C 2 [(m, .inr (6, [.int xth, .ref ys, .ref ya, .ref yt, .int xsm, .ref yn, .int xhs, .ref yx, .int (nI n), .int (nI (((i + 1) + 1) + 1)), .int (1 : Int32), .ref yr, .int (nI r), .int xfb, .int xlr, .ref yd, .int xdm])), (yx, .inl (U.2.2.1 0, 60, .inl gx)), (yr, .inl (U.2.2.1 0, 64, .inl (upd (upd (upd gr (4 * r) ((sgF gx n i) - (65 : Int32))) ((4 * r) + 1) (0 : Int32)) ((4 * r) + 2) ((sgF gx n ((i + 1) + 1)) - (65 : Int32)))))] rfl (vp_in_nI (n := (4 * r) + 2) (by omega) (by decide)) (by rw [(nI_clamp (n := (4 * r) + 2) (by omega))]; rfl) dX6_readsStep_140 ?_
  refine J_aload_n C dX6_readsStep_141 rfl rfl ?_
  refine J_get C 0 10 rfl rfl i_X6_readsStep_X6 (by decide) k_X6_readsStep_102 rfl rfl dX6_readsStep_142 ?_
  refine J_if_eq C 159 dX6_readsStep_145 (by decide) (fun h => absurd h (by decide)) (fun _ => ?_)
  refine J_iload_n C dX6_readsStep_148 rfl rfl ?_
  refine J_if_ne C 159 dX6_readsStep_149 (by decide) (fun h => absurd (by decide) h) (fun _ => ?_)
  refine J_aload_n C dX6_readsStep_152 rfl rfl ?_
  refine J_callV C (c_X6_sign U m ys ya yt yn yx yr yd xth xsm xhs (0 : Int32) (0 : Int32) (1 : Int32) (nI r) xfb xlr xdm gx n (((i + 1) + 1) + 1) hn (by omega)) gX6_readsStep_X6_sign (n := 0) rfl rfl rfl (by decide +kernel) ⟨Nat.le_of_ble_eq_true rfl, Nat.le_of_ble_eq_true rfl⟩ 0 rfl rfl rfl (rest := []) rfl (Nat.le_of_ble_eq_true rfl) [(m, .inr (6, [.int xth, .ref ys, .ref ya, .ref yt, .int xsm, .ref yn, .int xhs, .ref yx, .int (nI n), .int (nI (((i + 1) + 1) + 1)), .int (1 : Int32), .ref yr, .int (nI r), .int xfb, .int xlr, .ref yd, .int xdm])), (yx, .inl (U.2.2.1 0, 60, .inl gx)), (yr, .inl (U.2.2.1 0, 64, .inl (upd (upd (upd gr (4 * r) ((sgF gx n i) - (65 : Int32))) ((4 * r) + 1) (0 : Int32)) ((4 * r) + 2) ((sgF gx n ((i + 1) + 1)) - (65 : Int32)))))] [0, 1] [2] [1, 2, 0] (wr := [(yr, .inl (U.2.2.1 0, 64, .inl (upd (upd (upd gr (4 * r) ((sgF gx n i) - (65 : Int32))) ((4 * r) + 1) (0 : Int32)) ((4 * r) + 2) ((sgF gx n ((i + 1) + 1)) - (65 : Int32)))))]) rfl rfl rfl rfl (by decide) rfl rfl  dX6_readsStep_153 ⟨Nat.le_of_ble_eq_true rfl, Nat.le_of_ble_eq_true rfl⟩ [.int (sgF gx n (((i + 1) + 1) + 1))] rfl ?_
  refine J_goto C 160 dX6_readsStep_156 (by decide) ?_
  refine J_istore C [some (.ref m), some (.int (nI (4 * r))), some (.int (sgF gx n ((i + 1) + 1))), some (.int (0 : Int32)), some (.int (sgF gx n (((i + 1) + 1) + 1)))] dX6_readsStep_160 (hN 4 (by decide)) rfl ?_
  refine J_iload C dX6_readsStep_162 rfl ?_
  refine J_bipush C (v := (43 : Int32)) dX6_readsStep_164 (by decide) ?_
  refine J_icmp_eq C 183 dX6_readsStep_166 (by decide) (fun h => absurd h v_5) (fun _ => ?_)
  refine J_iload C dX6_readsStep_169 rfl ?_
  refine J_bipush C (v := (45 : Int32)) dX6_readsStep_171 (by decide) ?_
  refine J_icmp_eq C 183 dX6_readsStep_173 (by decide) (fun h => absurd h v_6) (fun _ => ?_)
  refine J_iload C dX6_readsStep_176 rfl ?_
  refine J_bipush C (v := (42 : Int32)) dX6_readsStep_178 (by decide) ?_
  refine J_icmp_ne C 231 dX6_readsStep_180 (by decide) (fun h => absurd h (fun hh => hh v_7)) (fun _ => ?_)
  refine J_aload_n C dX6_readsStep_183 rfl rfl ?_
  refine J_dup C dX6_readsStep_184 rfl ?_
  refine J_get C 0 9 rfl rfl i_X6_readsStep_X6 (by decide) k_X6_readsStep_99 rfl rfl dX6_readsStep_185 ?_
  refine J_iconst C (v := (1 : Int32)) dX6_readsStep_188 (by decide) ?_
  refine J_iadd C (v := nI ((((i + 1) + 1) + 1) + 1)) dX6_readsStep_189 (nI_add (((i + 1) + 1) + 1) 1) ?_
  refine J_put C tyX6 0 9 [(m, .inr (6, [.int xth, .ref ys, .ref ya, .ref yt, .int xsm, .ref yn, .int xhs, .ref yx, .int (nI n), .int (nI ((((i + 1) + 1) + 1) + 1)), .int (1 : Int32), .ref yr, .int (nI r), .int xfb, .int xlr, .ref yd, .int xdm])), (yx, .inl (U.2.2.1 0, 60, .inl gx)), (yr, .inl (U.2.2.1 0, 64, .inl (upd (upd (upd gr (4 * r) ((sgF gx n i) - (65 : Int32))) ((4 * r) + 1) (0 : Int32)) ((4 * r) + 2) ((sgF gx n ((i + 1) + 1)) - (65 : Int32)))))] rfl rfl i_X6_readsStep_X6 tyX6_ok nmX6 (by decide) k_X6_readsStep_99 rfl rfl rfl rfl (Nat.le_of_ble_eq_true rfl) rfl dX6_readsStep_190 ?_
  refine J_aload_n C dX6_readsStep_193 rfl rfl ?_
  refine J_get C 0 11 rfl rfl i_X6_readsStep_X6 (by decide) k_X6_readsStep_25 rfl rfl dX6_readsStep_194 ?_
  refine J_iload_n C dX6_readsStep_197 rfl rfl ?_
  refine J_iconst C (v := (1 : Int32)) dX6_readsStep_198 (by decide) ?_
  refine J_iadd C (v := nI ((4 * r) + 1)) dX6_readsStep_199 (nI_add (4 * r) 1) ?_
  refine J_iload C dX6_readsStep_200 rfl ?_
  refine J_bipush C (v := (45 : Int32)) dX6_readsStep_202 (by decide) ?_
  refine J_icmp_ne C 212 dX6_readsStep_204 (by decide) (fun _ => ?_) (fun h => absurd h v_6)
  refine J_iload C dX6_readsStep_212 rfl ?_
  refine J_iast C 2 [(m, .inr (6, [.int xth, .ref ys, .ref ya, .ref yt, .int xsm, .ref yn, .int xhs, .ref yx, .int (nI n), .int (nI ((((i + 1) + 1) + 1) + 1)), .int (1 : Int32), .ref yr, .int (nI r), .int xfb, .int xlr, .ref yd, .int xdm])), (yx, .inl (U.2.2.1 0, 60, .inl gx)), (yr, .inl (U.2.2.1 0, 64, .inl (upd (upd (upd (upd gr (4 * r) ((sgF gx n i) - (65 : Int32))) ((4 * r) + 1) (0 : Int32)) ((4 * r) + 2) ((sgF gx n ((i + 1) + 1)) - (65 : Int32))) ((4 * r) + 1) (sgF gx n (((i + 1) + 1) + 1)))))] rfl (vp_in_nI (n := (4 * r) + 1) (by omega) (by decide)) (by rw [(nI_clamp (n := (4 * r) + 1) (by omega))]; rfl) dX6_readsStep_214 ?_
  refine J_aload_n C dX6_readsStep_215 rfl rfl ?_
  refine J_get C 0 11 rfl rfl i_X6_readsStep_X6 (by decide) k_X6_readsStep_25 rfl rfl dX6_readsStep_216 ?_
  refine J_iload_n C dX6_readsStep_219 rfl rfl ?_
  refine J_iconst C (v := (3 : Int32)) dX6_readsStep_220 (by decide) ?_
  refine J_iadd C (v := nI ((4 * r) + 3)) dX6_readsStep_221 (nI_add (4 * r) 3) ?_
  refine J_aload_n C dX6_readsStep_222 rfl rfl ?_
  refine J_bipush C (v := (65 : Int32)) dX6_readsStep_223 (by decide) ?_
  refine J_bipush C (v := (70 : Int32)) dX6_readsStep_225 (by decide) ?_
  refine J_callV C (c_X6_takes_f U m ys ya yt yn yx yr yd xth xsm xhs (0 : Int32) (0 : Int32) (0 : Int32) (nI r) xfb xlr xdm gx n ((((i + 1) + 1) + 1) + 1) (65 : Int32) (70 : Int32) v_8 hn (by omega)) gX6_readsStep_X6_takes (n := 2) rfl rfl rfl (by decide +kernel) ⟨Nat.le_of_ble_eq_true rfl, Nat.le_of_ble_eq_true rfl⟩ 0 rfl rfl rfl (rest := [.int (nI ((4 * r) + 3)), .ref yr]) rfl (Nat.le_of_ble_eq_true rfl) [(m, .inr (6, [.int xth, .ref ys, .ref ya, .ref yt, .int xsm, .ref yn, .int xhs, .ref yx, .int (nI n), .int (nI ((((i + 1) + 1) + 1) + 1)), .int (0 : Int32), .ref yr, .int (nI r), .int xfb, .int xlr, .ref yd, .int xdm])), (yx, .inl (U.2.2.1 0, 60, .inl gx)), (yr, .inl (U.2.2.1 0, 64, .inl (upd (upd (upd (upd gr (4 * r) ((sgF gx n i) - (65 : Int32))) ((4 * r) + 1) (0 : Int32)) ((4 * r) + 2) ((sgF gx n ((i + 1) + 1)) - (65 : Int32))) ((4 * r) + 1) (sgF gx n (((i + 1) + 1) + 1)))))] [0, 1] [2] [1, 2, 0] (wr := [(yr, .inl (U.2.2.1 0, 64, .inl (upd (upd (upd (upd gr (4 * r) ((sgF gx n i) - (65 : Int32))) ((4 * r) + 1) (0 : Int32)) ((4 * r) + 2) ((sgF gx n ((i + 1) + 1)) - (65 : Int32))) ((4 * r) + 1) (sgF gx n (((i + 1) + 1) + 1)))))]) rfl rfl rfl rfl (by decide) rfl rfl  dX6_readsStep_227 ⟨Nat.le_of_ble_eq_true rfl, Nat.le_of_ble_eq_true rfl⟩ [.int ((sgF gx n ((((i + 1) + 1) + 1) + 1)) - (65 : Int32)), .int (nI ((4 * r) + 3)), .ref yr] rfl ?_
  refine J_iast C 2 [(m, .inr (6, [.int xth, .ref ys, .ref ya, .ref yt, .int xsm, .ref yn, .int xhs, .ref yx, .int (nI n), .int (nI ((((i + 1) + 1) + 1) + 1)), .int (0 : Int32), .ref yr, .int (nI r), .int xfb, .int xlr, .ref yd, .int xdm])), (yx, .inl (U.2.2.1 0, 60, .inl gx)), (yr, .inl (U.2.2.1 0, 64, .inl (upd (upd (upd (upd (upd gr (4 * r) ((sgF gx n i) - (65 : Int32))) ((4 * r) + 1) (0 : Int32)) ((4 * r) + 2) ((sgF gx n ((i + 1) + 1)) - (65 : Int32))) ((4 * r) + 1) (sgF gx n (((i + 1) + 1) + 1))) ((4 * r) + 3) ((sgF gx n ((((i + 1) + 1) + 1) + 1)) - (65 : Int32)))))] rfl (vp_in_nI (n := (4 * r) + 3) (by omega) (by decide)) (by rw [(nI_clamp (n := (4 * r) + 3) (by omega))]; rfl) dX6_readsStep_230 ?_
  refine J_aload_n C dX6_readsStep_231 rfl rfl ?_
  refine J_dup C dX6_readsStep_232 rfl ?_
  refine J_get C 0 12 rfl rfl i_X6_readsStep_X6 (by decide) k_X6_readsStep_113 rfl rfl dX6_readsStep_233 ?_
  refine J_aload_n C dX6_readsStep_236 rfl rfl ?_
  refine J_get C 0 10 rfl rfl i_X6_readsStep_X6 (by decide) k_X6_readsStep_102 rfl rfl dX6_readsStep_237 ?_
  refine J_if_eq C 247 dX6_readsStep_240 (by decide) (fun _ => ?_) (fun h => absurd (by decide) h)
  refine J_iconst C (v := (0 : Int32)) dX6_readsStep_247 (by decide) ?_
  refine J_iadd C (v := nI r) dX6_readsStep_248 (nI_add r 0) ?_
  refine J_put C tyX6 0 12 [(m, .inr (6, [.int xth, .ref ys, .ref ya, .ref yt, .int xsm, .ref yn, .int xhs, .ref yx, .int (nI n), .int (nI ((((i + 1) + 1) + 1) + 1)), .int (0 : Int32), .ref yr, .int (nI r), .int xfb, .int xlr, .ref yd, .int xdm])), (yx, .inl (U.2.2.1 0, 60, .inl gx)), (yr, .inl (U.2.2.1 0, 64, .inl (upd (upd (upd (upd (upd gr (4 * r) ((sgF gx n i) - (65 : Int32))) ((4 * r) + 1) (0 : Int32)) ((4 * r) + 2) ((sgF gx n ((i + 1) + 1)) - (65 : Int32))) ((4 * r) + 1) (sgF gx n (((i + 1) + 1) + 1))) ((4 * r) + 3) ((sgF gx n ((((i + 1) + 1) + 1) + 1)) - (65 : Int32)))))] rfl rfl i_X6_readsStep_X6 tyX6_ok nmX6 (by decide) k_X6_readsStep_113 rfl rfl rfl rfl (Nat.le_of_ble_eq_true rfl) rfl dX6_readsStep_249 ?_
  exact J_vret C R dX6_readsStep_252 (Nat.le_of_ble_eq_true rfl) (Nat.le_of_ble_eq_true rfl) rfl rfl
