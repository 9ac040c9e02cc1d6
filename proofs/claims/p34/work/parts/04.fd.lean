theorem k_X3_copyFrom_9 : Cond.fieldLink RX3 9 "BoothOtters$State" "values" "[I" ∈ wsX3_copyFrom := List.mem_of_getElem? (i := 1) rfl
theorem i_X3_copyFrom_X3 : ∀ w ∈ wsX30, w ∈ wsX3_copyFrom := fun _ h => List.mem_cons_of_mem _ (List.mem_append_left _ (List.mem_append_right _ h))
theorem k_X3_copyFrom_18 : Cond.fieldLink RX3 18 "BoothOtters$State" "multiplication" "LBoothOtters$Multiplication;" ∈ wsX3_copyFrom := List.mem_of_getElem? (i := 2) rfl
theorem k_X3_copyFrom_22 : Cond.fieldLink RX3 22 "BoothOtters$State" "width" "I" ∈ wsX3_copyFrom := List.mem_of_getElem? (i := 3) rfl
theorem k_X3_copyFrom_30 : Cond.fieldLink RX3 30 "BoothOtters$State" "overflows" "I" ∈ wsX3_copyFrom := List.mem_of_getElem? (i := 4) rfl
theorem k_X3_copyFrom_33 : Cond.fieldLink RX3 33 "BoothOtters$State" "stepsMade" "I" ∈ wsX3_copyFrom := List.mem_of_getElem? (i := 5) rfl
set_option maxHeartbeats 4000000 in
set_option maxRecDepth 100000 in
theorem c_X3_copyFrom (U : jU) (a v m a2 v2 m2 : Nat) (f f2 : Nat → Int32) (w o t sl bp mw mc hi lo ex : Int32) (w2 o2 t2 sl2 bp2 mw2 mc2 hi2 lo2 ex2 : Int32)  : Fn U yX3_copyFrom wsX3_copyFrom { frames := 1, cells := 0, slots := 0, locals := 21 } [.ref a, .ref a2] [(a, .inr (3, [.ref v, .ref m, .int w, .int o, .int t])), (v, .inl (U.2.2.1 0, 6, .inl f)), (m, .inr (1, [.int sl, .int bp, .int mw, .int mc, .int hi, .int lo, .int ex])), (a2, .inr (3, [.ref v2, .ref m2, .int w2, .int o2, .int t2])), (v2, .inl (U.2.2.1 0, 6, .inl f2)), (m2, .inr (1, [.int sl2, .int bp2, .int mw2, .int mc2, .int hi2, .int lo2, .int ex2]))] none [(a, .inr (3, [.ref v, .ref m, .int w2, .int o2, .int t2])), (v, .inl (U.2.2.1 0, 6, .inl f2)), (m, .inr (1, [.int sl2, .int bp2, .int mw2, .int mc2, .int hi2, .int lo2, .int ex2])), (a2, .inr (3, [.ref v2, .ref m2, .int w2, .int o2, .int t2])), (v2, .inl (U.2.2.1 0, 6, .inl f2)), (m2, .inr (1, [.int sl2, .int bp2, .int mw2, .int mc2, .int hi2, .int lo2, .int ex2]))] 0 0 := by
  refine Fn_of (cc := cX3_copyFrom) (maxL := 3) (ret := none) [some (.ref a), some (.ref a2), none] (by decide +kernel) rfl (jcat rfl) (Nat.le_of_ble_eq_true rfl) rfl (fun k C R hin hnL => ?_)
  have hN : ∀ i, i < 3 → i < k.2.2.2.2.2.2.2.2.2.2.2.1 := fun i h => by rw [hnL]; exact h
  refine J_iconst C (v := (0 : Int32)) dX3_copyFrom_0 (by decide) ?_
  refine J_istore_n C [some (.ref a), some (.ref a2), some (.int (0 : Int32))] dX3_copyFrom_1 rfl (hN 2 (by decide)) rfl rfl ?_
  refine J_iload_n C dX3_copyFrom_2 rfl rfl ?_
  refine J_bipush C (v := (6 : Int32)) dX3_copyFrom_3 (by decide) ?_
  refine J_icmp_ge C 26 dX3_copyFrom_5 (by decide) (fun h => absurd h (by decide)) (fun _ => ?_)
  refine J_aload_n C dX3_copyFrom_8 rfl rfl ?_
  refine J_get C 0 0 rfl rfl i_X3_copyFrom_X3 (by decide) k_X3_copyFrom_9 rfl rfl dX3_copyFrom_9 ?_
  refine J_iload_n C dX3_copyFrom_12 rfl rfl ?_
  refine J_aload_n C dX3_copyFrom_13 rfl rfl ?_
  refine J_get C 3 0 rfl rfl i_X3_copyFrom_X3 (by decide) k_X3_copyFrom_9 rfl rfl dX3_copyFrom_14 ?_
  refine J_iload_n C dX3_copyFrom_17 rfl rfl ?_
  refine J_iald C 4 rfl (vpl n_0 (by decide) (by decide)) (congrArg f2 n_0) dX3_copyFrom_18 ?_
  refine J_iast C 1 [(a, .inr (3, [.ref v, .ref m, .int w, .int o, .int t])), (v, .inl (U.2.2.1 0, 6, .inl (upd f 0 (f2 0)))), (m, .inr (1, [.int sl, .int bp, .int mw, .int mc, .int hi, .int lo, .int ex])), (a2, .inr (3, [.ref v2, .ref m2, .int w2, .int o2, .int t2])), (v2, .inl (U.2.2.1 0, 6, .inl f2)), (m2, .inr (1, [.int sl2, .int bp2, .int mw2, .int mc2, .int hi2, .int lo2, .int ex2]))] rfl (vpl n_0 (by decide) (by decide)) (by rw [n_0]; rfl) dX3_copyFrom_19 ?_
  refine J_iinc C (v := (1 : Int32)) [some (.ref a), some (.ref a2), some (.int (1 : Int32))] dX3_copyFrom_20 rfl (by decide) (hN 2 (by decide)) rfl rfl ?_
  refine J_goto C 2 dX3_copyFrom_23 (by decide) ?_
  refine J_iload_n C dX3_copyFrom_2 rfl rfl ?_
  refine J_bipush C (v := (6 : Int32)) dX3_copyFrom_3 (by decide) ?_
  refine J_icmp_ge C 26 dX3_copyFrom_5 (by decide) (fun h => absurd h (by decide)) (fun _ => ?_)
  refine J_aload_n C dX3_copyFrom_8 rfl rfl ?_
  refine J_get C 0 0 rfl rfl i_X3_copyFrom_X3 (by decide) k_X3_copyFrom_9 rfl rfl dX3_copyFrom_9 ?_
  refine J_iload_n C dX3_copyFrom_12 rfl rfl ?_
  refine J_aload_n C dX3_copyFrom_13 rfl rfl ?_
  refine J_get C 3 0 rfl rfl i_X3_copyFrom_X3 (by decide) k_X3_copyFrom_9 rfl rfl dX3_copyFrom_14 ?_
  refine J_iload_n C dX3_copyFrom_17 rfl rfl ?_
  refine J_iald C 4 rfl (vpl n_1 (by decide) (by decide)) (congrArg f2 n_1) dX3_copyFrom_18 ?_
  refine J_iast C 1 [(a, .inr (3, [.ref v, .ref m, .int w, .int o, .int t])), (v, .inl (U.2.2.1 0, 6, .inl (upd (upd f 0 (f2 0)) 1 (f2 1)))), (m, .inr (1, [.int sl, .int bp, .int mw, .int mc, .int hi, .int lo, .int ex])), (a2, .inr (3, [.ref v2, .ref m2, .int w2, .int o2, .int t2])), (v2, .inl (U.2.2.1 0, 6, .inl f2)), (m2, .inr (1, [.int sl2, .int bp2, .int mw2, .int mc2, .int hi2, .int lo2, .int ex2]))] rfl (vpl n_1 (by decide) (by decide)) (by rw [n_1]; rfl) dX3_copyFrom_19 ?_
  refine J_iinc C (v := (2 : Int32)) [some (.ref a), some (.ref a2), some (.int (2 : Int32))] dX3_copyFrom_20 rfl (by decide) (hN 2 (by decide)) rfl rfl ?_
  refine J_goto C 2 dX3_copyFrom_23 (by decide) ?_
  refine J_iload_n C dX3_copyFrom_2 rfl rfl ?_
  refine J_bipush C (v := (6 : Int32)) dX3_copyFrom_3 (by decide) ?_
  refine J_icmp_ge C 26 dX3_copyFrom_5 (by decide) (fun h => absurd h (by decide)) (fun _ => ?_)
  refine J_aload_n C dX3_copyFrom_8 rfl rfl ?_
  refine J_get C 0 0 rfl rfl i_X3_copyFrom_X3 (by decide) k_X3_copyFrom_9 rfl rfl dX3_copyFrom_9 ?_
  refine J_iload_n C dX3_copyFrom_12 rfl rfl ?_
  refine J_aload_n C dX3_copyFrom_13 rfl rfl ?_
  refine J_get C 3 0 rfl rfl i_X3_copyFrom_X3 (by decide) k_X3_copyFrom_9 rfl rfl dX3_copyFrom_14 ?_
  refine J_iload_n C dX3_copyFrom_17 rfl rfl ?_
  refine J_iald C 4 rfl (vpl n_2 (by decide) (by decide)) (congrArg f2 n_2) dX3_copyFrom_18 ?_
  refine J_iast C 1 [(a, .inr (3, [.ref v, .ref m, .int w, .int o, .int t])), (v, .inl (U.2.2.1 0, 6, .inl (upd (upd (upd f 0 (f2 0)) 1 (f2 1)) 2 (f2 2)))), (m, .inr (1, [.int sl, .int bp, .int mw, .int mc, .int hi, .int lo, .int ex])), (a2, .inr (3, [.ref v2, .ref m2, .int w2, .int o2, .int t2])), (v2, .inl (U.2.2.1 0, 6, .inl f2)), (m2, .inr (1, [.int sl2, .int bp2, .int mw2, .int mc2, .int hi2, .int lo2, .int ex2]))] rfl (vpl n_2 (by decide) (by decide)) (by rw [n_2]; rfl) dX3_copyFrom_19 ?_
  refine J_iinc C (v := (3 : Int32)) [some (.ref a), some (.ref a2), some (.int (3 : Int32))] dX3_copyFrom_20 rfl (by decide) (hN 2 (by decide)) rfl rfl ?_
  refine J_goto C 2 dX3_copyFrom_23 (by decide) ?_
  refine J_iload_n C dX3_copyFrom_2 rfl rfl ?_
  refine J_bipush C (v := (6 : Int32)) dX3_copyFrom_3 (by decide) ?_
  refine J_icmp_ge C 26 dX3_copyFrom_5 (by decide) (fun h => absurd h (by decide)) (fun _ => ?_)
  refine J_aload_n C dX3_copyFrom_8 rfl rfl ?_
  refine J_get C 0 0 rfl rfl i_X3_copyFrom_X3 (by decide) k_X3_copyFrom_9 rfl rfl dX3_copyFrom_9 ?_
  refine J_iload_n C dX3_copyFrom_12 rfl rfl ?_
  refine J_aload_n C dX3_copyFrom_13 rfl rfl ?_
  refine J_get C 3 0 rfl rfl i_X3_copyFrom_X3 (by decide) k_X3_copyFrom_9 rfl rfl dX3_copyFrom_14 ?_
  refine J_iload_n C dX3_copyFrom_17 rfl rfl ?_
  refine J_iald C 4 rfl (vpl n_3 (by decide) (by decide)) (congrArg f2 n_3) dX3_copyFrom_18 ?_
  refine J_iast C 1 [(a, .inr (3, [.ref v, .ref m, .int w, .int o, .int t])), (v, .inl (U.2.2.1 0, 6, .inl (upd (upd (upd (upd f 0 (f2 0)) 1 (f2 1)) 2 (f2 2)) 3 (f2 3)))), (m, .inr (1, [.int sl, .int bp, .int mw, .int mc, .int hi, .int lo, .int ex])), (a2, .inr (3, [.ref v2, .ref m2, .int w2, .int o2, .int t2])), (v2, .inl (U.2.2.1 0, 6, .inl f2)), (m2, .inr (1, [.int sl2, .int bp2, .int mw2, .int mc2, .int hi2, .int lo2, .int ex2]))] rfl (vpl n_3 (by decide) (by decide)) (by rw [n_3]; rfl) dX3_copyFrom_19 ?_
  refine J_iinc C (v := (4 : Int32)) [some (.ref a), some (.ref a2), some (.int (4 : Int32))] dX3_copyFrom_20 rfl (by decide) (hN 2 (by decide)) rfl rfl ?_
  refine J_goto C 2 dX3_copyFrom_23 (by decide) ?_
  refine J_iload_n C dX3_copyFrom_2 rfl rfl ?_
  refine J_bipush C (v := (6 : Int32)) dX3_copyFrom_3 (by decide) ?_
  refine J_icmp_ge C 26 dX3_copyFrom_5 (by decide) (fun h => absurd h (by decide)) (fun _ => ?_)
  refine J_aload_n C dX3_copyFrom_8 rfl rfl ?_
  refine J_get C 0 0 rfl rfl i_X3_copyFrom_X3 (by decide) k_X3_copyFrom_9 rfl rfl dX3_copyFrom_9 ?_
  refine J_iload_n C dX3_copyFrom_12 rfl rfl ?_
  refine J_aload_n C dX3_copyFrom_13 rfl rfl ?_
  refine J_get C 3 0 rfl rfl i_X3_copyFrom_X3 (by decide) k_X3_copyFrom_9 rfl rfl dX3_copyFrom_14 ?_
  refine J_iload_n C dX3_copyFrom_17 rfl rfl ?_
  refine J_iald C 4 rfl (vpl n_4 (by decide) (by decide)) (congrArg f2 n_4) dX3_copyFrom_18 ?_
  refine J_iast C 1 [(a, .inr (3, [.ref v, .ref m, .int w, .int o, .int t])), (v, .inl (U.2.2.1 0, 6, .inl (upd (upd (upd (upd (upd f 0 (f2 0)) 1 (f2 1)) 2 (f2 2)) 3 (f2 3)) 4 (f2 4)))), (m, .inr (1, [.int sl, .int bp, .int mw, .int mc, .int hi, .int lo, .int ex])), (a2, .inr (3, [.ref v2, .ref m2, .int w2, .int o2, .int t2])), (v2, .inl (U.2.2.1 0, 6, .inl f2)), (m2, .inr (1, [.int sl2, .int bp2, .int mw2, .int mc2, .int hi2, .int lo2, .int ex2]))] rfl (vpl n_4 (by decide) (by decide)) (by rw [n_4]; rfl) dX3_copyFrom_19 ?_
  refine J_iinc C (v := (5 : Int32)) [some (.ref a), some (.ref a2), some (.int (5 : Int32))] dX3_copyFrom_20 rfl (by decide) (hN 2 (by decide)) rfl rfl ?_
  refine J_goto C 2 dX3_copyFrom_23 (by decide) ?_
  refine J_iload_n C dX3_copyFrom_2 rfl rfl ?_
  refine J_bipush C (v := (6 : Int32)) dX3_copyFrom_3 (by decide) ?_
  refine J_icmp_ge C 26 dX3_copyFrom_5 (by decide) (fun h => absurd h (by decide)) (fun _ => ?_)
  refine J_aload_n C dX3_copyFrom_8 rfl rfl ?_
  refine J_get C 0 0 rfl rfl i_X3_copyFrom_X3 (by decide) k_X3_copyFrom_9 rfl rfl dX3_copyFrom_9 ?_
  refine J_iload_n C dX3_copyFrom_12 rfl rfl ?_
  refine J_aload_n C dX3_copyFrom_13 rfl rfl ?_
  refine J_get C 3 0 rfl rfl i_X3_copyFrom_X3 (by decide) k_X3_copyFrom_9 rfl rfl dX3_copyFrom_14 ?_
  refine J_iload_n C dX3_copyFrom_17 rfl rfl ?_
  refine J_iald C 4 rfl (vpl n_5 (by decide) (by decide)) (congrArg f2 n_5) dX3_copyFrom_18 ?_
  refine J_iast C 1 [(a, .inr (3, [.ref v, .ref m, .int w, .int o, .int t])), (v, .inl (U.2.2.1 0, 6, .inl (upd (upd (upd (upd (upd (upd f 0 (f2 0)) 1 (f2 1)) 2 (f2 2)) 3 (f2 3)) 4 (f2 4)) 5 (f2 5)))), (m, .inr (1, [.int sl, .int bp, .int mw, .int mc, .int hi, .int lo, .int ex])), (a2, .inr (3, [.ref v2, .ref m2, .int w2, .int o2, .int t2])), (v2, .inl (U.2.2.1 0, 6, .inl f2)), (m2, .inr (1, [.int sl2, .int bp2, .int mw2, .int mc2, .int hi2, .int lo2, .int ex2]))] rfl (vpl n_5 (by decide) (by decide)) (by rw [n_5]; rfl) dX3_copyFrom_19 ?_
  refine J_iinc C (v := (6 : Int32)) [some (.ref a), some (.ref a2), some (.int (6 : Int32))] dX3_copyFrom_20 rfl (by decide) (hN 2 (by decide)) rfl rfl ?_
  refine J_goto C 2 dX3_copyFrom_23 (by decide) ?_
  refine J_iload_n C dX3_copyFrom_2 rfl rfl ?_
  refine J_bipush C (v := (6 : Int32)) dX3_copyFrom_3 (by decide) ?_
  refine J_icmp_ge C 26 dX3_copyFrom_5 (by decide) (fun _ => ?_) (fun h => absurd (by decide) h)
  refine J_aload_n C dX3_copyFrom_26 rfl rfl ?_
  refine J_get C 0 1 rfl rfl i_X3_copyFrom_X3 (by decide) k_X3_copyFrom_18 rfl rfl dX3_copyFrom_27 ?_
  refine J_aload_n C dX3_copyFrom_30 rfl rfl ?_
  refine J_get C 3 1 rfl rfl i_X3_copyFrom_X3 (by decide) k_X3_copyFrom_18 rfl rfl dX3_copyFrom_31 ?_
  refine J_callV C (c_X1_copyFrom U m m2 sl bp mw mc hi lo ex sl2 bp2 mw2 mc2 hi2 lo2 ex2 ) gX3_copyFrom_X1_copyFrom (n := 1) rfl rfl rfl (by decide +kernel) ⟨Nat.le_of_ble_eq_true rfl, Nat.le_of_ble_eq_true rfl⟩ 2 rfl rfl rfl (rest := []) rfl (Nat.le_of_ble_eq_true rfl) [(a, .inr (3, [.ref v, .ref m, .int w, .int o, .int t])), (v, .inl (U.2.2.1 0, 6, .inl (upd (upd (upd (upd (upd (upd f 0 (f2 0)) 1 (f2 1)) 2 (f2 2)) 3 (f2 3)) 4 (f2 4)) 5 (f2 5)))), (m, .inr (1, [.int sl2, .int bp2, .int mw2, .int mc2, .int hi2, .int lo2, .int ex2])), (a2, .inr (3, [.ref v2, .ref m2, .int w2, .int o2, .int t2])), (v2, .inl (U.2.2.1 0, 6, .inl f2)), (m2, .inr (1, [.int sl2, .int bp2, .int mw2, .int mc2, .int hi2, .int lo2, .int ex2]))] [2, 5] [0, 1, 3, 4] [0, 1, 4, 2, 3, 5] (wr := [(a, .inr (3, [.ref v, .ref m, .int w, .int o, .int t])), (v, .inl (U.2.2.1 0, 6, .inl (upd (upd (upd (upd (upd (upd f 0 (f2 0)) 1 (f2 1)) 2 (f2 2)) 3 (f2 3)) 4 (f2 4)) 5 (f2 5)))), (a2, .inr (3, [.ref v2, .ref m2, .int w2, .int o2, .int t2])), (v2, .inl (U.2.2.1 0, 6, .inl f2))]) rfl rfl rfl rfl (by decide) rfl rfl  dX3_copyFrom_34 ⟨Nat.le_of_ble_eq_true rfl, Nat.le_of_ble_eq_true rfl⟩ [] rfl ?_
  refine J_aload_n C dX3_copyFrom_37 rfl rfl ?_
  refine J_aload_n C dX3_copyFrom_38 rfl rfl ?_
  refine J_get C 3 2 rfl rfl i_X3_copyFrom_X3 (by decide) k_X3_copyFrom_22 rfl rfl dX3_copyFrom_39 ?_
  refine J_put C tyX3 0 2 [(a, .inr (3, [.ref v, .ref m, .int w2, .int o, .int t])), (v, .inl (U.2.2.1 0, 6, .inl (upd (upd (upd (upd (upd (upd f 0 (f2 0)) 1 (f2 1)) 2 (f2 2)) 3 (f2 3)) 4 (f2 4)) 5 (f2 5)))), (m, .inr (1, [.int sl2, .int bp2, .int mw2, .int mc2, .int hi2, .int lo2, .int ex2])), (a2, .inr (3, [.ref v2, .ref m2, .int w2, .int o2, .int t2])), (v2, .inl (U.2.2.1 0, 6, .inl f2)), (m2, .inr (1, [.int sl2, .int bp2, .int mw2, .int mc2, .int hi2, .int lo2, .int ex2]))] rfl rfl i_X3_copyFrom_X3 tyX3_ok nmX3 (by decide) k_X3_copyFrom_22 rfl rfl rfl rfl (Nat.le_of_ble_eq_true rfl) rfl dX3_copyFrom_42 ?_
  refine J_aload_n C dX3_copyFrom_45 rfl rfl ?_
  refine J_aload_n C dX3_copyFrom_46 rfl rfl ?_
  refine J_get C 3 3 rfl rfl i_X3_copyFrom_X3 (by decide) k_X3_copyFrom_30 rfl rfl dX3_copyFrom_47 ?_
  refine J_put C tyX3 0 3 [(a, .inr (3, [.ref v, .ref m, .int w2, .int o2, .int t])), (v, .inl (U.2.2.1 0, 6, .inl (upd (upd (upd (upd (upd (upd f 0 (f2 0)) 1 (f2 1)) 2 (f2 2)) 3 (f2 3)) 4 (f2 4)) 5 (f2 5)))), (m, .inr (1, [.int sl2, .int bp2, .int mw2, .int mc2, .int hi2, .int lo2, .int ex2])), (a2, .inr (3, [.ref v2, .ref m2, .int w2, .int o2, .int t2])), (v2, .inl (U.2.2.1 0, 6, .inl f2)), (m2, .inr (1, [.int sl2, .int bp2, .int mw2, .int mc2, .int hi2, .int lo2, .int ex2]))] rfl rfl i_X3_copyFrom_X3 tyX3_ok nmX3 (by decide) k_X3_copyFrom_30 rfl rfl rfl rfl (Nat.le_of_ble_eq_true rfl) rfl dX3_copyFrom_50 ?_
  refine J_aload_n C dX3_copyFrom_53 rfl rfl ?_
  refine J_aload_n C dX3_copyFrom_54 rfl rfl ?_
  refine J_get C 3 4 rfl rfl i_X3_copyFrom_X3 (by decide) k_X3_copyFrom_33 rfl rfl dX3_copyFrom_55 ?_
  refine J_put C tyX3 0 4 [(a, .inr (3, [.ref v, .ref m, .int w2, .int o2, .int t2])), (v, .inl (U.2.2.1 0, 6, .inl (upd (upd (upd (upd (upd (upd f 0 (f2 0)) 1 (f2 1)) 2 (f2 2)) 3 (f2 3)) 4 (f2 4)) 5 (f2 5)))), (m, .inr (1, [.int sl2, .int bp2, .int mw2, .int mc2, .int hi2, .int lo2, .int ex2])), (a2, .inr (3, [.ref v2, .ref m2, .int w2, .int o2, .int t2])), (v2, .inl (U.2.2.1 0, 6, .inl f2)), (m2, .inr (1, [.int sl2, .int bp2, .int mw2, .int mc2, .int hi2, .int lo2, .int ex2]))] rfl rfl i_X3_copyFrom_X3 tyX3_ok nmX3 (by decide) k_X3_copyFrom_33 rfl rfl rfl rfl (Nat.le_of_ble_eq_true rfl) rfl dX3_copyFrom_58 ?_
  refine J_arr f2 1 [(a, .inr (3, [.ref v, .ref m, .int w2, .int o2, .int t2])), (v, .inl (U.2.2.1 0, 6, .inl f2)), (m, .inr (1, [.int sl2, .int bp2, .int mw2, .int mc2, .int hi2, .int lo2, .int ex2])), (a2, .inr (3, [.ref v2, .ref m2, .int w2, .int o2, .int t2])), (v2, .inl (U.2.2.1 0, 6, .inl f2)), (m2, .inr (1, [.int sl2, .int bp2, .int mw2, .int mc2, .int hi2, .int lo2, .int ex2]))] rfl (fun j hj => by rcases (show j = 0 ∨ j = 1 ∨ j = 2 ∨ j = 3 ∨ j = 4 ∨ j = 5 by omega) with rfl | rfl | rfl | rfl | rfl | rfl <;> rfl) rfl ?_
  exact J_vret C R dX3_copyFrom_61 (Nat.le_of_ble_eq_true rfl) (Nat.le_of_ble_eq_true rfl) rfl rfl
theorem k_X3_changeWidth_22 : Cond.fieldLink RX3 22 "BoothOtters$State" "width" "I" ∈ wsX3_changeWidth := List.mem_of_getElem? (i := 1) rfl
theorem i_X3_changeWidth_X3 : ∀ w ∈ wsX30, w ∈ wsX3_changeWidth := fun _ h => List.mem_cons_of_mem _ (List.mem_append_left _ (List.mem_append_right _ h))
theorem k_X3_changeWidth_9 : Cond.fieldLink RX3 9 "BoothOtters$State" "values" "[I" ∈ wsX3_changeWidth := List.mem_of_getElem? (i := 2) rfl
theorem k_X3_changeWidth_18 : Cond.fieldLink RX3 18 "BoothOtters$State" "multiplication" "LBoothOtters$Multiplication;" ∈ wsX3_changeWidth := List.mem_of_getElem? (i := 3) rfl
set_option maxHeartbeats 4000000 in
set_option maxRecDepth 100000 in
theorem c_X3_changeWidth (U : jU) (a v m : Nat) (f : Nat → Int32) (w o t sl bp mw mc hi lo ex : Int32) (p0 : Int32)  : Fn U yX3_changeWidth wsX3_changeWidth { frames := 1, cells := 0, slots := 0, locals := 22 } [.ref a, .int p0] [(a, .inr (3, [.ref v, .ref m, .int w, .int o, .int t])), (v, .inl (U.2.2.1 0, 6, .inl f)), (m, .inr (1, [.int sl, .int bp, .int mw, .int mc, .int hi, .int lo, .int ex]))] none [(a, .inr (3, [.ref v, .ref m, .int p0, .int o, .int t])), (v, .inl (U.2.2.1 0, 6, .inl (fun j => wrapF p0 (f j)))), (m, .inr (1, [.int (-1 : Int32), .int bp, .int mw, .int mc, .int hi, .int lo, .int ex]))] 0 0 := by
  refine Fn_of (cc := cX3_changeWidth) (maxL := 3) (ret := none) [some (.ref a), some (.int p0), none] (by decide +kernel) rfl (jcat rfl) (Nat.le_of_ble_eq_true rfl) rfl (fun k C R hin hnL => ?_)
  have hN : ∀ i, i < 3 → i < k.2.2.2.2.2.2.2.2.2.2.2.1 := fun i h => by rw [hnL]; exact h
  refine J_aload_n C dX3_changeWidth_0 rfl rfl ?_
  refine J_iload_n C dX3_changeWidth_1 rfl rfl ?_
  refine J_put C tyX3 0 2 [(a, .inr (3, [.ref v, .ref m, .int p0, .int o, .int t])), (v, .inl (U.2.2.1 0, 6, .inl f)), (m, .inr (1, [.int sl, .int bp, .int mw, .int mc, .int hi, .int lo, .int ex]))] rfl rfl i_X3_changeWidth_X3 tyX3_ok nmX3 (by decide) k_X3_changeWidth_22 rfl rfl rfl rfl (Nat.le_of_ble_eq_true rfl) rfl dX3_changeWidth_2 ?_
  refine J_iconst C (v := (0 : Int32)) dX3_changeWidth_5 (by decide) ?_
  refine J_istore_n C [some (.ref a), some (.int p0), some (.int (0 : Int32))] dX3_changeWidth_6 rfl (hN 2 (by decide)) rfl rfl ?_
  refine J_iload_n C dX3_changeWidth_7 rfl rfl ?_
  refine J_bipush C (v := (6 : Int32)) dX3_changeWidth_8 (by decide) ?_
  refine J_icmp_ge C 35 dX3_changeWidth_10 (by decide) (fun h => absurd h (by decide)) (fun _ => ?_)
  refine J_aload_n C dX3_changeWidth_13 rfl rfl ?_
  refine J_get C 0 0 rfl rfl i_X3_changeWidth_X3 (by decide) k_X3_changeWidth_9 rfl rfl dX3_changeWidth_14 ?_
  refine J_iload_n C dX3_changeWidth_17 rfl rfl ?_
  refine J_aload_n C dX3_changeWidth_18 rfl rfl ?_
  refine J_aload_n C dX3_changeWidth_19 rfl rfl ?_
  refine J_get C 0 0 rfl rfl i_X3_changeWidth_X3 (by decide) k_X3_changeWidth_9 rfl rfl dX3_changeWidth_20 ?_
  refine J_iload_n C dX3_changeWidth_23 rfl rfl ?_
  refine J_iald C 1 rfl (vpl n_0 (by decide) (by decide)) (congrArg f n_0) dX3_changeWidth_24 ?_
  refine J_callV C (c_X3_wrapped U a v m p0 o t (f 0) ) gX3_changeWidth_X3_wrapped (n := 1) rfl rfl rfl (by decide +kernel) ⟨Nat.le_of_ble_eq_true rfl, Nat.le_of_ble_eq_true rfl⟩ 0 rfl rfl rfl (rest := [.int (0 : Int32), .ref v]) rfl (Nat.le_of_ble_eq_true rfl) [(a, .inr (3, [.ref v, .ref m, .int p0, .int o, .int t])), (v, .inl (U.2.2.1 0, 6, .inl f)), (m, .inr (1, [.int sl, .int bp, .int mw, .int mc, .int hi, .int lo, .int ex]))] [0] [1, 2] [2, 0, 1] (wr := [(v, .inl (U.2.2.1 0, 6, .inl f)), (m, .inr (1, [.int sl, .int bp, .int mw, .int mc, .int hi, .int lo, .int ex]))]) rfl rfl rfl rfl (by decide) rfl rfl  dX3_changeWidth_25 ⟨Nat.le_of_ble_eq_true rfl, Nat.le_of_ble_eq_true rfl⟩ [.int (wrapF p0 (f 0)), .int (0 : Int32), .ref v] rfl ?_
  refine J_iast C 1 [(a, .inr (3, [.ref v, .ref m, .int p0, .int o, .int t])), (v, .inl (U.2.2.1 0, 6, .inl (upd f 0 (wrapF p0 (f 0))))), (m, .inr (1, [.int sl, .int bp, .int mw, .int mc, .int hi, .int lo, .int ex]))] rfl (vpl n_0 (by decide) (by decide)) (by rw [n_0]; rfl) dX3_changeWidth_28 ?_
  refine J_iinc C (v := (1 : Int32)) [some (.ref a), some (.int p0), some (.int (1 : Int32))] dX3_changeWidth_29 rfl (by decide) (hN 2 (by decide)) rfl rfl ?_
  refine J_goto C 7 dX3_changeWidth_32 (by decide) ?_
  refine J_iload_n C dX3_changeWidth_7 rfl rfl ?_
  refine J_bipush C (v := (6 : Int32)) dX3_changeWidth_8 (by decide) ?_
  refine J_icmp_ge C 35 dX3_changeWidth_10 (by decide) (fun h => absurd h (by decide)) (fun _ => ?_)
  refine J_aload_n C dX3_changeWidth_13 rfl rfl ?_
  refine J_get C 0 0 rfl rfl i_X3_changeWidth_X3 (by decide) k_X3_changeWidth_9 rfl rfl dX3_changeWidth_14 ?_
  refine J_iload_n C dX3_changeWidth_17 rfl rfl ?_
  refine J_aload_n C dX3_changeWidth_18 rfl rfl ?_
  refine J_aload_n C dX3_changeWidth_19 rfl rfl ?_
  refine J_get C 0 0 rfl rfl i_X3_changeWidth_X3 (by decide) k_X3_changeWidth_9 rfl rfl dX3_changeWidth_20 ?_
  refine J_iload_n C dX3_changeWidth_23 rfl rfl ?_
  refine J_iald C 1 rfl (vpl n_1 (by decide) (by decide)) (congrArg (upd f 0 (wrapF p0 (f 0))) n_1) dX3_changeWidth_24 ?_
  show J U k _ _ _ _ _ (.int (f 1) :: _)
  refine J_callV C (c_X3_wrapped U a v m p0 o t (f 1) ) gX3_changeWidth_X3_wrapped (n := 1) rfl rfl rfl (by decide +kernel) ⟨Nat.le_of_ble_eq_true rfl, Nat.le_of_ble_eq_true rfl⟩ 0 rfl rfl rfl (rest := [.int (1 : Int32), .ref v]) rfl (Nat.le_of_ble_eq_true rfl) [(a, .inr (3, [.ref v, .ref m, .int p0, .int o, .int t])), (v, .inl (U.2.2.1 0, 6, .inl (upd f 0 (wrapF p0 (f 0))))), (m, .inr (1, [.int sl, .int bp, .int mw, .int mc, .int hi, .int lo, .int ex]))] [0] [1, 2] [2, 0, 1] (wr := [(v, .inl (U.2.2.1 0, 6, .inl (upd f 0 (wrapF p0 (f 0))))), (m, .inr (1, [.int sl, .int bp, .int mw, .int mc, .int hi, .int lo, .int ex]))]) rfl rfl rfl rfl (by decide) rfl rfl  dX3_changeWidth_25 ⟨Nat.le_of_ble_eq_true rfl, Nat.le_of_ble_eq_true rfl⟩ [.int (wrapF p0 (f 1)), .int (1 : Int32), .ref v] rfl ?_
  refine J_iast C 1 [(a, .inr (3, [.ref v, .ref m, .int p0, .int o, .int t])), (v, .inl (U.2.2.1 0, 6, .inl (upd (upd f 0 (wrapF p0 (f 0))) 1 (wrapF p0 (f 1))))), (m, .inr (1, [.int sl, .int bp, .int mw, .int mc, .int hi, .int lo, .int ex]))] rfl (vpl n_1 (by decide) (by decide)) (by rw [n_1]; rfl) dX3_changeWidth_28 ?_
  refine J_iinc C (v := (2 : Int32)) [some (.ref a), some (.int p0), some (.int (2 : Int32))] dX3_changeWidth_29 rfl (by decide) (hN 2 (by decide)) rfl rfl ?_
  refine J_goto C 7 dX3_changeWidth_32 (by decide) ?_
  refine J_iload_n C dX3_changeWidth_7 rfl rfl ?_
  refine J_bipush C (v := (6 : Int32)) dX3_changeWidth_8 (by decide) ?_
  refine J_icmp_ge C 35 dX3_changeWidth_10 (by decide) (fun h => absurd h (by decide)) (fun _ => ?_)
  refine J_aload_n C dX3_changeWidth_13 rfl rfl ?_
  refine J_get C 0 0 rfl rfl i_X3_changeWidth_X3 (by decide) k_X3_changeWidth_9 rfl rfl dX3_changeWidth_14 ?_
  refine J_iload_n C dX3_changeWidth_17 rfl rfl ?_
  refine J_aload_n C dX3_changeWidth_18 rfl rfl ?_
  refine J_aload_n C dX3_changeWidth_19 rfl rfl ?_
  refine J_get C 0 0 rfl rfl i_X3_changeWidth_X3 (by decide) k_X3_changeWidth_9 rfl rfl dX3_changeWidth_20 ?_
  refine J_iload_n C dX3_changeWidth_23 rfl rfl ?_
  refine J_iald C 1 rfl (vpl n_2 (by decide) (by decide)) (congrArg (upd (upd f 0 (wrapF p0 (f 0))) 1 (wrapF p0 (f 1))) n_2) dX3_changeWidth_24 ?_
  show J U k _ _ _ _ _ (.int (f 2) :: _)
  refine J_callV C (c_X3_wrapped U a v m p0 o t (f 2) ) gX3_changeWidth_X3_wrapped (n := 1) rfl rfl rfl (by decide +kernel) ⟨Nat.le_of_ble_eq_true rfl, Nat.le_of_ble_eq_true rfl⟩ 0 rfl rfl rfl (rest := [.int (2 : Int32), .ref v]) rfl (Nat.le_of_ble_eq_true rfl) [(a, .inr (3, [.ref v, .ref m, .int p0, .int o, .int t])), (v, .inl (U.2.2.1 0, 6, .inl (upd (upd f 0 (wrapF p0 (f 0))) 1 (wrapF p0 (f 1))))), (m, .inr (1, [.int sl, .int bp, .int mw, .int mc, .int hi, .int lo, .int ex]))] [0] [1, 2] [2, 0, 1] (wr := [(v, .inl (U.2.2.1 0, 6, .inl (upd (upd f 0 (wrapF p0 (f 0))) 1 (wrapF p0 (f 1))))), (m, .inr (1, [.int sl, .int bp, .int mw, .int mc, .int hi, .int lo, .int ex]))]) rfl rfl rfl rfl (by decide) rfl rfl  dX3_changeWidth_25 ⟨Nat.le_of_ble_eq_true rfl, Nat.le_of_ble_eq_true rfl⟩ [.int (wrapF p0 (f 2)), .int (2 : Int32), .ref v] rfl ?_
  refine J_iast C 1 [(a, .inr (3, [.ref v, .ref m, .int p0, .int o, .int t])), (v, .inl (U.2.2.1 0, 6, .inl (upd (upd (upd f 0 (wrapF p0 (f 0))) 1 (wrapF p0 (f 1))) 2 (wrapF p0 (f 2))))), (m, .inr (1, [.int sl, .int bp, .int mw, .int mc, .int hi, .int lo, .int ex]))] rfl (vpl n_2 (by decide) (by decide)) (by rw [n_2]; rfl) dX3_changeWidth_28 ?_
  refine J_iinc C (v := (3 : Int32)) [some (.ref a), some (.int p0), some (.int (3 : Int32))] dX3_changeWidth_29 rfl (by decide) (hN 2 (by decide)) rfl rfl ?_
  refine J_goto C 7 dX3_changeWidth_32 (by decide) ?_
  refine J_iload_n C dX3_changeWidth_7 rfl rfl ?_
  refine J_bipush C (v := (6 : Int32)) dX3_changeWidth_8 (by decide) ?_
  refine J_icmp_ge C 35 dX3_changeWidth_10 (by decide) (fun h => absurd h (by decide)) (fun _ => ?_)
  refine J_aload_n C dX3_changeWidth_13 rfl rfl ?_
  refine J_get C 0 0 rfl rfl i_X3_changeWidth_X3 (by decide) k_X3_changeWidth_9 rfl rfl dX3_changeWidth_14 ?_
  refine J_iload_n C dX3_changeWidth_17 rfl rfl ?_
  refine J_aload_n C dX3_changeWidth_18 rfl rfl ?_
  refine J_aload_n C dX3_changeWidth_19 rfl rfl ?_
  refine J_get C 0 0 rfl rfl i_X3_changeWidth_X3 (by decide) k_X3_changeWidth_9 rfl rfl dX3_changeWidth_20 ?_
  refine J_iload_n C dX3_changeWidth_23 rfl rfl ?_
  refine J_iald C 1 rfl (vpl n_3 (by decide) (by decide)) (congrArg (upd (upd (upd f 0 (wrapF p0 (f 0))) 1 (wrapF p0 (f 1))) 2 (wrapF p0 (f 2))) n_3) dX3_changeWidth_24 ?_
  show J U k _ _ _ _ _ (.int (f 3) :: _)
  refine J_callV C (c_X3_wrapped U a v m p0 o t (f 3) ) gX3_changeWidth_X3_wrapped (n := 1) rfl rfl rfl (by decide +kernel) ⟨Nat.le_of_ble_eq_true rfl, Nat.le_of_ble_eq_true rfl⟩ 0 rfl rfl rfl (rest := [.int (3 : Int32), .ref v]) rfl (Nat.le_of_ble_eq_true rfl) [(a, .inr (3, [.ref v, .ref m, .int p0, .int o, .int t])), (v, .inl (U.2.2.1 0, 6, .inl (upd (upd (upd f 0 (wrapF p0 (f 0))) 1 (wrapF p0 (f 1))) 2 (wrapF p0 (f 2))))), (m, .inr (1, [.int sl, .int bp, .int mw, .int mc, .int hi, .int lo, .int ex]))] [0] [1, 2] [2, 0, 1] (wr := [(v, .inl (U.2.2.1 0, 6, .inl (upd (upd (upd f 0 (wrapF p0 (f 0))) 1 (wrapF p0 (f 1))) 2 (wrapF p0 (f 2))))), (m, .inr (1, [.int sl, .int bp, .int mw, .int mc, .int hi, .int lo, .int ex]))]) rfl rfl rfl rfl (by decide) rfl rfl  dX3_changeWidth_25 ⟨Nat.le_of_ble_eq_true rfl, Nat.le_of_ble_eq_true rfl⟩ [.int (wrapF p0 (f 3)), .int (3 : Int32), .ref v] rfl ?_
  refine J_iast C 1 [(a, .inr (3, [.ref v, .ref m, .int p0, .int o, .int t])), (v, .inl (U.2.2.1 0, 6, .inl (upd (upd (upd (upd f 0 (wrapF p0 (f 0))) 1 (wrapF p0 (f 1))) 2 (wrapF p0 (f 2))) 3 (wrapF p0 (f 3))))), (m, .inr (1, [.int sl, .int bp, .int mw, .int mc, .int hi, .int lo, .int ex]))] rfl (vpl n_3 (by decide) (by decide)) (by rw [n_3]; rfl) dX3_changeWidth_28 ?_
  refine J_iinc C (v := (4 : Int32)) [some (.ref a), some (.int p0), some (.int (4 : Int32))] dX3_changeWidth_29 rfl (by decide) (hN 2 (by decide)) rfl rfl ?_
  refine J_goto C 7 dX3_changeWidth_32 (by decide) ?_
  refine J_iload_n C dX3_changeWidth_7 rfl rfl ?_
  refine J_bipush C (v := (6 : Int32)) dX3_changeWidth_8 (by decide) ?_
  refine J_icmp_ge C 35 dX3_changeWidth_10 (by decide) (fun h => absurd h (by decide)) (fun _ => ?_)
  refine J_aload_n C dX3_changeWidth_13 rfl rfl ?_
  refine J_get C 0 0 rfl rfl i_X3_changeWidth_X3 (by decide) k_X3_changeWidth_9 rfl rfl dX3_changeWidth_14 ?_
  refine J_iload_n C dX3_changeWidth_17 rfl rfl ?_
  refine J_aload_n C dX3_changeWidth_18 rfl rfl ?_
  refine J_aload_n C dX3_changeWidth_19 rfl rfl ?_
  refine J_get C 0 0 rfl rfl i_X3_changeWidth_X3 (by decide) k_X3_changeWidth_9 rfl rfl dX3_changeWidth_20 ?_
  refine J_iload_n C dX3_changeWidth_23 rfl rfl ?_
  refine J_iald C 1 rfl (vpl n_4 (by decide) (by decide)) (congrArg (upd (upd (upd (upd f 0 (wrapF p0 (f 0))) 1 (wrapF p0 (f 1))) 2 (wrapF p0 (f 2))) 3 (wrapF p0 (f 3))) n_4) dX3_changeWidth_24 ?_
  refine J_callV C (c_X3_wrapped U a v m p0 o t ((upd (upd (upd (upd f 0 (wrapF p0 (f 0))) 1 (wrapF p0 (f 1))) 2 (wrapF p0 (f 2))) 3 (wrapF p0 (f 3))) 4) ) gX3_changeWidth_X3_wrapped (n := 1) rfl rfl rfl (by decide +kernel) ⟨Nat.le_of_ble_eq_true rfl, Nat.le_of_ble_eq_true rfl⟩ 0 rfl rfl rfl (rest := [.int (4 : Int32), .ref v]) rfl (Nat.le_of_ble_eq_true rfl) [(a, .inr (3, [.ref v, .ref m, .int p0, .int o, .int t])), (v, .inl (U.2.2.1 0, 6, .inl (upd (upd (upd (upd f 0 (wrapF p0 (f 0))) 1 (wrapF p0 (f 1))) 2 (wrapF p0 (f 2))) 3 (wrapF p0 (f 3))))), (m, .inr (1, [.int sl, .int bp, .int mw, .int mc, .int hi, .int lo, .int ex]))] [0] [1, 2] [2, 0, 1] (wr := [(v, .inl (U.2.2.1 0, 6, .inl (upd (upd (upd (upd f 0 (wrapF p0 (f 0))) 1 (wrapF p0 (f 1))) 2 (wrapF p0 (f 2))) 3 (wrapF p0 (f 3))))), (m, .inr (1, [.int sl, .int bp, .int mw, .int mc, .int hi, .int lo, .int ex]))]) rfl rfl rfl rfl (by decide) rfl rfl  dX3_changeWidth_25 ⟨Nat.le_of_ble_eq_true rfl, Nat.le_of_ble_eq_true rfl⟩ [.int (wrapF p0 ((upd (upd (upd (upd f 0 (wrapF p0 (f 0))) 1 (wrapF p0 (f 1))) 2 (wrapF p0 (f 2))) 3 (wrapF p0 (f 3))) 4)), .int (4 : Int32), .ref v] rfl ?_
  refine J_iast C 1 [(a, .inr (3, [.ref v, .ref m, .int p0, .int o, .int t])), (v, .inl (U.2.2.1 0, 6, .inl (upd (upd (upd (upd (upd f 0 (wrapF p0 (f 0))) 1 (wrapF p0 (f 1))) 2 (wrapF p0 (f 2))) 3 (wrapF p0 (f 3))) 4 (wrapF p0 ((upd (upd (upd (upd f 0 (wrapF p0 (f 0))) 1 (wrapF p0 (f 1))) 2 (wrapF p0 (f 2))) 3 (wrapF p0 (f 3))) 4))))), (m, .inr (1, [.int sl, .int bp, .int mw, .int mc, .int hi, .int lo, .int ex]))] rfl (vpl n_4 (by decide) (by decide)) (by rw [n_4]; rfl) dX3_changeWidth_28 ?_
  refine J_iinc C (v := (5 : Int32)) [some (.ref a), some (.int p0), some (.int (5 : Int32))] dX3_changeWidth_29 rfl (by decide) (hN 2 (by decide)) rfl rfl ?_
  refine J_goto C 7 dX3_changeWidth_32 (by decide) ?_
  refine J_iload_n C dX3_changeWidth_7 rfl rfl ?_
  refine J_bipush C (v := (6 : Int32)) dX3_changeWidth_8 (by decide) ?_
  refine J_icmp_ge C 35 dX3_changeWidth_10 (by decide) (fun h => absurd h (by decide)) (fun _ => ?_)
  refine J_aload_n C dX3_changeWidth_13 rfl rfl ?_
  refine J_get C 0 0 rfl rfl i_X3_changeWidth_X3 (by decide) k_X3_changeWidth_9 rfl rfl dX3_changeWidth_14 ?_
  refine J_iload_n C dX3_changeWidth_17 rfl rfl ?_
  refine J_aload_n C dX3_changeWidth_18 rfl rfl ?_
  refine J_aload_n C dX3_changeWidth_19 rfl rfl ?_
  refine J_get C 0 0 rfl rfl i_X3_changeWidth_X3 (by decide) k_X3_changeWidth_9 rfl rfl dX3_changeWidth_20 ?_
  refine J_iload_n C dX3_changeWidth_23 rfl rfl ?_
  refine J_iald C 1 rfl (vpl n_5 (by decide) (by decide)) (congrArg (upd (upd (upd (upd (upd f 0 (wrapF p0 (f 0))) 1 (wrapF p0 (f 1))) 2 (wrapF p0 (f 2))) 3 (wrapF p0 (f 3))) 4 (wrapF p0 ((upd (upd (upd (upd f 0 (wrapF p0 (f 0))) 1 (wrapF p0 (f 1))) 2 (wrapF p0 (f 2))) 3 (wrapF p0 (f 3))) 4))) n_5) dX3_changeWidth_24 ?_
  refine J_callV C (c_X3_wrapped U a v m p0 o t ((upd (upd (upd (upd (upd f 0 (wrapF p0 (f 0))) 1 (wrapF p0 (f 1))) 2 (wrapF p0 (f 2))) 3 (wrapF p0 (f 3))) 4 (wrapF p0 ((upd (upd (upd (upd f 0 (wrapF p0 (f 0))) 1 (wrapF p0 (f 1))) 2 (wrapF p0 (f 2))) 3 (wrapF p0 (f 3))) 4))) 5) ) gX3_changeWidth_X3_wrapped (n := 1) rfl rfl rfl (by decide +kernel) ⟨Nat.le_of_ble_eq_true rfl, Nat.le_of_ble_eq_true rfl⟩ 0 rfl rfl rfl (rest := [.int (5 : Int32), .ref v]) rfl (Nat.le_of_ble_eq_true rfl) [(a, .inr (3, [.ref v, .ref m, .int p0, .int o, .int t])), (v, .inl (U.2.2.1 0, 6, .inl (upd (upd (upd (upd (upd f 0 (wrapF p0 (f 0))) 1 (wrapF p0 (f 1))) 2 (wrapF p0 (f 2))) 3 (wrapF p0 (f 3))) 4 (wrapF p0 ((upd (upd (upd (upd f 0 (wrapF p0 (f 0))) 1 (wrapF p0 (f 1))) 2 (wrapF p0 (f 2))) 3 (wrapF p0 (f 3))) 4))))), (m, .inr (1, [.int sl, .int bp, .int mw, .int mc, .int hi, .int lo, .int ex]))] [0] [1, 2] [2, 0, 1] (wr := [(v, .inl (U.2.2.1 0, 6, .inl (upd (upd (upd (upd (upd f 0 (wrapF p0 (f 0))) 1 (wrapF p0 (f 1))) 2 (wrapF p0 (f 2))) 3 (wrapF p0 (f 3))) 4 (wrapF p0 ((upd (upd (upd (upd f 0 (wrapF p0 (f 0))) 1 (wrapF p0 (f 1))) 2 (wrapF p0 (f 2))) 3 (wrapF p0 (f 3))) 4))))), (m, .inr (1, [.int sl, .int bp, .int mw, .int mc, .int hi, .int lo, .int ex]))]) rfl rfl rfl rfl (by decide) rfl rfl  dX3_changeWidth_25 ⟨Nat.le_of_ble_eq_true rfl, Nat.le_of_ble_eq_true rfl⟩ [.int (wrapF p0 ((upd (upd (upd (upd (upd f 0 (wrapF p0 (f 0))) 1 (wrapF p0 (f 1))) 2 (wrapF p0 (f 2))) 3 (wrapF p0 (f 3))) 4 (wrapF p0 ((upd (upd (upd (upd f 0 (wrapF p0 (f 0))) 1 (wrapF p0 (f 1))) 2 (wrapF p0 (f 2))) 3 (wrapF p0 (f 3))) 4))) 5)), .int (5 : Int32), .ref v] rfl ?_
  refine J_iast C 1 [(a, .inr (3, [.ref v, .ref m, .int p0, .int o, .int t])), (v, .inl (U.2.2.1 0, 6, .inl (upd (upd (upd (upd (upd (upd f 0 (wrapF p0 (f 0))) 1 (wrapF p0 (f 1))) 2 (wrapF p0 (f 2))) 3 (wrapF p0 (f 3))) 4 (wrapF p0 ((upd (upd (upd (upd f 0 (wrapF p0 (f 0))) 1 (wrapF p0 (f 1))) 2 (wrapF p0 (f 2))) 3 (wrapF p0 (f 3))) 4))) 5 (wrapF p0 ((upd (upd (upd (upd (upd f 0 (wrapF p0 (f 0))) 1 (wrapF p0 (f 1))) 2 (wrapF p0 (f 2))) 3 (wrapF p0 (f 3))) 4 (wrapF p0 ((upd (upd (upd (upd f 0 (wrapF p0 (f 0))) 1 (wrapF p0 (f 1))) 2 (wrapF p0 (f 2))) 3 (wrapF p0 (f 3))) 4))) 5))))), (m, .inr (1, [.int sl, .int bp, .int mw, .int mc, .int hi, .int lo, .int ex]))] rfl (vpl n_5 (by decide) (by decide)) (by rw [n_5]; rfl) dX3_changeWidth_28 ?_
  refine J_iinc C (v := (6 : Int32)) [some (.ref a), some (.int p0), some (.int (6 : Int32))] dX3_changeWidth_29 rfl (by decide) (hN 2 (by decide)) rfl rfl ?_
  refine J_goto C 7 dX3_changeWidth_32 (by decide) ?_
  refine J_iload_n C dX3_changeWidth_7 rfl rfl ?_
  refine J_bipush C (v := (6 : Int32)) dX3_changeWidth_8 (by decide) ?_
  refine J_icmp_ge C 35 dX3_changeWidth_10 (by decide) (fun _ => ?_) (fun h => absurd (by decide) h)
  refine J_aload_n C dX3_changeWidth_35 rfl rfl ?_
  refine J_get C 0 1 rfl rfl i_X3_changeWidth_X3 (by decide) k_X3_changeWidth_18 rfl rfl dX3_changeWidth_36 ?_
  refine J_callV C (c_X1_giveUp U m sl bp mw mc hi lo ex ) gX3_changeWidth_X1_giveUp (n := 0) rfl rfl rfl (by decide +kernel) ⟨Nat.le_of_ble_eq_true rfl, Nat.le_of_ble_eq_true rfl⟩ 2 rfl rfl rfl (rest := []) rfl (Nat.le_of_ble_eq_true rfl) [(a, .inr (3, [.ref v, .ref m, .int p0, .int o, .int t])), (v, .inl (U.2.2.1 0, 6, .inl (upd (upd (upd (upd (upd (upd f 0 (wrapF p0 (f 0))) 1 (wrapF p0 (f 1))) 2 (wrapF p0 (f 2))) 3 (wrapF p0 (f 3))) 4 (wrapF p0 ((upd (upd (upd (upd f 0 (wrapF p0 (f 0))) 1 (wrapF p0 (f 1))) 2 (wrapF p0 (f 2))) 3 (wrapF p0 (f 3))) 4))) 5 (wrapF p0 ((upd (upd (upd (upd (upd f 0 (wrapF p0 (f 0))) 1 (wrapF p0 (f 1))) 2 (wrapF p0 (f 2))) 3 (wrapF p0 (f 3))) 4 (wrapF p0 ((upd (upd (upd (upd f 0 (wrapF p0 (f 0))) 1 (wrapF p0 (f 1))) 2 (wrapF p0 (f 2))) 3 (wrapF p0 (f 3))) 4))) 5))))), (m, .inr (1, [.int (-1 : Int32), .int bp, .int mw, .int mc, .int hi, .int lo, .int ex]))] [2] [0, 1] [0, 1, 2] (wr := [(a, .inr (3, [.ref v, .ref m, .int p0, .int o, .int t])), (v, .inl (U.2.2.1 0, 6, .inl (upd (upd (upd (upd (upd (upd f 0 (wrapF p0 (f 0))) 1 (wrapF p0 (f 1))) 2 (wrapF p0 (f 2))) 3 (wrapF p0 (f 3))) 4 (wrapF p0 ((upd (upd (upd (upd f 0 (wrapF p0 (f 0))) 1 (wrapF p0 (f 1))) 2 (wrapF p0 (f 2))) 3 (wrapF p0 (f 3))) 4))) 5 (wrapF p0 ((upd (upd (upd (upd (upd f 0 (wrapF p0 (f 0))) 1 (wrapF p0 (f 1))) 2 (wrapF p0 (f 2))) 3 (wrapF p0 (f 3))) 4 (wrapF p0 ((upd (upd (upd (upd f 0 (wrapF p0 (f 0))) 1 (wrapF p0 (f 1))) 2 (wrapF p0 (f 2))) 3 (wrapF p0 (f 3))) 4))) 5)))))]) rfl rfl rfl rfl (by decide) rfl rfl  dX3_changeWidth_39 ⟨Nat.le_of_ble_eq_true rfl, Nat.le_of_ble_eq_true rfl⟩ [] rfl ?_
  refine J_arr (fun j => wrapF p0 (f j)) 1 [(a, .inr (3, [.ref v, .ref m, .int p0, .int o, .int t])), (v, .inl (U.2.2.1 0, 6, .inl (fun j => wrapF p0 (f j)))), (m, .inr (1, [.int (-1 : Int32), .int bp, .int mw, .int mc, .int hi, .int lo, .int ex]))] rfl (fun j hj => by rcases (show j = 0 ∨ j = 1 ∨ j = 2 ∨ j = 3 ∨ j = 4 ∨ j = 5 by omega) with rfl | rfl | rfl | rfl | rfl | rfl <;> rfl) rfl ?_
  exact J_vret C R dX3_changeWidth_42 (Nat.le_of_ble_eq_true rfl) (Nat.le_of_ble_eq_true rfl) rfl rfl
theorem k_X3_makeStep_33 : Cond.fieldLink RX3 33 "BoothOtters$State" "stepsMade" "I" ∈ wsX3_makeStep := List.mem_of_getElem? (i := 1) rfl
theorem i_X3_makeStep_X3 : ∀ w ∈ wsX30, w ∈ wsX3_makeStep := fun _ h => List.mem_cons_of_mem _ (List.mem_append_left _ (List.mem_append_right _ h))
theorem k_X3_makeStep_18 : Cond.fieldLink RX3 18 "BoothOtters$State" "multiplication" "LBoothOtters$Multiplication;" ∈ wsX3_makeStep := List.mem_of_getElem? (i := 2) rfl
set_option maxHeartbeats 4000000 in
set_option maxRecDepth 100000 in
theorem c_X3_makeStep (U : jU) (a v m : Nat) (f : Nat → Int32) (w o t sl bp mw mc hi lo ex : Int32)  : Fn U yX3_makeStep wsX3_makeStep { frames := 3, cells := 0, slots := 0, locals := 63 } [.ref a] [(a, .inr (3, [.ref v, .ref m, .int w, .int o, .int t])), (v, .inl (U.2.2.1 0, 6, .inl f)), (m, .inr (1, [.int sl, .int bp, .int mw, .int mc, .int hi, .int lo, .int ex]))] (some (.int (ndF bp lo ex))) [(a, .inr (3, [.ref v, .ref m, .int w, .int o, .int (t + 1)])), (v, .inl (U.2.2.1 0, 6, .inl f)), (m, .inr (1, [.int (sl - 1), .int bp, .int mw, .int mc, .int (hiF bp mc hi lo ex >>> (bp &&& 31)), .int (loF bp mw mc hi lo ex), .int (bitF lo (bp - 1))]))] 0 0 := by
  refine Fn_of (cc := cX3_makeStep) (maxL := 1) (ret := (some .int)) [some (.ref a)] (by decide +kernel) rfl (jcat rfl) (Nat.le_of_ble_eq_true rfl) rfl (fun k C R hin hnL => ?_)
  have hN : ∀ i, i < 1 → i < k.2.2.2.2.2.2.2.2.2.2.2.1 := fun i h => by rw [hnL]; exact h
  refine J_aload_n C dX3_makeStep_0 rfl rfl ?_
  refine J_dup C dX3_makeStep_1 rfl ?_
  refine J_get C 0 4 rfl rfl i_X3_makeStep_X3 (by decide) k_X3_makeStep_33 rfl rfl dX3_makeStep_2 ?_
  refine J_iconst C (v := (1 : Int32)) dX3_makeStep_5 (by decide) ?_
  refine J_iadd C (v := t + (1 : Int32)) dX3_makeStep_6 rfl ?_
  refine J_put C tyX3 0 4 [(a, .inr (3, [.ref v, .ref m, .int w, .int o, .int (t + (1 : Int32))])), (v, .inl (U.2.2.1 0, 6, .inl f)), (m, .inr (1, [.int sl, .int bp, .int mw, .int mc, .int hi, .int lo, .int ex]))] rfl rfl i_X3_makeStep_X3 tyX3_ok nmX3 (by decide) k_X3_makeStep_33 rfl rfl rfl rfl (Nat.le_of_ble_eq_true rfl) rfl dX3_makeStep_7 ?_
  refine J_aload_n C dX3_makeStep_10 rfl rfl ?_
  refine J_get C 0 1 rfl rfl i_X3_makeStep_X3 (by decide) k_X3_makeStep_18 rfl rfl dX3_makeStep_11 ?_
  refine J_callV C (c_X1_makeStep U m sl bp mw mc hi lo ex ) gX3_makeStep_X1_makeStep (n := 0) rfl rfl rfl (by decide +kernel) ⟨Nat.le_of_ble_eq_true rfl, Nat.le_of_ble_eq_true rfl⟩ 2 rfl rfl rfl (rest := []) rfl (Nat.le_of_ble_eq_true rfl) [(a, .inr (3, [.ref v, .ref m, .int w, .int o, .int (t + (1 : Int32))])), (v, .inl (U.2.2.1 0, 6, .inl f)), (m, .inr (1, [.int (sl - 1), .int bp, .int mw, .int mc, .int (hiF bp mc hi lo ex >>> (bp &&& 31)), .int (loF bp mw mc hi lo ex), .int (bitF lo (bp - 1))]))] [2] [0, 1] [0, 1, 2] (wr := [(a, .inr (3, [.ref v, .ref m, .int w, .int o, .int (t + (1 : Int32))])), (v, .inl (U.2.2.1 0, 6, .inl f))]) rfl rfl rfl rfl (by decide) rfl rfl  dX3_makeStep_14 ⟨Nat.le_of_ble_eq_true rfl, Nat.le_of_ble_eq_true rfl⟩ [.int (ndF bp lo ex)] rfl ?_
  exact J_iret C R dX3_makeStep_17 (Nat.le_of_ble_eq_true rfl) (Nat.le_of_ble_eq_true rfl) rfl rfl
