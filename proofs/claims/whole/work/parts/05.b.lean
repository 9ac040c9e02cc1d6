set_option maxHeartbeats 4000000 in
set_option maxRecDepth 100000 in
theorem c_L_digitAt_no3 (U : jU) (b a h sa pa ta : Nat) (tk : Int32) (v m : Nat) (w o t : Int32) (p0 p1 p2 : Int32) (yo : Nat) (go : Nat → Int64) (v_1 : isReg p0) (v_2 : isRec p1) (v_3 : ¬ p2 < 0) (v_4 : ¬ p2 < dcntF p1 w) : Fn U yL_digitAt wsL_digitAt { frames := 8, cells := 1, slots := 6, locals := 134 } [.ref b, .int p0, .int p1, .int p2, .ref yo] [(b, .inr (5, [.ref a, .ref h, .ref sa, .int tk, .ref pa, .ref ta])), (a, .inr (3, [.ref v, .ref m, .int w, .int o, .int t])), (yo, .inl (U.2.2.1 2, 1, .inr (.inl go)))] (some (.int (1 : Int32))) [(b, .inr (5, [.ref a, .ref h, .ref sa, .int tk, .ref pa, .ref ta])), (a, .inr (3, [.ref v, .ref m, .int w, .int o, .int t])), (yo, .inl (U.2.2.1 2, 1, .inr (.inl go)))] 1 6 := by
  refine FnW_of (cc := cL_digitAt) (maxL := 6) (ret := (some .int)) [some (.ref b), some (.int p0), some (.int p1), some (.int p2), some (.ref yo), none] (by decide +kernel) rfl (jcat rfl) (Nat.le_of_ble_eq_true rfl) rfl (fun k C R tab hnL => ?_)
  have hN : ∀ i, i < 6 → i < k.2.2.2.2.2.2.2.2.2.2.2.1 := fun i h => by rw [hnL]; exact h
  refine J_aload C dL_digitAt_0 rfl ?_
  refine J_iconst C (v := (0 : Int32)) dL_digitAt_2 (by decide) ?_
  refine J_aload_n C dL_digitAt_3 rfl rfl ?_
  refine J_iload_n C dL_digitAt_4 rfl rfl ?_
  refine J_iload_n C dL_digitAt_5 rfl rfl ?_
  refine J_iload_n C dL_digitAt_6 rfl rfl ?_
  refine J_callXV C (c_X5_digitAt_no3 U b a h sa pa ta tk v m w o t p0 p1 p2 v_1 v_2 v_3 v_4) gL_digitAt_X5_digitAt (n := 3) rfl rfl rfl (by decide +kernel) ⟨Nat.le_of_ble_eq_true rfl, Nat.le_of_ble_eq_true rfl⟩ 0 rfl rfl rfl (rest := [.int (0 : Int32), .ref yo]) rfl (Nat.le_of_ble_eq_true rfl) [(b, .inr (5, [.ref a, .ref h, .ref sa, .int tk, .ref pa, .ref ta])), (a, .inr (3, [.ref v, .ref m, .int w, .int o, .int t])), (yo, .inl (U.2.2.1 2, 1, .inr (.inl go)))] [0, 1] [2] [1, 2, 0] (wr := [(yo, .inl (U.2.2.1 2, 1, .inr (.inl go)))]) rfl rfl rfl rfl (by decide) rfl rfl dL_digitAt_7 ⟨Nat.le_of_ble_eq_true rfl, Nat.le_of_ble_eq_true rfl⟩ ?_
  refine JX_catch C tab [] (0, 12, 15, 19) [(0, 12, 19, 13), (0, 12, 23, 25)] rfl (fun z hz => absurd hz List.not_mem_nil) (by decide) (by decide) (by decide) (List.mem_of_getElem? (i := 1) rfl) (fun q_x => ?_)
  refine J_astore C [some (.ref b), some (.int p0), some (.int p1), some (.int p2), some (.ref yo), some (.ref q_x)] dL_digitAt_15 (hN 5 (by decide)) rfl ?_
  refine J_iconst C (v := (1 : Int32)) dL_digitAt_17 (by decide) ?_
  exact J_iret C R dL_digitAt_18 (Nat.le_of_ble_eq_true rfl) (Nat.le_of_ble_eq_true rfl) rfl rfl
set_option maxHeartbeats 4000000 in
set_option maxRecDepth 100000 in
theorem c_L_digitAt_no4 (U : jU) (b a h sa pa ta : Nat) (tk : Int32) (v m : Nat) (w o t : Int32) (p0 p1 p2 : Int32) (yo : Nat) (go : Nat → Int64) (v_1 : isReg p0) (v_2 : ¬ isRec p1) : Fn U yL_digitAt wsL_digitAt { frames := 8, cells := 1, slots := 6, locals := 134 } [.ref b, .int p0, .int p1, .int p2, .ref yo] [(b, .inr (5, [.ref a, .ref h, .ref sa, .int tk, .ref pa, .ref ta])), (a, .inr (3, [.ref v, .ref m, .int w, .int o, .int t])), (yo, .inl (U.2.2.1 2, 1, .inr (.inl go)))] (some (.int (2 : Int32))) [(b, .inr (5, [.ref a, .ref h, .ref sa, .int tk, .ref pa, .ref ta])), (a, .inr (3, [.ref v, .ref m, .int w, .int o, .int t])), (yo, .inl (U.2.2.1 2, 1, .inr (.inl go)))] 1 6 := by
  refine FnW_of (cc := cL_digitAt) (maxL := 6) (ret := (some .int)) [some (.ref b), some (.int p0), some (.int p1), some (.int p2), some (.ref yo), none] (by decide +kernel) rfl (jcat rfl) (Nat.le_of_ble_eq_true rfl) rfl (fun k C R tab hnL => ?_)
  have hN : ∀ i, i < 6 → i < k.2.2.2.2.2.2.2.2.2.2.2.1 := fun i h => by rw [hnL]; exact h
  refine J_aload C dL_digitAt_0 rfl ?_
  refine J_iconst C (v := (0 : Int32)) dL_digitAt_2 (by decide) ?_
  refine J_aload_n C dL_digitAt_3 rfl rfl ?_
  refine J_iload_n C dL_digitAt_4 rfl rfl ?_
  refine J_iload_n C dL_digitAt_5 rfl rfl ?_
  refine J_iload_n C dL_digitAt_6 rfl rfl ?_
  refine J_callXV C (c_X5_digitAt_no4 U b a h sa pa ta tk v m w o t p0 p1 p2 v_1 v_2) gL_digitAt_X5_digitAt (n := 3) rfl rfl rfl (by decide +kernel) ⟨Nat.le_of_ble_eq_true rfl, Nat.le_of_ble_eq_true rfl⟩ 0 rfl rfl rfl (rest := [.int (0 : Int32), .ref yo]) rfl (Nat.le_of_ble_eq_true rfl) [(b, .inr (5, [.ref a, .ref h, .ref sa, .int tk, .ref pa, .ref ta])), (a, .inr (3, [.ref v, .ref m, .int w, .int o, .int t])), (yo, .inl (U.2.2.1 2, 1, .inr (.inl go)))] [0, 1] [2] [1, 2, 0] (wr := [(yo, .inl (U.2.2.1 2, 1, .inr (.inl go)))]) rfl rfl rfl rfl (by decide) rfl rfl dL_digitAt_7 ⟨Nat.le_of_ble_eq_true rfl, Nat.le_of_ble_eq_true rfl⟩ ?_
  refine JX_catch C tab [(0, 12, 15, 19)] (0, 12, 19, 13) [(0, 12, 23, 25)] rfl (by intro z hz; simp only [List.mem_cons, List.not_mem_nil, or_false] at hz; rcases hz with rfl <;> first | exact ⟨by decide, "java/lang/IndexOutOfBoundsException", (List.mem_of_getElem? (i := 1) rfl), by decide, by decide⟩) (by decide) (by decide) (by decide) (List.mem_of_getElem? (i := 2) rfl) (fun q_x => ?_)
  refine J_astore C [some (.ref b), some (.int p0), some (.int p1), some (.int p2), some (.ref yo), some (.ref q_x)] dL_digitAt_19 (hN 5 (by decide)) rfl ?_
  refine J_iconst C (v := (2 : Int32)) dL_digitAt_21 (by decide) ?_
  exact J_iret C R dL_digitAt_22 (Nat.le_of_ble_eq_true rfl) (Nat.le_of_ble_eq_true rfl) rfl rfl
set_option maxHeartbeats 4000000 in
set_option maxRecDepth 100000 in
theorem c_L_digitAt_no5 (U : jU) (b a h sa pa ta : Nat) (tk : Int32) (v m : Nat) (w o t : Int32) (p0 p1 p2 : Int32) (yo : Nat) (go : Nat → Int64) (v_1 : isReg p0) (v_2 : isRec p1) (v_3 : ¬ p2 < 0) (v_4 : p2 < dcntF p1 w) (v_5 : p1 = 1) (v_6 : ¬ rem2 w = 0) : Fn U yL_digitAt wsL_digitAt { frames := 8, cells := 1, slots := 6, locals := 134 } [.ref b, .int p0, .int p1, .int p2, .ref yo] [(b, .inr (5, [.ref a, .ref h, .ref sa, .int tk, .ref pa, .ref ta])), (a, .inr (3, [.ref v, .ref m, .int w, .int o, .int t])), (yo, .inl (U.2.2.1 2, 1, .inr (.inl go)))] (some (.int (3 : Int32))) [(b, .inr (5, [.ref a, .ref h, .ref sa, .int tk, .ref pa, .ref ta])), (a, .inr (3, [.ref v, .ref m, .int w, .int o, .int t])), (yo, .inl (U.2.2.1 2, 1, .inr (.inl go)))] 1 6 := by
  refine FnW_of (cc := cL_digitAt) (maxL := 6) (ret := (some .int)) [some (.ref b), some (.int p0), some (.int p1), some (.int p2), some (.ref yo), none] (by decide +kernel) rfl (jcat rfl) (Nat.le_of_ble_eq_true rfl) rfl (fun k C R tab hnL => ?_)
  have hN : ∀ i, i < 6 → i < k.2.2.2.2.2.2.2.2.2.2.2.1 := fun i h => by rw [hnL]; exact h
  refine J_aload C dL_digitAt_0 rfl ?_
  refine J_iconst C (v := (0 : Int32)) dL_digitAt_2 (by decide) ?_
  refine J_aload_n C dL_digitAt_3 rfl rfl ?_
  refine J_iload_n C dL_digitAt_4 rfl rfl ?_
  refine J_iload_n C dL_digitAt_5 rfl rfl ?_
  refine J_iload_n C dL_digitAt_6 rfl rfl ?_
  refine J_callXV C (c_X5_digitAt_no5 U b a h sa pa ta tk v m w o t p0 p1 p2 v_1 v_2 v_3 v_4 v_5 v_6) gL_digitAt_X5_digitAt (n := 3) rfl rfl rfl (by decide +kernel) ⟨Nat.le_of_ble_eq_true rfl, Nat.le_of_ble_eq_true rfl⟩ 0 rfl rfl rfl (rest := [.int (0 : Int32), .ref yo]) rfl (Nat.le_of_ble_eq_true rfl) [(b, .inr (5, [.ref a, .ref h, .ref sa, .int tk, .ref pa, .ref ta])), (a, .inr (3, [.ref v, .ref m, .int w, .int o, .int t])), (yo, .inl (U.2.2.1 2, 1, .inr (.inl go)))] [0, 1] [2] [1, 2, 0] (wr := [(yo, .inl (U.2.2.1 2, 1, .inr (.inl go)))]) rfl rfl rfl rfl (by decide) rfl rfl dL_digitAt_7 ⟨Nat.le_of_ble_eq_true rfl, Nat.le_of_ble_eq_true rfl⟩ ?_
  refine JX_catch C tab [(0, 12, 15, 19), (0, 12, 19, 13)] (0, 12, 23, 25) [] rfl (by intro z hz; simp only [List.mem_cons, List.not_mem_nil, or_false] at hz; rcases hz with rfl | rfl <;> first | exact ⟨by decide, "java/lang/IndexOutOfBoundsException", (List.mem_of_getElem? (i := 1) rfl), by decide, by decide⟩ | exact ⟨by decide, "java/lang/IllegalArgumentException", (List.mem_of_getElem? (i := 2) rfl), by decide, by decide⟩) (by decide) (by decide) (by decide) (List.mem_of_getElem? (i := 3) rfl) (fun q_x => ?_)
  refine J_astore C [some (.ref b), some (.int p0), some (.int p1), some (.int p2), some (.ref yo), some (.ref q_x)] dL_digitAt_23 (hN 5 (by decide)) rfl ?_
  refine J_iconst C (v := (3 : Int32)) dL_digitAt_25 (by decide) ?_
  exact J_iret C R dL_digitAt_26 (Nat.le_of_ble_eq_true rfl) (Nat.le_of_ble_eq_true rfl) rfl rfl
set_option maxHeartbeats 4000000 in
set_option maxRecDepth 100000 in
theorem c_L_digitAt_ok1 (U : jU) (b a h sa pa ta : Nat) (tk : Int32) (v m : Nat) (f : Nat → Int32) (w o t : Int32) (p0 p1 p2 : Int32) (yo : Nat) (go : Nat → Int64) (v_1 : isReg p0) (v_2 : isRec p1) (v_3 : ¬ p2 < 0) (v_4 : p2 < dcntF p1 w) (v_5 : p1 = 1) (v_6 : rem2 w = 0) : Fn U yL_digitAt wsL_digitAt { frames := 8, cells := 0, slots := 0, locals := 134 } [.ref b, .int p0, .int p1, .int p2, .ref yo] [(b, .inr (5, [.ref a, .ref h, .ref sa, .int tk, .ref pa, .ref ta])), (a, .inr (3, [.ref v, .ref m, .int w, .int o, .int t])), (v, .inl (U.2.2.1 0, 6, .inl f)), (yo, .inl (U.2.2.1 2, 1, .inr (.inl go)))] (some (.int (0 : Int32))) [(b, .inr (5, [.ref a, .ref h, .ref sa, .int tk, .ref pa, .ref ta])), (a, .inr (3, [.ref v, .ref m, .int w, .int o, .int t])), (v, .inl (U.2.2.1 0, 6, .inl f)), (yo, .inl (U.2.2.1 2, 1, .inr (.inl (vp_updL go 0 ((digF (valF f p0) p1 p2).toInt64)))))] 0 0 := by
  refine FnW_of (cc := cL_digitAt) (maxL := 6) (ret := (some .int)) [some (.ref b), some (.int p0), some (.int p1), some (.int p2), some (.ref yo), none] (by decide +kernel) rfl (jcat rfl) (Nat.le_of_ble_eq_true rfl) rfl (fun k C R tab hnL => ?_)
  have hN : ∀ i, i < 6 → i < k.2.2.2.2.2.2.2.2.2.2.2.1 := fun i h => by rw [hnL]; exact h
  refine J_aload C dL_digitAt_0 rfl ?_
  refine J_iconst C (v := (0 : Int32)) dL_digitAt_2 (by decide) ?_
  refine J_aload_n C dL_digitAt_3 rfl rfl ?_
  refine J_iload_n C dL_digitAt_4 rfl rfl ?_
  refine J_iload_n C dL_digitAt_5 rfl rfl ?_
  refine J_iload_n C dL_digitAt_6 rfl rfl ?_
  refine J_callV C (c_X5_digitAt_ok1 U b a h sa pa ta tk v m f w o t p0 p1 p2 v_1 v_2 v_3 v_4 v_5 v_6) gL_digitAt_X5_digitAt (n := 3) rfl rfl rfl (by decide +kernel) ⟨Nat.le_of_ble_eq_true rfl, Nat.le_of_ble_eq_true rfl⟩ 0 rfl rfl rfl (rest := [.int (0 : Int32), .ref yo]) rfl (Nat.le_of_ble_eq_true rfl) [(b, .inr (5, [.ref a, .ref h, .ref sa, .int tk, .ref pa, .ref ta])), (a, .inr (3, [.ref v, .ref m, .int w, .int o, .int t])), (v, .inl (U.2.2.1 0, 6, .inl f)), (yo, .inl (U.2.2.1 2, 1, .inr (.inl go)))] [0, 1, 2] [3] [1, 2, 3, 0] (wr := [(yo, .inl (U.2.2.1 2, 1, .inr (.inl go)))]) rfl rfl rfl rfl (by decide) rfl rfl  dL_digitAt_7 ⟨Nat.le_of_ble_eq_true rfl, Nat.le_of_ble_eq_true rfl⟩ [.int (digF (valF f p0) p1 p2), .int (0 : Int32), .ref yo] rfl ?_
  refine J_i2l C dL_digitAt_10 rfl ?_
  refine J_last C 3 [(b, .inr (5, [.ref a, .ref h, .ref sa, .int tk, .ref pa, .ref ta])), (a, .inr (3, [.ref v, .ref m, .int w, .int o, .int t])), (v, .inl (U.2.2.1 0, 6, .inl f)), (yo, .inl (U.2.2.1 2, 1, .inr (.inl (vp_updL go 0 ((digF (valF f p0) p1 p2).toInt64)))))] rfl (vpl n_0 (by decide) (by decide)) (by rw [n_0]; rfl) dL_digitAt_11 ?_
  refine J_goto C 27 dL_digitAt_12 (by decide) ?_
  refine J_iconst C (v := (0 : Int32)) dL_digitAt_27 (by decide) ?_
  exact J_iret C R dL_digitAt_28 (Nat.le_of_ble_eq_true rfl) (Nat.le_of_ble_eq_true rfl) rfl rfl
set_option maxHeartbeats 4000000 in
set_option maxRecDepth 100000 in
theorem c_L_digitAt_ok2 (U : jU) (b a h sa pa ta : Nat) (tk : Int32) (v m : Nat) (f : Nat → Int32) (w o t : Int32) (p0 p1 p2 : Int32) (yo : Nat) (go : Nat → Int64) (v_1 : isReg p0) (v_2 : isRec p1) (v_3 : ¬ p2 < 0) (v_4 : p2 < dcntF p1 w) (v_5 : ¬ p1 = 1) : Fn U yL_digitAt wsL_digitAt { frames := 8, cells := 0, slots := 0, locals := 134 } [.ref b, .int p0, .int p1, .int p2, .ref yo] [(b, .inr (5, [.ref a, .ref h, .ref sa, .int tk, .ref pa, .ref ta])), (a, .inr (3, [.ref v, .ref m, .int w, .int o, .int t])), (v, .inl (U.2.2.1 0, 6, .inl f)), (yo, .inl (U.2.2.1 2, 1, .inr (.inl go)))] (some (.int (0 : Int32))) [(b, .inr (5, [.ref a, .ref h, .ref sa, .int tk, .ref pa, .ref ta])), (a, .inr (3, [.ref v, .ref m, .int w, .int o, .int t])), (v, .inl (U.2.2.1 0, 6, .inl f)), (yo, .inl (U.2.2.1 2, 1, .inr (.inl (vp_updL go 0 ((digF (valF f p0) p1 p2).toInt64)))))] 0 0 := by
  refine FnW_of (cc := cL_digitAt) (maxL := 6) (ret := (some .int)) [some (.ref b), some (.int p0), some (.int p1), some (.int p2), some (.ref yo), none] (by decide +kernel) rfl (jcat rfl) (Nat.le_of_ble_eq_true rfl) rfl (fun k C R tab hnL => ?_)
  have hN : ∀ i, i < 6 → i < k.2.2.2.2.2.2.2.2.2.2.2.1 := fun i h => by rw [hnL]; exact h
  refine J_aload C dL_digitAt_0 rfl ?_
  refine J_iconst C (v := (0 : Int32)) dL_digitAt_2 (by decide) ?_
  refine J_aload_n C dL_digitAt_3 rfl rfl ?_
  refine J_iload_n C dL_digitAt_4 rfl rfl ?_
  refine J_iload_n C dL_digitAt_5 rfl rfl ?_
  refine J_iload_n C dL_digitAt_6 rfl rfl ?_
  refine J_callV C (c_X5_digitAt_ok2 U b a h sa pa ta tk v m f w o t p0 p1 p2 v_1 v_2 v_3 v_4 v_5) gL_digitAt_X5_digitAt (n := 3) rfl rfl rfl (by decide +kernel) ⟨Nat.le_of_ble_eq_true rfl, Nat.le_of_ble_eq_true rfl⟩ 0 rfl rfl rfl (rest := [.int (0 : Int32), .ref yo]) rfl (Nat.le_of_ble_eq_true rfl) [(b, .inr (5, [.ref a, .ref h, .ref sa, .int tk, .ref pa, .ref ta])), (a, .inr (3, [.ref v, .ref m, .int w, .int o, .int t])), (v, .inl (U.2.2.1 0, 6, .inl f)), (yo, .inl (U.2.2.1 2, 1, .inr (.inl go)))] [0, 1, 2] [3] [1, 2, 3, 0] (wr := [(yo, .inl (U.2.2.1 2, 1, .inr (.inl go)))]) rfl rfl rfl rfl (by decide) rfl rfl  dL_digitAt_7 ⟨Nat.le_of_ble_eq_true rfl, Nat.le_of_ble_eq_true rfl⟩ [.int (digF (valF f p0) p1 p2), .int (0 : Int32), .ref yo] rfl ?_
  refine J_i2l C dL_digitAt_10 rfl ?_
  refine J_last C 3 [(b, .inr (5, [.ref a, .ref h, .ref sa, .int tk, .ref pa, .ref ta])), (a, .inr (3, [.ref v, .ref m, .int w, .int o, .int t])), (v, .inl (U.2.2.1 0, 6, .inl f)), (yo, .inl (U.2.2.1 2, 1, .inr (.inl (vp_updL go 0 ((digF (valF f p0) p1 p2).toInt64)))))] rfl (vpl n_0 (by decide) (by decide)) (by rw [n_0]; rfl) dL_digitAt_11 ?_
  refine J_goto C 27 dL_digitAt_12 (by decide) ?_
  refine J_iconst C (v := (0 : Int32)) dL_digitAt_27 (by decide) ?_
  exact J_iret C R dL_digitAt_28 (Nat.le_of_ble_eq_true rfl) (Nat.le_of_ble_eq_true rfl) rfl rfl
set_option maxHeartbeats 4000000 in
set_option maxRecDepth 100000 in
theorem c_L_rowsOf_no1 (U : jU) (b a h sa pa ta : Nat) (tk : Int32) (p0 p1 : Int32) (yo : Nat) (go : Nat → Int64) (v_1 : ¬ isReg p0) : Fn U yL_rowsOf wsL_rowsOf { frames := 8, cells := 1, slots := 6, locals := 135 } [.ref b, .int p0, .int p1, .ref yo] [(b, .inr (5, [.ref a, .ref h, .ref sa, .int tk, .ref pa, .ref ta])), (yo, .inl (U.2.2.1 2, 1, .inr (.inl go)))] (some (.int (1 : Int32))) [(b, .inr (5, [.ref a, .ref h, .ref sa, .int tk, .ref pa, .ref ta])), (yo, .inl (U.2.2.1 2, 1, .inr (.inl go)))] 1 6 := by
  refine FnW_of (cc := cL_rowsOf) (maxL := 5) (ret := (some .int)) [some (.ref b), some (.int p0), some (.int p1), some (.ref yo), none] (by decide +kernel) rfl (jcat rfl) (Nat.le_of_ble_eq_true rfl) rfl (fun k C R tab hnL => ?_)
  have hN : ∀ i, i < 5 → i < k.2.2.2.2.2.2.2.2.2.2.2.1 := fun i h => by rw [hnL]; exact h
  refine J_aload_n C dL_rowsOf_0 rfl rfl ?_
  refine J_iconst C (v := (0 : Int32)) dL_rowsOf_1 (by decide) ?_
  refine J_aload_n C dL_rowsOf_2 rfl rfl ?_
  refine J_iload_n C dL_rowsOf_3 rfl rfl ?_
  refine J_iload_n C dL_rowsOf_4 rfl rfl ?_
  refine J_callXV C (c_X5_rowsOf_no1 U b 0 0 0 0 0 (0 : Int32) p0 p1 v_1) gL_rowsOf_X5_rowsOf (n := 2) rfl rfl rfl (by decide +kernel) ⟨Nat.le_of_ble_eq_true rfl, Nat.le_of_ble_eq_true rfl⟩ 0 rfl rfl rfl (rest := [.int (0 : Int32), .ref yo]) rfl (Nat.le_of_ble_eq_true rfl) [(b, .inr (5, [.ref a, .ref h, .ref sa, .int tk, .ref pa, .ref ta])), (yo, .inl (U.2.2.1 2, 1, .inr (.inl go)))] [] [0, 1] [0, 1] (wr := [(b, .inr (5, [.ref a, .ref h, .ref sa, .int tk, .ref pa, .ref ta])), (yo, .inl (U.2.2.1 2, 1, .inr (.inl go)))]) rfl rfl rfl rfl (by decide) rfl rfl dL_rowsOf_5 ⟨Nat.le_of_ble_eq_true rfl, Nat.le_of_ble_eq_true rfl⟩ ?_
  refine JX_catch C tab [] (0, 10, 13, 19) [(0, 10, 17, 13), (0, 10, 21, 25)] rfl (fun z hz => absurd hz List.not_mem_nil) (by decide) (by decide) (by decide) (List.mem_of_getElem? (i := 1) rfl) (fun q_x => ?_)
  refine J_astore C [some (.ref b), some (.int p0), some (.int p1), some (.ref yo), some (.ref q_x)] dL_rowsOf_13 (hN 4 (by decide)) rfl ?_
  refine J_iconst C (v := (1 : Int32)) dL_rowsOf_15 (by decide) ?_
  exact J_iret C R dL_rowsOf_16 (Nat.le_of_ble_eq_true rfl) (Nat.le_of_ble_eq_true rfl) rfl rfl
set_option maxHeartbeats 4000000 in
set_option maxRecDepth 100000 in
theorem c_L_rowsOf_no2 (U : jU) (b a h sa pa ta : Nat) (tk : Int32) (p0 p1 : Int32) (yo : Nat) (go : Nat → Int64) (v_1 : isReg p0) (v_2 : ¬ isRec p1) : Fn U yL_rowsOf wsL_rowsOf { frames := 8, cells := 1, slots := 6, locals := 135 } [.ref b, .int p0, .int p1, .ref yo] [(b, .inr (5, [.ref a, .ref h, .ref sa, .int tk, .ref pa, .ref ta])), (yo, .inl (U.2.2.1 2, 1, .inr (.inl go)))] (some (.int (2 : Int32))) [(b, .inr (5, [.ref a, .ref h, .ref sa, .int tk, .ref pa, .ref ta])), (yo, .inl (U.2.2.1 2, 1, .inr (.inl go)))] 1 6 := by
  refine FnW_of (cc := cL_rowsOf) (maxL := 5) (ret := (some .int)) [some (.ref b), some (.int p0), some (.int p1), some (.ref yo), none] (by decide +kernel) rfl (jcat rfl) (Nat.le_of_ble_eq_true rfl) rfl (fun k C R tab hnL => ?_)
  have hN : ∀ i, i < 5 → i < k.2.2.2.2.2.2.2.2.2.2.2.1 := fun i h => by rw [hnL]; exact h
  refine J_aload_n C dL_rowsOf_0 rfl rfl ?_
  refine J_iconst C (v := (0 : Int32)) dL_rowsOf_1 (by decide) ?_
  refine J_aload_n C dL_rowsOf_2 rfl rfl ?_
  refine J_iload_n C dL_rowsOf_3 rfl rfl ?_
  refine J_iload_n C dL_rowsOf_4 rfl rfl ?_
  refine J_callXV C (c_X5_rowsOf_no2 U b 0 0 0 0 0 (0 : Int32) p0 p1 v_1 v_2) gL_rowsOf_X5_rowsOf (n := 2) rfl rfl rfl (by decide +kernel) ⟨Nat.le_of_ble_eq_true rfl, Nat.le_of_ble_eq_true rfl⟩ 0 rfl rfl rfl (rest := [.int (0 : Int32), .ref yo]) rfl (Nat.le_of_ble_eq_true rfl) [(b, .inr (5, [.ref a, .ref h, .ref sa, .int tk, .ref pa, .ref ta])), (yo, .inl (U.2.2.1 2, 1, .inr (.inl go)))] [] [0, 1] [0, 1] (wr := [(b, .inr (5, [.ref a, .ref h, .ref sa, .int tk, .ref pa, .ref ta])), (yo, .inl (U.2.2.1 2, 1, .inr (.inl go)))]) rfl rfl rfl rfl (by decide) rfl rfl dL_rowsOf_5 ⟨Nat.le_of_ble_eq_true rfl, Nat.le_of_ble_eq_true rfl⟩ ?_
  refine JX_catch C tab [(0, 10, 13, 19)] (0, 10, 17, 13) [(0, 10, 21, 25)] rfl (by intro z hz; simp only [List.mem_cons, List.not_mem_nil, or_false] at hz; rcases hz with rfl <;> first | exact ⟨by decide, "java/lang/IndexOutOfBoundsException", (List.mem_of_getElem? (i := 1) rfl), by decide, by decide⟩) (by decide) (by decide) (by decide) (List.mem_of_getElem? (i := 2) rfl) (fun q_x => ?_)
  refine J_astore C [some (.ref b), some (.int p0), some (.int p1), some (.ref yo), some (.ref q_x)] dL_rowsOf_17 (hN 4 (by decide)) rfl ?_
  refine J_iconst C (v := (2 : Int32)) dL_rowsOf_19 (by decide) ?_
  exact J_iret C R dL_rowsOf_20 (Nat.le_of_ble_eq_true rfl) (Nat.le_of_ble_eq_true rfl) rfl rfl
set_option maxHeartbeats 4000000 in
set_option maxRecDepth 100000 in
theorem c_L_rowsOf_no3 (U : jU) (b a h sa pa ta : Nat) (tk : Int32) (v m : Nat) (w o t : Int32) (p0 p1 : Int32) (yo : Nat) (go : Nat → Int64) (v_1 : isReg p0) (v_2 : isRec p1) (v_3 : p1 = 1) (v_4 : ¬ rem2 w = 0) : Fn U yL_rowsOf wsL_rowsOf { frames := 8, cells := 1, slots := 6, locals := 135 } [.ref b, .int p0, .int p1, .ref yo] [(b, .inr (5, [.ref a, .ref h, .ref sa, .int tk, .ref pa, .ref ta])), (a, .inr (3, [.ref v, .ref m, .int w, .int o, .int t])), (yo, .inl (U.2.2.1 2, 1, .inr (.inl go)))] (some (.int (3 : Int32))) [(b, .inr (5, [.ref a, .ref h, .ref sa, .int tk, .ref pa, .ref ta])), (a, .inr (3, [.ref v, .ref m, .int w, .int o, .int t])), (yo, .inl (U.2.2.1 2, 1, .inr (.inl go)))] 1 6 := by
  refine FnW_of (cc := cL_rowsOf) (maxL := 5) (ret := (some .int)) [some (.ref b), some (.int p0), some (.int p1), some (.ref yo), none] (by decide +kernel) rfl (jcat rfl) (Nat.le_of_ble_eq_true rfl) rfl (fun k C R tab hnL => ?_)
  have hN : ∀ i, i < 5 → i < k.2.2.2.2.2.2.2.2.2.2.2.1 := fun i h => by rw [hnL]; exact h
  refine J_aload_n C dL_rowsOf_0 rfl rfl ?_
  refine J_iconst C (v := (0 : Int32)) dL_rowsOf_1 (by decide) ?_
  refine J_aload_n C dL_rowsOf_2 rfl rfl ?_
  refine J_iload_n C dL_rowsOf_3 rfl rfl ?_
  refine J_iload_n C dL_rowsOf_4 rfl rfl ?_
  refine J_callXV C (c_X5_rowsOf_no3 U b a h sa pa ta tk v m w o t p0 p1 v_1 v_2 v_3 v_4) gL_rowsOf_X5_rowsOf (n := 2) rfl rfl rfl (by decide +kernel) ⟨Nat.le_of_ble_eq_true rfl, Nat.le_of_ble_eq_true rfl⟩ 0 rfl rfl rfl (rest := [.int (0 : Int32), .ref yo]) rfl (Nat.le_of_ble_eq_true rfl) [(b, .inr (5, [.ref a, .ref h, .ref sa, .int tk, .ref pa, .ref ta])), (a, .inr (3, [.ref v, .ref m, .int w, .int o, .int t])), (yo, .inl (U.2.2.1 2, 1, .inr (.inl go)))] [0, 1] [2] [1, 2, 0] (wr := [(yo, .inl (U.2.2.1 2, 1, .inr (.inl go)))]) rfl rfl rfl rfl (by decide) rfl rfl dL_rowsOf_5 ⟨Nat.le_of_ble_eq_true rfl, Nat.le_of_ble_eq_true rfl⟩ ?_
  refine JX_catch C tab [(0, 10, 13, 19), (0, 10, 17, 13)] (0, 10, 21, 25) [] rfl (by intro z hz; simp only [List.mem_cons, List.not_mem_nil, or_false] at hz; rcases hz with rfl | rfl <;> first | exact ⟨by decide, "java/lang/IndexOutOfBoundsException", (List.mem_of_getElem? (i := 1) rfl), by decide, by decide⟩ | exact ⟨by decide, "java/lang/IllegalArgumentException", (List.mem_of_getElem? (i := 2) rfl), by decide, by decide⟩) (by decide) (by decide) (by decide) (List.mem_of_getElem? (i := 3) rfl) (fun q_x => ?_)
  refine J_astore C [some (.ref b), some (.int p0), some (.int p1), some (.ref yo), some (.ref q_x)] dL_rowsOf_21 (hN 4 (by decide)) rfl ?_
  refine J_iconst C (v := (3 : Int32)) dL_rowsOf_23 (by decide) ?_
  exact J_iret C R dL_rowsOf_24 (Nat.le_of_ble_eq_true rfl) (Nat.le_of_ble_eq_true rfl) rfl rfl
set_option maxHeartbeats 4000000 in
set_option maxRecDepth 100000 in
theorem c_L_rowsOf_ok1 (U : jU) (b a h sa pa ta : Nat) (tk : Int32) (v m : Nat) (f : Nat → Int32) (w o t : Int32) (p0 p1 : Int32) (N : Nat) (yo : Nat) (go : Nat → Int64) (v_1 : isReg p0) (v_2 : isRec p1) (v_3 : p1 = 1) (v_4 : rem2 w = 0) (hN9 : dcntF p1 w = nI N) (hn9 : N < 100) : Fn U yL_rowsOf wsL_rowsOf { frames := 8, cells := 0, slots := 0, locals := 135 } [.ref b, .int p0, .int p1, .ref yo] [(b, .inr (5, [.ref a, .ref h, .ref sa, .int tk, .ref pa, .ref ta])), (a, .inr (3, [.ref v, .ref m, .int w, .int o, .int t])), (v, .inl (U.2.2.1 0, 6, .inl f)), (yo, .inl (U.2.2.1 2, 1, .inr (.inl go)))] (some (.int (0 : Int32))) [(b, .inr (5, [.ref a, .ref h, .ref sa, .int tk, .ref pa, .ref ta])), (a, .inr (3, [.ref v, .ref m, .int w, .int o, .int t])), (v, .inl (U.2.2.1 0, 6, .inl f)), (yo, .inl (U.2.2.1 2, 1, .inr (.inl (vp_updL go 0 ((rwF (valF f p0) p1 N).toInt64)))))] 0 0 := by
  refine FnW_of (cc := cL_rowsOf) (maxL := 5) (ret := (some .int)) [some (.ref b), some (.int p0), some (.int p1), some (.ref yo), none] (by decide +kernel) rfl (jcat rfl) (Nat.le_of_ble_eq_true rfl) rfl (fun k C R tab hnL => ?_)
  have hN : ∀ i, i < 5 → i < k.2.2.2.2.2.2.2.2.2.2.2.1 := fun i h => by rw [hnL]; exact h
  refine J_aload_n C dL_rowsOf_0 rfl rfl ?_
  refine J_iconst C (v := (0 : Int32)) dL_rowsOf_1 (by decide) ?_
  refine J_aload_n C dL_rowsOf_2 rfl rfl ?_
  refine J_iload_n C dL_rowsOf_3 rfl rfl ?_
  refine J_iload_n C dL_rowsOf_4 rfl rfl ?_
  refine J_callV C (c_X5_rowsOf_ok1 U b a h sa pa ta tk v m f w o t p0 p1 N v_1 v_2 v_3 v_4 hN9 hn9) gL_rowsOf_X5_rowsOf (n := 2) rfl rfl rfl (by decide +kernel) ⟨Nat.le_of_ble_eq_true rfl, Nat.le_of_ble_eq_true rfl⟩ 0 rfl rfl rfl (rest := [.int (0 : Int32), .ref yo]) rfl (Nat.le_of_ble_eq_true rfl) [(b, .inr (5, [.ref a, .ref h, .ref sa, .int tk, .ref pa, .ref ta])), (a, .inr (3, [.ref v, .ref m, .int w, .int o, .int t])), (v, .inl (U.2.2.1 0, 6, .inl f)), (yo, .inl (U.2.2.1 2, 1, .inr (.inl go)))] [0, 1, 2] [3] [1, 2, 3, 0] (wr := [(yo, .inl (U.2.2.1 2, 1, .inr (.inl go)))]) rfl rfl rfl rfl (by decide) rfl rfl  dL_rowsOf_5 ⟨Nat.le_of_ble_eq_true rfl, Nat.le_of_ble_eq_true rfl⟩ [.int (rwF (valF f p0) p1 N), .int (0 : Int32), .ref yo] rfl ?_
  refine J_i2l C dL_rowsOf_8 rfl ?_
  refine J_last C 3 [(b, .inr (5, [.ref a, .ref h, .ref sa, .int tk, .ref pa, .ref ta])), (a, .inr (3, [.ref v, .ref m, .int w, .int o, .int t])), (v, .inl (U.2.2.1 0, 6, .inl f)), (yo, .inl (U.2.2.1 2, 1, .inr (.inl (vp_updL go 0 ((rwF (valF f p0) p1 N).toInt64)))))] rfl (vpl n_0 (by decide) (by decide)) (by rw [n_0]; rfl) dL_rowsOf_9 ?_
  refine J_goto C 25 dL_rowsOf_10 (by decide) ?_
  refine J_iconst C (v := (0 : Int32)) dL_rowsOf_25 (by decide) ?_
  exact J_iret C R dL_rowsOf_26 (Nat.le_of_ble_eq_true rfl) (Nat.le_of_ble_eq_true rfl) rfl rfl
set_option maxHeartbeats 4000000 in
set_option maxRecDepth 100000 in
theorem c_L_rowsOf_ok2 (U : jU) (b a h sa pa ta : Nat) (tk : Int32) (v m : Nat) (f : Nat → Int32) (w o t : Int32) (p0 p1 : Int32) (N : Nat) (yo : Nat) (go : Nat → Int64) (v_1 : isReg p0) (v_2 : isRec p1) (v_3 : ¬ p1 = 1) (hN9 : dcntF p1 w = nI N) (hn9 : N < 100) : Fn U yL_rowsOf wsL_rowsOf { frames := 8, cells := 0, slots := 0, locals := 135 } [.ref b, .int p0, .int p1, .ref yo] [(b, .inr (5, [.ref a, .ref h, .ref sa, .int tk, .ref pa, .ref ta])), (a, .inr (3, [.ref v, .ref m, .int w, .int o, .int t])), (v, .inl (U.2.2.1 0, 6, .inl f)), (yo, .inl (U.2.2.1 2, 1, .inr (.inl go)))] (some (.int (0 : Int32))) [(b, .inr (5, [.ref a, .ref h, .ref sa, .int tk, .ref pa, .ref ta])), (a, .inr (3, [.ref v, .ref m, .int w, .int o, .int t])), (v, .inl (U.2.2.1 0, 6, .inl f)), (yo, .inl (U.2.2.1 2, 1, .inr (.inl (vp_updL go 0 ((rwF (valF f p0) p1 N).toInt64)))))] 0 0 := by
  refine FnW_of (cc := cL_rowsOf) (maxL := 5) (ret := (some .int)) [some (.ref b), some (.int p0), some (.int p1), some (.ref yo), none] (by decide +kernel) rfl (jcat rfl) (Nat.le_of_ble_eq_true rfl) rfl (fun k C R tab hnL => ?_)
  have hN : ∀ i, i < 5 → i < k.2.2.2.2.2.2.2.2.2.2.2.1 := fun i h => by rw [hnL]; exact h
  refine J_aload_n C dL_rowsOf_0 rfl rfl ?_
  refine J_iconst C (v := (0 : Int32)) dL_rowsOf_1 (by decide) ?_
  refine J_aload_n C dL_rowsOf_2 rfl rfl ?_
  refine J_iload_n C dL_rowsOf_3 rfl rfl ?_
  refine J_iload_n C dL_rowsOf_4 rfl rfl ?_
  refine J_callV C (c_X5_rowsOf_ok2 U b a h sa pa ta tk v m f w o t p0 p1 N v_1 v_2 v_3 hN9 hn9) gL_rowsOf_X5_rowsOf (n := 2) rfl rfl rfl (by decide +kernel) ⟨Nat.le_of_ble_eq_true rfl, Nat.le_of_ble_eq_true rfl⟩ 0 rfl rfl rfl (rest := [.int (0 : Int32), .ref yo]) rfl (Nat.le_of_ble_eq_true rfl) [(b, .inr (5, [.ref a, .ref h, .ref sa, .int tk, .ref pa, .ref ta])), (a, .inr (3, [.ref v, .ref m, .int w, .int o, .int t])), (v, .inl (U.2.2.1 0, 6, .inl f)), (yo, .inl (U.2.2.1 2, 1, .inr (.inl go)))] [0, 1, 2] [3] [1, 2, 3, 0] (wr := [(yo, .inl (U.2.2.1 2, 1, .inr (.inl go)))]) rfl rfl rfl rfl (by decide) rfl rfl  dL_rowsOf_5 ⟨Nat.le_of_ble_eq_true rfl, Nat.le_of_ble_eq_true rfl⟩ [.int (rwF (valF f p0) p1 N), .int (0 : Int32), .ref yo] rfl ?_
  refine J_i2l C dL_rowsOf_8 rfl ?_
  refine J_last C 3 [(b, .inr (5, [.ref a, .ref h, .ref sa, .int tk, .ref pa, .ref ta])), (a, .inr (3, [.ref v, .ref m, .int w, .int o, .int t])), (v, .inl (U.2.2.1 0, 6, .inl f)), (yo, .inl (U.2.2.1 2, 1, .inr (.inl (vp_updL go 0 ((rwF (valF f p0) p1 N).toInt64)))))] rfl (vpl n_0 (by decide) (by decide)) (by rw [n_0]; rfl) dL_rowsOf_9 ?_
  refine J_goto C 25 dL_rowsOf_10 (by decide) ?_
  refine J_iconst C (v := (0 : Int32)) dL_rowsOf_25 (by decide) ?_
  exact J_iret C R dL_rowsOf_26 (Nat.le_of_ble_eq_true rfl) (Nat.le_of_ble_eq_true rfl) rfl rfl
set_option maxHeartbeats 4000000 in
set_option maxRecDepth 100000 in
theorem c_L_productByRows_no1 (U : jU) (b a h sa pa ta : Nat) (tk : Int32) (p0 p1 p2 : Int32) (yo : Nat) (go : Nat → Int64) (v_1 : ¬ isReg p0) : Fn U yL_productByRows wsL_productByRows { frames := 8, cells := 1, slots := 6, locals := 137 } [.ref b, .int p0, .int p1, .int p2, .ref yo] [(b, .inr (5, [.ref a, .ref h, .ref sa, .int tk, .ref pa, .ref ta])), (yo, .inl (U.2.2.1 2, 1, .inr (.inl go)))] (some (.int (1 : Int32))) [(b, .inr (5, [.ref a, .ref h, .ref sa, .int tk, .ref pa, .ref ta])), (yo, .inl (U.2.2.1 2, 1, .inr (.inl go)))] 1 6 := by
  refine FnW_of (cc := cL_productByRows) (maxL := 6) (ret := (some .int)) [some (.ref b), some (.int p0), some (.int p1), some (.int p2), some (.ref yo), none] (by decide +kernel) rfl (jcat rfl) (Nat.le_of_ble_eq_true rfl) rfl (fun k C R tab hnL => ?_)
  have hN : ∀ i, i < 6 → i < k.2.2.2.2.2.2.2.2.2.2.2.1 := fun i h => by rw [hnL]; exact h
  refine J_aload C dL_productByRows_0 rfl ?_
  refine J_iconst C (v := (0 : Int32)) dL_productByRows_2 (by decide) ?_
  refine J_aload_n C dL_productByRows_3 rfl rfl ?_
  refine J_iload_n C dL_productByRows_4 rfl rfl ?_
  refine J_iload_n C dL_productByRows_5 rfl rfl ?_
  refine J_iload_n C dL_productByRows_6 rfl rfl ?_
  refine J_callXV C (c_X5_productByRows_no1 U b 0 0 0 0 0 (0 : Int32) p0 p1 p2 v_1) gL_productByRows_X5_productByRows (n := 3) rfl rfl rfl (by decide +kernel) ⟨Nat.le_of_ble_eq_true rfl, Nat.le_of_ble_eq_true rfl⟩ 0 rfl rfl rfl (rest := [.int (0 : Int32), .ref yo]) rfl (Nat.le_of_ble_eq_true rfl) [(b, .inr (5, [.ref a, .ref h, .ref sa, .int tk, .ref pa, .ref ta])), (yo, .inl (U.2.2.1 2, 1, .inr (.inl go)))] [] [0, 1] [0, 1] (wr := [(b, .inr (5, [.ref a, .ref h, .ref sa, .int tk, .ref pa, .ref ta])), (yo, .inl (U.2.2.1 2, 1, .inr (.inl go)))]) rfl rfl rfl rfl (by decide) rfl rfl dL_productByRows_7 ⟨Nat.le_of_ble_eq_true rfl, Nat.le_of_ble_eq_true rfl⟩ ?_
  refine JX_catch C tab [] (0, 12, 15, 19) [(0, 12, 19, 13), (0, 12, 23, 25)] rfl (fun z hz => absurd hz List.not_mem_nil) (by decide) (by decide) (by decide) (List.mem_of_getElem? (i := 1) rfl) (fun q_x => ?_)
  refine J_astore C [some (.ref b), some (.int p0), some (.int p1), some (.int p2), some (.ref yo), some (.ref q_x)] dL_productByRows_15 (hN 5 (by decide)) rfl ?_
  refine J_iconst C (v := (1 : Int32)) dL_productByRows_17 (by decide) ?_
  exact J_iret C R dL_productByRows_18 (Nat.le_of_ble_eq_true rfl) (Nat.le_of_ble_eq_true rfl) rfl rfl
set_option maxHeartbeats 4000000 in
set_option maxRecDepth 100000 in
theorem c_L_productByRows_no2 (U : jU) (b a h sa pa ta : Nat) (tk : Int32) (p0 p1 p2 : Int32) (yo : Nat) (go : Nat → Int64) (v_1 : isReg p0) (v_2 : ¬ isReg p1) : Fn U yL_productByRows wsL_productByRows { frames := 8, cells := 1, slots := 6, locals := 137 } [.ref b, .int p0, .int p1, .int p2, .ref yo] [(b, .inr (5, [.ref a, .ref h, .ref sa, .int tk, .ref pa, .ref ta])), (yo, .inl (U.2.2.1 2, 1, .inr (.inl go)))] (some (.int (1 : Int32))) [(b, .inr (5, [.ref a, .ref h, .ref sa, .int tk, .ref pa, .ref ta])), (yo, .inl (U.2.2.1 2, 1, .inr (.inl go)))] 1 6 := by
  refine FnW_of (cc := cL_productByRows) (maxL := 6) (ret := (some .int)) [some (.ref b), some (.int p0), some (.int p1), some (.int p2), some (.ref yo), none] (by decide +kernel) rfl (jcat rfl) (Nat.le_of_ble_eq_true rfl) rfl (fun k C R tab hnL => ?_)
  have hN : ∀ i, i < 6 → i < k.2.2.2.2.2.2.2.2.2.2.2.1 := fun i h => by rw [hnL]; exact h
  refine J_aload C dL_productByRows_0 rfl ?_
  refine J_iconst C (v := (0 : Int32)) dL_productByRows_2 (by decide) ?_
  refine J_aload_n C dL_productByRows_3 rfl rfl ?_
  refine J_iload_n C dL_productByRows_4 rfl rfl ?_
  refine J_iload_n C dL_productByRows_5 rfl rfl ?_
  refine J_iload_n C dL_productByRows_6 rfl rfl ?_
  refine J_callXV C (c_X5_productByRows_no2 U b 0 0 0 0 0 (0 : Int32) p0 p1 p2 v_1 v_2) gL_productByRows_X5_productByRows (n := 3) rfl rfl rfl (by decide +kernel) ⟨Nat.le_of_ble_eq_true rfl, Nat.le_of_ble_eq_true rfl⟩ 0 rfl rfl rfl (rest := [.int (0 : Int32), .ref yo]) rfl (Nat.le_of_ble_eq_true rfl) [(b, .inr (5, [.ref a, .ref h, .ref sa, .int tk, .ref pa, .ref ta])), (yo, .inl (U.2.2.1 2, 1, .inr (.inl go)))] [] [0, 1] [0, 1] (wr := [(b, .inr (5, [.ref a, .ref h, .ref sa, .int tk, .ref pa, .ref ta])), (yo, .inl (U.2.2.1 2, 1, .inr (.inl go)))]) rfl rfl rfl rfl (by decide) rfl rfl dL_productByRows_7 ⟨Nat.le_of_ble_eq_true rfl, Nat.le_of_ble_eq_true rfl⟩ ?_
  refine JX_catch C tab [] (0, 12, 15, 19) [(0, 12, 19, 13), (0, 12, 23, 25)] rfl (fun z hz => absurd hz List.not_mem_nil) (by decide) (by decide) (by decide) (List.mem_of_getElem? (i := 1) rfl) (fun q_x => ?_)
  refine J_astore C [some (.ref b), some (.int p0), some (.int p1), some (.int p2), some (.ref yo), some (.ref q_x)] dL_productByRows_15 (hN 5 (by decide)) rfl ?_
  refine J_iconst C (v := (1 : Int32)) dL_productByRows_17 (by decide) ?_
  exact J_iret C R dL_productByRows_18 (Nat.le_of_ble_eq_true rfl) (Nat.le_of_ble_eq_true rfl) rfl rfl
set_option maxHeartbeats 4000000 in
set_option maxRecDepth 100000 in
theorem c_L_productByRows_no3 (U : jU) (b a h sa pa ta : Nat) (tk : Int32) (p0 p1 p2 : Int32) (yo : Nat) (go : Nat → Int64) (v_1 : isReg p0) (v_2 : isReg p1) (v_3 : ¬ isRec p2) : Fn U yL_productByRows wsL_productByRows { frames := 8, cells := 1, slots := 6, locals := 137 } [.ref b, .int p0, .int p1, .int p2, .ref yo] [(b, .inr (5, [.ref a, .ref h, .ref sa, .int tk, .ref pa, .ref ta])), (yo, .inl (U.2.2.1 2, 1, .inr (.inl go)))] (some (.int (2 : Int32))) [(b, .inr (5, [.ref a, .ref h, .ref sa, .int tk, .ref pa, .ref ta])), (yo, .inl (U.2.2.1 2, 1, .inr (.inl go)))] 1 6 := by
  refine FnW_of (cc := cL_productByRows) (maxL := 6) (ret := (some .int)) [some (.ref b), some (.int p0), some (.int p1), some (.int p2), some (.ref yo), none] (by decide +kernel) rfl (jcat rfl) (Nat.le_of_ble_eq_true rfl) rfl (fun k C R tab hnL => ?_)
  have hN : ∀ i, i < 6 → i < k.2.2.2.2.2.2.2.2.2.2.2.1 := fun i h => by rw [hnL]; exact h
  refine J_aload C dL_productByRows_0 rfl ?_
  refine J_iconst C (v := (0 : Int32)) dL_productByRows_2 (by decide) ?_
  refine J_aload_n C dL_productByRows_3 rfl rfl ?_
  refine J_iload_n C dL_productByRows_4 rfl rfl ?_
  refine J_iload_n C dL_productByRows_5 rfl rfl ?_
  refine J_iload_n C dL_productByRows_6 rfl rfl ?_
  refine J_callXV C (c_X5_productByRows_no3 U b 0 0 0 0 0 (0 : Int32) p0 p1 p2 v_1 v_2 v_3) gL_productByRows_X5_productByRows (n := 3) rfl rfl rfl (by decide +kernel) ⟨Nat.le_of_ble_eq_true rfl, Nat.le_of_ble_eq_true rfl⟩ 0 rfl rfl rfl (rest := [.int (0 : Int32), .ref yo]) rfl (Nat.le_of_ble_eq_true rfl) [(b, .inr (5, [.ref a, .ref h, .ref sa, .int tk, .ref pa, .ref ta])), (yo, .inl (U.2.2.1 2, 1, .inr (.inl go)))] [] [0, 1] [0, 1] (wr := [(b, .inr (5, [.ref a, .ref h, .ref sa, .int tk, .ref pa, .ref ta])), (yo, .inl (U.2.2.1 2, 1, .inr (.inl go)))]) rfl rfl rfl rfl (by decide) rfl rfl dL_productByRows_7 ⟨Nat.le_of_ble_eq_true rfl, Nat.le_of_ble_eq_true rfl⟩ ?_
  refine JX_catch C tab [(0, 12, 15, 19)] (0, 12, 19, 13) [(0, 12, 23, 25)] rfl (by intro z hz; simp only [List.mem_cons, List.not_mem_nil, or_false] at hz; rcases hz with rfl <;> first | exact ⟨by decide, "java/lang/IndexOutOfBoundsException", (List.mem_of_getElem? (i := 1) rfl), by decide, by decide⟩) (by decide) (by decide) (by decide) (List.mem_of_getElem? (i := 2) rfl) (fun q_x => ?_)
  refine J_astore C [some (.ref b), some (.int p0), some (.int p1), some (.int p2), some (.ref yo), some (.ref q_x)] dL_productByRows_19 (hN 5 (by decide)) rfl ?_
  refine J_iconst C (v := (2 : Int32)) dL_productByRows_21 (by decide) ?_
  exact J_iret C R dL_productByRows_22 (Nat.le_of_ble_eq_true rfl) (Nat.le_of_ble_eq_true rfl) rfl rfl
set_option maxHeartbeats 4000000 in
set_option maxRecDepth 100000 in
theorem c_L_productByRows_no4 (U : jU) (b a h sa pa ta : Nat) (tk : Int32) (v m : Nat) (w o t : Int32) (p0 p1 p2 : Int32) (yo : Nat) (go : Nat → Int64) (v_1 : isReg p0) (v_2 : isReg p1) (v_3 : isRec p2) (v_4 : p2 = 1) (v_5 : ¬ rem2 w = 0) : Fn U yL_productByRows wsL_productByRows { frames := 8, cells := 1, slots := 6, locals := 137 } [.ref b, .int p0, .int p1, .int p2, .ref yo] [(b, .inr (5, [.ref a, .ref h, .ref sa, .int tk, .ref pa, .ref ta])), (a, .inr (3, [.ref v, .ref m, .int w, .int o, .int t])), (yo, .inl (U.2.2.1 2, 1, .inr (.inl go)))] (some (.int (3 : Int32))) [(b, .inr (5, [.ref a, .ref h, .ref sa, .int tk, .ref pa, .ref ta])), (a, .inr (3, [.ref v, .ref m, .int w, .int o, .int t])), (yo, .inl (U.2.2.1 2, 1, .inr (.inl go)))] 1 6 := by
  refine FnW_of (cc := cL_productByRows) (maxL := 6) (ret := (some .int)) [some (.ref b), some (.int p0), some (.int p1), some (.int p2), some (.ref yo), none] (by decide +kernel) rfl (jcat rfl) (Nat.le_of_ble_eq_true rfl) rfl (fun k C R tab hnL => ?_)
  have hN : ∀ i, i < 6 → i < k.2.2.2.2.2.2.2.2.2.2.2.1 := fun i h => by rw [hnL]; exact h
  refine J_aload C dL_productByRows_0 rfl ?_
  refine J_iconst C (v := (0 : Int32)) dL_productByRows_2 (by decide) ?_
  refine J_aload_n C dL_productByRows_3 rfl rfl ?_
  refine J_iload_n C dL_productByRows_4 rfl rfl ?_
  refine J_iload_n C dL_productByRows_5 rfl rfl ?_
  refine J_iload_n C dL_productByRows_6 rfl rfl ?_
  refine J_callXV C (c_X5_productByRows_no4 U b a h sa pa ta tk v m w o t p0 p1 p2 v_1 v_2 v_3 v_4 v_5) gL_productByRows_X5_productByRows (n := 3) rfl rfl rfl (by decide +kernel) ⟨Nat.le_of_ble_eq_true rfl, Nat.le_of_ble_eq_true rfl⟩ 0 rfl rfl rfl (rest := [.int (0 : Int32), .ref yo]) rfl (Nat.le_of_ble_eq_true rfl) [(b, .inr (5, [.ref a, .ref h, .ref sa, .int tk, .ref pa, .ref ta])), (a, .inr (3, [.ref v, .ref m, .int w, .int o, .int t])), (yo, .inl (U.2.2.1 2, 1, .inr (.inl go)))] [0, 1] [2] [1, 2, 0] (wr := [(yo, .inl (U.2.2.1 2, 1, .inr (.inl go)))]) rfl rfl rfl rfl (by decide) rfl rfl dL_productByRows_7 ⟨Nat.le_of_ble_eq_true rfl, Nat.le_of_ble_eq_true rfl⟩ ?_
  refine JX_catch C tab [(0, 12, 15, 19), (0, 12, 19, 13)] (0, 12, 23, 25) [] rfl (by intro z hz; simp only [List.mem_cons, List.not_mem_nil, or_false] at hz; rcases hz with rfl | rfl <;> first | exact ⟨by decide, "java/lang/IndexOutOfBoundsException", (List.mem_of_getElem? (i := 1) rfl), by decide, by decide⟩ | exact ⟨by decide, "java/lang/IllegalArgumentException", (List.mem_of_getElem? (i := 2) rfl), by decide, by decide⟩) (by decide) (by decide) (by decide) (List.mem_of_getElem? (i := 3) rfl) (fun q_x => ?_)
  refine J_astore C [some (.ref b), some (.int p0), some (.int p1), some (.int p2), some (.ref yo), some (.ref q_x)] dL_productByRows_23 (hN 5 (by decide)) rfl ?_
  refine J_iconst C (v := (3 : Int32)) dL_productByRows_25 (by decide) ?_
  exact J_iret C R dL_productByRows_26 (Nat.le_of_ble_eq_true rfl) (Nat.le_of_ble_eq_true rfl) rfl rfl
set_option maxHeartbeats 4000000 in
set_option maxRecDepth 100000 in
theorem c_L_productByRows_ok1 (U : jU) (b a h sa pa ta : Nat) (tk : Int32) (v m : Nat) (f : Nat → Int32) (w o t : Int32) (p0 p1 p2 : Int32) (N : Nat) (yo : Nat) (go : Nat → Int64) (v_1 : isReg p0) (v_2 : isReg p1) (v_3 : isRec p2) (v_4 : p2 = 1) (v_5 : rem2 w = 0) (hN9 : dcntF p2 w = nI N) (hn9 : N < 100) : Fn U yL_productByRows wsL_productByRows { frames := 8, cells := 0, slots := 0, locals := 137 } [.ref b, .int p0, .int p1, .int p2, .ref yo] [(b, .inr (5, [.ref a, .ref h, .ref sa, .int tk, .ref pa, .ref ta])), (a, .inr (3, [.ref v, .ref m, .int w, .int o, .int t])), (v, .inl (U.2.2.1 0, 6, .inl f)), (yo, .inl (U.2.2.1 2, 1, .inr (.inl go)))] (some (.int (0 : Int32))) [(b, .inr (5, [.ref a, .ref h, .ref sa, .int tk, .ref pa, .ref ta])), (a, .inr (3, [.ref v, .ref m, .int w, .int o, .int t])), (v, .inl (U.2.2.1 0, 6, .inl f)), (yo, .inl (U.2.2.1 2, 1, .inr (.inl (vp_updL go 0 ((prF (valF f p0) (valF f p1) p2 N).toInt64)))))] 0 0 := by
  refine FnW_of (cc := cL_productByRows) (maxL := 6) (ret := (some .int)) [some (.ref b), some (.int p0), some (.int p1), some (.int p2), some (.ref yo), none] (by decide +kernel) rfl (jcat rfl) (Nat.le_of_ble_eq_true rfl) rfl (fun k C R tab hnL => ?_)
  have hN : ∀ i, i < 6 → i < k.2.2.2.2.2.2.2.2.2.2.2.1 := fun i h => by rw [hnL]; exact h
  refine J_aload C dL_productByRows_0 rfl ?_
  refine J_iconst C (v := (0 : Int32)) dL_productByRows_2 (by decide) ?_
  refine J_aload_n C dL_productByRows_3 rfl rfl ?_
  refine J_iload_n C dL_productByRows_4 rfl rfl ?_
  refine J_iload_n C dL_productByRows_5 rfl rfl ?_
  refine J_iload_n C dL_productByRows_6 rfl rfl ?_
  refine J_callV C (c_X5_productByRows_ok1 U b a h sa pa ta tk v m f w o t p0 p1 p2 N v_1 v_2 v_3 v_4 v_5 hN9 hn9) gL_productByRows_X5_productByRows (n := 3) rfl rfl rfl (by decide +kernel) ⟨Nat.le_of_ble_eq_true rfl, Nat.le_of_ble_eq_true rfl⟩ 0 rfl rfl rfl (rest := [.int (0 : Int32), .ref yo]) rfl (Nat.le_of_ble_eq_true rfl) [(b, .inr (5, [.ref a, .ref h, .ref sa, .int tk, .ref pa, .ref ta])), (a, .inr (3, [.ref v, .ref m, .int w, .int o, .int t])), (v, .inl (U.2.2.1 0, 6, .inl f)), (yo, .inl (U.2.2.1 2, 1, .inr (.inl go)))] [0, 1, 2] [3] [1, 2, 3, 0] (wr := [(yo, .inl (U.2.2.1 2, 1, .inr (.inl go)))]) rfl rfl rfl rfl (by decide) rfl rfl  dL_productByRows_7 ⟨Nat.le_of_ble_eq_true rfl, Nat.le_of_ble_eq_true rfl⟩ [.int (prF (valF f p0) (valF f p1) p2 N), .int (0 : Int32), .ref yo] rfl ?_
  refine J_i2l C dL_productByRows_10 rfl ?_
  refine J_last C 3 [(b, .inr (5, [.ref a, .ref h, .ref sa, .int tk, .ref pa, .ref ta])), (a, .inr (3, [.ref v, .ref m, .int w, .int o, .int t])), (v, .inl (U.2.2.1 0, 6, .inl f)), (yo, .inl (U.2.2.1 2, 1, .inr (.inl (vp_updL go 0 ((prF (valF f p0) (valF f p1) p2 N).toInt64)))))] rfl (vpl n_0 (by decide) (by decide)) (by rw [n_0]; rfl) dL_productByRows_11 ?_
  refine J_goto C 27 dL_productByRows_12 (by decide) ?_
  refine J_iconst C (v := (0 : Int32)) dL_productByRows_27 (by decide) ?_
  exact J_iret C R dL_productByRows_28 (Nat.le_of_ble_eq_true rfl) (Nat.le_of_ble_eq_true rfl) rfl rfl
set_option maxHeartbeats 4000000 in
set_option maxRecDepth 100000 in
theorem c_L_productByRows_ok2 (U : jU) (b a h sa pa ta : Nat) (tk : Int32) (v m : Nat) (f : Nat → Int32) (w o t : Int32) (p0 p1 p2 : Int32) (N : Nat) (yo : Nat) (go : Nat → Int64) (v_1 : isReg p0) (v_2 : isReg p1) (v_3 : isRec p2) (v_4 : ¬ p2 = 1) (hN9 : dcntF p2 w = nI N) (hn9 : N < 100) : Fn U yL_productByRows wsL_productByRows { frames := 8, cells := 0, slots := 0, locals := 137 } [.ref b, .int p0, .int p1, .int p2, .ref yo] [(b, .inr (5, [.ref a, .ref h, .ref sa, .int tk, .ref pa, .ref ta])), (a, .inr (3, [.ref v, .ref m, .int w, .int o, .int t])), (v, .inl (U.2.2.1 0, 6, .inl f)), (yo, .inl (U.2.2.1 2, 1, .inr (.inl go)))] (some (.int (0 : Int32))) [(b, .inr (5, [.ref a, .ref h, .ref sa, .int tk, .ref pa, .ref ta])), (a, .inr (3, [.ref v, .ref m, .int w, .int o, .int t])), (v, .inl (U.2.2.1 0, 6, .inl f)), (yo, .inl (U.2.2.1 2, 1, .inr (.inl (vp_updL go 0 ((prF (valF f p0) (valF f p1) p2 N).toInt64)))))] 0 0 := by
  refine FnW_of (cc := cL_productByRows) (maxL := 6) (ret := (some .int)) [some (.ref b), some (.int p0), some (.int p1), some (.int p2), some (.ref yo), none] (by decide +kernel) rfl (jcat rfl) (Nat.le_of_ble_eq_true rfl) rfl (fun k C R tab hnL => ?_)
  have hN : ∀ i, i < 6 → i < k.2.2.2.2.2.2.2.2.2.2.2.1 := fun i h => by rw [hnL]; exact h
  refine J_aload C dL_productByRows_0 rfl ?_
  refine J_iconst C (v := (0 : Int32)) dL_productByRows_2 (by decide) ?_
  refine J_aload_n C dL_productByRows_3 rfl rfl ?_
  refine J_iload_n C dL_productByRows_4 rfl rfl ?_
  refine J_iload_n C dL_productByRows_5 rfl rfl ?_
  refine J_iload_n C dL_productByRows_6 rfl rfl ?_
  refine J_callV C (c_X5_productByRows_ok2 U b a h sa pa ta tk v m f w o t p0 p1 p2 N v_1 v_2 v_3 v_4 hN9 hn9) gL_productByRows_X5_productByRows (n := 3) rfl rfl rfl (by decide +kernel) ⟨Nat.le_of_ble_eq_true rfl, Nat.le_of_ble_eq_true rfl⟩ 0 rfl rfl rfl (rest := [.int (0 : Int32), .ref yo]) rfl (Nat.le_of_ble_eq_true rfl) [(b, .inr (5, [.ref a, .ref h, .ref sa, .int tk, .ref pa, .ref ta])), (a, .inr (3, [.ref v, .ref m, .int w, .int o, .int t])), (v, .inl (U.2.2.1 0, 6, .inl f)), (yo, .inl (U.2.2.1 2, 1, .inr (.inl go)))] [0, 1, 2] [3] [1, 2, 3, 0] (wr := [(yo, .inl (U.2.2.1 2, 1, .inr (.inl go)))]) rfl rfl rfl rfl (by decide) rfl rfl  dL_productByRows_7 ⟨Nat.le_of_ble_eq_true rfl, Nat.le_of_ble_eq_true rfl⟩ [.int (prF (valF f p0) (valF f p1) p2 N), .int (0 : Int32), .ref yo] rfl ?_
  refine J_i2l C dL_productByRows_10 rfl ?_
  refine J_last C 3 [(b, .inr (5, [.ref a, .ref h, .ref sa, .int tk, .ref pa, .ref ta])), (a, .inr (3, [.ref v, .ref m, .int w, .int o, .int t])), (v, .inl (U.2.2.1 0, 6, .inl f)), (yo, .inl (U.2.2.1 2, 1, .inr (.inl (vp_updL go 0 ((prF (valF f p0) (valF f p1) p2 N).toInt64)))))] rfl (vpl n_0 (by decide) (by decide)) (by rw [n_0]; rfl) dL_productByRows_11 ?_
  refine J_goto C 27 dL_productByRows_12 (by decide) ?_
  refine J_iconst C (v := (0 : Int32)) dL_productByRows_27 (by decide) ?_
  exact J_iret C R dL_productByRows_28 (Nat.le_of_ble_eq_true rfl) (Nat.le_of_ble_eq_true rfl) rfl rfl
set_option maxHeartbeats 4000000 in
set_option maxRecDepth 100000 in
theorem c_L_productByBits_no1 (U : jU) (b a h sa pa ta : Nat) (tk : Int32) (p0 p1 : Int32) (yo : Nat) (go : Nat → Int64) (v_1 : ¬ isReg p0) : Fn U yL_productByBits wsL_productByBits { frames := 8, cells := 1, slots := 6, locals := 135 } [.ref b, .int p0, .int p1, .ref yo] [(b, .inr (5, [.ref a, .ref h, .ref sa, .int tk, .ref pa, .ref ta])), (yo, .inl (U.2.2.1 2, 1, .inr (.inl go)))] (some (.int (1 : Int32))) [(b, .inr (5, [.ref a, .ref h, .ref sa, .int tk, .ref pa, .ref ta])), (yo, .inl (U.2.2.1 2, 1, .inr (.inl go)))] 1 6 := by
  refine FnW_of (cc := cL_productByBits) (maxL := 5) (ret := (some .int)) [some (.ref b), some (.int p0), some (.int p1), some (.ref yo), none] (by decide +kernel) rfl (jcat rfl) (Nat.le_of_ble_eq_true rfl) rfl (fun k C R tab hnL => ?_)
  have hN : ∀ i, i < 5 → i < k.2.2.2.2.2.2.2.2.2.2.2.1 := fun i h => by rw [hnL]; exact h
  refine J_aload_n C dL_productByBits_0 rfl rfl ?_
  refine J_iconst C (v := (0 : Int32)) dL_productByBits_1 (by decide) ?_
  refine J_aload_n C dL_productByBits_2 rfl rfl ?_
  refine J_iload_n C dL_productByBits_3 rfl rfl ?_
  refine J_iload_n C dL_productByBits_4 rfl rfl ?_
  refine J_callXV C (c_X5_productByBits_no1 U b 0 0 0 0 0 (0 : Int32) p0 p1 v_1) gL_productByBits_X5_productByBits (n := 2) rfl rfl rfl (by decide +kernel) ⟨Nat.le_of_ble_eq_true rfl, Nat.le_of_ble_eq_true rfl⟩ 0 rfl rfl rfl (rest := [.int (0 : Int32), .ref yo]) rfl (Nat.le_of_ble_eq_true rfl) [(b, .inr (5, [.ref a, .ref h, .ref sa, .int tk, .ref pa, .ref ta])), (yo, .inl (U.2.2.1 2, 1, .inr (.inl go)))] [] [0, 1] [0, 1] (wr := [(b, .inr (5, [.ref a, .ref h, .ref sa, .int tk, .ref pa, .ref ta])), (yo, .inl (U.2.2.1 2, 1, .inr (.inl go)))]) rfl rfl rfl rfl (by decide) rfl rfl dL_productByBits_5 ⟨Nat.le_of_ble_eq_true rfl, Nat.le_of_ble_eq_true rfl⟩ ?_
  refine JX_catch C tab [] (0, 10, 13, 19) [] rfl (fun z hz => absurd hz List.not_mem_nil) (by decide) (by decide) (by decide) (List.mem_of_getElem? (i := 1) rfl) (fun q_x => ?_)
  refine J_astore C [some (.ref b), some (.int p0), some (.int p1), some (.ref yo), some (.ref q_x)] dL_productByBits_13 (hN 4 (by decide)) rfl ?_
  refine J_iconst C (v := (1 : Int32)) dL_productByBits_15 (by decide) ?_
  exact J_iret C R dL_productByBits_16 (Nat.le_of_ble_eq_true rfl) (Nat.le_of_ble_eq_true rfl) rfl rfl
set_option maxHeartbeats 4000000 in
set_option maxRecDepth 100000 in
theorem c_L_productByBits_no2 (U : jU) (b a h sa pa ta : Nat) (tk : Int32) (p0 p1 : Int32) (yo : Nat) (go : Nat → Int64) (v_1 : isReg p0) (v_2 : ¬ isReg p1) : Fn U yL_productByBits wsL_productByBits { frames := 8, cells := 1, slots := 6, locals := 135 } [.ref b, .int p0, .int p1, .ref yo] [(b, .inr (5, [.ref a, .ref h, .ref sa, .int tk, .ref pa, .ref ta])), (yo, .inl (U.2.2.1 2, 1, .inr (.inl go)))] (some (.int (1 : Int32))) [(b, .inr (5, [.ref a, .ref h, .ref sa, .int tk, .ref pa, .ref ta])), (yo, .inl (U.2.2.1 2, 1, .inr (.inl go)))] 1 6 := by
  refine FnW_of (cc := cL_productByBits) (maxL := 5) (ret := (some .int)) [some (.ref b), some (.int p0), some (.int p1), some (.ref yo), none] (by decide +kernel) rfl (jcat rfl) (Nat.le_of_ble_eq_true rfl) rfl (fun k C R tab hnL => ?_)
  have hN : ∀ i, i < 5 → i < k.2.2.2.2.2.2.2.2.2.2.2.1 := fun i h => by rw [hnL]; exact h
  refine J_aload_n C dL_productByBits_0 rfl rfl ?_
  refine J_iconst C (v := (0 : Int32)) dL_productByBits_1 (by decide) ?_
  refine J_aload_n C dL_productByBits_2 rfl rfl ?_
  refine J_iload_n C dL_productByBits_3 rfl rfl ?_
  refine J_iload_n C dL_productByBits_4 rfl rfl ?_
  refine J_callXV C (c_X5_productByBits_no2 U b 0 0 0 0 0 (0 : Int32) p0 p1 v_1 v_2) gL_productByBits_X5_productByBits (n := 2) rfl rfl rfl (by decide +kernel) ⟨Nat.le_of_ble_eq_true rfl, Nat.le_of_ble_eq_true rfl⟩ 0 rfl rfl rfl (rest := [.int (0 : Int32), .ref yo]) rfl (Nat.le_of_ble_eq_true rfl) [(b, .inr (5, [.ref a, .ref h, .ref sa, .int tk, .ref pa, .ref ta])), (yo, .inl (U.2.2.1 2, 1, .inr (.inl go)))] [] [0, 1] [0, 1] (wr := [(b, .inr (5, [.ref a, .ref h, .ref sa, .int tk, .ref pa, .ref ta])), (yo, .inl (U.2.2.1 2, 1, .inr (.inl go)))]) rfl rfl rfl rfl (by decide) rfl rfl dL_productByBits_5 ⟨Nat.le_of_ble_eq_true rfl, Nat.le_of_ble_eq_true rfl⟩ ?_
  refine JX_catch C tab [] (0, 10, 13, 19) [] rfl (fun z hz => absurd hz List.not_mem_nil) (by decide) (by decide) (by decide) (List.mem_of_getElem? (i := 1) rfl) (fun q_x => ?_)
  refine J_astore C [some (.ref b), some (.int p0), some (.int p1), some (.ref yo), some (.ref q_x)] dL_productByBits_13 (hN 4 (by decide)) rfl ?_
  refine J_iconst C (v := (1 : Int32)) dL_productByBits_15 (by decide) ?_
  exact J_iret C R dL_productByBits_16 (Nat.le_of_ble_eq_true rfl) (Nat.le_of_ble_eq_true rfl) rfl rfl
set_option maxHeartbeats 4000000 in
set_option maxRecDepth 100000 in
theorem c_L_productByBits_ok (U : jU) (b a h sa pa ta : Nat) (tk : Int32) (v m : Nat) (f : Nat → Int32) (w o t : Int32) (p0 p1 : Int32) (N : Nat) (yo : Nat) (go : Nat → Int64) (v_1 : isReg p0) (v_2 : isReg p1) (hN9 : w - 1 = nI N) (hn9 : N < 100) : Fn U yL_productByBits wsL_productByBits { frames := 8, cells := 0, slots := 0, locals := 135 } [.ref b, .int p0, .int p1, .ref yo] [(b, .inr (5, [.ref a, .ref h, .ref sa, .int tk, .ref pa, .ref ta])), (a, .inr (3, [.ref v, .ref m, .int w, .int o, .int t])), (v, .inl (U.2.2.1 0, 6, .inl f)), (yo, .inl (U.2.2.1 2, 1, .inr (.inl go)))] (some (.int (0 : Int32))) [(b, .inr (5, [.ref a, .ref h, .ref sa, .int tk, .ref pa, .ref ta])), (a, .inr (3, [.ref v, .ref m, .int w, .int o, .int t])), (v, .inl (U.2.2.1 0, 6, .inl f)), (yo, .inl (U.2.2.1 2, 1, .inr (.inl (vp_updL go 0 ((pbF (valF f p0) (valF f p1) N - (bitF (valF f p1) (w - 1) * valF f p0) <<< ((w - 1) &&& 31)).toInt64)))))] 0 0 := by
  refine FnW_of (cc := cL_productByBits) (maxL := 5) (ret := (some .int)) [some (.ref b), some (.int p0), some (.int p1), some (.ref yo), none] (by decide +kernel) rfl (jcat rfl) (Nat.le_of_ble_eq_true rfl) rfl (fun k C R tab hnL => ?_)
  have hN : ∀ i, i < 5 → i < k.2.2.2.2.2.2.2.2.2.2.2.1 := fun i h => by rw [hnL]; exact h
  refine J_aload_n C dL_productByBits_0 rfl rfl ?_
  refine J_iconst C (v := (0 : Int32)) dL_productByBits_1 (by decide) ?_
  refine J_aload_n C dL_productByBits_2 rfl rfl ?_
  refine J_iload_n C dL_productByBits_3 rfl rfl ?_
  refine J_iload_n C dL_productByBits_4 rfl rfl ?_
  refine J_callV C (c_X5_productByBits_ok U b a h sa pa ta tk v m f w o t p0 p1 N v_1 v_2 hN9 hn9) gL_productByBits_X5_productByBits (n := 2) rfl rfl rfl (by decide +kernel) ⟨Nat.le_of_ble_eq_true rfl, Nat.le_of_ble_eq_true rfl⟩ 0 rfl rfl rfl (rest := [.int (0 : Int32), .ref yo]) rfl (Nat.le_of_ble_eq_true rfl) [(b, .inr (5, [.ref a, .ref h, .ref sa, .int tk, .ref pa, .ref ta])), (a, .inr (3, [.ref v, .ref m, .int w, .int o, .int t])), (v, .inl (U.2.2.1 0, 6, .inl f)), (yo, .inl (U.2.2.1 2, 1, .inr (.inl go)))] [0, 1, 2] [3] [1, 2, 3, 0] (wr := [(yo, .inl (U.2.2.1 2, 1, .inr (.inl go)))]) rfl rfl rfl rfl (by decide) rfl rfl  dL_productByBits_5 ⟨Nat.le_of_ble_eq_true rfl, Nat.le_of_ble_eq_true rfl⟩ [.int (pbF (valF f p0) (valF f p1) N - (bitF (valF f p1) (w - 1) * valF f p0) <<< ((w - 1) &&& 31)), .int (0 : Int32), .ref yo] rfl ?_
  refine J_i2l C dL_productByBits_8 rfl ?_
  refine J_last C 3 [(b, .inr (5, [.ref a, .ref h, .ref sa, .int tk, .ref pa, .ref ta])), (a, .inr (3, [.ref v, .ref m, .int w, .int o, .int t])), (v, .inl (U.2.2.1 0, 6, .inl f)), (yo, .inl (U.2.2.1 2, 1, .inr (.inl (vp_updL go 0 ((pbF (valF f p0) (valF f p1) N - (bitF (valF f p1) (w - 1) * valF f p0) <<< ((w - 1) &&& 31)).toInt64)))))] rfl (vpl n_0 (by decide) (by decide)) (by rw [n_0]; rfl) dL_productByBits_9 ?_
  refine J_goto C 17 dL_productByBits_10 (by decide) ?_
  refine J_iconst C (v := (0 : Int32)) dL_productByBits_17 (by decide) ?_
  exact J_iret C R dL_productByBits_18 (Nat.le_of_ble_eq_true rfl) (Nat.le_of_ble_eq_true rfl) rfl rfl
set_option maxHeartbeats 4000000 in
set_option maxRecDepth 100000 in
theorem c_L_fits_no1 (U : jU) (b a h sa pa ta : Nat) (tk : Int32) (p0 p1 : Int32) (yo : Nat) (go : Nat → Int64) (v_1 : ¬ isReg p0) : Fn U yL_fits wsL_fits { frames := 8, cells := 1, slots := 6, locals := 132 } [.ref b, .int p0, .int p1, .ref yo] [(b, .inr (5, [.ref a, .ref h, .ref sa, .int tk, .ref pa, .ref ta])), (yo, .inl (U.2.2.1 2, 1, .inr (.inl go)))] (some (.int (1 : Int32))) [(b, .inr (5, [.ref a, .ref h, .ref sa, .int tk, .ref pa, .ref ta])), (yo, .inl (U.2.2.1 2, 1, .inr (.inl go)))] 1 6 := by
  refine FnW_of (cc := cL_fits) (maxL := 5) (ret := (some .int)) [some (.ref b), some (.int p0), some (.int p1), some (.ref yo), none] (by decide +kernel) rfl (jcat rfl) (Nat.le_of_ble_eq_true rfl) rfl (fun k C R tab hnL => ?_)
  have hN : ∀ i, i < 5 → i < k.2.2.2.2.2.2.2.2.2.2.2.1 := fun i h => by rw [hnL]; exact h
  refine J_aload_n C dL_fits_0 rfl rfl ?_
  refine J_iconst C (v := (0 : Int32)) dL_fits_1 (by decide) ?_
  refine J_aload_n C dL_fits_2 rfl rfl ?_
  refine J_iload_n C dL_fits_3 rfl rfl ?_
  refine J_iload_n C dL_fits_4 rfl rfl ?_
  refine J_callXV C (c_X5_fits_no1 U b 0 0 0 0 0 (0 : Int32) p0 p1 v_1) gL_fits_X5_fits (n := 2) rfl rfl rfl (by decide +kernel) ⟨Nat.le_of_ble_eq_true rfl, Nat.le_of_ble_eq_true rfl⟩ 0 rfl rfl rfl (rest := [.int (0 : Int32), .ref yo]) rfl (Nat.le_of_ble_eq_true rfl) [(b, .inr (5, [.ref a, .ref h, .ref sa, .int tk, .ref pa, .ref ta])), (yo, .inl (U.2.2.1 2, 1, .inr (.inl go)))] [] [0, 1] [0, 1] (wr := [(b, .inr (5, [.ref a, .ref h, .ref sa, .int tk, .ref pa, .ref ta])), (yo, .inl (U.2.2.1 2, 1, .inr (.inl go)))]) rfl rfl rfl rfl (by decide) rfl rfl dL_fits_5 ⟨Nat.le_of_ble_eq_true rfl, Nat.le_of_ble_eq_true rfl⟩ ?_
  refine JX_catch C tab [] (0, 17, 20, 19) [] rfl (fun z hz => absurd hz List.not_mem_nil) (by decide) (by decide) (by decide) (List.mem_of_getElem? (i := 1) rfl) (fun q_x => ?_)
  refine J_astore C [some (.ref b), some (.int p0), some (.int p1), some (.ref yo), some (.ref q_x)] dL_fits_20 (hN 4 (by decide)) rfl ?_
  refine J_iconst C (v := (1 : Int32)) dL_fits_22 (by decide) ?_
  exact J_iret C R dL_fits_23 (Nat.le_of_ble_eq_true rfl) (Nat.le_of_ble_eq_true rfl) rfl rfl
set_option maxHeartbeats 4000000 in
set_option maxRecDepth 100000 in
theorem c_L_fits_no2 (U : jU) (b a h sa pa ta : Nat) (tk : Int32) (p0 p1 : Int32) (yo : Nat) (go : Nat → Int64) (v_1 : isReg p0) (v_2 : ¬ isReg p1) : Fn U yL_fits wsL_fits { frames := 8, cells := 1, slots := 6, locals := 132 } [.ref b, .int p0, .int p1, .ref yo] [(b, .inr (5, [.ref a, .ref h, .ref sa, .int tk, .ref pa, .ref ta])), (yo, .inl (U.2.2.1 2, 1, .inr (.inl go)))] (some (.int (1 : Int32))) [(b, .inr (5, [.ref a, .ref h, .ref sa, .int tk, .ref pa, .ref ta])), (yo, .inl (U.2.2.1 2, 1, .inr (.inl go)))] 1 6 := by
  refine FnW_of (cc := cL_fits) (maxL := 5) (ret := (some .int)) [some (.ref b), some (.int p0), some (.int p1), some (.ref yo), none] (by decide +kernel) rfl (jcat rfl) (Nat.le_of_ble_eq_true rfl) rfl (fun k C R tab hnL => ?_)
  have hN : ∀ i, i < 5 → i < k.2.2.2.2.2.2.2.2.2.2.2.1 := fun i h => by rw [hnL]; exact h
  refine J_aload_n C dL_fits_0 rfl rfl ?_
  refine J_iconst C (v := (0 : Int32)) dL_fits_1 (by decide) ?_
  refine J_aload_n C dL_fits_2 rfl rfl ?_
  refine J_iload_n C dL_fits_3 rfl rfl ?_
  refine J_iload_n C dL_fits_4 rfl rfl ?_
  refine J_callXV C (c_X5_fits_no2 U b 0 0 0 0 0 (0 : Int32) p0 p1 v_1 v_2) gL_fits_X5_fits (n := 2) rfl rfl rfl (by decide +kernel) ⟨Nat.le_of_ble_eq_true rfl, Nat.le_of_ble_eq_true rfl⟩ 0 rfl rfl rfl (rest := [.int (0 : Int32), .ref yo]) rfl (Nat.le_of_ble_eq_true rfl) [(b, .inr (5, [.ref a, .ref h, .ref sa, .int tk, .ref pa, .ref ta])), (yo, .inl (U.2.2.1 2, 1, .inr (.inl go)))] [] [0, 1] [0, 1] (wr := [(b, .inr (5, [.ref a, .ref h, .ref sa, .int tk, .ref pa, .ref ta])), (yo, .inl (U.2.2.1 2, 1, .inr (.inl go)))]) rfl rfl rfl rfl (by decide) rfl rfl dL_fits_5 ⟨Nat.le_of_ble_eq_true rfl, Nat.le_of_ble_eq_true rfl⟩ ?_
  refine JX_catch C tab [] (0, 17, 20, 19) [] rfl (fun z hz => absurd hz List.not_mem_nil) (by decide) (by decide) (by decide) (List.mem_of_getElem? (i := 1) rfl) (fun q_x => ?_)
  refine J_astore C [some (.ref b), some (.int p0), some (.int p1), some (.ref yo), some (.ref q_x)] dL_fits_20 (hN 4 (by decide)) rfl ?_
  refine J_iconst C (v := (1 : Int32)) dL_fits_22 (by decide) ?_
  exact J_iret C R dL_fits_23 (Nat.le_of_ble_eq_true rfl) (Nat.le_of_ble_eq_true rfl) rfl rfl
set_option maxHeartbeats 4000000 in
set_option maxRecDepth 100000 in
theorem c_L_fits_oky (U : jU) (b a h sa pa ta : Nat) (tk : Int32) (v m : Nat) (f : Nat → Int32) (w o t : Int32) (p0 p1 : Int32) (yo : Nat) (go : Nat → Int64) (v_1 : isReg p0) (v_2 : isReg p1) (v_p : wrapF w (valF f p0 * valF f p1) = (valF f p0 * valF f p1)) : Fn U yL_fits wsL_fits { frames := 8, cells := 0, slots := 0, locals := 132 } [.ref b, .int p0, .int p1, .ref yo] [(b, .inr (5, [.ref a, .ref h, .ref sa, .int tk, .ref pa, .ref ta])), (a, .inr (3, [.ref v, .ref m, .int w, .int o, .int t])), (v, .inl (U.2.2.1 0, 6, .inl f)), (yo, .inl (U.2.2.1 2, 1, .inr (.inl go)))] (some (.int (0 : Int32))) [(b, .inr (5, [.ref a, .ref h, .ref sa, .int tk, .ref pa, .ref ta])), (a, .inr (3, [.ref v, .ref m, .int w, .int o, .int t])), (v, .inl (U.2.2.1 0, 6, .inl f)), (yo, .inl (U.2.2.1 2, 1, .inr (.inl (vp_updL go 0 (1 : Int64)))))] 0 0 := by
  refine FnW_of (cc := cL_fits) (maxL := 5) (ret := (some .int)) [some (.ref b), some (.int p0), some (.int p1), some (.ref yo), none] (by decide +kernel) rfl (jcat rfl) (Nat.le_of_ble_eq_true rfl) rfl (fun k C R tab hnL => ?_)
  have hN : ∀ i, i < 5 → i < k.2.2.2.2.2.2.2.2.2.2.2.1 := fun i h => by rw [hnL]; exact h
  refine J_aload_n C dL_fits_0 rfl rfl ?_
  refine J_iconst C (v := (0 : Int32)) dL_fits_1 (by decide) ?_
  refine J_aload_n C dL_fits_2 rfl rfl ?_
  refine J_iload_n C dL_fits_3 rfl rfl ?_
  refine J_iload_n C dL_fits_4 rfl rfl ?_
  refine J_callV C (c_X5_fits_ok U b a h sa pa ta tk v m f w o t p0 p1 v_1 v_2) gL_fits_X5_fits (n := 2) rfl rfl rfl (by decide +kernel) ⟨Nat.le_of_ble_eq_true rfl, Nat.le_of_ble_eq_true rfl⟩ 0 rfl rfl rfl (rest := [.int (0 : Int32), .ref yo]) rfl (Nat.le_of_ble_eq_true rfl) [(b, .inr (5, [.ref a, .ref h, .ref sa, .int tk, .ref pa, .ref ta])), (a, .inr (3, [.ref v, .ref m, .int w, .int o, .int t])), (v, .inl (U.2.2.1 0, 6, .inl f)), (yo, .inl (U.2.2.1 2, 1, .inr (.inl go)))] [0, 1, 2] [3] [1, 2, 3, 0] (wr := [(yo, .inl (U.2.2.1 2, 1, .inr (.inl go)))]) rfl rfl rfl rfl (by decide) rfl rfl  dL_fits_5 ⟨Nat.le_of_ble_eq_true rfl, Nat.le_of_ble_eq_true rfl⟩ [.int (b2i (wrapF w (valF f p0 * valF f p1) = (valF f p0 * valF f p1))), .int (0 : Int32), .ref yo] rfl ?_
  refine J_if_eq_b C 15 dL_fits_8 (by decide) (fun h => absurd h (fun hh => hh v_p)) (fun _ => ?_)
  refine J_lconst C (v := (1 : Int64)) dL_fits_11 (by decide) ?_
  refine J_goto C 16 dL_fits_12 (by decide) ?_
  refine J_last C 3 [(b, .inr (5, [.ref a, .ref h, .ref sa, .int tk, .ref pa, .ref ta])), (a, .inr (3, [.ref v, .ref m, .int w, .int o, .int t])), (v, .inl (U.2.2.1 0, 6, .inl f)), (yo, .inl (U.2.2.1 2, 1, .inr (.inl (vp_updL go 0 (1 : Int64)))))] rfl (vpl n_0 (by decide) (by decide)) (by rw [n_0]; rfl) dL_fits_16 ?_
  refine J_goto C 24 dL_fits_17 (by decide) ?_
  refine J_iconst C (v := (0 : Int32)) dL_fits_24 (by decide) ?_
  exact J_iret C R dL_fits_25 (Nat.le_of_ble_eq_true rfl) (Nat.le_of_ble_eq_true rfl) rfl rfl
set_option maxHeartbeats 4000000 in
set_option maxRecDepth 100000 in
theorem c_L_fits_okn (U : jU) (b a h sa pa ta : Nat) (tk : Int32) (v m : Nat) (f : Nat → Int32) (w o t : Int32) (p0 p1 : Int32) (yo : Nat) (go : Nat → Int64) (v_1 : isReg p0) (v_2 : isReg p1) (v_p : ¬ (wrapF w (valF f p0 * valF f p1) = (valF f p0 * valF f p1))) : Fn U yL_fits wsL_fits { frames := 8, cells := 0, slots := 0, locals := 132 } [.ref b, .int p0, .int p1, .ref yo] [(b, .inr (5, [.ref a, .ref h, .ref sa, .int tk, .ref pa, .ref ta])), (a, .inr (3, [.ref v, .ref m, .int w, .int o, .int t])), (v, .inl (U.2.2.1 0, 6, .inl f)), (yo, .inl (U.2.2.1 2, 1, .inr (.inl go)))] (some (.int (0 : Int32))) [(b, .inr (5, [.ref a, .ref h, .ref sa, .int tk, .ref pa, .ref ta])), (a, .inr (3, [.ref v, .ref m, .int w, .int o, .int t])), (v, .inl (U.2.2.1 0, 6, .inl f)), (yo, .inl (U.2.2.1 2, 1, .inr (.inl (vp_updL go 0 (0 : Int64)))))] 0 0 := by
  refine FnW_of (cc := cL_fits) (maxL := 5) (ret := (some .int)) [some (.ref b), some (.int p0), some (.int p1), some (.ref yo), none] (by decide +kernel) rfl (jcat rfl) (Nat.le_of_ble_eq_true rfl) rfl (fun k C R tab hnL => ?_)
  have hN : ∀ i, i < 5 → i < k.2.2.2.2.2.2.2.2.2.2.2.1 := fun i h => by rw [hnL]; exact h
  refine J_aload_n C dL_fits_0 rfl rfl ?_
  refine J_iconst C (v := (0 : Int32)) dL_fits_1 (by decide) ?_
  refine J_aload_n C dL_fits_2 rfl rfl ?_
  refine J_iload_n C dL_fits_3 rfl rfl ?_
  refine J_iload_n C dL_fits_4 rfl rfl ?_
  refine J_callV C (c_X5_fits_ok U b a h sa pa ta tk v m f w o t p0 p1 v_1 v_2) gL_fits_X5_fits (n := 2) rfl rfl rfl (by decide +kernel) ⟨Nat.le_of_ble_eq_true rfl, Nat.le_of_ble_eq_true rfl⟩ 0 rfl rfl rfl (rest := [.int (0 : Int32), .ref yo]) rfl (Nat.le_of_ble_eq_true rfl) [(b, .inr (5, [.ref a, .ref h, .ref sa, .int tk, .ref pa, .ref ta])), (a, .inr (3, [.ref v, .ref m, .int w, .int o, .int t])), (v, .inl (U.2.2.1 0, 6, .inl f)), (yo, .inl (U.2.2.1 2, 1, .inr (.inl go)))] [0, 1, 2] [3] [1, 2, 3, 0] (wr := [(yo, .inl (U.2.2.1 2, 1, .inr (.inl go)))]) rfl rfl rfl rfl (by decide) rfl rfl  dL_fits_5 ⟨Nat.le_of_ble_eq_true rfl, Nat.le_of_ble_eq_true rfl⟩ [.int (b2i (wrapF w (valF f p0 * valF f p1) = (valF f p0 * valF f p1))), .int (0 : Int32), .ref yo] rfl ?_
  refine J_if_eq_b C 15 dL_fits_8 (by decide) (fun _ => ?_) (fun h => absurd h v_p)
  refine J_lconst C (v := (0 : Int64)) dL_fits_15 (by decide) ?_
  refine J_last C 3 [(b, .inr (5, [.ref a, .ref h, .ref sa, .int tk, .ref pa, .ref ta])), (a, .inr (3, [.ref v, .ref m, .int w, .int o, .int t])), (v, .inl (U.2.2.1 0, 6, .inl f)), (yo, .inl (U.2.2.1 2, 1, .inr (.inl (vp_updL go 0 (0 : Int64)))))] rfl (vpl n_0 (by decide) (by decide)) (by rw [n_0]; rfl) dL_fits_16 ?_
  refine J_goto C 24 dL_fits_17 (by decide) ?_
  refine J_iconst C (v := (0 : Int32)) dL_fits_24 (by decide) ?_
  exact J_iret C R dL_fits_25 (Nat.le_of_ble_eq_true rfl) (Nat.le_of_ble_eq_true rfl) rfl rfl
set_option maxHeartbeats 4000000 in
set_option maxRecDepth 100000 in
theorem c_L_highPart_no1 (U : jU) (b a h sa pa ta : Nat) (tk : Int32) (v m : Nat) (w o t sl bp mw mc hi lo ex : Int32) (yo : Nat) (go : Nat → Int64) (v_1 : sl = -1) : Fn U yL_highPart wsL_highPart { frames := 8, cells := 1, slots := 6, locals := 130 } [.ref b, .ref yo] [(b, .inr (5, [.ref a, .ref h, .ref sa, .int tk, .ref pa, .ref ta])), (a, .inr (3, [.ref v, .ref m, .int w, .int o, .int t])), (m, .inr (1, [.int sl, .int bp, .int mw, .int mc, .int hi, .int lo, .int ex])), (yo, .inl (U.2.2.1 2, 1, .inr (.inl go)))] (some (.int (1 : Int32))) [(b, .inr (5, [.ref a, .ref h, .ref sa, .int tk, .ref pa, .ref ta])), (a, .inr (3, [.ref v, .ref m, .int w, .int o, .int t])), (m, .inr (1, [.int sl, .int bp, .int mw, .int mc, .int hi, .int lo, .int ex])), (yo, .inl (U.2.2.1 2, 1, .inr (.inl go)))] 1 6 := by
  refine FnW_of (cc := cL_highPart) (maxL := 3) (ret := (some .int)) [some (.ref b), some (.ref yo), none] (by decide +kernel) rfl (jcat rfl) (Nat.le_of_ble_eq_true rfl) rfl (fun k C R tab hnL => ?_)
  have hN : ∀ i, i < 3 → i < k.2.2.2.2.2.2.2.2.2.2.2.1 := fun i h => by rw [hnL]; exact h
  refine J_aload_n C dL_highPart_0 rfl rfl ?_
  refine J_iconst C (v := (0 : Int32)) dL_highPart_1 (by decide) ?_
  refine J_aload_n C dL_highPart_2 rfl rfl ?_
  refine J_callXV C (c_X5_highPart_no1 U b a h sa pa ta tk v m w o t sl bp mw mc hi lo ex v_1) gL_highPart_X5_highPart (n := 0) rfl rfl rfl (by decide +kernel) ⟨Nat.le_of_ble_eq_true rfl, Nat.le_of_ble_eq_true rfl⟩ 0 rfl rfl rfl (rest := [.int (0 : Int32), .ref yo]) rfl (Nat.le_of_ble_eq_true rfl) [(b, .inr (5, [.ref a, .ref h, .ref sa, .int tk, .ref pa, .ref ta])), (a, .inr (3, [.ref v, .ref m, .int w, .int o, .int t])), (m, .inr (1, [.int sl, .int bp, .int mw, .int mc, .int hi, .int lo, .int ex])), (yo, .inl (U.2.2.1 2, 1, .inr (.inl go)))] [0, 1, 2] [3] [1, 2, 3, 0] (wr := [(yo, .inl (U.2.2.1 2, 1, .inr (.inl go)))]) rfl rfl rfl rfl (by decide) rfl rfl dL_highPart_3 ⟨Nat.le_of_ble_eq_true rfl, Nat.le_of_ble_eq_true rfl⟩ ?_
  refine JX_catch C tab [] (0, 8, 11, 25) [] rfl (fun z hz => absurd hz List.not_mem_nil) (by decide) (by decide) (by decide) (List.mem_of_getElem? (i := 1) rfl) (fun q_x => ?_)
  refine J_astore_n C [some (.ref b), some (.ref yo), some (.ref q_x)] dL_highPart_11 rfl (hN 2 (by decide)) rfl ?_
  refine J_iconst C (v := (1 : Int32)) dL_highPart_12 (by decide) ?_
  exact J_iret C R dL_highPart_13 (Nat.le_of_ble_eq_true rfl) (Nat.le_of_ble_eq_true rfl) rfl rfl
set_option maxHeartbeats 4000000 in
set_option maxRecDepth 100000 in
theorem c_L_highPart_ok (U : jU) (b a h sa pa ta : Nat) (tk : Int32) (v m : Nat) (w o t sl bp mw mc hi lo ex : Int32) (yo : Nat) (go : Nat → Int64) (v_1 : ¬ sl = -1) : Fn U yL_highPart wsL_highPart { frames := 8, cells := 0, slots := 0, locals := 130 } [.ref b, .ref yo] [(b, .inr (5, [.ref a, .ref h, .ref sa, .int tk, .ref pa, .ref ta])), (a, .inr (3, [.ref v, .ref m, .int w, .int o, .int t])), (m, .inr (1, [.int sl, .int bp, .int mw, .int mc, .int hi, .int lo, .int ex])), (yo, .inl (U.2.2.1 2, 1, .inr (.inl go)))] (some (.int (0 : Int32))) [(b, .inr (5, [.ref a, .ref h, .ref sa, .int tk, .ref pa, .ref ta])), (a, .inr (3, [.ref v, .ref m, .int w, .int o, .int t])), (m, .inr (1, [.int sl, .int bp, .int mw, .int mc, .int hi, .int lo, .int ex])), (yo, .inl (U.2.2.1 2, 1, .inr (.inl (vp_updL go 0 hi.toInt64))))] 0 0 := by
  refine FnW_of (cc := cL_highPart) (maxL := 3) (ret := (some .int)) [some (.ref b), some (.ref yo), none] (by decide +kernel) rfl (jcat rfl) (Nat.le_of_ble_eq_true rfl) rfl (fun k C R tab hnL => ?_)
  have hN : ∀ i, i < 3 → i < k.2.2.2.2.2.2.2.2.2.2.2.1 := fun i h => by rw [hnL]; exact h
  refine J_aload_n C dL_highPart_0 rfl rfl ?_
  refine J_iconst C (v := (0 : Int32)) dL_highPart_1 (by decide) ?_
  refine J_aload_n C dL_highPart_2 rfl rfl ?_
  refine J_callV C (c_X5_highPart_ok U b a h sa pa ta tk v m w o t sl bp mw mc hi lo ex v_1) gL_highPart_X5_highPart (n := 0) rfl rfl rfl (by decide +kernel) ⟨Nat.le_of_ble_eq_true rfl, Nat.le_of_ble_eq_true rfl⟩ 0 rfl rfl rfl (rest := [.int (0 : Int32), .ref yo]) rfl (Nat.le_of_ble_eq_true rfl) [(b, .inr (5, [.ref a, .ref h, .ref sa, .int tk, .ref pa, .ref ta])), (a, .inr (3, [.ref v, .ref m, .int w, .int o, .int t])), (m, .inr (1, [.int sl, .int bp, .int mw, .int mc, .int hi, .int lo, .int ex])), (yo, .inl (U.2.2.1 2, 1, .inr (.inl go)))] [0, 1, 2] [3] [1, 2, 3, 0] (wr := [(yo, .inl (U.2.2.1 2, 1, .inr (.inl go)))]) rfl rfl rfl rfl (by decide) rfl rfl  dL_highPart_3 ⟨Nat.le_of_ble_eq_true rfl, Nat.le_of_ble_eq_true rfl⟩ [.int hi, .int (0 : Int32), .ref yo] rfl ?_
  refine J_i2l C dL_highPart_6 rfl ?_
  refine J_last C 3 [(b, .inr (5, [.ref a, .ref h, .ref sa, .int tk, .ref pa, .ref ta])), (a, .inr (3, [.ref v, .ref m, .int w, .int o, .int t])), (m, .inr (1, [.int sl, .int bp, .int mw, .int mc, .int hi, .int lo, .int ex])), (yo, .inl (U.2.2.1 2, 1, .inr (.inl (vp_updL go 0 hi.toInt64))))] rfl (vpl n_0 (by decide) (by decide)) (by rw [n_0]; rfl) dL_highPart_7 ?_
  refine J_goto C 14 dL_highPart_8 (by decide) ?_
  refine J_iconst C (v := (0 : Int32)) dL_highPart_14 (by decide) ?_
  exact J_iret C R dL_highPart_15 (Nat.le_of_ble_eq_true rfl) (Nat.le_of_ble_eq_true rfl) rfl rfl
set_option maxHeartbeats 4000000 in
set_option maxRecDepth 100000 in
theorem c_L_lowPart_no1 (U : jU) (b a h sa pa ta : Nat) (tk : Int32) (v m : Nat) (w o t sl bp mw mc hi lo ex : Int32) (yo : Nat) (go : Nat → Int64) (v_1 : sl = -1) : Fn U yL_lowPart wsL_lowPart { frames := 8, cells := 1, slots := 6, locals := 130 } [.ref b, .ref yo] [(b, .inr (5, [.ref a, .ref h, .ref sa, .int tk, .ref pa, .ref ta])), (a, .inr (3, [.ref v, .ref m, .int w, .int o, .int t])), (m, .inr (1, [.int sl, .int bp, .int mw, .int mc, .int hi, .int lo, .int ex])), (yo, .inl (U.2.2.1 2, 1, .inr (.inl go)))] (some (.int (1 : Int32))) [(b, .inr (5, [.ref a, .ref h, .ref sa, .int tk, .ref pa, .ref ta])), (a, .inr (3, [.ref v, .ref m, .int w, .int o, .int t])), (m, .inr (1, [.int sl, .int bp, .int mw, .int mc, .int hi, .int lo, .int ex])), (yo, .inl (U.2.2.1 2, 1, .inr (.inl go)))] 1 6 := by
  refine FnW_of (cc := cL_lowPart) (maxL := 3) (ret := (some .int)) [some (.ref b), some (.ref yo), none] (by decide +kernel) rfl (jcat rfl) (Nat.le_of_ble_eq_true rfl) rfl (fun k C R tab hnL => ?_)
  have hN : ∀ i, i < 3 → i < k.2.2.2.2.2.2.2.2.2.2.2.1 := fun i h => by rw [hnL]; exact h
  refine J_aload_n C dL_lowPart_0 rfl rfl ?_
  refine J_iconst C (v := (0 : Int32)) dL_lowPart_1 (by decide) ?_
  refine J_aload_n C dL_lowPart_2 rfl rfl ?_
  refine J_callXV C (c_X5_lowPart_no1 U b a h sa pa ta tk v m w o t sl bp mw mc hi lo ex v_1) gL_lowPart_X5_lowPart (n := 0) rfl rfl rfl (by decide +kernel) ⟨Nat.le_of_ble_eq_true rfl, Nat.le_of_ble_eq_true rfl⟩ 0 rfl rfl rfl (rest := [.int (0 : Int32), .ref yo]) rfl (Nat.le_of_ble_eq_true rfl) [(b, .inr (5, [.ref a, .ref h, .ref sa, .int tk, .ref pa, .ref ta])), (a, .inr (3, [.ref v, .ref m, .int w, .int o, .int t])), (m, .inr (1, [.int sl, .int bp, .int mw, .int mc, .int hi, .int lo, .int ex])), (yo, .inl (U.2.2.1 2, 1, .inr (.inl go)))] [0, 1, 2] [3] [1, 2, 3, 0] (wr := [(yo, .inl (U.2.2.1 2, 1, .inr (.inl go)))]) rfl rfl rfl rfl (by decide) rfl rfl dL_lowPart_3 ⟨Nat.le_of_ble_eq_true rfl, Nat.le_of_ble_eq_true rfl⟩ ?_
  refine JX_catch C tab [] (0, 8, 11, 25) [] rfl (fun z hz => absurd hz List.not_mem_nil) (by decide) (by decide) (by decide) (List.mem_of_getElem? (i := 1) rfl) (fun q_x => ?_)
  refine J_astore_n C [some (.ref b), some (.ref yo), some (.ref q_x)] dL_lowPart_11 rfl (hN 2 (by decide)) rfl ?_
  refine J_iconst C (v := (1 : Int32)) dL_lowPart_12 (by decide) ?_
  exact J_iret C R dL_lowPart_13 (Nat.le_of_ble_eq_true rfl) (Nat.le_of_ble_eq_true rfl) rfl rfl
set_option maxHeartbeats 4000000 in
set_option maxRecDepth 100000 in
theorem c_L_lowPart_ok (U : jU) (b a h sa pa ta : Nat) (tk : Int32) (v m : Nat) (w o t sl bp mw mc hi lo ex : Int32) (yo : Nat) (go : Nat → Int64) (v_1 : ¬ sl = -1) : Fn U yL_lowPart wsL_lowPart { frames := 8, cells := 0, slots := 0, locals := 130 } [.ref b, .ref yo] [(b, .inr (5, [.ref a, .ref h, .ref sa, .int tk, .ref pa, .ref ta])), (a, .inr (3, [.ref v, .ref m, .int w, .int o, .int t])), (m, .inr (1, [.int sl, .int bp, .int mw, .int mc, .int hi, .int lo, .int ex])), (yo, .inl (U.2.2.1 2, 1, .inr (.inl go)))] (some (.int (0 : Int32))) [(b, .inr (5, [.ref a, .ref h, .ref sa, .int tk, .ref pa, .ref ta])), (a, .inr (3, [.ref v, .ref m, .int w, .int o, .int t])), (m, .inr (1, [.int sl, .int bp, .int mw, .int mc, .int hi, .int lo, .int ex])), (yo, .inl (U.2.2.1 2, 1, .inr (.inl (vp_updL go 0 lo.toInt64))))] 0 0 := by
  refine FnW_of (cc := cL_lowPart) (maxL := 3) (ret := (some .int)) [some (.ref b), some (.ref yo), none] (by decide +kernel) rfl (jcat rfl) (Nat.le_of_ble_eq_true rfl) rfl (fun k C R tab hnL => ?_)
  have hN : ∀ i, i < 3 → i < k.2.2.2.2.2.2.2.2.2.2.2.1 := fun i h => by rw [hnL]; exact h
  refine J_aload_n C dL_lowPart_0 rfl rfl ?_
  refine J_iconst C (v := (0 : Int32)) dL_lowPart_1 (by decide) ?_
  refine J_aload_n C dL_lowPart_2 rfl rfl ?_
  refine J_callV C (c_X5_lowPart_ok U b a h sa pa ta tk v m w o t sl bp mw mc hi lo ex v_1) gL_lowPart_X5_lowPart (n := 0) rfl rfl rfl (by decide +kernel) ⟨Nat.le_of_ble_eq_true rfl, Nat.le_of_ble_eq_true rfl⟩ 0 rfl rfl rfl (rest := [.int (0 : Int32), .ref yo]) rfl (Nat.le_of_ble_eq_true rfl) [(b, .inr (5, [.ref a, .ref h, .ref sa, .int tk, .ref pa, .ref ta])), (a, .inr (3, [.ref v, .ref m, .int w, .int o, .int t])), (m, .inr (1, [.int sl, .int bp, .int mw, .int mc, .int hi, .int lo, .int ex])), (yo, .inl (U.2.2.1 2, 1, .inr (.inl go)))] [0, 1, 2] [3] [1, 2, 3, 0] (wr := [(yo, .inl (U.2.2.1 2, 1, .inr (.inl go)))]) rfl rfl rfl rfl (by decide) rfl rfl  dL_lowPart_3 ⟨Nat.le_of_ble_eq_true rfl, Nat.le_of_ble_eq_true rfl⟩ [.int lo, .int (0 : Int32), .ref yo] rfl ?_
  refine J_i2l C dL_lowPart_6 rfl ?_
  refine J_last C 3 [(b, .inr (5, [.ref a, .ref h, .ref sa, .int tk, .ref pa, .ref ta])), (a, .inr (3, [.ref v, .ref m, .int w, .int o, .int t])), (m, .inr (1, [.int sl, .int bp, .int mw, .int mc, .int hi, .int lo, .int ex])), (yo, .inl (U.2.2.1 2, 1, .inr (.inl (vp_updL go 0 lo.toInt64))))] rfl (vpl n_0 (by decide) (by decide)) (by rw [n_0]; rfl) dL_lowPart_7 ?_
  refine J_goto C 14 dL_lowPart_8 (by decide) ?_
  refine J_iconst C (v := (0 : Int32)) dL_lowPart_14 (by decide) ?_
  exact J_iret C R dL_lowPart_15 (Nat.le_of_ble_eq_true rfl) (Nat.le_of_ble_eq_true rfl) rfl rfl
set_option maxHeartbeats 4000000 in
set_option maxRecDepth 100000 in
theorem c_L_extraBit_no1 (U : jU) (b a h sa pa ta : Nat) (tk : Int32) (v m : Nat) (w o t sl bp mw mc hi lo ex : Int32) (yo : Nat) (go : Nat → Int64) (v_1 : sl = -1) : Fn U yL_extraBit wsL_extraBit { frames := 8, cells := 1, slots := 6, locals := 130 } [.ref b, .ref yo] [(b, .inr (5, [.ref a, .ref h, .ref sa, .int tk, .ref pa, .ref ta])), (a, .inr (3, [.ref v, .ref m, .int w, .int o, .int t])), (m, .inr (1, [.int sl, .int bp, .int mw, .int mc, .int hi, .int lo, .int ex])), (yo, .inl (U.2.2.1 2, 1, .inr (.inl go)))] (some (.int (1 : Int32))) [(b, .inr (5, [.ref a, .ref h, .ref sa, .int tk, .ref pa, .ref ta])), (a, .inr (3, [.ref v, .ref m, .int w, .int o, .int t])), (m, .inr (1, [.int sl, .int bp, .int mw, .int mc, .int hi, .int lo, .int ex])), (yo, .inl (U.2.2.1 2, 1, .inr (.inl go)))] 1 6 := by
  refine FnW_of (cc := cL_extraBit) (maxL := 3) (ret := (some .int)) [some (.ref b), some (.ref yo), none] (by decide +kernel) rfl (jcat rfl) (Nat.le_of_ble_eq_true rfl) rfl (fun k C R tab hnL => ?_)
  have hN : ∀ i, i < 3 → i < k.2.2.2.2.2.2.2.2.2.2.2.1 := fun i h => by rw [hnL]; exact h
  refine J_aload_n C dL_extraBit_0 rfl rfl ?_
  refine J_iconst C (v := (0 : Int32)) dL_extraBit_1 (by decide) ?_
  refine J_aload_n C dL_extraBit_2 rfl rfl ?_
  refine J_callXV C (c_X5_extraBit_no1 U b a h sa pa ta tk v m w o t sl bp mw mc hi lo ex v_1) gL_extraBit_X5_extraBit (n := 0) rfl rfl rfl (by decide +kernel) ⟨Nat.le_of_ble_eq_true rfl, Nat.le_of_ble_eq_true rfl⟩ 0 rfl rfl rfl (rest := [.int (0 : Int32), .ref yo]) rfl (Nat.le_of_ble_eq_true rfl) [(b, .inr (5, [.ref a, .ref h, .ref sa, .int tk, .ref pa, .ref ta])), (a, .inr (3, [.ref v, .ref m, .int w, .int o, .int t])), (m, .inr (1, [.int sl, .int bp, .int mw, .int mc, .int hi, .int lo, .int ex])), (yo, .inl (U.2.2.1 2, 1, .inr (.inl go)))] [0, 1, 2] [3] [1, 2, 3, 0] (wr := [(yo, .inl (U.2.2.1 2, 1, .inr (.inl go)))]) rfl rfl rfl rfl (by decide) rfl rfl dL_extraBit_3 ⟨Nat.le_of_ble_eq_true rfl, Nat.le_of_ble_eq_true rfl⟩ ?_
  refine JX_catch C tab [] (0, 8, 11, 25) [] rfl (fun z hz => absurd hz List.not_mem_nil) (by decide) (by decide) (by decide) (List.mem_of_getElem? (i := 1) rfl) (fun q_x => ?_)
  refine J_astore_n C [some (.ref b), some (.ref yo), some (.ref q_x)] dL_extraBit_11 rfl (hN 2 (by decide)) rfl ?_
  refine J_iconst C (v := (1 : Int32)) dL_extraBit_12 (by decide) ?_
  exact J_iret C R dL_extraBit_13 (Nat.le_of_ble_eq_true rfl) (Nat.le_of_ble_eq_true rfl) rfl rfl
set_option maxHeartbeats 4000000 in
set_option maxRecDepth 100000 in
theorem c_L_extraBit_ok (U : jU) (b a h sa pa ta : Nat) (tk : Int32) (v m : Nat) (w o t sl bp mw mc hi lo ex : Int32) (yo : Nat) (go : Nat → Int64) (v_1 : ¬ sl = -1) : Fn U yL_extraBit wsL_extraBit { frames := 8, cells := 0, slots := 0, locals := 130 } [.ref b, .ref yo] [(b, .inr (5, [.ref a, .ref h, .ref sa, .int tk, .ref pa, .ref ta])), (a, .inr (3, [.ref v, .ref m, .int w, .int o, .int t])), (m, .inr (1, [.int sl, .int bp, .int mw, .int mc, .int hi, .int lo, .int ex])), (yo, .inl (U.2.2.1 2, 1, .inr (.inl go)))] (some (.int (0 : Int32))) [(b, .inr (5, [.ref a, .ref h, .ref sa, .int tk, .ref pa, .ref ta])), (a, .inr (3, [.ref v, .ref m, .int w, .int o, .int t])), (m, .inr (1, [.int sl, .int bp, .int mw, .int mc, .int hi, .int lo, .int ex])), (yo, .inl (U.2.2.1 2, 1, .inr (.inl (vp_updL go 0 ex.toInt64))))] 0 0 := by
  refine FnW_of (cc := cL_extraBit) (maxL := 3) (ret := (some .int)) [some (.ref b), some (.ref yo), none] (by decide +kernel) rfl (jcat rfl) (Nat.le_of_ble_eq_true rfl) rfl (fun k C R tab hnL => ?_)
  have hN : ∀ i, i < 3 → i < k.2.2.2.2.2.2.2.2.2.2.2.1 := fun i h => by rw [hnL]; exact h
  refine J_aload_n C dL_extraBit_0 rfl rfl ?_
  refine J_iconst C (v := (0 : Int32)) dL_extraBit_1 (by decide) ?_
  refine J_aload_n C dL_extraBit_2 rfl rfl ?_
  refine J_callV C (c_X5_extraBit_ok U b a h sa pa ta tk v m w o t sl bp mw mc hi lo ex v_1) gL_extraBit_X5_extraBit (n := 0) rfl rfl rfl (by decide +kernel) ⟨Nat.le_of_ble_eq_true rfl, Nat.le_of_ble_eq_true rfl⟩ 0 rfl rfl rfl (rest := [.int (0 : Int32), .ref yo]) rfl (Nat.le_of_ble_eq_true rfl) [(b, .inr (5, [.ref a, .ref h, .ref sa, .int tk, .ref pa, .ref ta])), (a, .inr (3, [.ref v, .ref m, .int w, .int o, .int t])), (m, .inr (1, [.int sl, .int bp, .int mw, .int mc, .int hi, .int lo, .int ex])), (yo, .inl (U.2.2.1 2, 1, .inr (.inl go)))] [0, 1, 2] [3] [1, 2, 3, 0] (wr := [(yo, .inl (U.2.2.1 2, 1, .inr (.inl go)))]) rfl rfl rfl rfl (by decide) rfl rfl  dL_extraBit_3 ⟨Nat.le_of_ble_eq_true rfl, Nat.le_of_ble_eq_true rfl⟩ [.int ex, .int (0 : Int32), .ref yo] rfl ?_
  refine J_i2l C dL_extraBit_6 rfl ?_
  refine J_last C 3 [(b, .inr (5, [.ref a, .ref h, .ref sa, .int tk, .ref pa, .ref ta])), (a, .inr (3, [.ref v, .ref m, .int w, .int o, .int t])), (m, .inr (1, [.int sl, .int bp, .int mw, .int mc, .int hi, .int lo, .int ex])), (yo, .inl (U.2.2.1 2, 1, .inr (.inl (vp_updL go 0 ex.toInt64))))] rfl (vpl n_0 (by decide) (by decide)) (by rw [n_0]; rfl) dL_extraBit_7 ?_
  refine J_goto C 14 dL_extraBit_8 (by decide) ?_
  refine J_iconst C (v := (0 : Int32)) dL_extraBit_14 (by decide) ?_
  exact J_iret C R dL_extraBit_15 (Nat.le_of_ble_eq_true rfl) (Nat.le_of_ble_eq_true rfl) rfl rfl
set_option maxHeartbeats 4000000 in
set_option maxRecDepth 100000 in
theorem c_L_carries_no1 (U : jU) (b a h sa pa ta : Nat) (tk : Int32) (p0 p1 : Int32) (yo : Nat) (go : Nat → Int64) (v_1 : ¬ isReg p0) : Fn U yL_carries wsL_carries { frames := 8, cells := 1, slots := 6, locals := 132 } [.ref b, .int p0, .int p1, .ref yo] [(b, .inr (5, [.ref a, .ref h, .ref sa, .int tk, .ref pa, .ref ta])), (yo, .inl (U.2.2.1 2, 1, .inr (.inl go)))] (some (.int (1 : Int32))) [(b, .inr (5, [.ref a, .ref h, .ref sa, .int tk, .ref pa, .ref ta])), (yo, .inl (U.2.2.1 2, 1, .inr (.inl go)))] 1 6 := by
  refine FnW_of (cc := cL_carries) (maxL := 5) (ret := (some .int)) [some (.ref b), some (.int p0), some (.int p1), some (.ref yo), none] (by decide +kernel) rfl (jcat rfl) (Nat.le_of_ble_eq_true rfl) rfl (fun k C R tab hnL => ?_)
  have hN : ∀ i, i < 5 → i < k.2.2.2.2.2.2.2.2.2.2.2.1 := fun i h => by rw [hnL]; exact h
  refine J_aload_n C dL_carries_0 rfl rfl ?_
  refine J_iconst C (v := (0 : Int32)) dL_carries_1 (by decide) ?_
  refine J_aload_n C dL_carries_2 rfl rfl ?_
  refine J_iload_n C dL_carries_3 rfl rfl ?_
  refine J_iload_n C dL_carries_4 rfl rfl ?_
  refine J_callXV C (c_X5_carries_no1 U b 0 0 0 0 0 (0 : Int32) p0 p1 v_1) gL_carries_X5_carries (n := 2) rfl rfl rfl (by decide +kernel) ⟨Nat.le_of_ble_eq_true rfl, Nat.le_of_ble_eq_true rfl⟩ 0 rfl rfl rfl (rest := [.int (0 : Int32), .ref yo]) rfl (Nat.le_of_ble_eq_true rfl) [(b, .inr (5, [.ref a, .ref h, .ref sa, .int tk, .ref pa, .ref ta])), (yo, .inl (U.2.2.1 2, 1, .inr (.inl go)))] [] [0, 1] [0, 1] (wr := [(b, .inr (5, [.ref a, .ref h, .ref sa, .int tk, .ref pa, .ref ta])), (yo, .inl (U.2.2.1 2, 1, .inr (.inl go)))]) rfl rfl rfl rfl (by decide) rfl rfl dL_carries_5 ⟨Nat.le_of_ble_eq_true rfl, Nat.le_of_ble_eq_true rfl⟩ ?_
  refine JX_catch C tab [] (0, 10, 13, 19) [] rfl (fun z hz => absurd hz List.not_mem_nil) (by decide) (by decide) (by decide) (List.mem_of_getElem? (i := 1) rfl) (fun q_x => ?_)
  refine J_astore C [some (.ref b), some (.int p0), some (.int p1), some (.ref yo), some (.ref q_x)] dL_carries_13 (hN 4 (by decide)) rfl ?_
  refine J_iconst C (v := (1 : Int32)) dL_carries_15 (by decide) ?_
  exact J_iret C R dL_carries_16 (Nat.le_of_ble_eq_true rfl) (Nat.le_of_ble_eq_true rfl) rfl rfl
set_option maxHeartbeats 4000000 in
set_option maxRecDepth 100000 in
theorem c_L_carries_no2 (U : jU) (b a h sa pa ta : Nat) (tk : Int32) (p0 p1 : Int32) (yo : Nat) (go : Nat → Int64) (v_1 : isReg p0) (v_2 : ¬ isReg p1) : Fn U yL_carries wsL_carries { frames := 8, cells := 1, slots := 6, locals := 132 } [.ref b, .int p0, .int p1, .ref yo] [(b, .inr (5, [.ref a, .ref h, .ref sa, .int tk, .ref pa, .ref ta])), (yo, .inl (U.2.2.1 2, 1, .inr (.inl go)))] (some (.int (1 : Int32))) [(b, .inr (5, [.ref a, .ref h, .ref sa, .int tk, .ref pa, .ref ta])), (yo, .inl (U.2.2.1 2, 1, .inr (.inl go)))] 1 6 := by
  refine FnW_of (cc := cL_carries) (maxL := 5) (ret := (some .int)) [some (.ref b), some (.int p0), some (.int p1), some (.ref yo), none] (by decide +kernel) rfl (jcat rfl) (Nat.le_of_ble_eq_true rfl) rfl (fun k C R tab hnL => ?_)
  have hN : ∀ i, i < 5 → i < k.2.2.2.2.2.2.2.2.2.2.2.1 := fun i h => by rw [hnL]; exact h
  refine J_aload_n C dL_carries_0 rfl rfl ?_
  refine J_iconst C (v := (0 : Int32)) dL_carries_1 (by decide) ?_
  refine J_aload_n C dL_carries_2 rfl rfl ?_
  refine J_iload_n C dL_carries_3 rfl rfl ?_
  refine J_iload_n C dL_carries_4 rfl rfl ?_
  refine J_callXV C (c_X5_carries_no2 U b 0 0 0 0 0 (0 : Int32) p0 p1 v_1 v_2) gL_carries_X5_carries (n := 2) rfl rfl rfl (by decide +kernel) ⟨Nat.le_of_ble_eq_true rfl, Nat.le_of_ble_eq_true rfl⟩ 0 rfl rfl rfl (rest := [.int (0 : Int32), .ref yo]) rfl (Nat.le_of_ble_eq_true rfl) [(b, .inr (5, [.ref a, .ref h, .ref sa, .int tk, .ref pa, .ref ta])), (yo, .inl (U.2.2.1 2, 1, .inr (.inl go)))] [] [0, 1] [0, 1] (wr := [(b, .inr (5, [.ref a, .ref h, .ref sa, .int tk, .ref pa, .ref ta])), (yo, .inl (U.2.2.1 2, 1, .inr (.inl go)))]) rfl rfl rfl rfl (by decide) rfl rfl dL_carries_5 ⟨Nat.le_of_ble_eq_true rfl, Nat.le_of_ble_eq_true rfl⟩ ?_
  refine JX_catch C tab [] (0, 10, 13, 19) [] rfl (fun z hz => absurd hz List.not_mem_nil) (by decide) (by decide) (by decide) (List.mem_of_getElem? (i := 1) rfl) (fun q_x => ?_)
  refine J_astore C [some (.ref b), some (.int p0), some (.int p1), some (.ref yo), some (.ref q_x)] dL_carries_13 (hN 4 (by decide)) rfl ?_
  refine J_iconst C (v := (1 : Int32)) dL_carries_15 (by decide) ?_
  exact J_iret C R dL_carries_16 (Nat.le_of_ble_eq_true rfl) (Nat.le_of_ble_eq_true rfl) rfl rfl
set_option maxHeartbeats 4000000 in
set_option maxRecDepth 100000 in
theorem c_L_carries_ok (U : jU) (b a h sa pa ta : Nat) (tk : Int32) (v m : Nat) (f : Nat → Int32) (w o t : Int32) (p0 p1 : Int32) (yo : Nat) (go : Nat → Int64) (v_1 : isReg p0) (v_2 : isReg p1) : Fn U yL_carries wsL_carries { frames := 8, cells := 0, slots := 0, locals := 132 } [.ref b, .int p0, .int p1, .ref yo] [(b, .inr (5, [.ref a, .ref h, .ref sa, .int tk, .ref pa, .ref ta])), (a, .inr (3, [.ref v, .ref m, .int w, .int o, .int t])), (v, .inl (U.2.2.1 0, 6, .inl f)), (yo, .inl (U.2.2.1 2, 1, .inr (.inl go)))] (some (.int (0 : Int32))) [(b, .inr (5, [.ref a, .ref h, .ref sa, .int tk, .ref pa, .ref ta])), (a, .inr (3, [.ref v, .ref m, .int w, .int o, .int t])), (v, .inl (U.2.2.1 0, 6, .inl f)), (yo, .inl (U.2.2.1 2, 1, .inr (.inl (vp_updL go 0 ((bcF (cbF (bitsF w (valF f p0)) (bitsF w (valF f p1)))).toInt64)))))] 0 0 := by
  refine FnW_of (cc := cL_carries) (maxL := 5) (ret := (some .int)) [some (.ref b), some (.int p0), some (.int p1), some (.ref yo), none] (by decide +kernel) rfl (jcat rfl) (Nat.le_of_ble_eq_true rfl) rfl (fun k C R tab hnL => ?_)
  have hN : ∀ i, i < 5 → i < k.2.2.2.2.2.2.2.2.2.2.2.1 := fun i h => by rw [hnL]; exact h
  refine J_aload_n C dL_carries_0 rfl rfl ?_
  refine J_iconst C (v := (0 : Int32)) dL_carries_1 (by decide) ?_
  refine J_aload_n C dL_carries_2 rfl rfl ?_
  refine J_iload_n C dL_carries_3 rfl rfl ?_
  refine J_iload_n C dL_carries_4 rfl rfl ?_
  refine J_callV C (c_X5_carries_ok U b a h sa pa ta tk v m f w o t p0 p1 v_1 v_2) gL_carries_X5_carries (n := 2) rfl rfl rfl (by decide +kernel) ⟨Nat.le_of_ble_eq_true rfl, Nat.le_of_ble_eq_true rfl⟩ 0 rfl rfl rfl (rest := [.int (0 : Int32), .ref yo]) rfl (Nat.le_of_ble_eq_true rfl) [(b, .inr (5, [.ref a, .ref h, .ref sa, .int tk, .ref pa, .ref ta])), (a, .inr (3, [.ref v, .ref m, .int w, .int o, .int t])), (v, .inl (U.2.2.1 0, 6, .inl f)), (yo, .inl (U.2.2.1 2, 1, .inr (.inl go)))] [0, 1, 2] [3] [1, 2, 3, 0] (wr := [(yo, .inl (U.2.2.1 2, 1, .inr (.inl go)))]) rfl rfl rfl rfl (by decide) rfl rfl  dL_carries_5 ⟨Nat.le_of_ble_eq_true rfl, Nat.le_of_ble_eq_true rfl⟩ [.int (bcF (cbF (bitsF w (valF f p0)) (bitsF w (valF f p1)))), .int (0 : Int32), .ref yo] rfl ?_
  refine J_i2l C dL_carries_8 rfl ?_
  refine J_last C 3 [(b, .inr (5, [.ref a, .ref h, .ref sa, .int tk, .ref pa, .ref ta])), (a, .inr (3, [.ref v, .ref m, .int w, .int o, .int t])), (v, .inl (U.2.2.1 0, 6, .inl f)), (yo, .inl (U.2.2.1 2, 1, .inr (.inl (vp_updL go 0 ((bcF (cbF (bitsF w (valF f p0)) (bitsF w (valF f p1)))).toInt64)))))] rfl (vpl n_0 (by decide) (by decide)) (by rw [n_0]; rfl) dL_carries_9 ?_
  refine J_goto C 17 dL_carries_10 (by decide) ?_
  refine J_iconst C (v := (0 : Int32)) dL_carries_17 (by decide) ?_
  exact J_iret C R dL_carries_18 (Nat.le_of_ble_eq_true rfl) (Nat.le_of_ble_eq_true rfl) rfl rfl
set_option maxHeartbeats 4000000 in
set_option maxRecDepth 100000 in
theorem c_L_longestRun_no1 (U : jU) (b a h sa pa ta : Nat) (tk : Int32) (p0 p1 : Int32) (yo : Nat) (go : Nat → Int64) (v_1 : ¬ isReg p0) : Fn U yL_longestRun wsL_longestRun { frames := 8, cells := 1, slots := 6, locals := 136 } [.ref b, .int p0, .int p1, .ref yo] [(b, .inr (5, [.ref a, .ref h, .ref sa, .int tk, .ref pa, .ref ta])), (yo, .inl (U.2.2.1 2, 1, .inr (.inl go)))] (some (.int (1 : Int32))) [(b, .inr (5, [.ref a, .ref h, .ref sa, .int tk, .ref pa, .ref ta])), (yo, .inl (U.2.2.1 2, 1, .inr (.inl go)))] 1 6 := by
  refine FnW_of (cc := cL_longestRun) (maxL := 5) (ret := (some .int)) [some (.ref b), some (.int p0), some (.int p1), some (.ref yo), none] (by decide +kernel) rfl (jcat rfl) (Nat.le_of_ble_eq_true rfl) rfl (fun k C R tab hnL => ?_)
  have hN : ∀ i, i < 5 → i < k.2.2.2.2.2.2.2.2.2.2.2.1 := fun i h => by rw [hnL]; exact h
  refine J_aload_n C dL_longestRun_0 rfl rfl ?_
  refine J_iconst C (v := (0 : Int32)) dL_longestRun_1 (by decide) ?_
  refine J_aload_n C dL_longestRun_2 rfl rfl ?_
  refine J_iload_n C dL_longestRun_3 rfl rfl ?_
  refine J_iload_n C dL_longestRun_4 rfl rfl ?_
  refine J_callXV C (c_X5_longestRun_no1 U b 0 0 0 0 0 (0 : Int32) p0 p1 v_1) gL_longestRun_X5_longestRun (n := 2) rfl rfl rfl (by decide +kernel) ⟨Nat.le_of_ble_eq_true rfl, Nat.le_of_ble_eq_true rfl⟩ 0 rfl rfl rfl (rest := [.int (0 : Int32), .ref yo]) rfl (Nat.le_of_ble_eq_true rfl) [(b, .inr (5, [.ref a, .ref h, .ref sa, .int tk, .ref pa, .ref ta])), (yo, .inl (U.2.2.1 2, 1, .inr (.inl go)))] [] [0, 1] [0, 1] (wr := [(b, .inr (5, [.ref a, .ref h, .ref sa, .int tk, .ref pa, .ref ta])), (yo, .inl (U.2.2.1 2, 1, .inr (.inl go)))]) rfl rfl rfl rfl (by decide) rfl rfl dL_longestRun_5 ⟨Nat.le_of_ble_eq_true rfl, Nat.le_of_ble_eq_true rfl⟩ ?_
  refine JX_catch C tab [] (0, 10, 13, 19) [] rfl (fun z hz => absurd hz List.not_mem_nil) (by decide) (by decide) (by decide) (List.mem_of_getElem? (i := 1) rfl) (fun q_x => ?_)
  refine J_astore C [some (.ref b), some (.int p0), some (.int p1), some (.ref yo), some (.ref q_x)] dL_longestRun_13 (hN 4 (by decide)) rfl ?_
  refine J_iconst C (v := (1 : Int32)) dL_longestRun_15 (by decide) ?_
  exact J_iret C R dL_longestRun_16 (Nat.le_of_ble_eq_true rfl) (Nat.le_of_ble_eq_true rfl) rfl rfl
set_option maxHeartbeats 4000000 in
set_option maxRecDepth 100000 in
theorem c_L_longestRun_no2 (U : jU) (b a h sa pa ta : Nat) (tk : Int32) (p0 p1 : Int32) (yo : Nat) (go : Nat → Int64) (v_1 : isReg p0) (v_2 : ¬ isReg p1) : Fn U yL_longestRun wsL_longestRun { frames := 8, cells := 1, slots := 6, locals := 136 } [.ref b, .int p0, .int p1, .ref yo] [(b, .inr (5, [.ref a, .ref h, .ref sa, .int tk, .ref pa, .ref ta])), (yo, .inl (U.2.2.1 2, 1, .inr (.inl go)))] (some (.int (1 : Int32))) [(b, .inr (5, [.ref a, .ref h, .ref sa, .int tk, .ref pa, .ref ta])), (yo, .inl (U.2.2.1 2, 1, .inr (.inl go)))] 1 6 := by
  refine FnW_of (cc := cL_longestRun) (maxL := 5) (ret := (some .int)) [some (.ref b), some (.int p0), some (.int p1), some (.ref yo), none] (by decide +kernel) rfl (jcat rfl) (Nat.le_of_ble_eq_true rfl) rfl (fun k C R tab hnL => ?_)
  have hN : ∀ i, i < 5 → i < k.2.2.2.2.2.2.2.2.2.2.2.1 := fun i h => by rw [hnL]; exact h
  refine J_aload_n C dL_longestRun_0 rfl rfl ?_
  refine J_iconst C (v := (0 : Int32)) dL_longestRun_1 (by decide) ?_
  refine J_aload_n C dL_longestRun_2 rfl rfl ?_
  refine J_iload_n C dL_longestRun_3 rfl rfl ?_
  refine J_iload_n C dL_longestRun_4 rfl rfl ?_
  refine J_callXV C (c_X5_longestRun_no2 U b 0 0 0 0 0 (0 : Int32) p0 p1 v_1 v_2) gL_longestRun_X5_longestRun (n := 2) rfl rfl rfl (by decide +kernel) ⟨Nat.le_of_ble_eq_true rfl, Nat.le_of_ble_eq_true rfl⟩ 0 rfl rfl rfl (rest := [.int (0 : Int32), .ref yo]) rfl (Nat.le_of_ble_eq_true rfl) [(b, .inr (5, [.ref a, .ref h, .ref sa, .int tk, .ref pa, .ref ta])), (yo, .inl (U.2.2.1 2, 1, .inr (.inl go)))] [] [0, 1] [0, 1] (wr := [(b, .inr (5, [.ref a, .ref h, .ref sa, .int tk, .ref pa, .ref ta])), (yo, .inl (U.2.2.1 2, 1, .inr (.inl go)))]) rfl rfl rfl rfl (by decide) rfl rfl dL_longestRun_5 ⟨Nat.le_of_ble_eq_true rfl, Nat.le_of_ble_eq_true rfl⟩ ?_
  refine JX_catch C tab [] (0, 10, 13, 19) [] rfl (fun z hz => absurd hz List.not_mem_nil) (by decide) (by decide) (by decide) (List.mem_of_getElem? (i := 1) rfl) (fun q_x => ?_)
  refine J_astore C [some (.ref b), some (.int p0), some (.int p1), some (.ref yo), some (.ref q_x)] dL_longestRun_13 (hN 4 (by decide)) rfl ?_
  refine J_iconst C (v := (1 : Int32)) dL_longestRun_15 (by decide) ?_
  exact J_iret C R dL_longestRun_16 (Nat.le_of_ble_eq_true rfl) (Nat.le_of_ble_eq_true rfl) rfl rfl
set_option maxHeartbeats 4000000 in
set_option maxRecDepth 100000 in
theorem c_L_longestRun_ok (U : jU) (b a h sa pa ta : Nat) (tk : Int32) (v m : Nat) (f : Nat → Int32) (w o t : Int32) (p0 p1 : Int32) (N : Nat) (yo : Nat) (go : Nat → Int64) (v_1 : isReg p0) (v_2 : isReg p1) (hN9 : w = nI N) (hn9 : N < 100) : Fn U yL_longestRun wsL_longestRun { frames := 8, cells := 0, slots := 0, locals := 136 } [.ref b, .int p0, .int p1, .ref yo] [(b, .inr (5, [.ref a, .ref h, .ref sa, .int tk, .ref pa, .ref ta])), (a, .inr (3, [.ref v, .ref m, .int w, .int o, .int t])), (v, .inl (U.2.2.1 0, 6, .inl f)), (yo, .inl (U.2.2.1 2, 1, .inr (.inl go)))] (some (.int (0 : Int32))) [(b, .inr (5, [.ref a, .ref h, .ref sa, .int tk, .ref pa, .ref ta])), (a, .inr (3, [.ref v, .ref m, .int w, .int o, .int t])), (v, .inl (U.2.2.1 0, 6, .inl f)), (yo, .inl (U.2.2.1 2, 1, .inr (.inl (vp_updL go 0 (((lrF (cbF (bitsF w (valF f p0)) (bitsF w (valF f p1))) N).2).toInt64)))))] 0 0 := by
  refine FnW_of (cc := cL_longestRun) (maxL := 5) (ret := (some .int)) [some (.ref b), some (.int p0), some (.int p1), some (.ref yo), none] (by decide +kernel) rfl (jcat rfl) (Nat.le_of_ble_eq_true rfl) rfl (fun k C R tab hnL => ?_)
  have hN : ∀ i, i < 5 → i < k.2.2.2.2.2.2.2.2.2.2.2.1 := fun i h => by rw [hnL]; exact h
  refine J_aload_n C dL_longestRun_0 rfl rfl ?_
  refine J_iconst C (v := (0 : Int32)) dL_longestRun_1 (by decide) ?_
  refine J_aload_n C dL_longestRun_2 rfl rfl ?_
  refine J_iload_n C dL_longestRun_3 rfl rfl ?_
  refine J_iload_n C dL_longestRun_4 rfl rfl ?_
  refine J_callV C (c_X5_longestRun_ok U b a h sa pa ta tk v m f w o t p0 p1 N v_1 v_2 hN9 hn9) gL_longestRun_X5_longestRun (n := 2) rfl rfl rfl (by decide +kernel) ⟨Nat.le_of_ble_eq_true rfl, Nat.le_of_ble_eq_true rfl⟩ 0 rfl rfl rfl (rest := [.int (0 : Int32), .ref yo]) rfl (Nat.le_of_ble_eq_true rfl) [(b, .inr (5, [.ref a, .ref h, .ref sa, .int tk, .ref pa, .ref ta])), (a, .inr (3, [.ref v, .ref m, .int w, .int o, .int t])), (v, .inl (U.2.2.1 0, 6, .inl f)), (yo, .inl (U.2.2.1 2, 1, .inr (.inl go)))] [0, 1, 2] [3] [1, 2, 3, 0] (wr := [(yo, .inl (U.2.2.1 2, 1, .inr (.inl go)))]) rfl rfl rfl rfl (by decide) rfl rfl  dL_longestRun_5 ⟨Nat.le_of_ble_eq_true rfl, Nat.le_of_ble_eq_true rfl⟩ [.int ((lrF (cbF (bitsF w (valF f p0)) (bitsF w (valF f p1))) N).2), .int (0 : Int32), .ref yo] rfl ?_
  refine J_i2l C dL_longestRun_8 rfl ?_
  refine J_last C 3 [(b, .inr (5, [.ref a, .ref h, .ref sa, .int tk, .ref pa, .ref ta])), (a, .inr (3, [.ref v, .ref m, .int w, .int o, .int t])), (v, .inl (U.2.2.1 0, 6, .inl f)), (yo, .inl (U.2.2.1 2, 1, .inr (.inl (vp_updL go 0 (((lrF (cbF (bitsF w (valF f p0)) (bitsF w (valF f p1))) N).2).toInt64)))))] rfl (vpl n_0 (by decide) (by decide)) (by rw [n_0]; rfl) dL_longestRun_9 ?_
  refine J_goto C 17 dL_longestRun_10 (by decide) ?_
  refine J_iconst C (v := (0 : Int32)) dL_longestRun_17 (by decide) ?_
  exact J_iret C R dL_longestRun_18 (Nat.le_of_ble_eq_true rfl) (Nat.le_of_ble_eq_true rfl) rfl rfl
