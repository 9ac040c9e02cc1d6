theorem k_X2_firstError_18 : Cond.fieldLink RX2 18 "BoothOtters$Program" "reader" "LBoothOtters$StepReader;" ∈ wsX2_firstError := List.mem_of_getElem? (i := 1) rfl
theorem i_X2_firstError_X2 : ∀ w ∈ wsX20, w ∈ wsX2_firstError := fun _ h => List.mem_cons_of_mem _ (List.mem_append_left _ (List.mem_append_right _ h))
theorem k_X2_firstError_26 : Cond.fieldLink RX2 26 "BoothOtters$Program" "length" "I" ∈ wsX2_firstError := List.mem_of_getElem? (i := 2) rfl
theorem k_X2_firstError_9 : Cond.fieldLink RX2 9 "BoothOtters$Program" "text" "[C" ∈ wsX2_firstError := List.mem_of_getElem? (i := 3) rfl
set_option maxHeartbeats 4000000 in
set_option maxRecDepth 100000 in
theorem c_X2_firstError (U : jU) (a t r : Nat) (tx : Nat → Int32) (n : Nat) (rs ov : Int32) (sg tg fi op se ng nu : Int32) (hn : n ≤ 60) (htx : ∀ j, isCh (tx j)) : Fn U yX2_firstError wsX2_firstError { frames := 4, cells := 0, slots := 0, locals := 85 } [.ref a] [(a, .inr (2, [.ref t, .ref r, .int (nI n), .int rs, .int ov])), (t, .inl (U.2.2.1 1, 60, .inl tx)), (r, .inr (4, [.int sg, .int tg, .int fi, .int op, .int se, .int ng, .int nu]))] (some (.int ((feF tx n n 0 rdS).1))) [(a, .inr (2, [.ref t, .ref r, .int (nI n), .int rs, .int ov])), (t, .inl (U.2.2.1 1, 60, .inl tx)), (r, .inr (4, [.int (((feF tx n n 0 rdS).2) 0), .int (((feF tx n n 0 rdS).2) 1), .int (((feF tx n n 0 rdS).2) 2), .int (((feF tx n n 0 rdS).2) 3), .int (((feF tx n n 0 rdS).2) 4), .int (((feF tx n n 0 rdS).2) 5), .int (((feF tx n n 0 rdS).2) 6)]))] 0 0 := by
  refine Fn_of (cc := cX2_firstError) (maxL := 3) (ret := (some .int)) [some (.ref a), none, none] (by decide +kernel) rfl (jcat rfl) (Nat.le_of_ble_eq_true rfl) rfl (fun k C R hin hnL => ?_)
  have hN : ∀ i, i < 3 → i < k.2.2.2.2.2.2.2.2.2.2.2.1 := fun i h => by rw [hnL]; exact h
  refine J_aload_n C dX2_firstError_0 rfl rfl ?_
  refine J_get C 0 1 rfl rfl i_X2_firstError_X2 (by decide) k_X2_firstError_18 rfl rfl dX2_firstError_1 ?_
  refine J_callV C (c_X4_start U r sg tg fi op se ng nu ) gX2_firstError_X4_start (n := 0) rfl rfl rfl (by decide +kernel) ⟨Nat.le_of_ble_eq_true rfl, Nat.le_of_ble_eq_true rfl⟩ 2 rfl rfl rfl (rest := []) rfl (Nat.le_of_ble_eq_true rfl) [(a, .inr (2, [.ref t, .ref r, .int (nI n), .int rs, .int ov])), (t, .inl (U.2.2.1 1, 60, .inl tx)), (r, .inr (4, [.int (0 : Int32), .int (-1 : Int32), .int (-1 : Int32), .int (43 : Int32), .int (-1 : Int32), .int (0 : Int32), .int (0 : Int32)]))] [2] [0, 1] [0, 1, 2] (wr := [(a, .inr (2, [.ref t, .ref r, .int (nI n), .int rs, .int ov])), (t, .inl (U.2.2.1 1, 60, .inl tx))]) rfl rfl rfl rfl (by decide) rfl rfl  dX2_firstError_4 ⟨Nat.le_of_ble_eq_true rfl, Nat.le_of_ble_eq_true rfl⟩ [] rfl ?_
  refine J_iconst C (v := (0 : Int32)) dX2_firstError_7 (by decide) ?_
  refine J_istore_n C [some (.ref a), some (.int (0 : Int32)), none] dX2_firstError_8 rfl (hN 1 (by decide)) rfl rfl ?_
  have loop_9 : ∀ (n_f : Nat) (i : Nat) (rd : Nat → Int32), n < i + n_f → i ≤ n → feF tx n (n - i) i rd = feF tx n n 0 rdS → J U k 0 0 [(a, .inr (2, [.ref t, .ref r, .int (nI n), .int rs, .int ov])), (t, .inl (U.2.2.1 1, 60, .inl tx)), (r, .inr (4, [.int (rd 0), .int (rd 1), .int (rd 2), .int (rd 3), .int (rd 4), .int (rd 5), .int (rd 6)]))] [some (.ref a), some (.int (nI i)), none] 9 [] := by
    intro n_f
    induction n_f with
    | zero =>
      intro i rd hfuel hin heq
      exact absurd hfuel (by omega)
    | succ n_f ih_9 =>
      intro i rd hfuel hin heq
      refine J_iload_n C dX2_firstError_9 rfl rfl ?_
      refine J_aload_n C dX2_firstError_10 rfl rfl ?_
      refine J_get C 0 2 rfl rfl i_X2_firstError_X2 (by decide) k_X2_firstError_26 rfl rfl dX2_firstError_11 ?_
      refine J_icmp_ge C 64 dX2_firstError_14 (by decide) (fun c_14_1 => ?_) (fun c_14_1 => ?_)
      · refine J_aload_n C dX2_firstError_64 rfl rfl ?_
        refine J_get C 0 1 rfl rfl i_X2_firstError_X2 (by decide) k_X2_firstError_18 rfl rfl dX2_firstError_65 ?_
        refine J_callV C (c_X4_isWhole U r (rd 0) (rd 1) (rd 2) (rd 3) (rd 4) (rd 5) (rd 6) ) gX2_firstError_X4_isWhole (n := 0) rfl rfl rfl (by decide +kernel) ⟨Nat.le_of_ble_eq_true rfl, Nat.le_of_ble_eq_true rfl⟩ 2 rfl rfl rfl (rest := []) rfl (Nat.le_of_ble_eq_true rfl) [(a, .inr (2, [.ref t, .ref r, .int (nI n), .int rs, .int ov])), (t, .inl (U.2.2.1 1, 60, .inl tx)), (r, .inr (4, [.int (rd 0), .int (rd 1), .int (rd 2), .int (rd 3), .int (rd 4), .int (rd 5), .int (rd 6)]))] [2] [0, 1] [0, 1, 2] (wr := [(a, .inr (2, [.ref t, .ref r, .int (nI n), .int rs, .int ov])), (t, .inl (U.2.2.1 1, 60, .inl tx))]) rfl rfl rfl rfl (by decide) rfl rfl  dX2_firstError_68 ⟨Nat.le_of_ble_eq_true rfl, Nat.le_of_ble_eq_true rfl⟩ [.int (b2i ((rd 0) = 3 ∨ (rd 0) = 7 ∨ (rd 0) = 8))] rfl ?_
        refine J_if_eq_b C 78 dX2_firstError_71 (by decide) (fun c_71_2 => ?_) (fun c_71_2 => ?_)
        · refine J_aload_n C dX2_firstError_78 rfl rfl ?_
          refine J_get C 0 2 rfl rfl i_X2_firstError_X2 (by decide) k_X2_firstError_26 rfl rfl dX2_firstError_79 ?_
          exact J_iret C R dX2_firstError_82 (Nat.le_of_ble_eq_true rfl) (Nat.le_of_ble_eq_true rfl) (by have hx : i = n := nI_end hin hn c_14_1; subst hx; rw [← heq, Nat.sub_self]; simp [feF, rdW, c_71_2]) (by have hx : i = n := nI_end hin hn c_14_1; subst hx; rw [← heq, Nat.sub_self]; rfl)
        · refine J_iconst C (v := (-1 : Int32)) dX2_firstError_74 (by decide) ?_
          refine J_goto C 82 dX2_firstError_75 (by decide) ?_
          exact J_iret C R dX2_firstError_82 (Nat.le_of_ble_eq_true rfl) (Nat.le_of_ble_eq_true rfl) (by have hx : i = n := nI_end hin hn c_14_1; subst hx; rw [← heq, Nat.sub_self]; simp [feF, rdW, c_71_2]) (by have hx : i = n := nI_end hin hn c_14_1; subst hx; rw [← heq, Nat.sub_self]; rfl)
      · have hlt : i < n := nI_not hin hn c_14_1
        refine J_aload_n C dX2_firstError_17 rfl rfl ?_
        refine J_get C 0 0 rfl rfl i_X2_firstError_X2 (by decide) k_X2_firstError_9 rfl rfl dX2_firstError_18 ?_
        refine J_iload_n C dX2_firstError_21 rfl rfl ?_
        refine J_cald C 1 rfl (vp_in_nI (by omega) (by decide)) (congrArg tx (nI_clamp (by omega))) dX2_firstError_22 ?_
        refine J_bipush C (v := (59 : Int32)) dX2_firstError_23 (by decide) ?_
        refine J_icmp_ne C 38 dX2_firstError_25 (by decide) (fun c_25_3 => ?_) (fun c_25_3 => ?_)
        · refine J_aload_n C dX2_firstError_38 rfl rfl ?_
          refine J_get C 0 1 rfl rfl i_X2_firstError_X2 (by decide) k_X2_firstError_18 rfl rfl dX2_firstError_39 ?_
          refine J_aload_n C dX2_firstError_42 rfl rfl ?_
          refine J_get C 0 0 rfl rfl i_X2_firstError_X2 (by decide) k_X2_firstError_9 rfl rfl dX2_firstError_43 ?_
          refine J_iload_n C dX2_firstError_46 rfl rfl ?_
          refine J_cald C 1 rfl (vp_in_nI (by omega) (by decide)) (congrArg tx (nI_clamp (by omega))) dX2_firstError_47 ?_
          refine J_callV C (c_X4_take U r (rd 0) (rd 1) (rd 2) (rd 3) (rd 4) (rd 5) (rd 6) (tx i) (htx _)) gX2_firstError_X4_take (n := 1) rfl rfl rfl (by decide +kernel) ⟨Nat.le_of_ble_eq_true rfl, Nat.le_of_ble_eq_true rfl⟩ 2 rfl rfl rfl (rest := []) rfl (Nat.le_of_ble_eq_true rfl) [(a, .inr (2, [.ref t, .ref r, .int (nI n), .int rs, .int ov])), (t, .inl (U.2.2.1 1, 60, .inl tx)), (r, .inr (4, [.int (if saF (rd 0) (rd 5) (rd 6) (tx i) = -1 then (rd 0) else saF (rd 0) (rd 5) (rd 6) (tx i)), .int (if saF (rd 0) (rd 5) (rd 6) (tx i) = -1 then (rd 1) else ntT (rd 0) (rd 1) (tx i)), .int (if saF (rd 0) (rd 5) (rd 6) (tx i) = -1 then (rd 2) else ntF (rd 0) (rd 2) (tx i)), .int (if saF (rd 0) (rd 5) (rd 6) (tx i) = -1 then (rd 3) else ntO (rd 0) (rd 3) (tx i)), .int (if saF (rd 0) (rd 5) (rd 6) (tx i) = -1 then (rd 4) else ntS (rd 0) (rd 4) (tx i)), .int (if saF (rd 0) (rd 5) (rd 6) (tx i) = -1 then (rd 5) else ntN (rd 0) (rd 5) (tx i)), .int (if saF (rd 0) (rd 5) (rd 6) (tx i) = -1 then (rd 6) else ntU (rd 0) (rd 6) (tx i))]))] [2] [0, 1] [0, 1, 2] (wr := [(a, .inr (2, [.ref t, .ref r, .int (nI n), .int rs, .int ov])), (t, .inl (U.2.2.1 1, 60, .inl tx))]) rfl rfl rfl rfl (by decide) rfl rfl  dX2_firstError_48 ⟨Nat.le_of_ble_eq_true rfl, Nat.le_of_ble_eq_true rfl⟩ [.int (b2i (¬ saF (rd 0) (rd 5) (rd 6) (tx i) = -1))] rfl ?_
          refine J_istore_n C [some (.ref a), some (.int (nI i)), some (.int (b2i (¬ saF (rd 0) (rd 5) (rd 6) (tx i) = -1)))] dX2_firstError_51 rfl (hN 2 (by decide)) rfl rfl ?_
          refine J_iload_n C dX2_firstError_52 rfl rfl ?_
          refine J_if_ne_b C 58 dX2_firstError_53 (by decide) (fun c_53_4 => ?_) (fun h9 => have c_53_4 := Decidable.not_not.mp h9; ?_)
          · refine J_iinc C (v := nI (i + 1)) [some (.ref a), some (.int (nI (i + 1))), some (.int (b2i (¬ saF (rd 0) (rd 5) (rd 6) (tx i) = -1)))] dX2_firstError_58 rfl (nI_o1 i) (hN 1 (by decide)) rfl rfl ?_
            refine J_goto C 9 dX2_firstError_61 (by decide) ?_
            refine J_weakL [some (.ref a), some (.int (nI (i + 1))), none] ⟨rfl, rfl, trivial⟩ ?_
            exact ih_9 (i + 1) (rdT rd (tx i)) (by omega) (by omega) (by rw [← heq, show n - i = (n - (i + 1)) + 1 by omega]; simp [feF, rdW, rdN, c_25_3, c_53_4])
          · refine J_iload_n C dX2_firstError_56 rfl rfl ?_
            exact J_iret C R dX2_firstError_57 (Nat.le_of_ble_eq_true rfl) (Nat.le_of_ble_eq_true rfl) (by rw [← heq, show n - i = (n - (i + 1)) + 1 by omega]; simp [feF, rdW, rdN, c_25_3, c_53_4]) (by rw [← heq, show n - i = (n - (i + 1)) + 1 by omega]; simp [feF, rdW, rdN, rdT, rdS, c_25_3, c_53_4])
        · refine J_aload_n C dX2_firstError_28 rfl rfl ?_
          refine J_get C 0 1 rfl rfl i_X2_firstError_X2 (by decide) k_X2_firstError_18 rfl rfl dX2_firstError_29 ?_
          refine J_callV C (c_X4_startNext U r (rd 0) (rd 1) (rd 2) (rd 3) (rd 4) (rd 5) (rd 6) ) gX2_firstError_X4_startNext (n := 0) rfl rfl rfl (by decide +kernel) ⟨Nat.le_of_ble_eq_true rfl, Nat.le_of_ble_eq_true rfl⟩ 2 rfl rfl rfl (rest := []) rfl (Nat.le_of_ble_eq_true rfl) [(a, .inr (2, [.ref t, .ref r, .int (nI n), .int rs, .int ov])), (t, .inl (U.2.2.1 1, 60, .inl tx)), (r, .inr (4, [.int (0 : Int32), .int (-1 : Int32), .int (-1 : Int32), .int (43 : Int32), .int (-1 : Int32), .int (0 : Int32), .int (0 : Int32)]))] [2] [0, 1] [0, 1, 2] (wr := [(a, .inr (2, [.ref t, .ref r, .int (nI n), .int rs, .int ov])), (t, .inl (U.2.2.1 1, 60, .inl tx))]) rfl rfl rfl rfl (by decide) rfl rfl  dX2_firstError_32 ⟨Nat.le_of_ble_eq_true rfl, Nat.le_of_ble_eq_true rfl⟩ [.int (b2i ((rd 0) = 3 ∨ (rd 0) = 7 ∨ (rd 0) = 8))] rfl ?_
          refine J_goto C 51 dX2_firstError_35 (by decide) ?_
          refine J_istore_n C [some (.ref a), some (.int (nI i)), some (.int (b2i ((rd 0) = 3 ∨ (rd 0) = 7 ∨ (rd 0) = 8)))] dX2_firstError_51 rfl (hN 2 (by decide)) rfl rfl ?_
          refine J_iload_n C dX2_firstError_52 rfl rfl ?_
          refine J_if_ne_b C 58 dX2_firstError_53 (by decide) (fun c_53_5 => ?_) (fun c_53_5 => ?_)
          · refine J_iinc C (v := nI (i + 1)) [some (.ref a), some (.int (nI (i + 1))), some (.int (b2i ((rd 0) = 3 ∨ (rd 0) = 7 ∨ (rd 0) = 8)))] dX2_firstError_58 rfl (nI_o1 i) (hN 1 (by decide)) rfl rfl ?_
            refine J_goto C 9 dX2_firstError_61 (by decide) ?_
            refine J_weakL [some (.ref a), some (.int (nI (i + 1))), none] ⟨rfl, rfl, trivial⟩ ?_
            exact ih_9 (i + 1) rdS (by omega) (by omega) (by rw [← heq, show n - i = (n - (i + 1)) + 1 by omega]; simp [feF, rdW, rdN, c_25_3, c_53_5])
          · refine J_iload_n C dX2_firstError_56 rfl rfl ?_
            exact J_iret C R dX2_firstError_57 (Nat.le_of_ble_eq_true rfl) (Nat.le_of_ble_eq_true rfl) (by rw [← heq, show n - i = (n - (i + 1)) + 1 by omega]; simp [feF, rdW, rdN, c_25_3, c_53_5]) (by rw [← heq, show n - i = (n - (i + 1)) + 1 by omega]; simp [feF, rdW, rdN, rdT, rdS, c_25_3, c_53_5])
  exact loop_9 (n + 1) 0 rdS (by omega) (by omega) rfl
