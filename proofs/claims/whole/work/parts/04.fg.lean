theorem k_X2_isFull_26 : Cond.fieldLink RX2 26 "BoothOtters$Program" "length" "I" ∈ wsX2_isFull := List.mem_of_getElem? (i := 1) rfl
theorem i_X2_isFull_X2 : ∀ w ∈ wsX20, w ∈ wsX2_isFull := fun _ h => List.mem_cons_of_mem _ (List.mem_append_right _ h)
set_option maxHeartbeats 4000000 in
set_option maxRecDepth 100000 in
theorem c_X2_isFull (U : jU) (a t r : Nat) (ln rs ov : Int32)  : Fn U yX2_isFull wsX2_isFull { frames := 0, cells := 0, slots := 0, locals := 0 } [.ref a] [(a, .inr (2, [.ref t, .ref r, .int ln, .int rs, .int ov]))] (some (.int (b2i (¬ ln < 60)))) [(a, .inr (2, [.ref t, .ref r, .int ln, .int rs, .int ov]))] 0 0 := by
  refine Fn_of (cc := cX2_isFull) (maxL := 1) (ret := (some .boolean)) [some (.ref a)] (by decide +kernel) rfl (jcat rfl) (Nat.le_of_ble_eq_true rfl) rfl (fun k C R hin hnL => ?_)
  have hN : ∀ i, i < 1 → i < k.2.2.2.2.2.2.2.2.2.2.2.1 := fun i h => by rw [hnL]; exact h
  refine J_aload_n C dX2_isFull_0 rfl rfl ?_
  refine J_get C 0 2 rfl rfl i_X2_isFull_X2 (by decide) k_X2_isFull_26 rfl rfl dX2_isFull_1 ?_
  refine J_bipush C (v := (60 : Int32)) dX2_isFull_4 (by decide) ?_
  refine J_icmp_lt C 13 dX2_isFull_6 (by decide) (fun c_6_1 => ?_) (fun c_6_1 => ?_)
  · refine J_iconst C (v := (0 : Int32)) dX2_isFull_13 (by decide) ?_
    exact J_zret C R rfl dX2_isFull_14 (Nat.le_of_ble_eq_true rfl) (Nat.le_of_ble_eq_true rfl) (congrArg (fun z => some (Value.int z)) (b2i_f (P := ¬ ln < 60) (by simp_all [isReg, isRec, isLet, isDig]))) rfl
  · refine J_iconst C (v := (1 : Int32)) dX2_isFull_9 (by decide) ?_
    refine J_goto C 14 dX2_isFull_10 (by decide) ?_
    exact J_zret C R rfl dX2_isFull_14 (Nat.le_of_ble_eq_true rfl) (Nat.le_of_ble_eq_true rfl) (congrArg (fun z => some (Value.int z)) (b2i_t (P := ¬ ln < 60) (by simp_all [isReg, isRec, isLet, isDig]))) rfl
theorem k_X2_append_9 : Cond.fieldLink RX2 9 "BoothOtters$Program" "text" "[C" ∈ wsX2_append := List.mem_of_getElem? (i := 1) rfl
theorem i_X2_append_X2 : ∀ w ∈ wsX20, w ∈ wsX2_append := fun _ h => List.mem_cons_of_mem _ (List.mem_append_right _ h)
theorem k_X2_append_26 : Cond.fieldLink RX2 26 "BoothOtters$Program" "length" "I" ∈ wsX2_append := List.mem_of_getElem? (i := 2) rfl
set_option maxHeartbeats 4000000 in
set_option maxRecDepth 100000 in
theorem c_X2_append (U : jU) (a t r : Nat) (tx : Nat → Int32) (n : Nat) (rs ov : Int32) (p0 : Int32) (hlt : n < 60) (hch : isCh p0) (hf : (nI n) < 60) : Fn U yX2_append wsX2_append { frames := 1, cells := 0, slots := 0, locals := 20 } [.ref a, .int p0] [(a, .inr (2, [.ref t, .ref r, .int (nI n), .int rs, .int ov])), (t, .inl (U.2.2.1 1, 60, .inl tx))] none [(a, .inr (2, [.ref t, .ref r, .int (nI (n + 1)), .int rs, .int ov])), (t, .inl (U.2.2.1 1, 60, .inl (upd tx n p0)))] 0 0 := by
  refine Fn_of (cc := cX2_append) (maxL := 2) (ret := none) [some (.ref a), some (.int p0)] (by decide +kernel) rfl (jcat rfl) (Nat.le_of_ble_eq_true rfl) rfl (fun k C R hin hnL => ?_)
  have hN : ∀ i, i < 2 → i < k.2.2.2.2.2.2.2.2.2.2.2.1 := fun i h => by rw [hnL]; exact h
  refine J_aload_n C dX2_append_0 rfl rfl ?_
  refine J_callV C (c_X2_isFull U a t r (nI n) rs ov ) gX2_append_X2_isFull (n := 0) rfl rfl rfl (by decide +kernel) ⟨Nat.le_of_ble_eq_true rfl, Nat.le_of_ble_eq_true rfl⟩ 0 rfl rfl rfl (rest := []) rfl (Nat.le_of_ble_eq_true rfl) [(a, .inr (2, [.ref t, .ref r, .int (nI n), .int rs, .int ov])), (t, .inl (U.2.2.1 1, 60, .inl tx))] [0] [1] [1, 0] (wr := [(t, .inl (U.2.2.1 1, 60, .inl tx))]) rfl rfl rfl rfl (by decide) rfl rfl  dX2_append_1 ⟨Nat.le_of_ble_eq_true rfl, Nat.le_of_ble_eq_true rfl⟩ [.int (b2i (¬ (nI n) < 60))] rfl ?_
  refine J_if_ne_b C 27 dX2_append_4 (by decide) (fun h => absurd h (fun hh => hh hf)) (fun h9 => ?_)
  refine J_aload_n C dX2_append_7 rfl rfl ?_
  refine J_get C 0 0 rfl rfl i_X2_append_X2 (by decide) k_X2_append_9 rfl rfl dX2_append_8 ?_
  refine J_aload_n C dX2_append_11 rfl rfl ?_
  refine J_get C 0 2 rfl rfl i_X2_append_X2 (by decide) k_X2_append_26 rfl rfl dX2_append_12 ?_
  refine J_iload_n C dX2_append_15 rfl rfl ?_
  refine J_cast C 1 [(a, .inr (2, [.ref t, .ref r, .int (nI n), .int rs, .int ov])), (t, .inl (U.2.2.1 1, 60, .inl (upd tx n p0)))] rfl (vp_in_nI (by omega) (by decide)) hch.2.2 (by rw [(nI_clamp (by omega))]; rfl) dX2_append_16 ?_
  refine J_aload_n C dX2_append_17 rfl rfl ?_
  refine J_dup C dX2_append_18 rfl ?_
  refine J_get C 0 2 rfl rfl i_X2_append_X2 (by decide) k_X2_append_26 rfl rfl dX2_append_19 ?_
  refine J_iconst C (v := (1 : Int32)) dX2_append_22 (by decide) ?_
  refine J_iadd C (v := nI (n + 1)) dX2_append_23 (nI_1 n) ?_
  refine J_put C tyX2 0 2 [(a, .inr (2, [.ref t, .ref r, .int (nI (n + 1)), .int rs, .int ov])), (t, .inl (U.2.2.1 1, 60, .inl (upd tx n p0)))] rfl rfl i_X2_append_X2 tyX2_ok nmX2 (by decide) k_X2_append_26 rfl rfl rfl rfl (Nat.le_of_ble_eq_true rfl) rfl dX2_append_24 ?_
  exact J_vret C R dX2_append_27 (Nat.le_of_ble_eq_true rfl) (Nat.le_of_ble_eq_true rfl) rfl rfl
theorem k_X2_firstError_18 : Cond.fieldLink RX2 18 "BoothOtters$Program" "reader" "LBoothOtters$StepReader;" ∈ wsX2_firstError := List.mem_of_getElem? (i := 1) rfl
theorem i_X2_firstError_X2 : ∀ w ∈ wsX20, w ∈ wsX2_firstError := fun _ h => List.mem_cons_of_mem _ (List.mem_append_left _ (List.mem_append_right _ h))
theorem k_X2_firstError_26 : Cond.fieldLink RX2 26 "BoothOtters$Program" "length" "I" ∈ wsX2_firstError := List.mem_of_getElem? (i := 2) rfl
theorem k_X2_firstError_9 : Cond.fieldLink RX2 9 "BoothOtters$Program" "text" "[C" ∈ wsX2_firstError := List.mem_of_getElem? (i := 3) rfl
set_option maxHeartbeats 4000000 in
set_option maxRecDepth 100000 in
theorem c_X2_firstError (U : jU) (a t r : Nat) (tx : Nat → Int32) (n : Nat) (rs ov : Int32) (sg tg fi op se ng nu : Int32) (hn : n ≤ 60) (htx : ∀ j, isCh (tx j)) : Fn U yX2_firstError wsX2_firstError { frames := 4, cells := 0, slots := 0, locals := 85 } [.ref a] [(a, .inr (2, [.ref t, .ref r, .int (nI n), .int rs, .int ov])), (t, .inl (U.2.2.1 1, 60, .inl tx)), (r, .inr (4, [.int sg, .int tg, .int fi, .int op, .int se, .int ng, .int nu]))] (some (.int ((feF tx n n 0 rdS).1))) [(a, .inr (2, [.ref t, .ref r, .int (nI n), .int rs, .int ov])), (t, .inl (U.2.2.1 1, 60, .inl tx)), (r, .inr (4, [.int (((feF tx n n 0 rdS).2) 0), .int (((feF tx n n 0 rdS).2) 1), .int (((feF tx n n 0 rdS).2) 2), .int (((feF tx n n 0 rdS).2) 3), .int (((feF tx n n 0 rdS).2) 4), .int (((feF tx n n 0 rdS).2) 5), .int (((feF tx n n 0 rdS).2) 6)]))] 0 0 := by
  refine Fn_of (cc := cX2_firstError) (maxL := 3) (ret := (some .int)) [some (.ref a), none, none] (by decide +kernel) rfl (jcat rfl) (Nat.le_of_ble_eq_true rfl) rfl (fun k C R hin hnL => ?_)
  have hN : ∀ i, i < 3 → i < k.2.2.2.2.2.2.2.2.2.2.2.1 := fun i h => by rw [hnL]; exact h
  refine J_aload_n C dX2_firstError_0 rfl rfl ?_
  refine J_get C 0 1 rfl rfl i_X2_firstError_X2 (by decide) k_X2_firstError_18 rfl rfl dX2_firstError_1 ?_
  refine J_callV C (c_X4_start U r sg tg fi op se ng nu ) gX2_firstError_X4_start (n := 0) rfl rfl rfl (by decide +kernel) ⟨Nat.le_of_ble_eq_true rfl, Nat.le_of_ble_eq_true rfl⟩ 2 rfl rfl rfl (rest := []) rfl (Nat.le_of_ble_eq_true rfl) [(a, .inr (2, [.ref t, .ref r, .int (nI n), .int rs, .int ov])), (t, .inl (U.2.2.1 1, 60, .inl tx)), (r, .inr (4, [.int (0 : Int32), .int (-1 : Int32), .int (-1 : Int32), .int (43 : Int32), .int (-1 : Int32), .int (0 : Int32), .int (0 : Int32)]))] [2] [0, 1] [0, 1, 2] (wr := [(a, .inr (2, [.ref t, .ref r, .int (nI n), .int rs, .int ov])), (t, .inl (U.2.2.1 1, 60, .inl tx))]) rfl rfl rfl rfl (by decide) rfl rfl  dX2_firstError_4 ⟨Nat.le_of_ble_eq_true rfl, Nat.le_of_ble_eq_true rfl⟩ [] rfl ?_
  refine J_iconst C (v := (0 : Int32)) dX2_firstError_7 (by decide) ?_
  refine J_istore_n C [some (.ref a), some (.int (0 : Int32)), none] dX2_firstError_8 rfl (hN 1 (by decide)) rfl ?_
  have loop_9 : ∀ (n_f : Nat) (i : Nat) (rd : Nat → Int32), n < i + n_f → i ≤ n → feF tx n (n - i) i rd = feF tx n n 0 rdS → J U k 0 0 [(a, .inr (2, [.ref t, .ref r, .int (nI n), .int rs, .int ov])), (t, .inl (U.2.2.1 1, 60, .inl tx)), (r, .inr (4, [.int (rd 0), .int (rd 1), .int (rd 2), .int (rd 3), .int (rd 4), .int (rd 5), .int (rd 6)]))] [some (.ref a), some (.int (nI i)), none] 9 [] := by
    intro n_f
    induction n_f with
    | zero =>
      intro i rd hfuel hin heq
      exact absurd hfuel (by omega)
    | succ n_f ih_9 =>
      intro i rd hfuel hin heq
      refine J_iload_n C dX2_firstError_9 rfl rfl ?_
      refine J_aload_n C dX2_firstError_10 rfl rfl ?_
      refine J_get C 0 2 rfl rfl i_X2_firstError_X2 (by decide) k_X2_firstError_26 rfl rfl dX2_firstError_11 ?_
      refine J_icmp_ge C 64 dX2_firstError_14 (by decide) (fun c_14_1 => ?_) (fun c_14_1 => ?_)
      · refine J_aload_n C dX2_firstError_64 rfl rfl ?_
        refine J_get C 0 1 rfl rfl i_X2_firstError_X2 (by decide) k_X2_firstError_18 rfl rfl dX2_firstError_65 ?_
        refine J_callV C (c_X4_isWhole U r (rd 0) (rd 1) (rd 2) (rd 3) (rd 4) (rd 5) (rd 6) ) gX2_firstError_X4_isWhole (n := 0) rfl rfl rfl (by decide +kernel) ⟨Nat.le_of_ble_eq_true rfl, Nat.le_of_ble_eq_true rfl⟩ 2 rfl rfl rfl (rest := []) rfl (Nat.le_of_ble_eq_true rfl) [(a, .inr (2, [.ref t, .ref r, .int (nI n), .int rs, .int ov])), (t, .inl (U.2.2.1 1, 60, .inl tx)), (r, .inr (4, [.int (rd 0), .int (rd 1), .int (rd 2), .int (rd 3), .int (rd 4), .int (rd 5), .int (rd 6)]))] [2] [0, 1] [0, 1, 2] (wr := [(a, .inr (2, [.ref t, .ref r, .int (nI n), .int rs, .int ov])), (t, .inl (U.2.2.1 1, 60, .inl tx))]) rfl rfl rfl rfl (by decide) rfl rfl  dX2_firstError_68 ⟨Nat.le_of_ble_eq_true rfl, Nat.le_of_ble_eq_true rfl⟩ [.int (b2i ((rd 0) = 3 ∨ (rd 0) = 7 ∨ (rd 0) = 8))] rfl ?_
        refine J_if_eq_b C 78 dX2_firstError_71 (by decide) (fun c_71_2 => ?_) (fun c_71_2 => ?_)
        · refine J_aload_n C dX2_firstError_78 rfl rfl ?_
          refine J_get C 0 2 rfl rfl i_X2_firstError_X2 (by decide) k_X2_firstError_26 rfl rfl dX2_firstError_79 ?_
          exact J_iret C R dX2_firstError_82 (Nat.le_of_ble_eq_true rfl) (Nat.le_of_ble_eq_true rfl) (by have hx : i = n := nI_end hin hn c_14_1; subst hx; rw [← heq, Nat.sub_self]; simp [feF, rdW, c_71_2]) (by have hx : i = n := nI_end hin hn c_14_1; subst hx; rw [← heq, Nat.sub_self]; rfl)
        · refine J_iconst C (v := (-1 : Int32)) dX2_firstError_74 (by decide) ?_
          refine J_goto C 82 dX2_firstError_75 (by decide) ?_
          exact J_iret C R dX2_firstError_82 (Nat.le_of_ble_eq_true rfl) (Nat.le_of_ble_eq_true rfl) (by have hx : i = n := nI_end hin hn c_14_1; subst hx; rw [← heq, Nat.sub_self]; simp [feF, rdW, c_71_2]) (by have hx : i = n := nI_end hin hn c_14_1; subst hx; rw [← heq, Nat.sub_self]; rfl)
      · have hlt : i < n := nI_not hin hn c_14_1
        refine J_aload_n C dX2_firstError_17 rfl rfl ?_
        refine J_get C 0 0 rfl rfl i_X2_firstError_X2 (by decide) k_X2_firstError_9 rfl rfl dX2_firstError_18 ?_
        refine J_iload_n C dX2_firstError_21 rfl rfl ?_
        refine J_cald C 1 rfl (vp_in_nI (by omega) (by decide)) (congrArg tx (nI_clamp (by omega))) dX2_firstError_22 ?_
        refine J_bipush C (v := (59 : Int32)) dX2_firstError_23 (by decide) ?_
        refine J_icmp_ne C 38 dX2_firstError_25 (by decide) (fun c_25_3 => ?_) (fun c_25_3 => ?_)
        · refine J_aload_n C dX2_firstError_38 rfl rfl ?_
          refine J_get C 0 1 rfl rfl i_X2_firstError_X2 (by decide) k_X2_firstError_18 rfl rfl dX2_firstError_39 ?_
          refine J_aload_n C dX2_firstError_42 rfl rfl ?_
          refine J_get C 0 0 rfl rfl i_X2_firstError_X2 (by decide) k_X2_firstError_9 rfl rfl dX2_firstError_43 ?_
          refine J_iload_n C dX2_firstError_46 rfl rfl ?_
          refine J_cald C 1 rfl (vp_in_nI (by omega) (by decide)) (congrArg tx (nI_clamp (by omega))) dX2_firstError_47 ?_
          refine J_callV C (c_X4_take U r (rd 0) (rd 1) (rd 2) (rd 3) (rd 4) (rd 5) (rd 6) (tx i) (htx _)) gX2_firstError_X4_take (n := 1) rfl rfl rfl (by decide +kernel) ⟨Nat.le_of_ble_eq_true rfl, Nat.le_of_ble_eq_true rfl⟩ 2 rfl rfl rfl (rest := []) rfl (Nat.le_of_ble_eq_true rfl) [(a, .inr (2, [.ref t, .ref r, .int (nI n), .int rs, .int ov])), (t, .inl (U.2.2.1 1, 60, .inl tx)), (r, .inr (4, [.int (if saF (rd 0) (rd 5) (rd 6) (tx i) = -1 then (rd 0) else saF (rd 0) (rd 5) (rd 6) (tx i)), .int (if saF (rd 0) (rd 5) (rd 6) (tx i) = -1 then (rd 1) else ntT (rd 0) (rd 1) (tx i)), .int (if saF (rd 0) (rd 5) (rd 6) (tx i) = -1 then (rd 2) else ntF (rd 0) (rd 2) (tx i)), .int (if saF (rd 0) (rd 5) (rd 6) (tx i) = -1 then (rd 3) else ntO (rd 0) (rd 3) (tx i)), .int (if saF (rd 0) (rd 5) (rd 6) (tx i) = -1 then (rd 4) else ntS (rd 0) (rd 4) (tx i)), .int (if saF (rd 0) (rd 5) (rd 6) (tx i) = -1 then (rd 5) else ntN (rd 0) (rd 5) (tx i)), .int (if saF (rd 0) (rd 5) (rd 6) (tx i) = -1 then (rd 6) else ntU (rd 0) (rd 6) (tx i))]))] [2] [0, 1] [0, 1, 2] (wr := [(a, .inr (2, [.ref t, .ref r, .int (nI n), .int rs, .int ov])), (t, .inl (U.2.2.1 1, 60, .inl tx))]) rfl rfl rfl rfl (by decide) rfl rfl  dX2_firstError_48 ⟨Nat.le_of_ble_eq_true rfl, Nat.le_of_ble_eq_true rfl⟩ [.int (b2i (¬ saF (rd 0) (rd 5) (rd 6) (tx i) = -1))] rfl ?_
          refine J_istore_n C [some (.ref a), some (.int (nI i)), some (.int (b2i (¬ saF (rd 0) (rd 5) (rd 6) (tx i) = -1)))] dX2_firstError_51 rfl (hN 2 (by decide)) rfl ?_
          refine J_iload_n C dX2_firstError_52 rfl rfl ?_
          refine J_if_ne_b C 58 dX2_firstError_53 (by decide) (fun c_53_4 => ?_) (fun h9 => have c_53_4 := Decidable.not_not.mp h9; ?_)
          · refine J_iinc C (v := nI (i + 1)) [some (.ref a), some (.int (nI (i + 1))), some (.int (b2i (¬ saF (rd 0) (rd 5) (rd 6) (tx i) = -1)))] dX2_firstError_58 rfl (nI_o1 i) (hN 1 (by decide)) rfl ?_
            refine J_goto C 9 dX2_firstError_61 (by decide) ?_
            refine J_weakL [some (.ref a), some (.int (nI (i + 1))), none] ⟨rfl, rfl, trivial⟩ ?_
            exact ih_9 (i + 1) (rdT rd (tx i)) (by omega) (by omega) (by rw [← heq, show n - i = (n - (i + 1)) + 1 by omega]; simp [feF, rdW, rdN, c_25_3, c_53_4])
          · refine J_iload_n C dX2_firstError_56 rfl rfl ?_
            exact J_iret C R dX2_firstError_57 (Nat.le_of_ble_eq_true rfl) (Nat.le_of_ble_eq_true rfl) (by rw [← heq, show n - i = (n - (i + 1)) + 1 by omega]; simp [feF, rdW, rdN, c_25_3, c_53_4]) (by rw [← heq, show n - i = (n - (i + 1)) + 1 by omega]; simp [feF, rdW, rdN, rdT, rdS, c_25_3, c_53_4])
        · refine J_aload_n C dX2_firstError_28 rfl rfl ?_
          refine J_get C 0 1 rfl rfl i_X2_firstError_X2 (by decide) k_X2_firstError_18 rfl rfl dX2_firstError_29 ?_
          refine J_callV C (c_X4_startNext U r (rd 0) (rd 1) (rd 2) (rd 3) (rd 4) (rd 5) (rd 6) ) gX2_firstError_X4_startNext (n := 0) rfl rfl rfl (by decide +kernel) ⟨Nat.le_of_ble_eq_true rfl, Nat.le_of_ble_eq_true rfl⟩ 2 rfl rfl rfl (rest := []) rfl (Nat.le_of_ble_eq_true rfl) [(a, .inr (2, [.ref t, .ref r, .int (nI n), .int rs, .int ov])), (t, .inl (U.2.2.1 1, 60, .inl tx)), (r, .inr (4, [.int (0 : Int32), .int (-1 : Int32), .int (-1 : Int32), .int (43 : Int32), .int (-1 : Int32), .int (0 : Int32), .int (0 : Int32)]))] [2] [0, 1] [0, 1, 2] (wr := [(a, .inr (2, [.ref t, .ref r, .int (nI n), .int rs, .int ov])), (t, .inl (U.2.2.1 1, 60, .inl tx))]) rfl rfl rfl rfl (by decide) rfl rfl  dX2_firstError_32 ⟨Nat.le_of_ble_eq_true rfl, Nat.le_of_ble_eq_true rfl⟩ [.int (b2i ((rd 0) = 3 ∨ (rd 0) = 7 ∨ (rd 0) = 8))] rfl ?_
          refine J_goto C 51 dX2_firstError_35 (by decide) ?_
          refine J_istore_n C [some (.ref a), some (.int (nI i)), some (.int (b2i ((rd 0) = 3 ∨ (rd 0) = 7 ∨ (rd 0) = 8)))] dX2_firstError_51 rfl (hN 2 (by decide)) rfl ?_
          refine J_iload_n C dX2_firstError_52 rfl rfl ?_
          refine J_if_ne_b C 58 dX2_firstError_53 (by decide) (fun c_53_5 => ?_) (fun c_53_5 => ?_)
          · refine J_iinc C (v := nI (i + 1)) [some (.ref a), some (.int (nI (i + 1))), some (.int (b2i ((rd 0) = 3 ∨ (rd 0) = 7 ∨ (rd 0) = 8)))] dX2_firstError_58 rfl (nI_o1 i) (hN 1 (by decide)) rfl ?_
            refine J_goto C 9 dX2_firstError_61 (by decide) ?_
            refine J_weakL [some (.ref a), some (.int (nI (i + 1))), none] ⟨rfl, rfl, trivial⟩ ?_
            exact ih_9 (i + 1) rdS (by omega) (by omega) (by rw [← heq, show n - i = (n - (i + 1)) + 1 by omega]; simp [feF, rdW, rdN, c_25_3, c_53_5])
          · refine J_iload_n C dX2_firstError_56 rfl rfl ?_
            exact J_iret C R dX2_firstError_57 (Nat.le_of_ble_eq_true rfl) (Nat.le_of_ble_eq_true rfl) (by rw [← heq, show n - i = (n - (i + 1)) + 1 by omega]; simp [feF, rdW, rdN, c_25_3, c_53_5]) (by rw [← heq, show n - i = (n - (i + 1)) + 1 by omega]; simp [feF, rdW, rdN, rdT, rdS, c_25_3, c_53_5])
  exact loop_9 (n + 1) 0 rdS (by omega) (by omega) rfl
theorem k_X2_doStep_50 : Cond.fieldLink RX2 50 "BoothOtters$State" "overflows" "I" ∈ wsX2_doStep := List.mem_of_getElem? (i := 1) rfl
theorem i_X2_doStep_X3 : ∀ w ∈ wsX30, w ∈ wsX2_doStep := fun _ h => List.mem_cons_of_mem _ (List.mem_append_left _ (List.mem_append_left _ (List.mem_append_right _ h)))
theorem k_X2_doStep_18 : Cond.fieldLink RX2 18 "BoothOtters$Program" "reader" "LBoothOtters$StepReader;" ∈ wsX2_doStep := List.mem_of_getElem? (i := 2) rfl
theorem i_X2_doStep_X2 : ∀ w ∈ wsX20, w ∈ wsX2_doStep := fun _ h => List.mem_cons_of_mem _ (List.mem_append_left _ (List.mem_append_right _ h))
theorem k_X2_doStep_55 : Cond.fieldLink RX2 55 "BoothOtters$StepReader" "target" "I" ∈ wsX2_doStep := List.mem_of_getElem? (i := 3) rfl
theorem i_X2_doStep_X4 : ∀ w ∈ wsX40, w ∈ wsX2_doStep := fun _ h => List.mem_cons_of_mem _ (List.mem_append_right _ h)
theorem k_X2_doStep_66 : Cond.fieldLink RX2 66 "BoothOtters$Program" "resultOfRun" "I" ∈ wsX2_doStep := List.mem_of_getElem? (i := 4) rfl
theorem k_X2_doStep_22 : Cond.fieldLink RX2 22 "BoothOtters$Program" "overflowOfRun" "I" ∈ wsX2_doStep := List.mem_of_getElem? (i := 5) rfl
set_option maxHeartbeats 4000000 in
set_option maxRecDepth 100000 in
theorem c_X2_doStep (U : jU) (a t r b v m : Nat) (ln rs ov sg tg fi op se ng nu w o q : Int32) (f : Nat → Int32) (p1 : Int32)  : Fn U yX2_doStep wsX2_doStep { frames := 3, cells := 0, slots := 0, locals := 62 } [.ref a, .ref b, .int p1] [(a, .inr (2, [.ref t, .ref r, .int ln, .int rs, .int ov])), (r, .inr (4, [.int sg, .int tg, .int fi, .int op, .int se, .int ng, .int nu])), (b, .inr (3, [.ref v, .ref m, .int w, .int o, .int q])), (v, .inl (U.2.2.1 0, 6, .inl f))] none [(a, .inr (2, [.ref t, .ref r, .int ln, .int (wrapF w (resF f fi op se ng nu)), .int (ofF o (ovF w (resF f fi op se ng nu) o) ov p1)])), (r, .inr (4, [.int sg, .int tg, .int fi, .int op, .int se, .int ng, .int nu])), (b, .inr (3, [.ref v, .ref m, .int w, .int (ovF w (resF f fi op se ng nu) o), .int q])), (v, .inl (U.2.2.1 0, 6, .inl (putF f tg (wrapF w (resF f fi op se ng nu)))))] 0 0 := by
  refine Fn_of (cc := cX2_doStep) (maxL := 4) (ret := none) [some (.ref a), some (.ref b), some (.int p1), none] (by decide +kernel) rfl (jcat rfl) (Nat.le_of_ble_eq_true rfl) rfl (fun k C R hin hnL => ?_)
  have hN : ∀ i, i < 4 → i < k.2.2.2.2.2.2.2.2.2.2.2.1 := fun i h => by rw [hnL]; exact h
  refine J_aload_n C dX2_doStep_0 rfl rfl ?_
  refine J_get C 2 3 rfl rfl i_X2_doStep_X3 (by decide) k_X2_doStep_50 rfl rfl dX2_doStep_1 ?_
  refine J_istore_n C [some (.ref a), some (.ref b), some (.int p1), some (.int o)] dX2_doStep_4 rfl (hN 3 (by decide)) rfl ?_
  refine J_aload_n C dX2_doStep_5 rfl rfl ?_
  refine J_aload_n C dX2_doStep_6 rfl rfl ?_
  refine J_aload_n C dX2_doStep_7 rfl rfl ?_
  refine J_get C 0 1 rfl rfl i_X2_doStep_X2 (by decide) k_X2_doStep_18 rfl rfl dX2_doStep_8 ?_
  refine J_get C 1 1 rfl rfl i_X2_doStep_X4 (by decide) k_X2_doStep_55 rfl rfl dX2_doStep_11 ?_
  refine J_aload_n C dX2_doStep_14 rfl rfl ?_
  refine J_get C 0 1 rfl rfl i_X2_doStep_X2 (by decide) k_X2_doStep_18 rfl rfl dX2_doStep_15 ?_
  refine J_aload_n C dX2_doStep_18 rfl rfl ?_
  refine J_callV C (c_X4_resultOn U r sg tg fi op se ng nu b v m f w o q ) gX2_doStep_X4_resultOn (n := 1) rfl rfl rfl (by decide +kernel) ⟨Nat.le_of_ble_eq_true rfl, Nat.le_of_ble_eq_true rfl⟩ 1 rfl rfl rfl (rest := [.int tg, .ref b, .ref a]) rfl (Nat.le_of_ble_eq_true rfl) [(a, .inr (2, [.ref t, .ref r, .int ln, .int rs, .int ov])), (r, .inr (4, [.int sg, .int tg, .int fi, .int op, .int se, .int ng, .int nu])), (b, .inr (3, [.ref v, .ref m, .int w, .int o, .int q])), (v, .inl (U.2.2.1 0, 6, .inl f))] [1, 2, 3] [0] [0, 1, 2, 3] (wr := [(a, .inr (2, [.ref t, .ref r, .int ln, .int rs, .int ov]))]) rfl rfl rfl rfl (by decide) rfl rfl  dX2_doStep_19 ⟨Nat.le_of_ble_eq_true rfl, Nat.le_of_ble_eq_true rfl⟩ [.int (resF f fi op se ng nu), .int tg, .ref b, .ref a] rfl ?_
  refine J_callV C (c_X3_put U b v m f w o q tg (resF f fi op se ng nu) ) gX2_doStep_X3_put (n := 2) rfl rfl rfl (by decide +kernel) ⟨Nat.le_of_ble_eq_true rfl, Nat.le_of_ble_eq_true rfl⟩ 2 rfl rfl rfl (rest := [.ref a]) rfl (Nat.le_of_ble_eq_true rfl) [(a, .inr (2, [.ref t, .ref r, .int ln, .int rs, .int ov])), (r, .inr (4, [.int sg, .int tg, .int fi, .int op, .int se, .int ng, .int nu])), (b, .inr (3, [.ref v, .ref m, .int w, .int (ovF w (resF f fi op se ng nu) o), .int q])), (v, .inl (U.2.2.1 0, 6, .inl (putF f tg (wrapF w (resF f fi op se ng nu)))))] [2, 3] [0, 1] [0, 1, 2, 3] (wr := [(a, .inr (2, [.ref t, .ref r, .int ln, .int rs, .int ov])), (r, .inr (4, [.int sg, .int tg, .int fi, .int op, .int se, .int ng, .int nu]))]) rfl rfl rfl rfl (by decide) rfl rfl  dX2_doStep_22 ⟨Nat.le_of_ble_eq_true rfl, Nat.le_of_ble_eq_true rfl⟩ [.int (wrapF w (resF f fi op se ng nu)), .ref a] rfl ?_
  refine J_put C tyX2 0 3 [(a, .inr (2, [.ref t, .ref r, .int ln, .int (wrapF w (resF f fi op se ng nu)), .int ov])), (r, .inr (4, [.int sg, .int tg, .int fi, .int op, .int se, .int ng, .int nu])), (b, .inr (3, [.ref v, .ref m, .int w, .int (ovF w (resF f fi op se ng nu) o), .int q])), (v, .inl (U.2.2.1 0, 6, .inl (putF f tg (wrapF w (resF f fi op se ng nu)))))] rfl rfl i_X2_doStep_X2 tyX2_ok nmX2 (by decide) k_X2_doStep_66 rfl rfl rfl rfl (Nat.le_of_ble_eq_true rfl) rfl dX2_doStep_25 ?_
  refine J_aload_n C dX2_doStep_28 rfl rfl ?_
  refine J_get C 2 3 rfl rfl i_X2_doStep_X3 (by decide) k_X2_doStep_50 rfl rfl dX2_doStep_29 ?_
  refine J_iload_n C dX2_doStep_32 rfl rfl ?_
  refine J_icmp_eq C 49 dX2_doStep_33 (by decide) (fun c_33_1 => ?_) (fun c_33_1 => ?_)
  · exact J_vret C R dX2_doStep_49 (Nat.le_of_ble_eq_true rfl) (Nat.le_of_ble_eq_true rfl) rfl (by simp [ofF, c_33_1])
  · refine J_aload_n C dX2_doStep_36 rfl rfl ?_
    refine J_get C 0 4 rfl rfl i_X2_doStep_X2 (by decide) k_X2_doStep_22 rfl rfl dX2_doStep_37 ?_
    refine J_iconst C (v := (-1 : Int32)) dX2_doStep_40 (by decide) ?_
    refine J_icmp_ne C 49 dX2_doStep_41 (by decide) (fun c_41_2 => ?_) (fun c_41_2 => ?_)
    · exact J_vret C R dX2_doStep_49 (Nat.le_of_ble_eq_true rfl) (Nat.le_of_ble_eq_true rfl) rfl (by simp [ofF, c_33_1, c_41_2])
    · refine J_aload_n C dX2_doStep_44 rfl rfl ?_
      refine J_iload_n C dX2_doStep_45 rfl rfl ?_
      refine J_put C tyX2 0 4 [(a, .inr (2, [.ref t, .ref r, .int ln, .int (wrapF w (resF f fi op se ng nu)), .int p1])), (r, .inr (4, [.int sg, .int tg, .int fi, .int op, .int se, .int ng, .int nu])), (b, .inr (3, [.ref v, .ref m, .int w, .int (ovF w (resF f fi op se ng nu) o), .int q])), (v, .inl (U.2.2.1 0, 6, .inl (putF f tg (wrapF w (resF f fi op se ng nu)))))] rfl rfl i_X2_doStep_X2 tyX2_ok nmX2 (by decide) k_X2_doStep_22 rfl rfl rfl rfl (Nat.le_of_ble_eq_true rfl) rfl dX2_doStep_46 ?_
      exact J_vret C R dX2_doStep_49 (Nat.le_of_ble_eq_true rfl) (Nat.le_of_ble_eq_true rfl) rfl (by simp [ofF, c_33_1, c_41_2])
theorem k_X2_runOn_22 : Cond.fieldLink RX2 22 "BoothOtters$Program" "overflowOfRun" "I" ∈ wsX2_runOn := List.mem_of_getElem? (i := 1) rfl
theorem i_X2_runOn_X2 : ∀ w ∈ wsX20, w ∈ wsX2_runOn := fun _ h => List.mem_cons_of_mem _ (List.mem_append_left _ (List.mem_append_left _ (List.mem_append_right _ h)))
theorem k_X2_runOn_18 : Cond.fieldLink RX2 18 "BoothOtters$Program" "reader" "LBoothOtters$StepReader;" ∈ wsX2_runOn := List.mem_of_getElem? (i := 2) rfl
theorem k_X2_runOn_26 : Cond.fieldLink RX2 26 "BoothOtters$Program" "length" "I" ∈ wsX2_runOn := List.mem_of_getElem? (i := 3) rfl
theorem k_X2_runOn_9 : Cond.fieldLink RX2 9 "BoothOtters$Program" "text" "[C" ∈ wsX2_runOn := List.mem_of_getElem? (i := 4) rfl
set_option maxHeartbeats 4000000 in
set_option maxRecDepth 100000 in
theorem c_X2_runOn (U : jU) (a t r b v m : Nat) (tx : Nat → Int32) (n : Nat) (rs ov sg tg fi op se ng nu w o q : Int32) (f : Nat → Int32) (hn : n ≤ 60) (htx : ∀ j, isCh (tx j)) : Fn U yX2_runOn wsX2_runOn { frames := 4, cells := 0, slots := 0, locals := 85 } [.ref a, .ref b] [(a, .inr (2, [.ref t, .ref r, .int (nI n), .int rs, .int ov])), (t, .inl (U.2.2.1 1, 60, .inl tx)), (r, .inr (4, [.int sg, .int tg, .int fi, .int op, .int se, .int ng, .int nu])), (b, .inr (3, [.ref v, .ref m, .int w, .int o, .int q])), (v, .inl (U.2.2.1 0, 6, .inl f))] none [(a, .inr (2, [.ref t, .ref r, .int (nI n), .int ((runF tx n w (n + 1) 0 rdS f o rs (-1) 0).2.2.2.1), .int ((runF tx n w (n + 1) 0 rdS f o rs (-1) 0).2.2.2.2)])), (t, .inl (U.2.2.1 1, 60, .inl tx)), (r, .inr (4, [.int (((runF tx n w (n + 1) 0 rdS f o rs (-1) 0).1) 0), .int (((runF tx n w (n + 1) 0 rdS f o rs (-1) 0).1) 1), .int (((runF tx n w (n + 1) 0 rdS f o rs (-1) 0).1) 2), .int (((runF tx n w (n + 1) 0 rdS f o rs (-1) 0).1) 3), .int (((runF tx n w (n + 1) 0 rdS f o rs (-1) 0).1) 4), .int (((runF tx n w (n + 1) 0 rdS f o rs (-1) 0).1) 5), .int (((runF tx n w (n + 1) 0 rdS f o rs (-1) 0).1) 6)])), (b, .inr (3, [.ref v, .ref m, .int w, .int ((runF tx n w (n + 1) 0 rdS f o rs (-1) 0).2.2.1), .int q])), (v, .inl (U.2.2.1 0, 6, .inl ((runF tx n w (n + 1) 0 rdS f o rs (-1) 0).2.1)))] 0 0 := by
  refine Fn_of (cc := cX2_runOn) (maxL := 4) (ret := none) [some (.ref a), some (.ref b), none, none] (by decide +kernel) rfl (jcat rfl) (Nat.le_of_ble_eq_true rfl) rfl (fun k C R hin hnL => ?_)
  have hN : ∀ i, i < 4 → i < k.2.2.2.2.2.2.2.2.2.2.2.1 := fun i h => by rw [hnL]; exact h
  refine J_aload_n C dX2_runOn_0 rfl rfl ?_
  refine J_iconst C (v := (-1 : Int32)) dX2_runOn_1 (by decide) ?_
  refine J_put C tyX2 0 4 [(a, .inr (2, [.ref t, .ref r, .int (nI n), .int rs, .int (-1 : Int32)])), (t, .inl (U.2.2.1 1, 60, .inl tx)), (r, .inr (4, [.int sg, .int tg, .int fi, .int op, .int se, .int ng, .int nu])), (b, .inr (3, [.ref v, .ref m, .int w, .int o, .int q])), (v, .inl (U.2.2.1 0, 6, .inl f))] rfl rfl i_X2_runOn_X2 tyX2_ok nmX2 (by decide) k_X2_runOn_22 rfl rfl rfl rfl (Nat.le_of_ble_eq_true rfl) rfl dX2_runOn_2 ?_
  refine J_iconst C (v := (0 : Int32)) dX2_runOn_5 (by decide) ?_
  refine J_istore_n C [some (.ref a), some (.ref b), some (.int (0 : Int32)), none] dX2_runOn_6 rfl (hN 2 (by decide)) rfl ?_
  refine J_aload_n C dX2_runOn_7 rfl rfl ?_
  refine J_get C 0 1 rfl rfl i_X2_runOn_X2 (by decide) k_X2_runOn_18 rfl rfl dX2_runOn_8 ?_
  refine J_callV C (c_X4_start U r sg tg fi op se ng nu ) gX2_runOn_X4_start (n := 0) rfl rfl rfl (by decide +kernel) ⟨Nat.le_of_ble_eq_true rfl, Nat.le_of_ble_eq_true rfl⟩ 2 rfl rfl rfl (rest := []) rfl (Nat.le_of_ble_eq_true rfl) [(a, .inr (2, [.ref t, .ref r, .int (nI n), .int rs, .int (-1 : Int32)])), (t, .inl (U.2.2.1 1, 60, .inl tx)), (r, .inr (4, [.int (0 : Int32), .int (-1 : Int32), .int (-1 : Int32), .int (43 : Int32), .int (-1 : Int32), .int (0 : Int32), .int (0 : Int32)])), (b, .inr (3, [.ref v, .ref m, .int w, .int o, .int q])), (v, .inl (U.2.2.1 0, 6, .inl f))] [2] [0, 1, 3, 4] [0, 1, 4, 2, 3] (wr := [(a, .inr (2, [.ref t, .ref r, .int (nI n), .int rs, .int (-1 : Int32)])), (t, .inl (U.2.2.1 1, 60, .inl tx)), (b, .inr (3, [.ref v, .ref m, .int w, .int o, .int q])), (v, .inl (U.2.2.1 0, 6, .inl f))]) rfl rfl rfl rfl (by decide) rfl rfl  dX2_runOn_11 ⟨Nat.le_of_ble_eq_true rfl, Nat.le_of_ble_eq_true rfl⟩ [] rfl ?_
  refine J_iconst C (v := (0 : Int32)) dX2_runOn_14 (by decide) ?_
  refine J_istore_n C [some (.ref a), some (.ref b), some (.int (0 : Int32)), some (.int (0 : Int32))] dX2_runOn_15 rfl (hN 3 (by decide)) rfl ?_
  have loop_16 : ∀ (n_f : Nat) (i : Nat) (rd g : Nat → Int32) (o1 rs1 ov1 num : Int32), n + 1 < i + n_f → i ≤ n + 1 → runF tx n w (n + 1 - i) i rd g o1 rs1 ov1 num = runF tx n w (n + 1) 0 rdS f o rs (-1) 0 → J U k 0 0 [(a, .inr (2, [.ref t, .ref r, .int (nI n), .int rs1, .int ov1])), (t, .inl (U.2.2.1 1, 60, .inl tx)), (r, .inr (4, [.int (rd 0), .int (rd 1), .int (rd 2), .int (rd 3), .int (rd 4), .int (rd 5), .int (rd 6)])), (b, .inr (3, [.ref v, .ref m, .int w, .int o1, .int q])), (v, .inl (U.2.2.1 0, 6, .inl g))] [some (.ref a), some (.ref b), some (.int num), some (.int (nI i))] 16 [] := by
    intro n_f
    induction n_f with
    | zero =>
      intro i rd g o1 rs1 ov1 num hfuel hin heq
      exact absurd hfuel (by omega)
    | succ n_f ih_16 =>
      intro i rd g o1 rs1 ov1 num hfuel hin heq
      refine J_iload_n C dX2_runOn_16 rfl rfl ?_
      refine J_aload_n C dX2_runOn_17 rfl rfl ?_
      refine J_get C 0 2 rfl rfl i_X2_runOn_X2 (by decide) k_X2_runOn_26 rfl rfl dX2_runOn_18 ?_
      refine J_icmp_gt C 82 dX2_runOn_21 (by decide) (fun c_21_1 => ?_) (fun c_21_1 => ?_)
      · exact J_vret C R dX2_runOn_82 (Nat.le_of_ble_eq_true rfl) (Nat.le_of_ble_eq_true rfl) rfl (by have hx : i = n + 1 := nI_gt hin hn c_21_1; subst hx; rw [← heq, Nat.sub_self]; rfl)
      · have hle : i ≤ n := nI_ngt hn hin c_21_1
        refine J_iload_n C dX2_runOn_24 rfl rfl ?_
        refine J_aload_n C dX2_runOn_25 rfl rfl ?_
        refine J_get C 0 2 rfl rfl i_X2_runOn_X2 (by decide) k_X2_runOn_26 rfl rfl dX2_runOn_26 ?_
        refine J_icmp_ge C 60 dX2_runOn_29 (by decide) (fun c_29_2 => ?_) (fun c_29_2 => ?_)
        · refine J_aload_n C dX2_runOn_60 rfl rfl ?_
          refine J_aload_n C dX2_runOn_61 rfl rfl ?_
          refine J_iload_n C dX2_runOn_62 rfl rfl ?_
          refine J_callV C (c_X2_doStep U a t r b v m (nI n) rs1 ov1 (rd 0) (rd 1) (rd 2) (rd 3) (rd 4) (rd 5) (rd 6) w o1 q g num ) gX2_runOn_X2_doStep (n := 2) rfl rfl rfl (by decide +kernel) ⟨Nat.le_of_ble_eq_true rfl, Nat.le_of_ble_eq_true rfl⟩ 0 rfl rfl rfl (rest := []) rfl (Nat.le_of_ble_eq_true rfl) [(a, .inr (2, [.ref t, .ref r, .int (nI n), .int (wrapF w (resF g (rd 2) (rd 3) (rd 4) (rd 5) (rd 6))), .int (ofF o1 (ovF w (resF g (rd 2) (rd 3) (rd 4) (rd 5) (rd 6)) o1) ov1 num)])), (t, .inl (U.2.2.1 1, 60, .inl tx)), (r, .inr (4, [.int (rd 0), .int (rd 1), .int (rd 2), .int (rd 3), .int (rd 4), .int (rd 5), .int (rd 6)])), (b, .inr (3, [.ref v, .ref m, .int w, .int (ovF w (resF g (rd 2) (rd 3) (rd 4) (rd 5) (rd 6)) o1), .int q])), (v, .inl (U.2.2.1 0, 6, .inl (putF g (rd 1) (wrapF w (resF g (rd 2) (rd 3) (rd 4) (rd 5) (rd 6))))))] [0, 2, 3, 4] [1] [1, 0, 2, 3, 4] (wr := [(t, .inl (U.2.2.1 1, 60, .inl tx))]) rfl rfl rfl rfl (by decide) rfl rfl  dX2_runOn_63 ⟨Nat.le_of_ble_eq_true rfl, Nat.le_of_ble_eq_true rfl⟩ [] rfl ?_
          refine J_iinc C (v := num + 1) [some (.ref a), some (.ref b), some (.int (num + 1)), some (.int (nI i))] dX2_runOn_66 rfl rfl (hN 2 (by decide)) rfl ?_
          refine J_aload_n C dX2_runOn_69 rfl rfl ?_
          refine J_get C 0 1 rfl rfl i_X2_runOn_X2 (by decide) k_X2_runOn_18 rfl rfl dX2_runOn_70 ?_
          refine J_callV C (c_X4_start U r (rd 0) (rd 1) (rd 2) (rd 3) (rd 4) (rd 5) (rd 6) ) gX2_runOn_X4_start (n := 0) rfl rfl rfl (by decide +kernel) ⟨Nat.le_of_ble_eq_true rfl, Nat.le_of_ble_eq_true rfl⟩ 2 rfl rfl rfl (rest := []) rfl (Nat.le_of_ble_eq_true rfl) [(a, .inr (2, [.ref t, .ref r, .int (nI n), .int (wrapF w (resF g (rd 2) (rd 3) (rd 4) (rd 5) (rd 6))), .int (ofF o1 (ovF w (resF g (rd 2) (rd 3) (rd 4) (rd 5) (rd 6)) o1) ov1 num)])), (t, .inl (U.2.2.1 1, 60, .inl tx)), (r, .inr (4, [.int (0 : Int32), .int (-1 : Int32), .int (-1 : Int32), .int (43 : Int32), .int (-1 : Int32), .int (0 : Int32), .int (0 : Int32)])), (b, .inr (3, [.ref v, .ref m, .int w, .int (ovF w (resF g (rd 2) (rd 3) (rd 4) (rd 5) (rd 6)) o1), .int q])), (v, .inl (U.2.2.1 0, 6, .inl (putF g (rd 1) (wrapF w (resF g (rd 2) (rd 3) (rd 4) (rd 5) (rd 6))))))] [2] [0, 1, 3, 4] [0, 1, 4, 2, 3] (wr := [(a, .inr (2, [.ref t, .ref r, .int (nI n), .int (wrapF w (resF g (rd 2) (rd 3) (rd 4) (rd 5) (rd 6))), .int (ofF o1 (ovF w (resF g (rd 2) (rd 3) (rd 4) (rd 5) (rd 6)) o1) ov1 num)])), (t, .inl (U.2.2.1 1, 60, .inl tx)), (b, .inr (3, [.ref v, .ref m, .int w, .int (ovF w (resF g (rd 2) (rd 3) (rd 4) (rd 5) (rd 6)) o1), .int q])), (v, .inl (U.2.2.1 0, 6, .inl (putF g (rd 1) (wrapF w (resF g (rd 2) (rd 3) (rd 4) (rd 5) (rd 6))))))]) rfl rfl rfl rfl (by decide) rfl rfl  dX2_runOn_73 ⟨Nat.le_of_ble_eq_true rfl, Nat.le_of_ble_eq_true rfl⟩ [] rfl ?_
          refine J_iinc C (v := nI (i + 1)) [some (.ref a), some (.ref b), some (.int (num + 1)), some (.int (nI (i + 1)))] dX2_runOn_76 rfl (nI_o1 i) (hN 3 (by decide)) rfl ?_
          refine J_goto C 16 dX2_runOn_79 (by decide) ?_
          exact ih_16 (i + 1) rdS (putF g (rd 1) (wrapF w (rsF g rd))) (ovF w (rsF g rd) o1) (wrapF w (rsF g rd)) (ofF o1 (ovF w (rsF g rd) o1) ov1 num) (num + 1) (by omega) (by omega) (by rw [← heq, show n + 1 - i = (n + 1 - (i + 1)) + 1 by omega, runF]; rw [if_neg (fun hh => absurd (nI_end hle hn c_29_2) (by have := hh.1; omega))])
        · have hlt : i < n := nI_not hle hn c_29_2
          refine J_aload_n C dX2_runOn_32 rfl rfl ?_
          refine J_get C 0 0 rfl rfl i_X2_runOn_X2 (by decide) k_X2_runOn_9 rfl rfl dX2_runOn_33 ?_
          refine J_iload_n C dX2_runOn_36 rfl rfl ?_
          refine J_cald C 1 rfl (vp_in_nI (by omega) (by decide)) (congrArg tx (nI_clamp (by omega))) dX2_runOn_37 ?_
          refine J_bipush C (v := (59 : Int32)) dX2_runOn_38 (by decide) ?_
          refine J_icmp_eq C 60 dX2_runOn_40 (by decide) (fun c_40_3 => ?_) (fun c_40_3 => ?_)
          · refine J_aload_n C dX2_runOn_60 rfl rfl ?_
            refine J_aload_n C dX2_runOn_61 rfl rfl ?_
            refine J_iload_n C dX2_runOn_62 rfl rfl ?_
            refine J_callV C (c_X2_doStep U a t r b v m (nI n) rs1 ov1 (rd 0) (rd 1) (rd 2) (rd 3) (rd 4) (rd 5) (rd 6) w o1 q g num ) gX2_runOn_X2_doStep (n := 2) rfl rfl rfl (by decide +kernel) ⟨Nat.le_of_ble_eq_true rfl, Nat.le_of_ble_eq_true rfl⟩ 0 rfl rfl rfl (rest := []) rfl (Nat.le_of_ble_eq_true rfl) [(a, .inr (2, [.ref t, .ref r, .int (nI n), .int (wrapF w (resF g (rd 2) (rd 3) (rd 4) (rd 5) (rd 6))), .int (ofF o1 (ovF w (resF g (rd 2) (rd 3) (rd 4) (rd 5) (rd 6)) o1) ov1 num)])), (t, .inl (U.2.2.1 1, 60, .inl tx)), (r, .inr (4, [.int (rd 0), .int (rd 1), .int (rd 2), .int (rd 3), .int (rd 4), .int (rd 5), .int (rd 6)])), (b, .inr (3, [.ref v, .ref m, .int w, .int (ovF w (resF g (rd 2) (rd 3) (rd 4) (rd 5) (rd 6)) o1), .int q])), (v, .inl (U.2.2.1 0, 6, .inl (putF g (rd 1) (wrapF w (resF g (rd 2) (rd 3) (rd 4) (rd 5) (rd 6))))))] [0, 2, 3, 4] [1] [1, 0, 2, 3, 4] (wr := [(t, .inl (U.2.2.1 1, 60, .inl tx))]) rfl rfl rfl rfl (by decide) rfl rfl  dX2_runOn_63 ⟨Nat.le_of_ble_eq_true rfl, Nat.le_of_ble_eq_true rfl⟩ [] rfl ?_
            refine J_iinc C (v := num + 1) [some (.ref a), some (.ref b), some (.int (num + 1)), some (.int (nI i))] dX2_runOn_66 rfl rfl (hN 2 (by decide)) rfl ?_
            refine J_aload_n C dX2_runOn_69 rfl rfl ?_
            refine J_get C 0 1 rfl rfl i_X2_runOn_X2 (by decide) k_X2_runOn_18 rfl rfl dX2_runOn_70 ?_
            refine J_callV C (c_X4_start U r (rd 0) (rd 1) (rd 2) (rd 3) (rd 4) (rd 5) (rd 6) ) gX2_runOn_X4_start (n := 0) rfl rfl rfl (by decide +kernel) ⟨Nat.le_of_ble_eq_true rfl, Nat.le_of_ble_eq_true rfl⟩ 2 rfl rfl rfl (rest := []) rfl (Nat.le_of_ble_eq_true rfl) [(a, .inr (2, [.ref t, .ref r, .int (nI n), .int (wrapF w (resF g (rd 2) (rd 3) (rd 4) (rd 5) (rd 6))), .int (ofF o1 (ovF w (resF g (rd 2) (rd 3) (rd 4) (rd 5) (rd 6)) o1) ov1 num)])), (t, .inl (U.2.2.1 1, 60, .inl tx)), (r, .inr (4, [.int (0 : Int32), .int (-1 : Int32), .int (-1 : Int32), .int (43 : Int32), .int (-1 : Int32), .int (0 : Int32), .int (0 : Int32)])), (b, .inr (3, [.ref v, .ref m, .int w, .int (ovF w (resF g (rd 2) (rd 3) (rd 4) (rd 5) (rd 6)) o1), .int q])), (v, .inl (U.2.2.1 0, 6, .inl (putF g (rd 1) (wrapF w (resF g (rd 2) (rd 3) (rd 4) (rd 5) (rd 6))))))] [2] [0, 1, 3, 4] [0, 1, 4, 2, 3] (wr := [(a, .inr (2, [.ref t, .ref r, .int (nI n), .int (wrapF w (resF g (rd 2) (rd 3) (rd 4) (rd 5) (rd 6))), .int (ofF o1 (ovF w (resF g (rd 2) (rd 3) (rd 4) (rd 5) (rd 6)) o1) ov1 num)])), (t, .inl (U.2.2.1 1, 60, .inl tx)), (b, .inr (3, [.ref v, .ref m, .int w, .int (ovF w (resF g (rd 2) (rd 3) (rd 4) (rd 5) (rd 6)) o1), .int q])), (v, .inl (U.2.2.1 0, 6, .inl (putF g (rd 1) (wrapF w (resF g (rd 2) (rd 3) (rd 4) (rd 5) (rd 6))))))]) rfl rfl rfl rfl (by decide) rfl rfl  dX2_runOn_73 ⟨Nat.le_of_ble_eq_true rfl, Nat.le_of_ble_eq_true rfl⟩ [] rfl ?_
            refine J_iinc C (v := nI (i + 1)) [some (.ref a), some (.ref b), some (.int (num + 1)), some (.int (nI (i + 1)))] dX2_runOn_76 rfl (nI_o1 i) (hN 3 (by decide)) rfl ?_
            refine J_goto C 16 dX2_runOn_79 (by decide) ?_
            exact ih_16 (i + 1) rdS (putF g (rd 1) (wrapF w (rsF g rd))) (ovF w (rsF g rd) o1) (wrapF w (rsF g rd)) (ofF o1 (ovF w (rsF g rd) o1) ov1 num) (num + 1) (by omega) (by omega) (by rw [← heq, show n + 1 - i = (n + 1 - (i + 1)) + 1 by omega, runF]; rw [if_neg (fun hh => hh.2 c_40_3)])
          · refine J_aload_n C dX2_runOn_43 rfl rfl ?_
            refine J_get C 0 1 rfl rfl i_X2_runOn_X2 (by decide) k_X2_runOn_18 rfl rfl dX2_runOn_44 ?_
            refine J_aload_n C dX2_runOn_47 rfl rfl ?_
            refine J_get C 0 0 rfl rfl i_X2_runOn_X2 (by decide) k_X2_runOn_9 rfl rfl dX2_runOn_48 ?_
            refine J_iload_n C dX2_runOn_51 rfl rfl ?_
            refine J_cald C 1 rfl (vp_in_nI (by omega) (by decide)) (congrArg tx (nI_clamp (by omega))) dX2_runOn_52 ?_
            refine J_callV C (c_X4_take U r (rd 0) (rd 1) (rd 2) (rd 3) (rd 4) (rd 5) (rd 6) (tx i) (htx _)) gX2_runOn_X4_take (n := 1) rfl rfl rfl (by decide +kernel) ⟨Nat.le_of_ble_eq_true rfl, Nat.le_of_ble_eq_true rfl⟩ 2 rfl rfl rfl (rest := []) rfl (Nat.le_of_ble_eq_true rfl) [(a, .inr (2, [.ref t, .ref r, .int (nI n), .int rs1, .int ov1])), (t, .inl (U.2.2.1 1, 60, .inl tx)), (r, .inr (4, [.int (if saF (rd 0) (rd 5) (rd 6) (tx i) = -1 then (rd 0) else saF (rd 0) (rd 5) (rd 6) (tx i)), .int (if saF (rd 0) (rd 5) (rd 6) (tx i) = -1 then (rd 1) else ntT (rd 0) (rd 1) (tx i)), .int (if saF (rd 0) (rd 5) (rd 6) (tx i) = -1 then (rd 2) else ntF (rd 0) (rd 2) (tx i)), .int (if saF (rd 0) (rd 5) (rd 6) (tx i) = -1 then (rd 3) else ntO (rd 0) (rd 3) (tx i)), .int (if saF (rd 0) (rd 5) (rd 6) (tx i) = -1 then (rd 4) else ntS (rd 0) (rd 4) (tx i)), .int (if saF (rd 0) (rd 5) (rd 6) (tx i) = -1 then (rd 5) else ntN (rd 0) (rd 5) (tx i)), .int (if saF (rd 0) (rd 5) (rd 6) (tx i) = -1 then (rd 6) else ntU (rd 0) (rd 6) (tx i))])), (b, .inr (3, [.ref v, .ref m, .int w, .int o1, .int q])), (v, .inl (U.2.2.1 0, 6, .inl g))] [2] [0, 1, 3, 4] [0, 1, 4, 2, 3] (wr := [(a, .inr (2, [.ref t, .ref r, .int (nI n), .int rs1, .int ov1])), (t, .inl (U.2.2.1 1, 60, .inl tx)), (b, .inr (3, [.ref v, .ref m, .int w, .int o1, .int q])), (v, .inl (U.2.2.1 0, 6, .inl g))]) rfl rfl rfl rfl (by decide) rfl rfl  dX2_runOn_53 ⟨Nat.le_of_ble_eq_true rfl, Nat.le_of_ble_eq_true rfl⟩ [.int (b2i (¬ saF (rd 0) (rd 5) (rd 6) (tx i) = -1))] rfl ?_
            refine J_pop C dX2_runOn_56 rfl ?_
            refine J_goto C 76 dX2_runOn_57 (by decide) ?_
            refine J_iinc C (v := nI (i + 1)) [some (.ref a), some (.ref b), some (.int num), some (.int (nI (i + 1)))] dX2_runOn_76 rfl (nI_o1 i) (hN 3 (by decide)) rfl ?_
            refine J_goto C 16 dX2_runOn_79 (by decide) ?_
            exact ih_16 (i + 1) (rdT rd (tx i)) g o1 rs1 ov1 num (by omega) (by omega) (by rw [← heq, show n + 1 - i = (n + 1 - (i + 1)) + 1 by omega, runF]; rw [if_pos ⟨hlt, c_40_3⟩])
  exact loop_16 (n + 2) 0 rdS f o rs (-1) 0 (by omega) (by omega) rfl
