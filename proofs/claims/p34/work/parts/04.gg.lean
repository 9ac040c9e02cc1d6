theorem k_X5_productByRows_10 : Cond.fieldLink RX5 10 "BoothOtters" "now" "LBoothOtters$State;" ∈ wsX5_productByRows := List.mem_of_getElem? (i := 1) rfl
theorem i_X5_productByRows_X5 : ∀ w ∈ wsX50, w ∈ wsX5_productByRows := fun _ h => List.mem_cons_of_mem _ (List.mem_append_left _ (List.mem_append_left _ (List.mem_append_left _ (List.mem_append_left _ (List.mem_append_right _ h)))))
theorem k_X5_productByRows_47 : Cond.fieldLink RX5 47 "BoothOtters$State" "width" "I" ∈ wsX5_productByRows := List.mem_of_getElem? (i := 2) rfl
theorem i_X5_productByRows_X3 : ∀ w ∈ wsX30, w ∈ wsX5_productByRows := fun _ h => List.mem_cons_of_mem _ (List.mem_append_left _ (List.mem_append_left _ (List.mem_append_left _ (List.mem_append_right _ h))))
set_option maxHeartbeats 4000000 in
set_option maxRecDepth 100000 in
theorem c_X5_productByRows_ok1 (U : jU) (b a h sa pa ta : Nat) (tk : Int32) (v m : Nat) (f : Nat → Int32) (w o t : Int32) (p0 p1 p2 : Int32) (N : Nat) (v_1 : isReg p0) (v_2 : isReg p1) (v_3 : isRec p2) (v_4 : p2 = 1) (v_5 : rem2 w = 0) (hN9 : dcntF p2 w = nI N) (hn9 : N < 100) : Fn U yX5_productByRows wsX5_productByRows { frames := 7, cells := 0, slots := 0, locals := 111 } [.ref b, .int p0, .int p1, .int p2] [(b, .inr (5, [.ref a, .ref h, .ref sa, .int tk, .ref pa, .ref ta])), (a, .inr (3, [.ref v, .ref m, .int w, .int o, .int t])), (v, .inl (U.2.2.1 0, 6, .inl f))] (some (.int (prF (valF f p0) (valF f p1) p2 N))) [(b, .inr (5, [.ref a, .ref h, .ref sa, .int tk, .ref pa, .ref ta])), (a, .inr (3, [.ref v, .ref m, .int w, .int o, .int t])), (v, .inl (U.2.2.1 0, 6, .inl f))] 0 0 := by
  refine Fn_of (cc := cX5_productByRows) (maxL := 7) (ret := (some .int)) [some (.ref b), some (.int p0), some (.int p1), some (.int p2), none, none, none] (by decide +kernel) rfl (jcat rfl) (Nat.le_of_ble_eq_true rfl) rfl (fun k C R hin hnL => ?_)
  have hN : ∀ i, i < 7 → i < k.2.2.2.2.2.2.2.2.2.2.2.1 := fun i h => by rw [hnL]; exact h
  refine J_iload_n C dX5_productByRows_0 rfl rfl ?_
  refine J_callS C (c_X5_checkRegister_ok U p0 v_1) gX5_productByRows_X5_checkRegister (n := 1) rfl rfl rfl (by decide +kernel) ⟨Nat.le_of_ble_eq_true rfl, Nat.le_of_ble_eq_true rfl⟩ rfl (rest := []) rfl (Nat.le_of_ble_eq_true rfl) [(b, .inr (5, [.ref a, .ref h, .ref sa, .int tk, .ref pa, .ref ta])), (a, .inr (3, [.ref v, .ref m, .int w, .int o, .int t])), (v, .inl (U.2.2.1 0, 6, .inl f))] [] [0, 1, 2] [0, 1, 2] (wr := [(b, .inr (5, [.ref a, .ref h, .ref sa, .int tk, .ref pa, .ref ta])), (a, .inr (3, [.ref v, .ref m, .int w, .int o, .int t])), (v, .inl (U.2.2.1 0, 6, .inl f))]) rfl rfl rfl rfl (by decide) rfl rfl  dX5_productByRows_1 ⟨Nat.le_of_ble_eq_true rfl, Nat.le_of_ble_eq_true rfl⟩ [] rfl ?_
  refine J_iload_n C dX5_productByRows_4 rfl rfl ?_
  refine J_callS C (c_X5_checkRegister_ok U p1 v_2) gX5_productByRows_X5_checkRegister (n := 1) rfl rfl rfl (by decide +kernel) ⟨Nat.le_of_ble_eq_true rfl, Nat.le_of_ble_eq_true rfl⟩ rfl (rest := []) rfl (Nat.le_of_ble_eq_true rfl) [(b, .inr (5, [.ref a, .ref h, .ref sa, .int tk, .ref pa, .ref ta])), (a, .inr (3, [.ref v, .ref m, .int w, .int o, .int t])), (v, .inl (U.2.2.1 0, 6, .inl f))] [] [0, 1, 2] [0, 1, 2] (wr := [(b, .inr (5, [.ref a, .ref h, .ref sa, .int tk, .ref pa, .ref ta])), (a, .inr (3, [.ref v, .ref m, .int w, .int o, .int t])), (v, .inl (U.2.2.1 0, 6, .inl f))]) rfl rfl rfl rfl (by decide) rfl rfl  dX5_productByRows_5 ⟨Nat.le_of_ble_eq_true rfl, Nat.le_of_ble_eq_true rfl⟩ [] rfl ?_
  refine J_iload_n C dX5_productByRows_8 rfl rfl ?_
  refine J_callS C (c_X5_checkRecoding_ok U p2 v_3) gX5_productByRows_X5_checkRecoding (n := 1) rfl rfl rfl (by decide +kernel) ⟨Nat.le_of_ble_eq_true rfl, Nat.le_of_ble_eq_true rfl⟩ rfl (rest := []) rfl (Nat.le_of_ble_eq_true rfl) [(b, .inr (5, [.ref a, .ref h, .ref sa, .int tk, .ref pa, .ref ta])), (a, .inr (3, [.ref v, .ref m, .int w, .int o, .int t])), (v, .inl (U.2.2.1 0, 6, .inl f))] [] [0, 1, 2] [0, 1, 2] (wr := [(b, .inr (5, [.ref a, .ref h, .ref sa, .int tk, .ref pa, .ref ta])), (a, .inr (3, [.ref v, .ref m, .int w, .int o, .int t])), (v, .inl (U.2.2.1 0, 6, .inl f))]) rfl rfl rfl rfl (by decide) rfl rfl  dX5_productByRows_9 ⟨Nat.le_of_ble_eq_true rfl, Nat.le_of_ble_eq_true rfl⟩ [] rfl ?_
  refine J_aload_n C dX5_productByRows_12 rfl rfl ?_
  refine J_iload_n C dX5_productByRows_13 rfl rfl ?_
  refine J_callV C (c_X5_checkRecodingSuitsWidth_ok1 U b a h sa pa ta tk v m w o t p2 v_4 v_5) gX5_productByRows_X5_checkRecodingSuitsWidth (n := 1) rfl rfl rfl (by decide +kernel) ⟨Nat.le_of_ble_eq_true rfl, Nat.le_of_ble_eq_true rfl⟩ 0 rfl rfl rfl (rest := []) rfl (Nat.le_of_ble_eq_true rfl) [(b, .inr (5, [.ref a, .ref h, .ref sa, .int tk, .ref pa, .ref ta])), (a, .inr (3, [.ref v, .ref m, .int w, .int o, .int t])), (v, .inl (U.2.2.1 0, 6, .inl f))] [0, 1] [2] [1, 2, 0] (wr := [(v, .inl (U.2.2.1 0, 6, .inl f))]) rfl rfl rfl rfl (by decide) rfl rfl  dX5_productByRows_14 ⟨Nat.le_of_ble_eq_true rfl, Nat.le_of_ble_eq_true rfl⟩ [] rfl ?_
  refine J_iconst C (v := (0 : Int32)) dX5_productByRows_17 (by decide) ?_
  refine J_istore C [some (.ref b), some (.int p0), some (.int p1), some (.int p2), some (.int (0 : Int32)), none, none] dX5_productByRows_18 (hN 4 (by decide)) rfl rfl ?_
  refine J_iconst C (v := (0 : Int32)) dX5_productByRows_20 (by decide) ?_
  refine J_istore C [some (.ref b), some (.int p0), some (.int p1), some (.int p2), some (.int (0 : Int32)), some (.int (0 : Int32)), none] dX5_productByRows_21 (hN 5 (by decide)) rfl rfl ?_
  have loop_23 : ∀ (n_f : Nat) (i : Nat) (x : Int32), N < i + n_f → i ≤ N → x = prF (valF f p0) (valF f p1) p2 i → J U k 0 0 [(b, .inr (5, [.ref a, .ref h, .ref sa, .int tk, .ref pa, .ref ta])), (a, .inr (3, [.ref v, .ref m, .int w, .int o, .int t])), (v, .inl (U.2.2.1 0, 6, .inl f))] [some (.ref b), some (.int p0), some (.int p1), some (.int p2), some (.int x), some (.int (nI i)), none] 23 [] := by
    intro n_f
    induction n_f with
    | zero =>
      intro i x hfuel hin hx
      exact absurd hfuel (by omega)
    | succ n_f ih_23 =>
      intro i x hfuel hin hx
      refine J_iload C dX5_productByRows_23 rfl ?_
      refine J_iload_n C dX5_productByRows_25 rfl rfl ?_
      refine J_aload_n C dX5_productByRows_26 rfl rfl ?_
      refine J_get C 0 0 rfl rfl i_X5_productByRows_X5 (by decide) k_X5_productByRows_10 rfl rfl dX5_productByRows_27 ?_
      refine J_get C 1 2 rfl rfl i_X5_productByRows_X3 (by decide) k_X5_productByRows_47 rfl rfl dX5_productByRows_30 ?_
      refine J_callS C (c_X5_digitCount U p2 w ) gX5_productByRows_X5_digitCount (n := 2) rfl rfl rfl (by decide +kernel) ⟨Nat.le_of_ble_eq_true rfl, Nat.le_of_ble_eq_true rfl⟩ rfl (rest := [.int (nI i)]) rfl (Nat.le_of_ble_eq_true rfl) [(b, .inr (5, [.ref a, .ref h, .ref sa, .int tk, .ref pa, .ref ta])), (a, .inr (3, [.ref v, .ref m, .int w, .int o, .int t])), (v, .inl (U.2.2.1 0, 6, .inl f))] [] [0, 1, 2] [0, 1, 2] (wr := [(b, .inr (5, [.ref a, .ref h, .ref sa, .int tk, .ref pa, .ref ta])), (a, .inr (3, [.ref v, .ref m, .int w, .int o, .int t])), (v, .inl (U.2.2.1 0, 6, .inl f))]) rfl rfl rfl rfl (by decide) rfl rfl  dX5_productByRows_33 ⟨Nat.le_of_ble_eq_true rfl, Nat.le_of_ble_eq_true rfl⟩ [.int (dcntF p2 w), .int (nI i)] rfl ?_
      refine J_icmp_ge C 85 dX5_productByRows_36 (by decide) (fun c_36_1 => ?_) (fun c_36_1 => ?_)
      · refine J_iload C dX5_productByRows_85 rfl ?_
        exact J_iret C R dX5_productByRows_87 (Nat.le_of_ble_eq_true rfl) (Nat.le_of_ble_eq_true rfl) (by have h9 := c_36_1; rw [hN9] at h9; have hi9 : i = N := (by have := nI_geN (by omega) (by omega) h9; omega); subst hi9; rw [hx]) rfl
      · have hlt : i < N := by have := c_36_1; rw [hN9] at this; exact nI_ngeN (by omega) (by omega) this
        refine J_aload_n C dX5_productByRows_39 rfl rfl ?_
        refine J_get C 0 0 rfl rfl i_X5_productByRows_X5 (by decide) k_X5_productByRows_10 rfl rfl dX5_productByRows_40 ?_
        refine J_iload_n C dX5_productByRows_43 rfl rfl ?_
        refine J_callV C (c_X3_valueIn U a v m f w o t p1 ) gX5_productByRows_X3_valueIn (n := 1) rfl rfl rfl (by decide +kernel) ⟨Nat.le_of_ble_eq_true rfl, Nat.le_of_ble_eq_true rfl⟩ 1 rfl rfl rfl (rest := []) rfl (Nat.le_of_ble_eq_true rfl) [(b, .inr (5, [.ref a, .ref h, .ref sa, .int tk, .ref pa, .ref ta])), (a, .inr (3, [.ref v, .ref m, .int w, .int o, .int t])), (v, .inl (U.2.2.1 0, 6, .inl f))] [1, 2] [0] [0, 1, 2] (wr := [(b, .inr (5, [.ref a, .ref h, .ref sa, .int tk, .ref pa, .ref ta]))]) rfl rfl rfl rfl (by decide) rfl rfl  dX5_productByRows_44 ⟨Nat.le_of_ble_eq_true rfl, Nat.le_of_ble_eq_true rfl⟩ [.int (valF f p1)] rfl ?_
        refine J_iload_n C dX5_productByRows_47 rfl rfl ?_
        refine J_iload C dX5_productByRows_48 rfl ?_
        refine J_callS C (c_X5_digit U (valF f p1) p2 (nI i) ) gX5_productByRows_X5_digit (n := 3) rfl rfl rfl (by decide +kernel) ⟨Nat.le_of_ble_eq_true rfl, Nat.le_of_ble_eq_true rfl⟩ rfl (rest := []) rfl (Nat.le_of_ble_eq_true rfl) [(b, .inr (5, [.ref a, .ref h, .ref sa, .int tk, .ref pa, .ref ta])), (a, .inr (3, [.ref v, .ref m, .int w, .int o, .int t])), (v, .inl (U.2.2.1 0, 6, .inl f))] [] [0, 1, 2] [0, 1, 2] (wr := [(b, .inr (5, [.ref a, .ref h, .ref sa, .int tk, .ref pa, .ref ta])), (a, .inr (3, [.ref v, .ref m, .int w, .int o, .int t])), (v, .inl (U.2.2.1 0, 6, .inl f))]) rfl rfl rfl rfl (by decide) rfl rfl  dX5_productByRows_50 ⟨Nat.le_of_ble_eq_true rfl, Nat.le_of_ble_eq_true rfl⟩ [.int (digF (valF f p1) p2 (nI i))] rfl ?_
        refine J_aload_n C dX5_productByRows_53 rfl rfl ?_
        refine J_get C 0 0 rfl rfl i_X5_productByRows_X5 (by decide) k_X5_productByRows_10 rfl rfl dX5_productByRows_54 ?_
        refine J_iload_n C dX5_productByRows_57 rfl rfl ?_
        refine J_callV C (c_X3_valueIn U a v m f w o t p0 ) gX5_productByRows_X3_valueIn (n := 1) rfl rfl rfl (by decide +kernel) ⟨Nat.le_of_ble_eq_true rfl, Nat.le_of_ble_eq_true rfl⟩ 1 rfl rfl rfl (rest := [.int (digF (valF f p1) p2 (nI i))]) rfl (Nat.le_of_ble_eq_true rfl) [(b, .inr (5, [.ref a, .ref h, .ref sa, .int tk, .ref pa, .ref ta])), (a, .inr (3, [.ref v, .ref m, .int w, .int o, .int t])), (v, .inl (U.2.2.1 0, 6, .inl f))] [1, 2] [0] [0, 1, 2] (wr := [(b, .inr (5, [.ref a, .ref h, .ref sa, .int tk, .ref pa, .ref ta]))]) rfl rfl rfl rfl (by decide) rfl rfl  dX5_productByRows_58 ⟨Nat.le_of_ble_eq_true rfl, Nat.le_of_ble_eq_true rfl⟩ [.int (valF f p0), .int (digF (valF f p1) p2 (nI i))] rfl ?_
        refine J_imul C (v := (digF (valF f p1) p2 (nI i)) * (valF f p0)) dX5_productByRows_61 rfl ?_
        refine J_istore C [some (.ref b), some (.int p0), some (.int p1), some (.int p2), some (.int x), some (.int (nI i)), some (.int ((digF (valF f p1) p2 (nI i)) * (valF f p0)))] dX5_productByRows_62 (hN 6 (by decide)) rfl rfl ?_
        refine J_iload C dX5_productByRows_64 rfl ?_
        refine J_iload C dX5_productByRows_66 rfl ?_
        refine J_iload C dX5_productByRows_68 rfl ?_
        refine J_iload_n C dX5_productByRows_70 rfl rfl ?_
        refine J_callS C (c_X5_bitsPerDigit U p2 ) gX5_productByRows_X5_bitsPerDigit (n := 1) rfl rfl rfl (by decide +kernel) ⟨Nat.le_of_ble_eq_true rfl, Nat.le_of_ble_eq_true rfl⟩ rfl (rest := [.int (nI i), .int ((digF (valF f p1) p2 (nI i)) * (valF f p0)), .int x]) rfl (Nat.le_of_ble_eq_true rfl) [(b, .inr (5, [.ref a, .ref h, .ref sa, .int tk, .ref pa, .ref ta])), (a, .inr (3, [.ref v, .ref m, .int w, .int o, .int t])), (v, .inl (U.2.2.1 0, 6, .inl f))] [] [0, 1, 2] [0, 1, 2] (wr := [(b, .inr (5, [.ref a, .ref h, .ref sa, .int tk, .ref pa, .ref ta])), (a, .inr (3, [.ref v, .ref m, .int w, .int o, .int t])), (v, .inl (U.2.2.1 0, 6, .inl f))]) rfl rfl rfl rfl (by decide) rfl rfl  dX5_productByRows_71 ⟨Nat.le_of_ble_eq_true rfl, Nat.le_of_ble_eq_true rfl⟩ [.int (bpdF p2), .int (nI i), .int ((digF (valF f p1) p2 (nI i)) * (valF f p0)), .int x] rfl ?_
        refine J_imul C (v := (nI i) * (bpdF p2)) dX5_productByRows_74 rfl ?_
        refine J_ishl C (v := ((digF (valF f p1) p2 (nI i)) * (valF f p0)) <<< (((nI i) * (bpdF p2)) &&& 31)) dX5_productByRows_75 rfl ?_
        refine J_iadd C (v := x + (((digF (valF f p1) p2 (nI i)) * (valF f p0)) <<< (((nI i) * (bpdF p2)) &&& 31))) dX5_productByRows_76 rfl ?_
        refine J_istore C [some (.ref b), some (.int p0), some (.int p1), some (.int p2), some (.int (x + (((digF (valF f p1) p2 (nI i)) * (valF f p0)) <<< (((nI i) * (bpdF p2)) &&& 31)))), some (.int (nI i)), some (.int ((digF (valF f p1) p2 (nI i)) * (valF f p0)))] dX5_productByRows_77 (hN 4 (by decide)) rfl rfl ?_
        refine J_iinc C (v := nI (i + 1)) [some (.ref b), some (.int p0), some (.int p1), some (.int p2), some (.int (x + (((digF (valF f p1) p2 (nI i)) * (valF f p0)) <<< (((nI i) * (bpdF p2)) &&& 31)))), some (.int (nI (i + 1))), some (.int ((digF (valF f p1) p2 (nI i)) * (valF f p0)))] dX5_productByRows_79 rfl (nI_o1 i) (hN 5 (by decide)) rfl rfl ?_
        refine J_goto C 23 dX5_productByRows_82 (by decide) ?_
        refine J_weakL [some (.ref b), some (.int p0), some (.int p1), some (.int p2), some (.int (x + (((digF (valF f p1) p2 (nI i)) * (valF f p0)) <<< (((nI i) * (bpdF p2)) &&& 31)))), some (.int (nI (i + 1))), none] ⟨rfl, rfl, rfl, rfl, rfl, rfl, trivial⟩ ?_
        exact ih_23 (i + 1) (x + (((digF (valF f p1) p2 (nI i)) * (valF f p0)) <<< (((nI i) * (bpdF p2)) &&& 31))) (by omega) (by omega) (by rw [prF, hx])
  exact loop_23 (N + 1) 0 0 (by omega) (by omega) rfl
set_option maxHeartbeats 4000000 in
set_option maxRecDepth 100000 in
theorem c_X5_productByRows_ok2 (U : jU) (b a h sa pa ta : Nat) (tk : Int32) (v m : Nat) (f : Nat → Int32) (w o t : Int32) (p0 p1 p2 : Int32) (N : Nat) (v_1 : isReg p0) (v_2 : isReg p1) (v_3 : isRec p2) (v_4 : ¬ p2 = 1) (hN9 : dcntF p2 w = nI N) (hn9 : N < 100) : Fn U yX5_productByRows wsX5_productByRows { frames := 7, cells := 0, slots := 0, locals := 111 } [.ref b, .int p0, .int p1, .int p2] [(b, .inr (5, [.ref a, .ref h, .ref sa, .int tk, .ref pa, .ref ta])), (a, .inr (3, [.ref v, .ref m, .int w, .int o, .int t])), (v, .inl (U.2.2.1 0, 6, .inl f))] (some (.int (prF (valF f p0) (valF f p1) p2 N))) [(b, .inr (5, [.ref a, .ref h, .ref sa, .int tk, .ref pa, .ref ta])), (a, .inr (3, [.ref v, .ref m, .int w, .int o, .int t])), (v, .inl (U.2.2.1 0, 6, .inl f))] 0 0 := by
  refine Fn_of (cc := cX5_productByRows) (maxL := 7) (ret := (some .int)) [some (.ref b), some (.int p0), some (.int p1), some (.int p2), none, none, none] (by decide +kernel) rfl (jcat rfl) (Nat.le_of_ble_eq_true rfl) rfl (fun k C R hin hnL => ?_)
  have hN : ∀ i, i < 7 → i < k.2.2.2.2.2.2.2.2.2.2.2.1 := fun i h => by rw [hnL]; exact h
  refine J_iload_n C dX5_productByRows_0 rfl rfl ?_
  refine J_callS C (c_X5_checkRegister_ok U p0 v_1) gX5_productByRows_X5_checkRegister (n := 1) rfl rfl rfl (by decide +kernel) ⟨Nat.le_of_ble_eq_true rfl, Nat.le_of_ble_eq_true rfl⟩ rfl (rest := []) rfl (Nat.le_of_ble_eq_true rfl) [(b, .inr (5, [.ref a, .ref h, .ref sa, .int tk, .ref pa, .ref ta])), (a, .inr (3, [.ref v, .ref m, .int w, .int o, .int t])), (v, .inl (U.2.2.1 0, 6, .inl f))] [] [0, 1, 2] [0, 1, 2] (wr := [(b, .inr (5, [.ref a, .ref h, .ref sa, .int tk, .ref pa, .ref ta])), (a, .inr (3, [.ref v, .ref m, .int w, .int o, .int t])), (v, .inl (U.2.2.1 0, 6, .inl f))]) rfl rfl rfl rfl (by decide) rfl rfl  dX5_productByRows_1 ⟨Nat.le_of_ble_eq_true rfl, Nat.le_of_ble_eq_true rfl⟩ [] rfl ?_
  refine J_iload_n C dX5_productByRows_4 rfl rfl ?_
  refine J_callS C (c_X5_checkRegister_ok U p1 v_2) gX5_productByRows_X5_checkRegister (n := 1) rfl rfl rfl (by decide +kernel) ⟨Nat.le_of_ble_eq_true rfl, Nat.le_of_ble_eq_true rfl⟩ rfl (rest := []) rfl (Nat.le_of_ble_eq_true rfl) [(b, .inr (5, [.ref a, .ref h, .ref sa, .int tk, .ref pa, .ref ta])), (a, .inr (3, [.ref v, .ref m, .int w, .int o, .int t])), (v, .inl (U.2.2.1 0, 6, .inl f))] [] [0, 1, 2] [0, 1, 2] (wr := [(b, .inr (5, [.ref a, .ref h, .ref sa, .int tk, .ref pa, .ref ta])), (a, .inr (3, [.ref v, .ref m, .int w, .int o, .int t])), (v, .inl (U.2.2.1 0, 6, .inl f))]) rfl rfl rfl rfl (by decide) rfl rfl  dX5_productByRows_5 ⟨Nat.le_of_ble_eq_true rfl, Nat.le_of_ble_eq_true rfl⟩ [] rfl ?_
  refine J_iload_n C dX5_productByRows_8 rfl rfl ?_
  refine J_callS C (c_X5_checkRecoding_ok U p2 v_3) gX5_productByRows_X5_checkRecoding (n := 1) rfl rfl rfl (by decide +kernel) ⟨Nat.le_of_ble_eq_true rfl, Nat.le_of_ble_eq_true rfl⟩ rfl (rest := []) rfl (Nat.le_of_ble_eq_true rfl) [(b, .inr (5, [.ref a, .ref h, .ref sa, .int tk, .ref pa, .ref ta])), (a, .inr (3, [.ref v, .ref m, .int w, .int o, .int t])), (v, .inl (U.2.2.1 0, 6, .inl f))] [] [0, 1, 2] [0, 1, 2] (wr := [(b, .inr (5, [.ref a, .ref h, .ref sa, .int tk, .ref pa, .ref ta])), (a, .inr (3, [.ref v, .ref m, .int w, .int o, .int t])), (v, .inl (U.2.2.1 0, 6, .inl f))]) rfl rfl rfl rfl (by decide) rfl rfl  dX5_productByRows_9 ⟨Nat.le_of_ble_eq_true rfl, Nat.le_of_ble_eq_true rfl⟩ [] rfl ?_
  refine J_aload_n C dX5_productByRows_12 rfl rfl ?_
  refine J_iload_n C dX5_productByRows_13 rfl rfl ?_
  refine J_callV C (c_X5_checkRecodingSuitsWidth_ok2 U b a h sa pa ta tk v m w o t p2 v_4) gX5_productByRows_X5_checkRecodingSuitsWidth (n := 1) rfl rfl rfl (by decide +kernel) ⟨Nat.le_of_ble_eq_true rfl, Nat.le_of_ble_eq_true rfl⟩ 0 rfl rfl rfl (rest := []) rfl (Nat.le_of_ble_eq_true rfl) [(b, .inr (5, [.ref a, .ref h, .ref sa, .int tk, .ref pa, .ref ta])), (a, .inr (3, [.ref v, .ref m, .int w, .int o, .int t])), (v, .inl (U.2.2.1 0, 6, .inl f))] [0, 1] [2] [1, 2, 0] (wr := [(v, .inl (U.2.2.1 0, 6, .inl f))]) rfl rfl rfl rfl (by decide) rfl rfl  dX5_productByRows_14 ⟨Nat.le_of_ble_eq_true rfl, Nat.le_of_ble_eq_true rfl⟩ [] rfl ?_
  refine J_iconst C (v := (0 : Int32)) dX5_productByRows_17 (by decide) ?_
  refine J_istore C [some (.ref b), some (.int p0), some (.int p1), some (.int p2), some (.int (0 : Int32)), none, none] dX5_productByRows_18 (hN 4 (by decide)) rfl rfl ?_
  refine J_iconst C (v := (0 : Int32)) dX5_productByRows_20 (by decide) ?_
  refine J_istore C [some (.ref b), some (.int p0), some (.int p1), some (.int p2), some (.int (0 : Int32)), some (.int (0 : Int32)), none] dX5_productByRows_21 (hN 5 (by decide)) rfl rfl ?_
  have loop_23 : ∀ (n_f : Nat) (i : Nat) (x : Int32), N < i + n_f → i ≤ N → x = prF (valF f p0) (valF f p1) p2 i → J U k 0 0 [(b, .inr (5, [.ref a, .ref h, .ref sa, .int tk, .ref pa, .ref ta])), (a, .inr (3, [.ref v, .ref m, .int w, .int o, .int t])), (v, .inl (U.2.2.1 0, 6, .inl f))] [some (.ref b), some (.int p0), some (.int p1), some (.int p2), some (.int x), some (.int (nI i)), none] 23 [] := by
    intro n_f
    induction n_f with
    | zero =>
      intro i x hfuel hin hx
      exact absurd hfuel (by omega)
    | succ n_f ih_23 =>
      intro i x hfuel hin hx
      refine J_iload C dX5_productByRows_23 rfl ?_
      refine J_iload_n C dX5_productByRows_25 rfl rfl ?_
      refine J_aload_n C dX5_productByRows_26 rfl rfl ?_
      refine J_get C 0 0 rfl rfl i_X5_productByRows_X5 (by decide) k_X5_productByRows_10 rfl rfl dX5_productByRows_27 ?_
      refine J_get C 1 2 rfl rfl i_X5_productByRows_X3 (by decide) k_X5_productByRows_47 rfl rfl dX5_productByRows_30 ?_
      refine J_callS C (c_X5_digitCount U p2 w ) gX5_productByRows_X5_digitCount (n := 2) rfl rfl rfl (by decide +kernel) ⟨Nat.le_of_ble_eq_true rfl, Nat.le_of_ble_eq_true rfl⟩ rfl (rest := [.int (nI i)]) rfl (Nat.le_of_ble_eq_true rfl) [(b, .inr (5, [.ref a, .ref h, .ref sa, .int tk, .ref pa, .ref ta])), (a, .inr (3, [.ref v, .ref m, .int w, .int o, .int t])), (v, .inl (U.2.2.1 0, 6, .inl f))] [] [0, 1, 2] [0, 1, 2] (wr := [(b, .inr (5, [.ref a, .ref h, .ref sa, .int tk, .ref pa, .ref ta])), (a, .inr (3, [.ref v, .ref m, .int w, .int o, .int t])), (v, .inl (U.2.2.1 0, 6, .inl f))]) rfl rfl rfl rfl (by decide) rfl rfl  dX5_productByRows_33 ⟨Nat.le_of_ble_eq_true rfl, Nat.le_of_ble_eq_true rfl⟩ [.int (dcntF p2 w), .int (nI i)] rfl ?_
      refine J_icmp_ge C 85 dX5_productByRows_36 (by decide) (fun c_36_1 => ?_) (fun c_36_1 => ?_)
      · refine J_iload C dX5_productByRows_85 rfl ?_
        exact J_iret C R dX5_productByRows_87 (Nat.le_of_ble_eq_true rfl) (Nat.le_of_ble_eq_true rfl) (by have h9 := c_36_1; rw [hN9] at h9; have hi9 : i = N := (by have := nI_geN (by omega) (by omega) h9; omega); subst hi9; rw [hx]) rfl
      · have hlt : i < N := by have := c_36_1; rw [hN9] at this; exact nI_ngeN (by omega) (by omega) this
        refine J_aload_n C dX5_productByRows_39 rfl rfl ?_
        refine J_get C 0 0 rfl rfl i_X5_productByRows_X5 (by decide) k_X5_productByRows_10 rfl rfl dX5_productByRows_40 ?_
        refine J_iload_n C dX5_productByRows_43 rfl rfl ?_
        refine J_callV C (c_X3_valueIn U a v m f w o t p1 ) gX5_productByRows_X3_valueIn (n := 1) rfl rfl rfl (by decide +kernel) ⟨Nat.le_of_ble_eq_true rfl, Nat.le_of_ble_eq_true rfl⟩ 1 rfl rfl rfl (rest := []) rfl (Nat.le_of_ble_eq_true rfl) [(b, .inr (5, [.ref a, .ref h, .ref sa, .int tk, .ref pa, .ref ta])), (a, .inr (3, [.ref v, .ref m, .int w, .int o, .int t])), (v, .inl (U.2.2.1 0, 6, .inl f))] [1, 2] [0] [0, 1, 2] (wr := [(b, .inr (5, [.ref a, .ref h, .ref sa, .int tk, .ref pa, .ref ta]))]) rfl rfl rfl rfl (by decide) rfl rfl  dX5_productByRows_44 ⟨Nat.le_of_ble_eq_true rfl, Nat.le_of_ble_eq_true rfl⟩ [.int (valF f p1)] rfl ?_
        refine J_iload_n C dX5_productByRows_47 rfl rfl ?_
        refine J_iload C dX5_productByRows_48 rfl ?_
        refine J_callS C (c_X5_digit U (valF f p1) p2 (nI i) ) gX5_productByRows_X5_digit (n := 3) rfl rfl rfl (by decide +kernel) ⟨Nat.le_of_ble_eq_true rfl, Nat.le_of_ble_eq_true rfl⟩ rfl (rest := []) rfl (Nat.le_of_ble_eq_true rfl) [(b, .inr (5, [.ref a, .ref h, .ref sa, .int tk, .ref pa, .ref ta])), (a, .inr (3, [.ref v, .ref m, .int w, .int o, .int t])), (v, .inl (U.2.2.1 0, 6, .inl f))] [] [0, 1, 2] [0, 1, 2] (wr := [(b, .inr (5, [.ref a, .ref h, .ref sa, .int tk, .ref pa, .ref ta])), (a, .inr (3, [.ref v, .ref m, .int w, .int o, .int t])), (v, .inl (U.2.2.1 0, 6, .inl f))]) rfl rfl rfl rfl (by decide) rfl rfl  dX5_productByRows_50 ⟨Nat.le_of_ble_eq_true rfl, Nat.le_of_ble_eq_true rfl⟩ [.int (digF (valF f p1) p2 (nI i))] rfl ?_
        refine J_aload_n C dX5_productByRows_53 rfl rfl ?_
        refine J_get C 0 0 rfl rfl i_X5_productByRows_X5 (by decide) k_X5_productByRows_10 rfl rfl dX5_productByRows_54 ?_
        refine J_iload_n C dX5_productByRows_57 rfl rfl ?_
        refine J_callV C (c_X3_valueIn U a v m f w o t p0 ) gX5_productByRows_X3_valueIn (n := 1) rfl rfl rfl (by decide +kernel) ⟨Nat.le_of_ble_eq_true rfl, Nat.le_of_ble_eq_true rfl⟩ 1 rfl rfl rfl (rest := [.int (digF (valF f p1) p2 (nI i))]) rfl (Nat.le_of_ble_eq_true rfl) [(b, .inr (5, [.ref a, .ref h, .ref sa, .int tk, .ref pa, .ref ta])), (a, .inr (3, [.ref v, .ref m, .int w, .int o, .int t])), (v, .inl (U.2.2.1 0, 6, .inl f))] [1, 2] [0] [0, 1, 2] (wr := [(b, .inr (5, [.ref a, .ref h, .ref sa, .int tk, .ref pa, .ref ta]))]) rfl rfl rfl rfl (by decide) rfl rfl  dX5_productByRows_58 ⟨Nat.le_of_ble_eq_true rfl, Nat.le_of_ble_eq_true rfl⟩ [.int (valF f p0), .int (digF (valF f p1) p2 (nI i))] rfl ?_
        refine J_imul C (v := (digF (valF f p1) p2 (nI i)) * (valF f p0)) dX5_productByRows_61 rfl ?_
        refine J_istore C [some (.ref b), some (.int p0), some (.int p1), some (.int p2), some (.int x), some (.int (nI i)), some (.int ((digF (valF f p1) p2 (nI i)) * (valF f p0)))] dX5_productByRows_62 (hN 6 (by decide)) rfl rfl ?_
        refine J_iload C dX5_productByRows_64 rfl ?_
        refine J_iload C dX5_productByRows_66 rfl ?_
        refine J_iload C dX5_productByRows_68 rfl ?_
        refine J_iload_n C dX5_productByRows_70 rfl rfl ?_
        refine J_callS C (c_X5_bitsPerDigit U p2 ) gX5_productByRows_X5_bitsPerDigit (n := 1) rfl rfl rfl (by decide +kernel) ⟨Nat.le_of_ble_eq_true rfl, Nat.le_of_ble_eq_true rfl⟩ rfl (rest := [.int (nI i), .int ((digF (valF f p1) p2 (nI i)) * (valF f p0)), .int x]) rfl (Nat.le_of_ble_eq_true rfl) [(b, .inr (5, [.ref a, .ref h, .ref sa, .int tk, .ref pa, .ref ta])), (a, .inr (3, [.ref v, .ref m, .int w, .int o, .int t])), (v, .inl (U.2.2.1 0, 6, .inl f))] [] [0, 1, 2] [0, 1, 2] (wr := [(b, .inr (5, [.ref a, .ref h, .ref sa, .int tk, .ref pa, .ref ta])), (a, .inr (3, [.ref v, .ref m, .int w, .int o, .int t])), (v, .inl (U.2.2.1 0, 6, .inl f))]) rfl rfl rfl rfl (by decide) rfl rfl  dX5_productByRows_71 ⟨Nat.le_of_ble_eq_true rfl, Nat.le_of_ble_eq_true rfl⟩ [.int (bpdF p2), .int (nI i), .int ((digF (valF f p1) p2 (nI i)) * (valF f p0)), .int x] rfl ?_
        refine J_imul C (v := (nI i) * (bpdF p2)) dX5_productByRows_74 rfl ?_
        refine J_ishl C (v := ((digF (valF f p1) p2 (nI i)) * (valF f p0)) <<< (((nI i) * (bpdF p2)) &&& 31)) dX5_productByRows_75 rfl ?_
        refine J_iadd C (v := x + (((digF (valF f p1) p2 (nI i)) * (valF f p0)) <<< (((nI i) * (bpdF p2)) &&& 31))) dX5_productByRows_76 rfl ?_
        refine J_istore C [some (.ref b), some (.int p0), some (.int p1), some (.int p2), some (.int (x + (((digF (valF f p1) p2 (nI i)) * (valF f p0)) <<< (((nI i) * (bpdF p2)) &&& 31)))), some (.int (nI i)), some (.int ((digF (valF f p1) p2 (nI i)) * (valF f p0)))] dX5_productByRows_77 (hN 4 (by decide)) rfl rfl ?_
        refine J_iinc C (v := nI (i + 1)) [some (.ref b), some (.int p0), some (.int p1), some (.int p2), some (.int (x + (((digF (valF f p1) p2 (nI i)) * (valF f p0)) <<< (((nI i) * (bpdF p2)) &&& 31)))), some (.int (nI (i + 1))), some (.int ((digF (valF f p1) p2 (nI i)) * (valF f p0)))] dX5_productByRows_79 rfl (nI_o1 i) (hN 5 (by decide)) rfl rfl ?_
        refine J_goto C 23 dX5_productByRows_82 (by decide) ?_
        refine J_weakL [some (.ref b), some (.int p0), some (.int p1), some (.int p2), some (.int (x + (((digF (valF f p1) p2 (nI i)) * (valF f p0)) <<< (((nI i) * (bpdF p2)) &&& 31)))), some (.int (nI (i + 1))), none] ⟨rfl, rfl, rfl, rfl, rfl, rfl, trivial⟩ ?_
        exact ih_23 (i + 1) (x + (((digF (valF f p1) p2 (nI i)) * (valF f p0)) <<< (((nI i) * (bpdF p2)) &&& 31))) (by omega) (by omega) (by rw [prF, hx])
  exact loop_23 (N + 1) 0 0 (by omega) (by omega) rfl
theorem k_X5_productByBits_10 : Cond.fieldLink RX5 10 "BoothOtters" "now" "LBoothOtters$State;" ∈ wsX5_productByBits := List.mem_of_getElem? (i := 1) rfl
theorem i_X5_productByBits_X5 : ∀ w ∈ wsX50, w ∈ wsX5_productByBits := fun _ h => List.mem_cons_of_mem _ (List.mem_append_left _ (List.mem_append_left _ (List.mem_append_right _ h)))
theorem k_X5_productByBits_47 : Cond.fieldLink RX5 47 "BoothOtters$State" "width" "I" ∈ wsX5_productByBits := List.mem_of_getElem? (i := 2) rfl
theorem i_X5_productByBits_X3 : ∀ w ∈ wsX30, w ∈ wsX5_productByBits := fun _ h => List.mem_cons_of_mem _ (List.mem_append_left _ (List.mem_append_right _ h))
set_option maxHeartbeats 4000000 in
set_option maxRecDepth 100000 in
theorem c_X5_productByBits_ok (U : jU) (b a h sa pa ta : Nat) (tk : Int32) (v m : Nat) (f : Nat → Int32) (w o t : Int32) (p0 p1 : Int32) (N : Nat) (v_1 : isReg p0) (v_2 : isReg p1) (hN9 : w - 1 = nI N) (hn9 : N < 100) : Fn U yX5_productByBits wsX5_productByBits { frames := 7, cells := 0, slots := 0, locals := 110 } [.ref b, .int p0, .int p1] [(b, .inr (5, [.ref a, .ref h, .ref sa, .int tk, .ref pa, .ref ta])), (a, .inr (3, [.ref v, .ref m, .int w, .int o, .int t])), (v, .inl (U.2.2.1 0, 6, .inl f))] (some (.int (pbF (valF f p0) (valF f p1) N - (bitF (valF f p1) (w - 1) * valF f p0) <<< ((w - 1) &&& 31)))) [(b, .inr (5, [.ref a, .ref h, .ref sa, .int tk, .ref pa, .ref ta])), (a, .inr (3, [.ref v, .ref m, .int w, .int o, .int t])), (v, .inl (U.2.2.1 0, 6, .inl f))] 0 0 := by
  refine Fn_of (cc := cX5_productByBits) (maxL := 6) (ret := (some .int)) [some (.ref b), some (.int p0), some (.int p1), none, none, none] (by decide +kernel) rfl (jcat rfl) (Nat.le_of_ble_eq_true rfl) rfl (fun k C R hin hnL => ?_)
  have hN : ∀ i, i < 6 → i < k.2.2.2.2.2.2.2.2.2.2.2.1 := fun i h => by rw [hnL]; exact h
  refine J_iload_n C dX5_productByBits_0 rfl rfl ?_
  refine J_callS C (c_X5_checkRegister_ok U p0 v_1) gX5_productByBits_X5_checkRegister (n := 1) rfl rfl rfl (by decide +kernel) ⟨Nat.le_of_ble_eq_true rfl, Nat.le_of_ble_eq_true rfl⟩ rfl (rest := []) rfl (Nat.le_of_ble_eq_true rfl) [(b, .inr (5, [.ref a, .ref h, .ref sa, .int tk, .ref pa, .ref ta])), (a, .inr (3, [.ref v, .ref m, .int w, .int o, .int t])), (v, .inl (U.2.2.1 0, 6, .inl f))] [] [0, 1, 2] [0, 1, 2] (wr := [(b, .inr (5, [.ref a, .ref h, .ref sa, .int tk, .ref pa, .ref ta])), (a, .inr (3, [.ref v, .ref m, .int w, .int o, .int t])), (v, .inl (U.2.2.1 0, 6, .inl f))]) rfl rfl rfl rfl (by decide) rfl rfl  dX5_productByBits_1 ⟨Nat.le_of_ble_eq_true rfl, Nat.le_of_ble_eq_true rfl⟩ [] rfl ?_
  refine J_iload_n C dX5_productByBits_4 rfl rfl ?_
  refine J_callS C (c_X5_checkRegister_ok U p1 v_2) gX5_productByBits_X5_checkRegister (n := 1) rfl rfl rfl (by decide +kernel) ⟨Nat.le_of_ble_eq_true rfl, Nat.le_of_ble_eq_true rfl⟩ rfl (rest := []) rfl (Nat.le_of_ble_eq_true rfl) [(b, .inr (5, [.ref a, .ref h, .ref sa, .int tk, .ref pa, .ref ta])), (a, .inr (3, [.ref v, .ref m, .int w, .int o, .int t])), (v, .inl (U.2.2.1 0, 6, .inl f))] [] [0, 1, 2] [0, 1, 2] (wr := [(b, .inr (5, [.ref a, .ref h, .ref sa, .int tk, .ref pa, .ref ta])), (a, .inr (3, [.ref v, .ref m, .int w, .int o, .int t])), (v, .inl (U.2.2.1 0, 6, .inl f))]) rfl rfl rfl rfl (by decide) rfl rfl  dX5_productByBits_5 ⟨Nat.le_of_ble_eq_true rfl, Nat.le_of_ble_eq_true rfl⟩ [] rfl ?_
  refine J_aload_n C dX5_productByBits_8 rfl rfl ?_
  refine J_get C 0 0 rfl rfl i_X5_productByBits_X5 (by decide) k_X5_productByBits_10 rfl rfl dX5_productByBits_9 ?_
  refine J_get C 1 2 rfl rfl i_X5_productByBits_X3 (by decide) k_X5_productByBits_47 rfl rfl dX5_productByBits_12 ?_
  refine J_iconst C (v := (1 : Int32)) dX5_productByBits_15 (by decide) ?_
  refine J_isub C (v := w - (1 : Int32)) dX5_productByBits_16 rfl ?_
  refine J_istore_n C [some (.ref b), some (.int p0), some (.int p1), some (.int (w - (1 : Int32))), none, none] dX5_productByBits_17 rfl (hN 3 (by decide)) rfl rfl ?_
  refine J_iconst C (v := (0 : Int32)) dX5_productByBits_18 (by decide) ?_
  refine J_istore C [some (.ref b), some (.int p0), some (.int p1), some (.int (w - (1 : Int32))), some (.int (0 : Int32)), none] dX5_productByBits_19 (hN 4 (by decide)) rfl rfl ?_
  refine J_iconst C (v := (0 : Int32)) dX5_productByBits_21 (by decide) ?_
  refine J_istore C [some (.ref b), some (.int p0), some (.int p1), some (.int (w - (1 : Int32))), some (.int (0 : Int32)), some (.int (0 : Int32))] dX5_productByBits_22 (hN 5 (by decide)) rfl rfl ?_
  have loop_24 : ∀ (n_f : Nat) (i : Nat) (x : Int32), N < i + n_f → i ≤ N → x = pbF (valF f p0) (valF f p1) i → J U k 0 0 [(b, .inr (5, [.ref a, .ref h, .ref sa, .int tk, .ref pa, .ref ta])), (a, .inr (3, [.ref v, .ref m, .int w, .int o, .int t])), (v, .inl (U.2.2.1 0, 6, .inl f))] [some (.ref b), some (.int p0), some (.int p1), some (.int (w - (1 : Int32))), some (.int x), some (.int (nI i))] 24 [] := by
    intro n_f
    induction n_f with
    | zero =>
      intro i x hfuel hin hx
      exact absurd hfuel (by omega)
    | succ n_f ih_24 =>
      intro i x hfuel hin hx
      refine J_iload C dX5_productByBits_24 rfl ?_
      refine J_iload_n C dX5_productByBits_26 rfl rfl ?_
      refine J_icmp_ge C 66 dX5_productByBits_27 (by decide) (fun c_27_1 => ?_) (fun c_27_1 => ?_)
      · refine J_iload C dX5_productByBits_66 rfl ?_
        refine J_aload_n C dX5_productByBits_68 rfl rfl ?_
        refine J_get C 0 0 rfl rfl i_X5_productByBits_X5 (by decide) k_X5_productByBits_10 rfl rfl dX5_productByBits_69 ?_
        refine J_iload_n C dX5_productByBits_72 rfl rfl ?_
        refine J_callV C (c_X3_valueIn U a v m f w o t p1 ) gX5_productByBits_X3_valueIn (n := 1) rfl rfl rfl (by decide +kernel) ⟨Nat.le_of_ble_eq_true rfl, Nat.le_of_ble_eq_true rfl⟩ 1 rfl rfl rfl (rest := [.int x]) rfl (Nat.le_of_ble_eq_true rfl) [(b, .inr (5, [.ref a, .ref h, .ref sa, .int tk, .ref pa, .ref ta])), (a, .inr (3, [.ref v, .ref m, .int w, .int o, .int t])), (v, .inl (U.2.2.1 0, 6, .inl f))] [1, 2] [0] [0, 1, 2] (wr := [(b, .inr (5, [.ref a, .ref h, .ref sa, .int tk, .ref pa, .ref ta]))]) rfl rfl rfl rfl (by decide) rfl rfl  dX5_productByBits_73 ⟨Nat.le_of_ble_eq_true rfl, Nat.le_of_ble_eq_true rfl⟩ [.int (valF f p1), .int x] rfl ?_
        refine J_iload_n C dX5_productByBits_76 rfl rfl ?_
        refine J_callS C (c_X5_bit U (valF f p1) (w - (1 : Int32)) ) gX5_productByBits_X5_bit (n := 2) rfl rfl rfl (by decide +kernel) ⟨Nat.le_of_ble_eq_true rfl, Nat.le_of_ble_eq_true rfl⟩ rfl (rest := [.int x]) rfl (Nat.le_of_ble_eq_true rfl) [(b, .inr (5, [.ref a, .ref h, .ref sa, .int tk, .ref pa, .ref ta])), (a, .inr (3, [.ref v, .ref m, .int w, .int o, .int t])), (v, .inl (U.2.2.1 0, 6, .inl f))] [] [0, 1, 2] [0, 1, 2] (wr := [(b, .inr (5, [.ref a, .ref h, .ref sa, .int tk, .ref pa, .ref ta])), (a, .inr (3, [.ref v, .ref m, .int w, .int o, .int t])), (v, .inl (U.2.2.1 0, 6, .inl f))]) rfl rfl rfl rfl (by decide) rfl rfl  dX5_productByBits_77 ⟨Nat.le_of_ble_eq_true rfl, Nat.le_of_ble_eq_true rfl⟩ [.int (bitF (valF f p1) (w - (1 : Int32))), .int x] rfl ?_
        refine J_aload_n C dX5_productByBits_80 rfl rfl ?_
        refine J_get C 0 0 rfl rfl i_X5_productByBits_X5 (by decide) k_X5_productByBits_10 rfl rfl dX5_productByBits_81 ?_
        refine J_iload_n C dX5_productByBits_84 rfl rfl ?_
        refine J_callV C (c_X3_valueIn U a v m f w o t p0 ) gX5_productByBits_X3_valueIn (n := 1) rfl rfl rfl (by decide +kernel) ⟨Nat.le_of_ble_eq_true rfl, Nat.le_of_ble_eq_true rfl⟩ 1 rfl rfl rfl (rest := [.int (bitF (valF f p1) (w - (1 : Int32))), .int x]) rfl (Nat.le_of_ble_eq_true rfl) [(b, .inr (5, [.ref a, .ref h, .ref sa, .int tk, .ref pa, .ref ta])), (a, .inr (3, [.ref v, .ref m, .int w, .int o, .int t])), (v, .inl (U.2.2.1 0, 6, .inl f))] [1, 2] [0] [0, 1, 2] (wr := [(b, .inr (5, [.ref a, .ref h, .ref sa, .int tk, .ref pa, .ref ta]))]) rfl rfl rfl rfl (by decide) rfl rfl  dX5_productByBits_85 ⟨Nat.le_of_ble_eq_true rfl, Nat.le_of_ble_eq_true rfl⟩ [.int (valF f p0), .int (bitF (valF f p1) (w - (1 : Int32))), .int x] rfl ?_
        refine J_imul C (v := (bitF (valF f p1) (w - (1 : Int32))) * (valF f p0)) dX5_productByBits_88 rfl ?_
        refine J_iload_n C dX5_productByBits_89 rfl rfl ?_
        refine J_ishl C (v := ((bitF (valF f p1) (w - (1 : Int32))) * (valF f p0)) <<< ((w - (1 : Int32)) &&& 31)) dX5_productByBits_90 rfl ?_
        refine J_isub C (v := x - (((bitF (valF f p1) (w - (1 : Int32))) * (valF f p0)) <<< ((w - (1 : Int32)) &&& 31))) dX5_productByBits_91 rfl ?_
        exact J_iret C R dX5_productByBits_92 (Nat.le_of_ble_eq_true rfl) (Nat.le_of_ble_eq_true rfl) (by have h9 := c_27_1; rw [hN9] at h9; have hi9 : i = N := (by have := nI_geN (by omega) (by omega) h9; omega); subst hi9; rw [hx]) rfl
      · have hlt : i < N := by have := c_27_1; rw [hN9] at this; exact nI_ngeN (by omega) (by omega) this
        refine J_iload C dX5_productByBits_30 rfl ?_
        refine J_aload_n C dX5_productByBits_32 rfl rfl ?_
        refine J_get C 0 0 rfl rfl i_X5_productByBits_X5 (by decide) k_X5_productByBits_10 rfl rfl dX5_productByBits_33 ?_
        refine J_iload_n C dX5_productByBits_36 rfl rfl ?_
        refine J_callV C (c_X3_valueIn U a v m f w o t p1 ) gX5_productByBits_X3_valueIn (n := 1) rfl rfl rfl (by decide +kernel) ⟨Nat.le_of_ble_eq_true rfl, Nat.le_of_ble_eq_true rfl⟩ 1 rfl rfl rfl (rest := [.int x]) rfl (Nat.le_of_ble_eq_true rfl) [(b, .inr (5, [.ref a, .ref h, .ref sa, .int tk, .ref pa, .ref ta])), (a, .inr (3, [.ref v, .ref m, .int w, .int o, .int t])), (v, .inl (U.2.2.1 0, 6, .inl f))] [1, 2] [0] [0, 1, 2] (wr := [(b, .inr (5, [.ref a, .ref h, .ref sa, .int tk, .ref pa, .ref ta]))]) rfl rfl rfl rfl (by decide) rfl rfl  dX5_productByBits_37 ⟨Nat.le_of_ble_eq_true rfl, Nat.le_of_ble_eq_true rfl⟩ [.int (valF f p1), .int x] rfl ?_
        refine J_iload C dX5_productByBits_40 rfl ?_
        refine J_callS C (c_X5_bit U (valF f p1) (nI i) ) gX5_productByBits_X5_bit (n := 2) rfl rfl rfl (by decide +kernel) ⟨Nat.le_of_ble_eq_true rfl, Nat.le_of_ble_eq_true rfl⟩ rfl (rest := [.int x]) rfl (Nat.le_of_ble_eq_true rfl) [(b, .inr (5, [.ref a, .ref h, .ref sa, .int tk, .ref pa, .ref ta])), (a, .inr (3, [.ref v, .ref m, .int w, .int o, .int t])), (v, .inl (U.2.2.1 0, 6, .inl f))] [] [0, 1, 2] [0, 1, 2] (wr := [(b, .inr (5, [.ref a, .ref h, .ref sa, .int tk, .ref pa, .ref ta])), (a, .inr (3, [.ref v, .ref m, .int w, .int o, .int t])), (v, .inl (U.2.2.1 0, 6, .inl f))]) rfl rfl rfl rfl (by decide) rfl rfl  dX5_productByBits_42 ⟨Nat.le_of_ble_eq_true rfl, Nat.le_of_ble_eq_true rfl⟩ [.int (bitF (valF f p1) (nI i)), .int x] rfl ?_
        refine J_aload_n C dX5_productByBits_45 rfl rfl ?_
        refine J_get C 0 0 rfl rfl i_X5_productByBits_X5 (by decide) k_X5_productByBits_10 rfl rfl dX5_productByBits_46 ?_
        refine J_iload_n C dX5_productByBits_49 rfl rfl ?_
        refine J_callV C (c_X3_valueIn U a v m f w o t p0 ) gX5_productByBits_X3_valueIn (n := 1) rfl rfl rfl (by decide +kernel) ⟨Nat.le_of_ble_eq_true rfl, Nat.le_of_ble_eq_true rfl⟩ 1 rfl rfl rfl (rest := [.int (bitF (valF f p1) (nI i)), .int x]) rfl (Nat.le_of_ble_eq_true rfl) [(b, .inr (5, [.ref a, .ref h, .ref sa, .int tk, .ref pa, .ref ta])), (a, .inr (3, [.ref v, .ref m, .int w, .int o, .int t])), (v, .inl (U.2.2.1 0, 6, .inl f))] [1, 2] [0] [0, 1, 2] (wr := [(b, .inr (5, [.ref a, .ref h, .ref sa, .int tk, .ref pa, .ref ta]))]) rfl rfl rfl rfl (by decide) rfl rfl  dX5_productByBits_50 ⟨Nat.le_of_ble_eq_true rfl, Nat.le_of_ble_eq_true rfl⟩ [.int (valF f p0), .int (bitF (valF f p1) (nI i)), .int x] rfl ?_
        refine J_imul C (v := (bitF (valF f p1) (nI i)) * (valF f p0)) dX5_productByBits_53 rfl ?_
        refine J_iload C dX5_productByBits_54 rfl ?_
        refine J_ishl C (v := ((bitF (valF f p1) (nI i)) * (valF f p0)) <<< ((nI i) &&& 31)) dX5_productByBits_56 rfl ?_
        refine J_iadd C (v := x + (((bitF (valF f p1) (nI i)) * (valF f p0)) <<< ((nI i) &&& 31))) dX5_productByBits_57 rfl ?_
        refine J_istore C [some (.ref b), some (.int p0), some (.int p1), some (.int (w - (1 : Int32))), some (.int (x + (((bitF (valF f p1) (nI i)) * (valF f p0)) <<< ((nI i) &&& 31)))), some (.int (nI i))] dX5_productByBits_58 (hN 4 (by decide)) rfl rfl ?_
        refine J_iinc C (v := nI (i + 1)) [some (.ref b), some (.int p0), some (.int p1), some (.int (w - (1 : Int32))), some (.int (x + (((bitF (valF f p1) (nI i)) * (valF f p0)) <<< ((nI i) &&& 31)))), some (.int (nI (i + 1)))] dX5_productByBits_60 rfl (nI_o1 i) (hN 5 (by decide)) rfl rfl ?_
        refine J_goto C 24 dX5_productByBits_63 (by decide) ?_
        exact ih_24 (i + 1) (x + (((bitF (valF f p1) (nI i)) * (valF f p0)) <<< ((nI i) &&& 31))) (by omega) (by omega) (by rw [pbF, hx])
  exact loop_24 (N + 1) 0 0 (by omega) (by omega) rfl
theorem k_X5_longestRun_10 : Cond.fieldLink RX5 10 "BoothOtters" "now" "LBoothOtters$State;" ∈ wsX5_longestRun := List.mem_of_getElem? (i := 1) rfl
theorem i_X5_longestRun_X5 : ∀ w ∈ wsX50, w ∈ wsX5_longestRun := fun _ h => List.mem_cons_of_mem _ (List.mem_append_left _ (List.mem_append_left _ (List.mem_append_right _ h)))
theorem k_X5_longestRun_47 : Cond.fieldLink RX5 47 "BoothOtters$State" "width" "I" ∈ wsX5_longestRun := List.mem_of_getElem? (i := 2) rfl
theorem i_X5_longestRun_X3 : ∀ w ∈ wsX30, w ∈ wsX5_longestRun := fun _ h => List.mem_cons_of_mem _ (List.mem_append_left _ (List.mem_append_right _ h))
set_option maxHeartbeats 4000000 in
set_option maxRecDepth 100000 in
theorem c_X5_longestRun_ok (U : jU) (b a h sa pa ta : Nat) (tk : Int32) (v m : Nat) (f : Nat → Int32) (w o t : Int32) (p0 p1 : Int32) (N : Nat) (v_1 : isReg p0) (v_2 : isReg p1) (hN9 : w = nI N) (hn9 : N < 100) : Fn U yX5_longestRun wsX5_longestRun { frames := 7, cells := 0, slots := 0, locals := 110 } [.ref b, .int p0, .int p1] [(b, .inr (5, [.ref a, .ref h, .ref sa, .int tk, .ref pa, .ref ta])), (a, .inr (3, [.ref v, .ref m, .int w, .int o, .int t])), (v, .inl (U.2.2.1 0, 6, .inl f))] (some (.int ((lrF (cbF (bitsF w (valF f p0)) (bitsF w (valF f p1))) N).2))) [(b, .inr (5, [.ref a, .ref h, .ref sa, .int tk, .ref pa, .ref ta])), (a, .inr (3, [.ref v, .ref m, .int w, .int o, .int t])), (v, .inl (U.2.2.1 0, 6, .inl f))] 0 0 := by
  refine Fn_of (cc := cX5_longestRun) (maxL := 7) (ret := (some .int)) [some (.ref b), some (.int p0), some (.int p1), none, none, none, none] (by decide +kernel) rfl (jcat rfl) (Nat.le_of_ble_eq_true rfl) rfl (fun k C R hin hnL => ?_)
  have hN : ∀ i, i < 7 → i < k.2.2.2.2.2.2.2.2.2.2.2.1 := fun i h => by rw [hnL]; exact h
  refine J_iload_n C dX5_longestRun_0 rfl rfl ?_
  refine J_callS C (c_X5_checkRegister_ok U p0 v_1) gX5_longestRun_X5_checkRegister (n := 1) rfl rfl rfl (by decide +kernel) ⟨Nat.le_of_ble_eq_true rfl, Nat.le_of_ble_eq_true rfl⟩ rfl (rest := []) rfl (Nat.le_of_ble_eq_true rfl) [(b, .inr (5, [.ref a, .ref h, .ref sa, .int tk, .ref pa, .ref ta])), (a, .inr (3, [.ref v, .ref m, .int w, .int o, .int t])), (v, .inl (U.2.2.1 0, 6, .inl f))] [] [0, 1, 2] [0, 1, 2] (wr := [(b, .inr (5, [.ref a, .ref h, .ref sa, .int tk, .ref pa, .ref ta])), (a, .inr (3, [.ref v, .ref m, .int w, .int o, .int t])), (v, .inl (U.2.2.1 0, 6, .inl f))]) rfl rfl rfl rfl (by decide) rfl rfl  dX5_longestRun_1 ⟨Nat.le_of_ble_eq_true rfl, Nat.le_of_ble_eq_true rfl⟩ [] rfl ?_
  refine J_iload_n C dX5_longestRun_4 rfl rfl ?_
  refine J_callS C (c_X5_checkRegister_ok U p1 v_2) gX5_longestRun_X5_checkRegister (n := 1) rfl rfl rfl (by decide +kernel) ⟨Nat.le_of_ble_eq_true rfl, Nat.le_of_ble_eq_true rfl⟩ rfl (rest := []) rfl (Nat.le_of_ble_eq_true rfl) [(b, .inr (5, [.ref a, .ref h, .ref sa, .int tk, .ref pa, .ref ta])), (a, .inr (3, [.ref v, .ref m, .int w, .int o, .int t])), (v, .inl (U.2.2.1 0, 6, .inl f))] [] [0, 1, 2] [0, 1, 2] (wr := [(b, .inr (5, [.ref a, .ref h, .ref sa, .int tk, .ref pa, .ref ta])), (a, .inr (3, [.ref v, .ref m, .int w, .int o, .int t])), (v, .inl (U.2.2.1 0, 6, .inl f))]) rfl rfl rfl rfl (by decide) rfl rfl  dX5_longestRun_5 ⟨Nat.le_of_ble_eq_true rfl, Nat.le_of_ble_eq_true rfl⟩ [] rfl ?_
  refine J_aload_n C dX5_longestRun_8 rfl rfl ?_
  refine J_get C 0 0 rfl rfl i_X5_longestRun_X5 (by decide) k_X5_longestRun_10 rfl rfl dX5_longestRun_9 ?_
  refine J_iload_n C dX5_longestRun_12 rfl rfl ?_
  refine J_callV C (c_X3_bitsIn U a v m f w o t p0 ) gX5_longestRun_X3_bitsIn (n := 1) rfl rfl rfl (by decide +kernel) ⟨Nat.le_of_ble_eq_true rfl, Nat.le_of_ble_eq_true rfl⟩ 1 rfl rfl rfl (rest := []) rfl (Nat.le_of_ble_eq_true rfl) [(b, .inr (5, [.ref a, .ref h, .ref sa, .int tk, .ref pa, .ref ta])), (a, .inr (3, [.ref v, .ref m, .int w, .int o, .int t])), (v, .inl (U.2.2.1 0, 6, .inl f))] [1, 2] [0] [0, 1, 2] (wr := [(b, .inr (5, [.ref a, .ref h, .ref sa, .int tk, .ref pa, .ref ta]))]) rfl rfl rfl rfl (by decide) rfl rfl  dX5_longestRun_13 ⟨Nat.le_of_ble_eq_true rfl, Nat.le_of_ble_eq_true rfl⟩ [.int (bitsF w (valF f p0))] rfl ?_
  refine J_aload_n C dX5_longestRun_16 rfl rfl ?_
  refine J_get C 0 0 rfl rfl i_X5_longestRun_X5 (by decide) k_X5_longestRun_10 rfl rfl dX5_longestRun_17 ?_
  refine J_iload_n C dX5_longestRun_20 rfl rfl ?_
  refine J_callV C (c_X3_bitsIn U a v m f w o t p1 ) gX5_longestRun_X3_bitsIn (n := 1) rfl rfl rfl (by decide +kernel) ⟨Nat.le_of_ble_eq_true rfl, Nat.le_of_ble_eq_true rfl⟩ 1 rfl rfl rfl (rest := [.int (bitsF w (valF f p0))]) rfl (Nat.le_of_ble_eq_true rfl) [(b, .inr (5, [.ref a, .ref h, .ref sa, .int tk, .ref pa, .ref ta])), (a, .inr (3, [.ref v, .ref m, .int w, .int o, .int t])), (v, .inl (U.2.2.1 0, 6, .inl f))] [1, 2] [0] [0, 1, 2] (wr := [(b, .inr (5, [.ref a, .ref h, .ref sa, .int tk, .ref pa, .ref ta]))]) rfl rfl rfl rfl (by decide) rfl rfl  dX5_longestRun_21 ⟨Nat.le_of_ble_eq_true rfl, Nat.le_of_ble_eq_true rfl⟩ [.int (bitsF w (valF f p1)), .int (bitsF w (valF f p0))] rfl ?_
  refine J_callS C (c_X5_carryBits U (bitsF w (valF f p0)) (bitsF w (valF f p1)) ) gX5_longestRun_X5_carryBits (n := 2) rfl rfl rfl (by decide +kernel) ⟨Nat.le_of_ble_eq_true rfl, Nat.le_of_ble_eq_true rfl⟩ rfl (rest := []) rfl (Nat.le_of_ble_eq_true rfl) [(b, .inr (5, [.ref a, .ref h, .ref sa, .int tk, .ref pa, .ref ta])), (a, .inr (3, [.ref v, .ref m, .int w, .int o, .int t])), (v, .inl (U.2.2.1 0, 6, .inl f))] [] [0, 1, 2] [0, 1, 2] (wr := [(b, .inr (5, [.ref a, .ref h, .ref sa, .int tk, .ref pa, .ref ta])), (a, .inr (3, [.ref v, .ref m, .int w, .int o, .int t])), (v, .inl (U.2.2.1 0, 6, .inl f))]) rfl rfl rfl rfl (by decide) rfl rfl  dX5_longestRun_24 ⟨Nat.le_of_ble_eq_true rfl, Nat.le_of_ble_eq_true rfl⟩ [.int (cbF (bitsF w (valF f p0)) (bitsF w (valF f p1)))] rfl ?_
  refine J_istore_n C [some (.ref b), some (.int p0), some (.int p1), some (.int (cbF (bitsF w (valF f p0)) (bitsF w (valF f p1)))), none, none, none] dX5_longestRun_27 rfl (hN 3 (by decide)) rfl rfl ?_
  refine J_iconst C (v := (0 : Int32)) dX5_longestRun_28 (by decide) ?_
  refine J_istore C [some (.ref b), some (.int p0), some (.int p1), some (.int (cbF (bitsF w (valF f p0)) (bitsF w (valF f p1)))), some (.int (0 : Int32)), none, none] dX5_longestRun_29 (hN 4 (by decide)) rfl rfl ?_
  refine J_iconst C (v := (0 : Int32)) dX5_longestRun_31 (by decide) ?_
  refine J_istore C [some (.ref b), some (.int p0), some (.int p1), some (.int (cbF (bitsF w (valF f p0)) (bitsF w (valF f p1)))), some (.int (0 : Int32)), some (.int (0 : Int32)), none] dX5_longestRun_32 (hN 5 (by decide)) rfl rfl ?_
  refine J_iconst C (v := (0 : Int32)) dX5_longestRun_34 (by decide) ?_
  refine J_istore C [some (.ref b), some (.int p0), some (.int p1), some (.int (cbF (bitsF w (valF f p0)) (bitsF w (valF f p1)))), some (.int (0 : Int32)), some (.int (0 : Int32)), some (.int (0 : Int32))] dX5_longestRun_35 (hN 6 (by decide)) rfl rfl ?_
  have loop_37 : ∀ (n_f : Nat) (i : Nat) (x y : Int32), N < i + n_f → i ≤ N → x = (lrF (cbF (bitsF w (valF f p0)) (bitsF w (valF f p1))) i).2 → y = (lrF (cbF (bitsF w (valF f p0)) (bitsF w (valF f p1))) i).1 → J U k 0 0 [(b, .inr (5, [.ref a, .ref h, .ref sa, .int tk, .ref pa, .ref ta])), (a, .inr (3, [.ref v, .ref m, .int w, .int o, .int t])), (v, .inl (U.2.2.1 0, 6, .inl f))] [some (.ref b), some (.int p0), some (.int p1), some (.int (cbF (bitsF w (valF f p0)) (bitsF w (valF f p1)))), some (.int x), some (.int y), some (.int (nI i))] 37 [] := by
    intro n_f
    induction n_f with
    | zero =>
      intro i x y hfuel hin hx hy
      exact absurd hfuel (by omega)
    | succ n_f ih_37 =>
      intro i x y hfuel hin hx hy
      refine J_iload C dX5_longestRun_37 rfl ?_
      refine J_aload_n C dX5_longestRun_39 rfl rfl ?_
      refine J_get C 0 0 rfl rfl i_X5_longestRun_X5 (by decide) k_X5_longestRun_10 rfl rfl dX5_longestRun_40 ?_
      refine J_get C 1 2 rfl rfl i_X5_longestRun_X3 (by decide) k_X5_longestRun_47 rfl rfl dX5_longestRun_43 ?_
      refine J_icmp_ge C 84 dX5_longestRun_46 (by decide) (fun c_46_1 => ?_) (fun c_46_1 => ?_)
      · refine J_iload C dX5_longestRun_84 rfl ?_
        exact J_iret C R dX5_longestRun_86 (Nat.le_of_ble_eq_true rfl) (Nat.le_of_ble_eq_true rfl) (by have h9 := c_46_1; rw [hN9] at h9; have hi9 : i = N := (by have := nI_geN (by omega) (by omega) h9; omega); subst hi9; rw [hx]) rfl
      · have hlt : i < N := by have := c_46_1; rw [hN9] at this; exact nI_ngeN (by omega) (by omega) this
        refine J_iload_n C dX5_longestRun_49 rfl rfl ?_
        refine J_iload C dX5_longestRun_50 rfl ?_
        refine J_callS C (c_X5_bit U (cbF (bitsF w (valF f p0)) (bitsF w (valF f p1))) (nI i) ) gX5_longestRun_X5_bit (n := 2) rfl rfl rfl (by decide +kernel) ⟨Nat.le_of_ble_eq_true rfl, Nat.le_of_ble_eq_true rfl⟩ rfl (rest := []) rfl (Nat.le_of_ble_eq_true rfl) [(b, .inr (5, [.ref a, .ref h, .ref sa, .int tk, .ref pa, .ref ta])), (a, .inr (3, [.ref v, .ref m, .int w, .int o, .int t])), (v, .inl (U.2.2.1 0, 6, .inl f))] [] [0, 1, 2] [0, 1, 2] (wr := [(b, .inr (5, [.ref a, .ref h, .ref sa, .int tk, .ref pa, .ref ta])), (a, .inr (3, [.ref v, .ref m, .int w, .int o, .int t])), (v, .inl (U.2.2.1 0, 6, .inl f))]) rfl rfl rfl rfl (by decide) rfl rfl  dX5_longestRun_52 ⟨Nat.le_of_ble_eq_true rfl, Nat.le_of_ble_eq_true rfl⟩ [.int (bitF (cbF (bitsF w (valF f p0)) (bitsF w (valF f p1))) (nI i))] rfl ?_
        refine J_iconst C (v := (1 : Int32)) dX5_longestRun_55 (by decide) ?_
        refine J_icmp_ne C 66 dX5_longestRun_56 (by decide) (fun c_56_2 => ?_) (fun c_56_2 => ?_)
        · refine J_iconst C (v := (0 : Int32)) dX5_longestRun_66 (by decide) ?_
          refine J_istore C [some (.ref b), some (.int p0), some (.int p1), some (.int (cbF (bitsF w (valF f p0)) (bitsF w (valF f p1)))), some (.int x), some (.int (0 : Int32)), some (.int (nI i))] dX5_longestRun_67 (hN 5 (by decide)) rfl rfl ?_
          refine J_iload C dX5_longestRun_69 rfl ?_
          refine J_iload C dX5_longestRun_71 rfl ?_
          refine J_max C (v := (if x < (0 : Int32) then (0 : Int32) else x)) (List.mem_of_getElem? (i := 3) rfl) (List.mem_of_getElem? (i := 4) rfl) (List.mem_of_getElem? (i := 5) rfl) (List.mem_of_getElem? (i := 6) rfl) (Nat.le_of_ble_eq_true rfl) (Nat.le_of_ble_eq_true rfl) (Nat.le_of_ble_eq_true rfl) (Nat.le_of_ble_eq_true rfl) rfl dX5_longestRun_73 ?_
          refine J_istore C [some (.ref b), some (.int p0), some (.int p1), some (.int (cbF (bitsF w (valF f p0)) (bitsF w (valF f p1)))), some (.int (if x < (0 : Int32) then (0 : Int32) else x)), some (.int (0 : Int32)), some (.int (nI i))] dX5_longestRun_76 (hN 4 (by decide)) rfl rfl ?_
          refine J_iinc C (v := nI (i + 1)) [some (.ref b), some (.int p0), some (.int p1), some (.int (cbF (bitsF w (valF f p0)) (bitsF w (valF f p1)))), some (.int (if x < (0 : Int32) then (0 : Int32) else x)), some (.int (0 : Int32)), some (.int (nI (i + 1)))] dX5_longestRun_78 rfl (nI_o1 i) (hN 6 (by decide)) rfl rfl ?_
          refine J_goto C 37 dX5_longestRun_81 (by decide) ?_
          exact ih_37 (i + 1) (if x < (0 : Int32) then (0 : Int32) else x) (0 : Int32) (by omega) (by omega) (by simp only [lrF, if_neg c_56_2, ← hx, ← hy]) (by simp only [lrF, if_neg c_56_2, ← hy])
        · refine J_iload C dX5_longestRun_59 rfl ?_
          refine J_iconst C (v := (1 : Int32)) dX5_longestRun_61 (by decide) ?_
          refine J_iadd C (v := y + (1 : Int32)) dX5_longestRun_62 rfl ?_
          refine J_goto C 67 dX5_longestRun_63 (by decide) ?_
          refine J_istore C [some (.ref b), some (.int p0), some (.int p1), some (.int (cbF (bitsF w (valF f p0)) (bitsF w (valF f p1)))), some (.int x), some (.int (y + (1 : Int32))), some (.int (nI i))] dX5_longestRun_67 (hN 5 (by decide)) rfl rfl ?_
          refine J_iload C dX5_longestRun_69 rfl ?_
          refine J_iload C dX5_longestRun_71 rfl ?_
          refine J_max C (v := (if x < (y + (1 : Int32)) then (y + (1 : Int32)) else x)) (List.mem_of_getElem? (i := 3) rfl) (List.mem_of_getElem? (i := 4) rfl) (List.mem_of_getElem? (i := 5) rfl) (List.mem_of_getElem? (i := 6) rfl) (Nat.le_of_ble_eq_true rfl) (Nat.le_of_ble_eq_true rfl) (Nat.le_of_ble_eq_true rfl) (Nat.le_of_ble_eq_true rfl) rfl dX5_longestRun_73 ?_
          refine J_istore C [some (.ref b), some (.int p0), some (.int p1), some (.int (cbF (bitsF w (valF f p0)) (bitsF w (valF f p1)))), some (.int (if x < (y + (1 : Int32)) then (y + (1 : Int32)) else x)), some (.int (y + (1 : Int32))), some (.int (nI i))] dX5_longestRun_76 (hN 4 (by decide)) rfl rfl ?_
          refine J_iinc C (v := nI (i + 1)) [some (.ref b), some (.int p0), some (.int p1), some (.int (cbF (bitsF w (valF f p0)) (bitsF w (valF f p1)))), some (.int (if x < (y + (1 : Int32)) then (y + (1 : Int32)) else x)), some (.int (y + (1 : Int32))), some (.int (nI (i + 1)))] dX5_longestRun_78 rfl (nI_o1 i) (hN 6 (by decide)) rfl rfl ?_
          refine J_goto C 37 dX5_longestRun_81 (by decide) ?_
          exact ih_37 (i + 1) (if x < (y + (1 : Int32)) then (y + (1 : Int32)) else x) (y + (1 : Int32)) (by omega) (by omega) (by simp only [lrF, if_pos c_56_2, ← hx, ← hy]) (by simp only [lrF, if_pos c_56_2, ← hy])
  exact loop_37 (N + 1) 0 0 0 (by omega) (by omega) rfl rfl
