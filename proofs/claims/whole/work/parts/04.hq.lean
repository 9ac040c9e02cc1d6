theorem k_X6_readsProgram_99 : Cond.fieldLink RX6 99 "BoothOttersModel" "at" "I" ∈ wsX6_readsProgram := List.mem_of_getElem? (i := 1) rfl
theorem i_X6_readsProgram_X6 : ∀ w ∈ wsX60, w ∈ wsX6_readsProgram := fun _ h => List.mem_cons_of_mem _ (List.mem_append_right _ h)
theorem k_X6_readsProgram_113 : Cond.fieldLink RX6 113 "BoothOttersModel" "readMany" "I" ∈ wsX6_readsProgram := List.mem_of_getElem? (i := 2) rfl
theorem k_X6_readsProgram_102 : Cond.fieldLink RX6 102 "BoothOttersModel" "isWell" "Z" ∈ wsX6_readsProgram := List.mem_of_getElem? (i := 3) rfl
theorem k_X6_readsProgram_96 : Cond.fieldLink RX6 96 "BoothOttersModel" "length" "I" ∈ wsX6_readsProgram := List.mem_of_getElem? (i := 4) rfl
set_option maxHeartbeats 4000000 in
set_option maxRecDepth 100000 in
theorem c_X6_readsProgram_P (U : jU) (m ys ya yt yn yx yr yd : Nat) (xth xsm xhs xln xat xiw xrm xfb xlr xdm : Int32) (gx gr : Nat → Int32) (n : Nat) (hn : n ≤ 60) : FnP U yX6_readsProgram wsX6_readsProgram { frames := 4, cells := 0, slots := 0, locals := 92 } [.ref m] [(m, .inr (6, [.int xth, .ref ys, .ref ya, .ref yt, .int xsm, .ref yn, .int xhs, .ref yx, .int (nI n), .int xat, .int xiw, .ref yr, .int xrm, .int xfb, .int xlr, .ref yd, .int xdm])), (yx, .inl (U.2.2.1 0, 60, .inl gx)), (yr, .inl (U.2.2.1 0, 64, .inl gr))] (γ := jZ4) (prP gx n) (fun z => (some (.int ((feF gx n n 0 rdS).1)))) (fun z => [(m, .inr (6, [.int xth, .ref ys, .ref ya, .ref yt, .int xsm, .ref yn, .int xhs, .ref yx, .int (nI n), .int (nI z.2.1), .int z.1, .ref yr, .int (nI z.2.2.1), .int xfb, .int xlr, .ref yd, .int xdm])), (yx, .inl (U.2.2.1 0, 60, .inl gx)), (yr, .inl (U.2.2.1 0, 64, .inl z.2.2.2))]) 0 0 := by
  refine FnP_of (cc := cX6_readsProgram) (maxL := 1) (ret := (some .int)) [some (.ref m)] (by decide +kernel) rfl (jcat rfl) (Nat.le_of_ble_eq_true rfl) rfl (fun k C R hin hnL => ?_)
  have hN : ∀ i, i < 1 → i < k.2.2.2.2.2.2.2.2.2.2.2.1 := fun i h => by rw [hnL]; exact h
  refine J_aload_n C dX6_readsProgram_0 rfl rfl ?_
  refine J_iconst C (v := (0 : Int32)) dX6_readsProgram_1 (by decide) ?_
  refine J_put C tyX6 0 9 [(m, .inr (6, [.int xth, .ref ys, .ref ya, .ref yt, .int xsm, .ref yn, .int xhs, .ref yx, .int (nI n), .int (0 : Int32), .int xiw, .ref yr, .int xrm, .int xfb, .int xlr, .ref yd, .int xdm])), (yx, .inl (U.2.2.1 0, 60, .inl gx)), (yr, .inl (U.2.2.1 0, 64, .inl gr))] rfl rfl i_X6_readsProgram_X6 tyX6_ok nmX6 (by decide) k_X6_readsProgram_99 rfl rfl rfl rfl (Nat.le_of_ble_eq_true rfl) rfl dX6_readsProgram_2 ?_
  refine J_aload_n C dX6_readsProgram_5 rfl rfl ?_
  refine J_iconst C (v := (0 : Int32)) dX6_readsProgram_6 (by decide) ?_
  refine J_put C tyX6 0 12 [(m, .inr (6, [.int xth, .ref ys, .ref ya, .ref yt, .int xsm, .ref yn, .int xhs, .ref yx, .int (nI n), .int (0 : Int32), .int xiw, .ref yr, .int (0 : Int32), .int xfb, .int xlr, .ref yd, .int xdm])), (yx, .inl (U.2.2.1 0, 60, .inl gx)), (yr, .inl (U.2.2.1 0, 64, .inl gr))] rfl rfl i_X6_readsProgram_X6 tyX6_ok nmX6 (by decide) k_X6_readsProgram_113 rfl rfl rfl rfl (Nat.le_of_ble_eq_true rfl) rfl dX6_readsProgram_7 ?_
  refine J_aload_n C dX6_readsProgram_10 rfl rfl ?_
  refine J_callVP C (c_X6_readsStep_P U m ys ya yt yn yx yr yd xth xsm xhs (0 : Int32) (0 : Int32) xiw (0 : Int32) xfb xlr xdm gx gr n 0 0 hn (by omega) (by omega) (by omega)) gX6_readsProgram_X6_readsStep (n := 0) rfl rfl rfl (by decide +kernel) ⟨Nat.le_of_ble_eq_true rfl, Nat.le_of_ble_eq_true rfl⟩ 0 rfl rfl rfl (rest := []) rfl (Nat.le_of_ble_eq_true rfl) (fun z_11_1 => [(m, .inr (6, [.int xth, .ref ys, .ref ya, .ref yt, .int xsm, .ref yn, .int xhs, .ref yx, .int (nI n), .int (nI z_11_1.2.1), .int z_11_1.1, .ref yr, .int (nI z_11_1.2.2.1), .int xfb, .int xlr, .ref yd, .int xdm])), (yx, .inl (U.2.2.1 0, 60, .inl gx)), (yr, .inl (U.2.2.1 0, 64, .inl z_11_1.2.2.2))]) [0, 1, 2] [] [0, 1, 2] (wr := []) rfl rfl rfl rfl (by decide) (fun _ => rfl) rfl dX6_readsProgram_11 ⟨Nat.le_of_ble_eq_true rfl, Nat.le_of_ble_eq_true rfl⟩ (fun z_11_1 hz_11_1 => ?_)
  have loop_14 : ∀ (n_f : Nat) (iw9 : Int32) (e9 m9 : Nat) (g9 : Nat → Int32), (if iw9 = 0 then 2 * n else 2 * n + 1) < 2 * e9 + n_f → liv gx n iw9 e9 m9 g9 → J U k 0 0 [(m, .inr (6, [.int xth, .ref ys, .ref ya, .ref yt, .int xsm, .ref yn, .int xhs, .ref yx, .int (nI n), .int (nI e9), .int iw9, .ref yr, .int (nI m9), .int xfb, .int xlr, .ref yd, .int xdm])), (yx, .inl (U.2.2.1 0, 60, .inl gx)), (yr, .inl (U.2.2.1 0, 64, .inl g9))] [some (.ref m)] 14 [] := by
    intro n_f
    induction n_f with
    | zero =>
      intro iw9 e9 m9 g9 hfuel hinv
      exact absurd hfuel (by have := hinv.1; split <;> omega)
    | succ n_f ih_14 =>
      intro iw9 e9 m9 g9 hfuel hinv
      rcases liv_or hinv with h9 | h9
      · subst h9
        refine J_aload_n C dX6_readsProgram_14 rfl rfl ?_
        refine J_get C 0 10 rfl rfl i_X6_readsProgram_X6 (by decide) k_X6_readsProgram_102 rfl rfl dX6_readsProgram_15 ?_
        refine J_if_eq C 55 dX6_readsProgram_18 (by decide) (fun _ => ?_) (fun h => absurd (by decide) h)
        refine J_aload_n C dX6_readsProgram_55 rfl rfl ?_
        refine J_get C 0 10 rfl rfl i_X6_readsProgram_X6 (by decide) k_X6_readsProgram_102 rfl rfl dX6_readsProgram_56 ?_
        refine J_if_eq C 66 dX6_readsProgram_59 (by decide) (fun _ => ?_) (fun h => absurd (by decide) h)
        refine J_aload_n C dX6_readsProgram_66 rfl rfl ?_
        refine J_get C 0 9 rfl rfl i_X6_readsProgram_X6 (by decide) k_X6_readsProgram_99 rfl rfl dX6_readsProgram_67 ?_
        exact J_iretP C R (0, e9, m9, g9) (liv_e0 (iw := 0) hn hinv).2 dX6_readsProgram_70 (Nat.le_of_ble_eq_true rfl) (Nat.le_of_ble_eq_true rfl) (congrArg (fun q => some (Value.int q)) (liv_e0 (iw := 0) hn hinv).1) rfl
      · subst h9
        refine J_aload_n C dX6_readsProgram_14 rfl rfl ?_
        refine J_get C 0 10 rfl rfl i_X6_readsProgram_X6 (by decide) k_X6_readsProgram_102 rfl rfl dX6_readsProgram_15 ?_
        refine J_if_eq C 55 dX6_readsProgram_18 (by decide) (fun h => absurd h (by decide)) (fun _ => ?_)
        refine J_aload_n C dX6_readsProgram_21 rfl rfl ?_
        refine J_get C 0 9 rfl rfl i_X6_readsProgram_X6 (by decide) k_X6_readsProgram_99 rfl rfl dX6_readsProgram_22 ?_
        refine J_aload_n C dX6_readsProgram_25 rfl rfl ?_
        refine J_get C 0 8 rfl rfl i_X6_readsProgram_X6 (by decide) k_X6_readsProgram_96 rfl rfl dX6_readsProgram_26 ?_
        refine J_icmp_ge C 55 dX6_readsProgram_29 (by decide) (fun c_29_2 => ?_) (fun c_29_2 => ?_)
        · refine J_aload_n C dX6_readsProgram_55 rfl rfl ?_
          refine J_get C 0 10 rfl rfl i_X6_readsProgram_X6 (by decide) k_X6_readsProgram_102 rfl rfl dX6_readsProgram_56 ?_
          refine J_if_eq C 66 dX6_readsProgram_59 (by decide) (fun h => absurd h (by decide)) (fun _ => ?_)
          refine J_iconst C (v := (-1 : Int32)) dX6_readsProgram_62 (by decide) ?_
          refine J_goto C 70 dX6_readsProgram_63 (by decide) ?_
          exact J_iretP C R (1, e9, m9, g9) ((liv_e1 (iw := 1) (by have := (nI_leI (a := n) (b := e9) (by omega) (by have := hinv.1; omega)).mp c_29_2; omega) hinv)).2 dX6_readsProgram_70 (Nat.le_of_ble_eq_true rfl) (Nat.le_of_ble_eq_true rfl) (congrArg (fun q => some (Value.int q)) ((liv_e1 (iw := 1) (by have := (nI_leI (a := n) (b := e9) (by omega) (by have := hinv.1; omega)).mp c_29_2; omega) hinv)).1) rfl
        · have he60 : e9 ≤ 60 := by have := hinv.1; omega
          have hlt : e9 < n := nI_ngeN (by omega) (by omega) c_29_2
          refine J_aload_n C dX6_readsProgram_32 rfl rfl ?_
          refine J_bipush C (v := (59 : Int32)) dX6_readsProgram_33 (by decide) ?_
          refine J_bipush C (v := (59 : Int32)) dX6_readsProgram_35 (by decide) ?_
          by_cases c_37_3 : inF (sgF gx n e9) (59 : Int32) (59 : Int32)
          · refine J_callV C (c_X6_takes_y U m ys ya yt yn yx yr yd xth xsm xhs (0 : Int32) (0 : Int32) (0 : Int32) (nI m9) xfb xlr xdm gx n e9 (59 : Int32) (59 : Int32) c_37_3 hn (by omega)) gX6_readsProgram_X6_takes (n := 2) rfl rfl rfl (by decide +kernel) ⟨Nat.le_of_ble_eq_true rfl, Nat.le_of_ble_eq_true rfl⟩ 0 rfl rfl rfl (rest := []) rfl (Nat.le_of_ble_eq_true rfl) [(m, .inr (6, [.int xth, .ref ys, .ref ya, .ref yt, .int xsm, .ref yn, .int xhs, .ref yx, .int (nI n), .int (nI (e9 + 1)), .int (1 : Int32), .ref yr, .int (nI m9), .int xfb, .int xlr, .ref yd, .int xdm])), (yx, .inl (U.2.2.1 0, 60, .inl gx)), (yr, .inl (U.2.2.1 0, 64, .inl g9))] [0, 1] [2] [1, 2, 0] (wr := [(yr, .inl (U.2.2.1 0, 64, .inl g9))]) rfl rfl rfl rfl (by decide) rfl rfl  dX6_readsProgram_37 ⟨Nat.le_of_ble_eq_true rfl, Nat.le_of_ble_eq_true rfl⟩ [.int ((sgF gx n e9) - (59 : Int32))] rfl ?_
            refine J_pop C dX6_readsProgram_40 rfl ?_
            refine J_aload_n C dX6_readsProgram_41 rfl rfl ?_
            refine J_get C 0 10 rfl rfl i_X6_readsProgram_X6 (by decide) k_X6_readsProgram_102 rfl rfl dX6_readsProgram_42 ?_
            refine J_if_eq C 14 dX6_readsProgram_45 (by decide) (fun h => absurd h (by decide)) (fun _ => ?_)
            have hm15 : m9 ≤ 15 := hinv.2.1
            have hs9 := fun z => liv_s (z := z) hn hinv hlt ((sgx hlt).symm.trans (Int32.le_antisymm (Int32.not_lt.mp c_37_3.2) (Int32.not_lt.mp c_37_3.1)))
            refine J_aload_n C dX6_readsProgram_48 rfl rfl ?_
            refine J_callVP C (c_X6_readsStep_P U m ys ya yt yn yx yr yd xth xsm xhs (0 : Int32) (0 : Int32) (1 : Int32) (0 : Int32) xfb xlr xdm gx g9 n (e9 + 1) m9 hn (by omega) (by omega) (by omega)) gX6_readsProgram_X6_readsStep (n := 0) rfl rfl rfl (by decide +kernel) ⟨Nat.le_of_ble_eq_true rfl, Nat.le_of_ble_eq_true rfl⟩ 0 rfl rfl rfl (rest := []) rfl (Nat.le_of_ble_eq_true rfl) (fun z_49_4 => [(m, .inr (6, [.int xth, .ref ys, .ref ya, .ref yt, .int xsm, .ref yn, .int xhs, .ref yx, .int (nI n), .int (nI z_49_4.2.1), .int z_49_4.1, .ref yr, .int (nI z_49_4.2.2.1), .int xfb, .int xlr, .ref yd, .int xdm])), (yx, .inl (U.2.2.1 0, 60, .inl gx)), (yr, .inl (U.2.2.1 0, 64, .inl z_49_4.2.2.2))]) [0, 1, 2] [] [0, 1, 2] (wr := []) rfl rfl rfl rfl (by decide) (fun _ => rfl) rfl dX6_readsProgram_49 ⟨Nat.le_of_ble_eq_true rfl, Nat.le_of_ble_eq_true rfl⟩ (fun z_49_4 hz_49_4 => ?_)
            refine J_goto C 14 dX6_readsProgram_52 (by decide) ?_
            exact ih_14 z_49_4.1 z_49_4.2.1 z_49_4.2.2.1 z_49_4.2.2.2 (by have := (hs9 z_49_4 hz_49_4).2; rw [if_neg (by decide)] at hfuel; split <;> omega) (hs9 z_49_4 hz_49_4).1
          · refine J_callV C (c_X6_takes_f U m ys ya yt yn yx yr yd xth xsm xhs (0 : Int32) (0 : Int32) (0 : Int32) (nI m9) xfb xlr xdm gx n e9 (59 : Int32) (59 : Int32) c_37_3 hn (by omega)) gX6_readsProgram_X6_takes (n := 2) rfl rfl rfl (by decide +kernel) ⟨Nat.le_of_ble_eq_true rfl, Nat.le_of_ble_eq_true rfl⟩ 0 rfl rfl rfl (rest := []) rfl (Nat.le_of_ble_eq_true rfl) [(m, .inr (6, [.int xth, .ref ys, .ref ya, .ref yt, .int xsm, .ref yn, .int xhs, .ref yx, .int (nI n), .int (nI e9), .int (0 : Int32), .ref yr, .int (nI m9), .int xfb, .int xlr, .ref yd, .int xdm])), (yx, .inl (U.2.2.1 0, 60, .inl gx)), (yr, .inl (U.2.2.1 0, 64, .inl g9))] [0, 1] [2] [1, 2, 0] (wr := [(yr, .inl (U.2.2.1 0, 64, .inl g9))]) rfl rfl rfl rfl (by decide) rfl rfl  dX6_readsProgram_37 ⟨Nat.le_of_ble_eq_true rfl, Nat.le_of_ble_eq_true rfl⟩ [.int ((sgF gx n e9) - (59 : Int32))] rfl ?_
            refine J_pop C dX6_readsProgram_40 rfl ?_
            refine J_aload_n C dX6_readsProgram_41 rfl rfl ?_
            refine J_get C 0 10 rfl rfl i_X6_readsProgram_X6 (by decide) k_X6_readsProgram_102 rfl rfl dX6_readsProgram_42 ?_
            refine J_if_eq C 14 dX6_readsProgram_45 (by decide) (fun _ => ?_) (fun h => absurd (by decide) h)
            exact ih_14 (0 : Int32) e9 m9 g9 (by rw [if_neg (by decide)] at hfuel; rw [if_pos rfl]; omega) (liv_f hinv hlt (fun q => c_37_3 (by rw [sgx hlt, q]; decide)))
  exact loop_14 (2 * n + 2) z_11_1.1 z_11_1.2.1 z_11_1.2.2.1 z_11_1.2.2.2 (by split <;> omega) (liv_0 hn hz_11_1)
