set_option maxHeartbeats 4000000 in
set_option maxRecDepth 100000 in
theorem c_L_holds_ebyn (U : jU) (b a h sa pa ta : Nat) (tk : Int32) (v m : Nat) (f : Nat → Int32) (w o t sl bp mw mc hi lo ex : Int32) (p0 p1 : Int32) (W : Nat) (v_1 : isReg p0) (v_2 : isReg p1) (hJ : jW W w f) (ymc : (valF f p1) * (valF f p0) = ((valF f p0) * (valF f p1))) (l1 : ¬ (valF f p0) < -((1 : Int32) <<< ((w - (1 : Int32)) &&& 31))) (l2 : ¬ ((1 : Int32) <<< ((w - (1 : Int32)) &&& 31)) ≤ (valF f p0)) (c1 : nI (crN W (valF f p0) (valF f p1)) = nI (crN W (valF f p1) (valF f p0))) (c2 : ¬ nI (crN W (valF f p0) (valF f p1)) < nI (lrN W (valF f p0) (valF f p1))) (c3 : ¬ w < nI (crN W (valF f p0) (valF f p1))) (s1 : ¬ nI (nzF (valF f p0) 0 W) < nI (nzF (valF f p0) 2 W)) (s2 : ¬ (nI (pcN W (tn (valF f p0))) + (1 : Int32)) < nI (nzF (valF f p0) 2 W)) (t1 : ¬ sl < -1) (t2 : ¬ 16 < sl) (e1 : ¬ rem2 w = 1) (hev : W % 2 = 0) (w1 : ¬ w / 2 < nI (nzF (valF f p1) 1 (W / 2))) (ft : b2i (wrapF w ((valF f p0) * (valF f p1)) = ((valF f p0) * (valF f p1))) = 0) (d1 : ((valF f p0) * (valF f p1)) < -((1 : Int32) <<< ((w - (1 : Int32)) &&& 31))) (z1 : ¬ nI (lrN W (valF f p0) (valF f p1)) = 0) (z2 : ¬ nI (crN W (valF f p0) (valF f p1)) = 0) (h1 : sl < 0) : Fn U yL_holds wsL_holds { frames := 8, cells := 0, slots := 0, locals := 137 } [.ref b, .int p0, .int p1] [(b, .inr (5, [.ref a, .ref h, .ref sa, .int tk, .ref pa, .ref ta])), (a, .inr (3, [.ref v, .ref m, .int w, .int o, .int t])), (v, .inl (U.2.2.1 0, 6, .inl f)), (m, .inr (1, [.int sl, .int bp, .int mw, .int mc, .int hi, .int lo, .int ex]))] (some (.int (1 : Int32))) [(b, .inr (5, [.ref a, .ref h, .ref sa, .int tk, .ref pa, .ref ta])), (a, .inr (3, [.ref v, .ref m, .int w, .int o, .int t])), (v, .inl (U.2.2.1 0, 6, .inl f)), (m, .inr (1, [.int sl, .int bp, .int mw, .int mc, .int hi, .int lo, .int ex]))] 0 0 := by
  refine Fn_of (cc := cL_holds) (maxL := 7) (ret := (some .boolean)) [some (.ref b), some (.int p0), some (.int p1), none, none, none, none] (by decide +kernel) rfl (jcat rfl) (Nat.le_of_ble_eq_true rfl) rfl (fun k C R hin hnL => ?_)
  have hN : ∀ i, i < 7 → i < k.2.2.2.2.2.2.2.2.2.2.2.1 := fun i h => by rw [hnL]; exact h
  refine J_aload_n C dL_holds_0 rfl rfl ?_
  refine J_callV C (c_X5_width U b a h sa pa ta tk v m w o t ) gL_holds_X5_width (n := 0) rfl rfl rfl (by decide +kernel) ⟨Nat.le_of_ble_eq_true rfl, Nat.le_of_ble_eq_true rfl⟩ 0 rfl rfl rfl (rest := []) rfl (Nat.le_of_ble_eq_true rfl) [(b, .inr (5, [.ref a, .ref h, .ref sa, .int tk, .ref pa, .ref ta])), (a, .inr (3, [.ref v, .ref m, .int w, .int o, .int t])), (v, .inl (U.2.2.1 0, 6, .inl f)), (m, .inr (1, [.int sl, .int bp, .int mw, .int mc, .int hi, .int lo, .int ex]))] [0, 1] [2, 3] [2, 3, 0, 1] (wr := [(v, .inl (U.2.2.1 0, 6, .inl f)), (m, .inr (1, [.int sl, .int bp, .int mw, .int mc, .int hi, .int lo, .int ex]))]) rfl rfl rfl rfl (by decide) rfl rfl  dL_holds_1 ⟨Nat.le_of_ble_eq_true rfl, Nat.le_of_ble_eq_true rfl⟩ [.int w] rfl ?_
  refine J_istore_n C [some (.ref b), some (.int p0), some (.int p1), some (.int w), none, none, none] dL_holds_4 rfl (hN 3 (by decide)) rfl rfl ?_
  refine J_aload_n C dL_holds_5 rfl rfl ?_
  refine J_iload_n C dL_holds_6 rfl rfl ?_
  refine J_callV C (c_X5_valueOf_ok U b a h sa pa ta tk v m f w o t p0 v_1) gL_holds_X5_valueOf (n := 1) rfl rfl rfl (by decide +kernel) ⟨Nat.le_of_ble_eq_true rfl, Nat.le_of_ble_eq_true rfl⟩ 0 rfl rfl rfl (rest := []) rfl (Nat.le_of_ble_eq_true rfl) [(b, .inr (5, [.ref a, .ref h, .ref sa, .int tk, .ref pa, .ref ta])), (a, .inr (3, [.ref v, .ref m, .int w, .int o, .int t])), (v, .inl (U.2.2.1 0, 6, .inl f)), (m, .inr (1, [.int sl, .int bp, .int mw, .int mc, .int hi, .int lo, .int ex]))] [0, 1, 2] [3] [1, 2, 3, 0] (wr := [(m, .inr (1, [.int sl, .int bp, .int mw, .int mc, .int hi, .int lo, .int ex]))]) rfl rfl rfl rfl (by decide) rfl rfl  dL_holds_7 ⟨Nat.le_of_ble_eq_true rfl, Nat.le_of_ble_eq_true rfl⟩ [.int (valF f p0)] rfl ?_
  refine J_aload_n C dL_holds_10 rfl rfl ?_
  refine J_iload_n C dL_holds_11 rfl rfl ?_
  refine J_callV C (c_X5_valueOf_ok U b a h sa pa ta tk v m f w o t p1 v_2) gL_holds_X5_valueOf (n := 1) rfl rfl rfl (by decide +kernel) ⟨Nat.le_of_ble_eq_true rfl, Nat.le_of_ble_eq_true rfl⟩ 0 rfl rfl rfl (rest := [.int (valF f p0)]) rfl (Nat.le_of_ble_eq_true rfl) [(b, .inr (5, [.ref a, .ref h, .ref sa, .int tk, .ref pa, .ref ta])), (a, .inr (3, [.ref v, .ref m, .int w, .int o, .int t])), (v, .inl (U.2.2.1 0, 6, .inl f)), (m, .inr (1, [.int sl, .int bp, .int mw, .int mc, .int hi, .int lo, .int ex]))] [0, 1, 2] [3] [1, 2, 3, 0] (wr := [(m, .inr (1, [.int sl, .int bp, .int mw, .int mc, .int hi, .int lo, .int ex]))]) rfl rfl rfl rfl (by decide) rfl rfl  dL_holds_12 ⟨Nat.le_of_ble_eq_true rfl, Nat.le_of_ble_eq_true rfl⟩ [.int (valF f p1), .int (valF f p0)] rfl ?_
  refine J_imul C (v := (valF f p0) * (valF f p1)) dL_holds_15 rfl ?_
  refine J_istore C [some (.ref b), some (.int p0), some (.int p1), some (.int w), some (.int ((valF f p0) * (valF f p1))), none, none] dL_holds_16 (hN 4 (by decide)) rfl rfl ?_
  refine J_iconst C (v := (1 : Int32)) dL_holds_18 (by decide) ?_
  refine J_iload_n C dL_holds_19 rfl rfl ?_
  refine J_iconst C (v := (1 : Int32)) dL_holds_20 (by decide) ?_
  refine J_isub C (v := w - (1 : Int32)) dL_holds_21 rfl ?_
  refine J_ishl C (v := (1 : Int32) <<< ((w - (1 : Int32)) &&& 31)) dL_holds_22 rfl ?_
  refine J_istore C [some (.ref b), some (.int p0), some (.int p1), some (.int w), some (.int ((valF f p0) * (valF f p1))), some (.int ((1 : Int32) <<< ((w - (1 : Int32)) &&& 31))), none] dL_holds_23 (hN 5 (by decide)) rfl rfl ?_
  refine J_aload_n C dL_holds_25 rfl rfl ?_
  refine J_iload_n C dL_holds_26 rfl rfl ?_
  refine J_iload_n C dL_holds_27 rfl rfl ?_
  refine J_callV C (c_X5_productByBits_eq U b a h sa pa ta tk v m f w o t p0 p1 W v_1 v_2 hJ) gL_holds_X5_productByBits (n := 2) rfl rfl rfl (by decide +kernel) ⟨Nat.le_of_ble_eq_true rfl, Nat.le_of_ble_eq_true rfl⟩ 0 rfl rfl rfl (rest := []) rfl (Nat.le_of_ble_eq_true rfl) [(b, .inr (5, [.ref a, .ref h, .ref sa, .int tk, .ref pa, .ref ta])), (a, .inr (3, [.ref v, .ref m, .int w, .int o, .int t])), (v, .inl (U.2.2.1 0, 6, .inl f)), (m, .inr (1, [.int sl, .int bp, .int mw, .int mc, .int hi, .int lo, .int ex]))] [0, 1, 2] [3] [1, 2, 3, 0] (wr := [(m, .inr (1, [.int sl, .int bp, .int mw, .int mc, .int hi, .int lo, .int ex]))]) rfl rfl rfl rfl (by decide) rfl rfl  dL_holds_28 ⟨Nat.le_of_ble_eq_true rfl, Nat.le_of_ble_eq_true rfl⟩ [.int ((valF f p0) * (valF f p1))] rfl ?_
  refine J_iload C dL_holds_31 rfl ?_
  refine J_icmp_ne C 106 dL_holds_33 (by decide) (fun h => absurd h (fun hh => hh rfl)) (fun _ => ?_)
  refine J_aload_n C dL_holds_36 rfl rfl ?_
  refine J_iload_n C dL_holds_37 rfl rfl ?_
  refine J_iload_n C dL_holds_38 rfl rfl ?_
  refine J_callV C (c_X5_productByBits_eq U b a h sa pa ta tk v m f w o t p1 p0 W v_2 v_1 hJ) gL_holds_X5_productByBits (n := 2) rfl rfl rfl (by decide +kernel) ⟨Nat.le_of_ble_eq_true rfl, Nat.le_of_ble_eq_true rfl⟩ 0 rfl rfl rfl (rest := []) rfl (Nat.le_of_ble_eq_true rfl) [(b, .inr (5, [.ref a, .ref h, .ref sa, .int tk, .ref pa, .ref ta])), (a, .inr (3, [.ref v, .ref m, .int w, .int o, .int t])), (v, .inl (U.2.2.1 0, 6, .inl f)), (m, .inr (1, [.int sl, .int bp, .int mw, .int mc, .int hi, .int lo, .int ex]))] [0, 1, 2] [3] [1, 2, 3, 0] (wr := [(m, .inr (1, [.int sl, .int bp, .int mw, .int mc, .int hi, .int lo, .int ex]))]) rfl rfl rfl rfl (by decide) rfl rfl  dL_holds_39 ⟨Nat.le_of_ble_eq_true rfl, Nat.le_of_ble_eq_true rfl⟩ [.int ((valF f p1) * (valF f p0))] rfl ?_
  refine J_iload C dL_holds_42 rfl ?_
  refine J_icmp_ne C 106 dL_holds_44 (by decide) (fun h => absurd h (fun hh => hh ymc)) (fun _ => ?_)
  refine J_aload_n C dL_holds_47 rfl rfl ?_
  refine J_iload_n C dL_holds_48 rfl rfl ?_
  refine J_iload_n C dL_holds_49 rfl rfl ?_
  refine J_iconst C (v := (0 : Int32)) dL_holds_50 (by decide) ?_
  refine J_callV C (c_X5_productByRows_eq0 U b a h sa pa ta tk v m f w o t p0 p1 W v_1 v_2 hJ) gL_holds_X5_productByRows (n := 3) rfl rfl rfl (by decide +kernel) ⟨Nat.le_of_ble_eq_true rfl, Nat.le_of_ble_eq_true rfl⟩ 0 rfl rfl rfl (rest := []) rfl (Nat.le_of_ble_eq_true rfl) [(b, .inr (5, [.ref a, .ref h, .ref sa, .int tk, .ref pa, .ref ta])), (a, .inr (3, [.ref v, .ref m, .int w, .int o, .int t])), (v, .inl (U.2.2.1 0, 6, .inl f)), (m, .inr (1, [.int sl, .int bp, .int mw, .int mc, .int hi, .int lo, .int ex]))] [0, 1, 2] [3] [1, 2, 3, 0] (wr := [(m, .inr (1, [.int sl, .int bp, .int mw, .int mc, .int hi, .int lo, .int ex]))]) rfl rfl rfl rfl (by decide) rfl rfl  dL_holds_51 ⟨Nat.le_of_ble_eq_true rfl, Nat.le_of_ble_eq_true rfl⟩ [.int ((valF f p0) * (valF f p1))] rfl ?_
  refine J_iload C dL_holds_54 rfl ?_
  refine J_icmp_ne C 106 dL_holds_56 (by decide) (fun h => absurd h (fun hh => hh rfl)) (fun _ => ?_)
  refine J_aload_n C dL_holds_59 rfl rfl ?_
  refine J_iload_n C dL_holds_60 rfl rfl ?_
  refine J_iload_n C dL_holds_61 rfl rfl ?_
  refine J_iconst C (v := (2 : Int32)) dL_holds_62 (by decide) ?_
  refine J_callV C (c_X5_productByRows_eq2 U b a h sa pa ta tk v m f w o t p0 p1 W v_1 v_2 hJ) gL_holds_X5_productByRows (n := 3) rfl rfl rfl (by decide +kernel) ⟨Nat.le_of_ble_eq_true rfl, Nat.le_of_ble_eq_true rfl⟩ 0 rfl rfl rfl (rest := []) rfl (Nat.le_of_ble_eq_true rfl) [(b, .inr (5, [.ref a, .ref h, .ref sa, .int tk, .ref pa, .ref ta])), (a, .inr (3, [.ref v, .ref m, .int w, .int o, .int t])), (v, .inl (U.2.2.1 0, 6, .inl f)), (m, .inr (1, [.int sl, .int bp, .int mw, .int mc, .int hi, .int lo, .int ex]))] [0, 1, 2] [3] [1, 2, 3, 0] (wr := [(m, .inr (1, [.int sl, .int bp, .int mw, .int mc, .int hi, .int lo, .int ex]))]) rfl rfl rfl rfl (by decide) rfl rfl  dL_holds_63 ⟨Nat.le_of_ble_eq_true rfl, Nat.le_of_ble_eq_true rfl⟩ [.int ((valF f p0) * (valF f p1))] rfl ?_
  refine J_iload C dL_holds_66 rfl ?_
  refine J_icmp_ne C 106 dL_holds_68 (by decide) (fun h => absurd h (fun hh => hh rfl)) (fun _ => ?_)
  refine J_iload_n C dL_holds_71 rfl rfl ?_
  refine J_iconst C (v := (2 : Int32)) dL_holds_72 (by decide) ?_
  refine J_irem C (v := rem2 w) dL_holds_73 (by decide) rfl ?_
  refine J_iconst C (v := (1 : Int32)) dL_holds_74 (by decide) ?_
  refine J_icmp_eq C 102 dL_holds_75 (by decide) (fun h => absurd h e1) (fun _ => ?_)
  refine J_aload_n C dL_holds_78 rfl rfl ?_
  refine J_iload_n C dL_holds_79 rfl rfl ?_
  refine J_iload_n C dL_holds_80 rfl rfl ?_
  refine J_iconst C (v := (1 : Int32)) dL_holds_81 (by decide) ?_
  refine J_callV C (c_X5_productByRows_eq1 U b a h sa pa ta tk v m f w o t p0 p1 W v_1 v_2 hev hJ) gL_holds_X5_productByRows (n := 3) rfl rfl rfl (by decide +kernel) ⟨Nat.le_of_ble_eq_true rfl, Nat.le_of_ble_eq_true rfl⟩ 0 rfl rfl rfl (rest := []) rfl (Nat.le_of_ble_eq_true rfl) [(b, .inr (5, [.ref a, .ref h, .ref sa, .int tk, .ref pa, .ref ta])), (a, .inr (3, [.ref v, .ref m, .int w, .int o, .int t])), (v, .inl (U.2.2.1 0, 6, .inl f)), (m, .inr (1, [.int sl, .int bp, .int mw, .int mc, .int hi, .int lo, .int ex]))] [0, 1, 2] [3] [1, 2, 3, 0] (wr := [(m, .inr (1, [.int sl, .int bp, .int mw, .int mc, .int hi, .int lo, .int ex]))]) rfl rfl rfl rfl (by decide) rfl rfl  dL_holds_82 ⟨Nat.le_of_ble_eq_true rfl, Nat.le_of_ble_eq_true rfl⟩ [.int ((valF f p0) * (valF f p1))] rfl ?_
  refine J_iload C dL_holds_85 rfl ?_
  refine J_icmp_ne C 106 dL_holds_87 (by decide) (fun h => absurd h (fun hh => hh rfl)) (fun _ => ?_)
  refine J_aload_n C dL_holds_90 rfl rfl ?_
  refine J_iload_n C dL_holds_91 rfl rfl ?_
  refine J_iconst C (v := (1 : Int32)) dL_holds_92 (by decide) ?_
  refine J_callV C (c_X5_rowsOf_eq1 U b a h sa pa ta tk v m f w o t p1 W v_2 hev hJ) gL_holds_X5_rowsOf (n := 2) rfl rfl rfl (by decide +kernel) ⟨Nat.le_of_ble_eq_true rfl, Nat.le_of_ble_eq_true rfl⟩ 0 rfl rfl rfl (rest := []) rfl (Nat.le_of_ble_eq_true rfl) [(b, .inr (5, [.ref a, .ref h, .ref sa, .int tk, .ref pa, .ref ta])), (a, .inr (3, [.ref v, .ref m, .int w, .int o, .int t])), (v, .inl (U.2.2.1 0, 6, .inl f)), (m, .inr (1, [.int sl, .int bp, .int mw, .int mc, .int hi, .int lo, .int ex]))] [0, 1, 2] [3] [1, 2, 3, 0] (wr := [(m, .inr (1, [.int sl, .int bp, .int mw, .int mc, .int hi, .int lo, .int ex]))]) rfl rfl rfl rfl (by decide) rfl rfl  dL_holds_93 ⟨Nat.le_of_ble_eq_true rfl, Nat.le_of_ble_eq_true rfl⟩ [.int (nI (nzF (valF f p1) 1 (W / 2)))] rfl ?_
  refine J_iload_n C dL_holds_96 rfl rfl ?_
  refine J_iconst C (v := (2 : Int32)) dL_holds_97 (by decide) ?_
  refine J_idiv C (v := w / (2 : Int32)) dL_holds_98 (by decide) rfl ?_
  refine J_icmp_gt C 106 dL_holds_99 (by decide) (fun h => absurd h w1) (fun _ => ?_)
  refine J_iconst C (v := (1 : Int32)) dL_holds_102 (by decide) ?_
  refine J_goto C 107 dL_holds_103 (by decide) ?_
  refine J_istore C [some (.ref b), some (.int p0), some (.int p1), some (.int w), some (.int ((valF f p0) * (valF f p1))), some (.int ((1 : Int32) <<< ((w - (1 : Int32)) &&& 31))), some (.int (1 : Int32))] dL_holds_107 (hN 6 (by decide)) rfl rfl ?_
  refine J_iload C dL_holds_109 rfl ?_
  refine J_if_eq C 239 dL_holds_111 (by decide) (fun h => absurd h (by decide)) (fun _ => ?_)
  refine J_aload_n C dL_holds_114 rfl rfl ?_
  refine J_iload_n C dL_holds_115 rfl rfl ?_
  refine J_callV C (c_X5_valueOf_ok U b a h sa pa ta tk v m f w o t p0 v_1) gL_holds_X5_valueOf (n := 1) rfl rfl rfl (by decide +kernel) ⟨Nat.le_of_ble_eq_true rfl, Nat.le_of_ble_eq_true rfl⟩ 0 rfl rfl rfl (rest := []) rfl (Nat.le_of_ble_eq_true rfl) [(b, .inr (5, [.ref a, .ref h, .ref sa, .int tk, .ref pa, .ref ta])), (a, .inr (3, [.ref v, .ref m, .int w, .int o, .int t])), (v, .inl (U.2.2.1 0, 6, .inl f)), (m, .inr (1, [.int sl, .int bp, .int mw, .int mc, .int hi, .int lo, .int ex]))] [0, 1, 2] [3] [1, 2, 3, 0] (wr := [(m, .inr (1, [.int sl, .int bp, .int mw, .int mc, .int hi, .int lo, .int ex]))]) rfl rfl rfl rfl (by decide) rfl rfl  dL_holds_116 ⟨Nat.le_of_ble_eq_true rfl, Nat.le_of_ble_eq_true rfl⟩ [.int (valF f p0)] rfl ?_
  refine J_iload C dL_holds_119 rfl ?_
  refine J_ineg C dL_holds_121 rfl ?_
  refine J_icmp_lt C 239 dL_holds_122 (by decide) (fun h => absurd h l1) (fun _ => ?_)
  refine J_aload_n C dL_holds_125 rfl rfl ?_
  refine J_iload_n C dL_holds_126 rfl rfl ?_
  refine J_callV C (c_X5_valueOf_ok U b a h sa pa ta tk v m f w o t p0 v_1) gL_holds_X5_valueOf (n := 1) rfl rfl rfl (by decide +kernel) ⟨Nat.le_of_ble_eq_true rfl, Nat.le_of_ble_eq_true rfl⟩ 0 rfl rfl rfl (rest := []) rfl (Nat.le_of_ble_eq_true rfl) [(b, .inr (5, [.ref a, .ref h, .ref sa, .int tk, .ref pa, .ref ta])), (a, .inr (3, [.ref v, .ref m, .int w, .int o, .int t])), (v, .inl (U.2.2.1 0, 6, .inl f)), (m, .inr (1, [.int sl, .int bp, .int mw, .int mc, .int hi, .int lo, .int ex]))] [0, 1, 2] [3] [1, 2, 3, 0] (wr := [(m, .inr (1, [.int sl, .int bp, .int mw, .int mc, .int hi, .int lo, .int ex]))]) rfl rfl rfl rfl (by decide) rfl rfl  dL_holds_127 ⟨Nat.le_of_ble_eq_true rfl, Nat.le_of_ble_eq_true rfl⟩ [.int (valF f p0)] rfl ?_
  refine J_iload C dL_holds_130 rfl ?_
  refine J_icmp_ge C 239 dL_holds_132 (by decide) (fun h => absurd h l2) (fun _ => ?_)
  refine J_aload_n C dL_holds_135 rfl rfl ?_
  refine J_iload_n C dL_holds_136 rfl rfl ?_
  refine J_iload_n C dL_holds_137 rfl rfl ?_
  refine J_callV C (c_X5_fits_ok U b a h sa pa ta tk v m f w o t p0 p1 v_1 v_2) gL_holds_X5_fits (n := 2) rfl rfl rfl (by decide +kernel) ⟨Nat.le_of_ble_eq_true rfl, Nat.le_of_ble_eq_true rfl⟩ 0 rfl rfl rfl (rest := []) rfl (Nat.le_of_ble_eq_true rfl) [(b, .inr (5, [.ref a, .ref h, .ref sa, .int tk, .ref pa, .ref ta])), (a, .inr (3, [.ref v, .ref m, .int w, .int o, .int t])), (v, .inl (U.2.2.1 0, 6, .inl f)), (m, .inr (1, [.int sl, .int bp, .int mw, .int mc, .int hi, .int lo, .int ex]))] [0, 1, 2] [3] [1, 2, 3, 0] (wr := [(m, .inr (1, [.int sl, .int bp, .int mw, .int mc, .int hi, .int lo, .int ex]))]) rfl rfl rfl rfl (by decide) rfl rfl  dL_holds_138 ⟨Nat.le_of_ble_eq_true rfl, Nat.le_of_ble_eq_true rfl⟩ [.int (b2i (wrapF w (valF f p0 * valF f p1) = (valF f p0 * valF f p1)))] rfl ?_
  refine J_iload C dL_holds_141 rfl ?_
  refine J_iload C dL_holds_143 rfl ?_
  refine J_ineg C dL_holds_145 rfl ?_
  refine J_icmp_lt C 160 dL_holds_146 (by decide) (fun _ => ?_) (fun h => absurd d1 h)
  refine J_iconst C (v := (0 : Int32)) dL_holds_160 (by decide) ?_
  refine J_icmp_ne C 239 dL_holds_161 (by decide) (fun h => absurd h (fun hh => hh ft)) (fun _ => ?_)
  refine J_aload_n C dL_holds_164 rfl rfl ?_
  refine J_iload_n C dL_holds_165 rfl rfl ?_
  refine J_iload_n C dL_holds_166 rfl rfl ?_
  refine J_callV C (c_X5_carries_eq U b a h sa pa ta tk v m f w o t p0 p1 W v_1 v_2 hJ) gL_holds_X5_carries (n := 2) rfl rfl rfl (by decide +kernel) ⟨Nat.le_of_ble_eq_true rfl, Nat.le_of_ble_eq_true rfl⟩ 0 rfl rfl rfl (rest := []) rfl (Nat.le_of_ble_eq_true rfl) [(b, .inr (5, [.ref a, .ref h, .ref sa, .int tk, .ref pa, .ref ta])), (a, .inr (3, [.ref v, .ref m, .int w, .int o, .int t])), (v, .inl (U.2.2.1 0, 6, .inl f)), (m, .inr (1, [.int sl, .int bp, .int mw, .int mc, .int hi, .int lo, .int ex]))] [0, 1, 2] [3] [1, 2, 3, 0] (wr := [(m, .inr (1, [.int sl, .int bp, .int mw, .int mc, .int hi, .int lo, .int ex]))]) rfl rfl rfl rfl (by decide) rfl rfl  dL_holds_167 ⟨Nat.le_of_ble_eq_true rfl, Nat.le_of_ble_eq_true rfl⟩ [.int (nI (crN W (valF f p0) (valF f p1)))] rfl ?_
  refine J_aload_n C dL_holds_170 rfl rfl ?_
  refine J_iload_n C dL_holds_171 rfl rfl ?_
  refine J_iload_n C dL_holds_172 rfl rfl ?_
  refine J_callV C (c_X5_carries_eq U b a h sa pa ta tk v m f w o t p1 p0 W v_2 v_1 hJ) gL_holds_X5_carries (n := 2) rfl rfl rfl (by decide +kernel) ⟨Nat.le_of_ble_eq_true rfl, Nat.le_of_ble_eq_true rfl⟩ 0 rfl rfl rfl (rest := [.int (nI (crN W (valF f p0) (valF f p1)))]) rfl (Nat.le_of_ble_eq_true rfl) [(b, .inr (5, [.ref a, .ref h, .ref sa, .int tk, .ref pa, .ref ta])), (a, .inr (3, [.ref v, .ref m, .int w, .int o, .int t])), (v, .inl (U.2.2.1 0, 6, .inl f)), (m, .inr (1, [.int sl, .int bp, .int mw, .int mc, .int hi, .int lo, .int ex]))] [0, 1, 2] [3] [1, 2, 3, 0] (wr := [(m, .inr (1, [.int sl, .int bp, .int mw, .int mc, .int hi, .int lo, .int ex]))]) rfl rfl rfl rfl (by decide) rfl rfl  dL_holds_173 ⟨Nat.le_of_ble_eq_true rfl, Nat.le_of_ble_eq_true rfl⟩ [.int (nI (crN W (valF f p1) (valF f p0))), .int (nI (crN W (valF f p0) (valF f p1)))] rfl ?_
  refine J_icmp_ne C 239 dL_holds_176 (by decide) (fun h => absurd h (fun hh => hh c1)) (fun _ => ?_)
  refine J_aload_n C dL_holds_179 rfl rfl ?_
  refine J_iload_n C dL_holds_180 rfl rfl ?_
  refine J_iload_n C dL_holds_181 rfl rfl ?_
  refine J_callV C (c_X5_longestRun_eq U b a h sa pa ta tk v m f w o t p0 p1 W v_1 v_2 hJ) gL_holds_X5_longestRun (n := 2) rfl rfl rfl (by decide +kernel) ⟨Nat.le_of_ble_eq_true rfl, Nat.le_of_ble_eq_true rfl⟩ 0 rfl rfl rfl (rest := []) rfl (Nat.le_of_ble_eq_true rfl) [(b, .inr (5, [.ref a, .ref h, .ref sa, .int tk, .ref pa, .ref ta])), (a, .inr (3, [.ref v, .ref m, .int w, .int o, .int t])), (v, .inl (U.2.2.1 0, 6, .inl f)), (m, .inr (1, [.int sl, .int bp, .int mw, .int mc, .int hi, .int lo, .int ex]))] [0, 1, 2] [3] [1, 2, 3, 0] (wr := [(m, .inr (1, [.int sl, .int bp, .int mw, .int mc, .int hi, .int lo, .int ex]))]) rfl rfl rfl rfl (by decide) rfl rfl  dL_holds_182 ⟨Nat.le_of_ble_eq_true rfl, Nat.le_of_ble_eq_true rfl⟩ [.int (nI (lrN W (valF f p0) (valF f p1)))] rfl ?_
  refine J_aload_n C dL_holds_185 rfl rfl ?_
  refine J_iload_n C dL_holds_186 rfl rfl ?_
  refine J_iload_n C dL_holds_187 rfl rfl ?_
  refine J_callV C (c_X5_carries_eq U b a h sa pa ta tk v m f w o t p0 p1 W v_1 v_2 hJ) gL_holds_X5_carries (n := 2) rfl rfl rfl (by decide +kernel) ⟨Nat.le_of_ble_eq_true rfl, Nat.le_of_ble_eq_true rfl⟩ 0 rfl rfl rfl (rest := [.int (nI (lrN W (valF f p0) (valF f p1)))]) rfl (Nat.le_of_ble_eq_true rfl) [(b, .inr (5, [.ref a, .ref h, .ref sa, .int tk, .ref pa, .ref ta])), (a, .inr (3, [.ref v, .ref m, .int w, .int o, .int t])), (v, .inl (U.2.2.1 0, 6, .inl f)), (m, .inr (1, [.int sl, .int bp, .int mw, .int mc, .int hi, .int lo, .int ex]))] [0, 1, 2] [3] [1, 2, 3, 0] (wr := [(m, .inr (1, [.int sl, .int bp, .int mw, .int mc, .int hi, .int lo, .int ex]))]) rfl rfl rfl rfl (by decide) rfl rfl  dL_holds_188 ⟨Nat.le_of_ble_eq_true rfl, Nat.le_of_ble_eq_true rfl⟩ [.int (nI (crN W (valF f p0) (valF f p1))), .int (nI (lrN W (valF f p0) (valF f p1)))] rfl ?_
  refine J_icmp_gt C 239 dL_holds_191 (by decide) (fun h => absurd h c2) (fun _ => ?_)
  refine J_aload_n C dL_holds_194 rfl rfl ?_
  refine J_iload_n C dL_holds_195 rfl rfl ?_
  refine J_iload_n C dL_holds_196 rfl rfl ?_
  refine J_callV C (c_X5_longestRun_eq U b a h sa pa ta tk v m f w o t p0 p1 W v_1 v_2 hJ) gL_holds_X5_longestRun (n := 2) rfl rfl rfl (by decide +kernel) ⟨Nat.le_of_ble_eq_true rfl, Nat.le_of_ble_eq_true rfl⟩ 0 rfl rfl rfl (rest := []) rfl (Nat.le_of_ble_eq_true rfl) [(b, .inr (5, [.ref a, .ref h, .ref sa, .int tk, .ref pa, .ref ta])), (a, .inr (3, [.ref v, .ref m, .int w, .int o, .int t])), (v, .inl (U.2.2.1 0, 6, .inl f)), (m, .inr (1, [.int sl, .int bp, .int mw, .int mc, .int hi, .int lo, .int ex]))] [0, 1, 2] [3] [1, 2, 3, 0] (wr := [(m, .inr (1, [.int sl, .int bp, .int mw, .int mc, .int hi, .int lo, .int ex]))]) rfl rfl rfl rfl (by decide) rfl rfl  dL_holds_197 ⟨Nat.le_of_ble_eq_true rfl, Nat.le_of_ble_eq_true rfl⟩ [.int (nI (lrN W (valF f p0) (valF f p1)))] rfl ?_
  refine J_if_ne C 207 dL_holds_200 (by decide) (fun _ => ?_) (fun h => absurd h z1)
  refine J_iconst C (v := (0 : Int32)) dL_holds_207 (by decide) ?_
  refine J_aload_n C dL_holds_208 rfl rfl ?_
  refine J_iload_n C dL_holds_209 rfl rfl ?_
  refine J_iload_n C dL_holds_210 rfl rfl ?_
  refine J_callV C (c_X5_carries_eq U b a h sa pa ta tk v m f w o t p0 p1 W v_1 v_2 hJ) gL_holds_X5_carries (n := 2) rfl rfl rfl (by decide +kernel) ⟨Nat.le_of_ble_eq_true rfl, Nat.le_of_ble_eq_true rfl⟩ 0 rfl rfl rfl (rest := [.int (0 : Int32)]) rfl (Nat.le_of_ble_eq_true rfl) [(b, .inr (5, [.ref a, .ref h, .ref sa, .int tk, .ref pa, .ref ta])), (a, .inr (3, [.ref v, .ref m, .int w, .int o, .int t])), (v, .inl (U.2.2.1 0, 6, .inl f)), (m, .inr (1, [.int sl, .int bp, .int mw, .int mc, .int hi, .int lo, .int ex]))] [0, 1, 2] [3] [1, 2, 3, 0] (wr := [(m, .inr (1, [.int sl, .int bp, .int mw, .int mc, .int hi, .int lo, .int ex]))]) rfl rfl rfl rfl (by decide) rfl rfl  dL_holds_211 ⟨Nat.le_of_ble_eq_true rfl, Nat.le_of_ble_eq_true rfl⟩ [.int (nI (crN W (valF f p0) (valF f p1))), .int (0 : Int32)] rfl ?_
  refine J_if_ne C 221 dL_holds_214 (by decide) (fun _ => ?_) (fun h => absurd h z2)
  refine J_iconst C (v := (0 : Int32)) dL_holds_221 (by decide) ?_
  refine J_icmp_ne C 239 dL_holds_222 (by decide) (fun h => absurd (by decide) h) (fun _ => ?_)
  refine J_aload_n C dL_holds_225 rfl rfl ?_
  refine J_iload_n C dL_holds_226 rfl rfl ?_
  refine J_iload_n C dL_holds_227 rfl rfl ?_
  refine J_callV C (c_X5_carries_eq U b a h sa pa ta tk v m f w o t p0 p1 W v_1 v_2 hJ) gL_holds_X5_carries (n := 2) rfl rfl rfl (by decide +kernel) ⟨Nat.le_of_ble_eq_true rfl, Nat.le_of_ble_eq_true rfl⟩ 0 rfl rfl rfl (rest := []) rfl (Nat.le_of_ble_eq_true rfl) [(b, .inr (5, [.ref a, .ref h, .ref sa, .int tk, .ref pa, .ref ta])), (a, .inr (3, [.ref v, .ref m, .int w, .int o, .int t])), (v, .inl (U.2.2.1 0, 6, .inl f)), (m, .inr (1, [.int sl, .int bp, .int mw, .int mc, .int hi, .int lo, .int ex]))] [0, 1, 2] [3] [1, 2, 3, 0] (wr := [(m, .inr (1, [.int sl, .int bp, .int mw, .int mc, .int hi, .int lo, .int ex]))]) rfl rfl rfl rfl (by decide) rfl rfl  dL_holds_228 ⟨Nat.le_of_ble_eq_true rfl, Nat.le_of_ble_eq_true rfl⟩ [.int (nI (crN W (valF f p0) (valF f p1)))] rfl ?_
  refine J_iload_n C dL_holds_231 rfl rfl ?_
  refine J_icmp_gt C 239 dL_holds_232 (by decide) (fun h => absurd h c3) (fun _ => ?_)
  refine J_iconst C (v := (1 : Int32)) dL_holds_235 (by decide) ?_
  refine J_goto C 240 dL_holds_236 (by decide) ?_
  refine J_istore C [some (.ref b), some (.int p0), some (.int p1), some (.int w), some (.int ((valF f p0) * (valF f p1))), some (.int ((1 : Int32) <<< ((w - (1 : Int32)) &&& 31))), some (.int (1 : Int32))] dL_holds_240 (hN 6 (by decide)) rfl rfl ?_
  refine J_iload C dL_holds_242 rfl ?_
  refine J_if_eq C 282 dL_holds_244 (by decide) (fun h => absurd h (by decide)) (fun _ => ?_)
  refine J_aload_n C dL_holds_247 rfl rfl ?_
  refine J_iload_n C dL_holds_248 rfl rfl ?_
  refine J_iconst C (v := (2 : Int32)) dL_holds_249 (by decide) ?_
  refine J_callV C (c_X5_rowsOf_eq2 U b a h sa pa ta tk v m f w o t p0 W v_1 hJ) gL_holds_X5_rowsOf (n := 2) rfl rfl rfl (by decide +kernel) ⟨Nat.le_of_ble_eq_true rfl, Nat.le_of_ble_eq_true rfl⟩ 0 rfl rfl rfl (rest := []) rfl (Nat.le_of_ble_eq_true rfl) [(b, .inr (5, [.ref a, .ref h, .ref sa, .int tk, .ref pa, .ref ta])), (a, .inr (3, [.ref v, .ref m, .int w, .int o, .int t])), (v, .inl (U.2.2.1 0, 6, .inl f)), (m, .inr (1, [.int sl, .int bp, .int mw, .int mc, .int hi, .int lo, .int ex]))] [0, 1, 2] [3] [1, 2, 3, 0] (wr := [(m, .inr (1, [.int sl, .int bp, .int mw, .int mc, .int hi, .int lo, .int ex]))]) rfl rfl rfl rfl (by decide) rfl rfl  dL_holds_250 ⟨Nat.le_of_ble_eq_true rfl, Nat.le_of_ble_eq_true rfl⟩ [.int (nI (nzF (valF f p0) 2 W))] rfl ?_
  refine J_aload_n C dL_holds_253 rfl rfl ?_
  refine J_iload_n C dL_holds_254 rfl rfl ?_
  refine J_iconst C (v := (0 : Int32)) dL_holds_255 (by decide) ?_
  refine J_callV C (c_X5_rowsOf_eq0 U b a h sa pa ta tk v m f w o t p0 W v_1 hJ) gL_holds_X5_rowsOf (n := 2) rfl rfl rfl (by decide +kernel) ⟨Nat.le_of_ble_eq_true rfl, Nat.le_of_ble_eq_true rfl⟩ 0 rfl rfl rfl (rest := [.int (nI (nzF (valF f p0) 2 W))]) rfl (Nat.le_of_ble_eq_true rfl) [(b, .inr (5, [.ref a, .ref h, .ref sa, .int tk, .ref pa, .ref ta])), (a, .inr (3, [.ref v, .ref m, .int w, .int o, .int t])), (v, .inl (U.2.2.1 0, 6, .inl f)), (m, .inr (1, [.int sl, .int bp, .int mw, .int mc, .int hi, .int lo, .int ex]))] [0, 1, 2] [3] [1, 2, 3, 0] (wr := [(m, .inr (1, [.int sl, .int bp, .int mw, .int mc, .int hi, .int lo, .int ex]))]) rfl rfl rfl rfl (by decide) rfl rfl  dL_holds_256 ⟨Nat.le_of_ble_eq_true rfl, Nat.le_of_ble_eq_true rfl⟩ [.int (nI (nzF (valF f p0) 0 W)), .int (nI (nzF (valF f p0) 2 W))] rfl ?_
  refine J_icmp_gt C 282 dL_holds_259 (by decide) (fun h => absurd h s1) (fun _ => ?_)
  refine J_aload_n C dL_holds_262 rfl rfl ?_
  refine J_iload_n C dL_holds_263 rfl rfl ?_
  refine J_iconst C (v := (2 : Int32)) dL_holds_264 (by decide) ?_
  refine J_callV C (c_X5_rowsOf_eq2 U b a h sa pa ta tk v m f w o t p0 W v_1 hJ) gL_holds_X5_rowsOf (n := 2) rfl rfl rfl (by decide +kernel) ⟨Nat.le_of_ble_eq_true rfl, Nat.le_of_ble_eq_true rfl⟩ 0 rfl rfl rfl (rest := []) rfl (Nat.le_of_ble_eq_true rfl) [(b, .inr (5, [.ref a, .ref h, .ref sa, .int tk, .ref pa, .ref ta])), (a, .inr (3, [.ref v, .ref m, .int w, .int o, .int t])), (v, .inl (U.2.2.1 0, 6, .inl f)), (m, .inr (1, [.int sl, .int bp, .int mw, .int mc, .int hi, .int lo, .int ex]))] [0, 1, 2] [3] [1, 2, 3, 0] (wr := [(m, .inr (1, [.int sl, .int bp, .int mw, .int mc, .int hi, .int lo, .int ex]))]) rfl rfl rfl rfl (by decide) rfl rfl  dL_holds_265 ⟨Nat.le_of_ble_eq_true rfl, Nat.le_of_ble_eq_true rfl⟩ [.int (nI (nzF (valF f p0) 2 W))] rfl ?_
  refine J_aload_n C dL_holds_268 rfl rfl ?_
  refine J_iload_n C dL_holds_269 rfl rfl ?_
  refine J_callV C (c_X5_onesOf_eq U b a h sa pa ta tk v m f w o t p0 W v_1 hJ) gL_holds_X5_onesOf (n := 1) rfl rfl rfl (by decide +kernel) ⟨Nat.le_of_ble_eq_true rfl, Nat.le_of_ble_eq_true rfl⟩ 0 rfl rfl rfl (rest := [.int (nI (nzF (valF f p0) 2 W))]) rfl (Nat.le_of_ble_eq_true rfl) [(b, .inr (5, [.ref a, .ref h, .ref sa, .int tk, .ref pa, .ref ta])), (a, .inr (3, [.ref v, .ref m, .int w, .int o, .int t])), (v, .inl (U.2.2.1 0, 6, .inl f)), (m, .inr (1, [.int sl, .int bp, .int mw, .int mc, .int hi, .int lo, .int ex]))] [0, 1, 2] [3] [1, 2, 3, 0] (wr := [(m, .inr (1, [.int sl, .int bp, .int mw, .int mc, .int hi, .int lo, .int ex]))]) rfl rfl rfl rfl (by decide) rfl rfl  dL_holds_270 ⟨Nat.le_of_ble_eq_true rfl, Nat.le_of_ble_eq_true rfl⟩ [.int (nI (pcN W (tn (valF f p0)))), .int (nI (nzF (valF f p0) 2 W))] rfl ?_
  refine J_iconst C (v := (1 : Int32)) dL_holds_273 (by decide) ?_
  refine J_iadd C (v := (nI (pcN W (tn (valF f p0)))) + (1 : Int32)) dL_holds_274 rfl ?_
  refine J_icmp_gt C 282 dL_holds_275 (by decide) (fun h => absurd h s2) (fun _ => ?_)
  refine J_iconst C (v := (1 : Int32)) dL_holds_278 (by decide) ?_
  refine J_goto C 283 dL_holds_279 (by decide) ?_
  refine J_istore C [some (.ref b), some (.int p0), some (.int p1), some (.int w), some (.int ((valF f p0) * (valF f p1))), some (.int ((1 : Int32) <<< ((w - (1 : Int32)) &&& 31))), some (.int (1 : Int32))] dL_holds_283 (hN 6 (by decide)) rfl rfl ?_
  refine J_aload_n C dL_holds_285 rfl rfl ?_
  refine J_callV C (c_X5_stepsLeft U b a h sa pa ta tk v m w o t sl bp mw mc hi lo ex ) gL_holds_X5_stepsLeft (n := 0) rfl rfl rfl (by decide +kernel) ⟨Nat.le_of_ble_eq_true rfl, Nat.le_of_ble_eq_true rfl⟩ 0 rfl rfl rfl (rest := []) rfl (Nat.le_of_ble_eq_true rfl) [(b, .inr (5, [.ref a, .ref h, .ref sa, .int tk, .ref pa, .ref ta])), (a, .inr (3, [.ref v, .ref m, .int w, .int o, .int t])), (v, .inl (U.2.2.1 0, 6, .inl f)), (m, .inr (1, [.int sl, .int bp, .int mw, .int mc, .int hi, .int lo, .int ex]))] [0, 1, 3] [2] [1, 2, 0, 3] (wr := [(v, .inl (U.2.2.1 0, 6, .inl f))]) rfl rfl rfl rfl (by decide) rfl rfl  dL_holds_286 ⟨Nat.le_of_ble_eq_true rfl, Nat.le_of_ble_eq_true rfl⟩ [.int sl] rfl ?_
  refine J_if_lt C 337 dL_holds_289 (by decide) (fun _ => ?_) (fun h => absurd h1 h)
  refine J_iload C dL_holds_337 rfl ?_
  refine J_if_eq C 363 dL_holds_339 (by decide) (fun h => absurd h (by decide)) (fun _ => ?_)
  refine J_aload_n C dL_holds_342 rfl rfl ?_
  refine J_callV C (c_X5_stepsLeft U b a h sa pa ta tk v m w o t sl bp mw mc hi lo ex ) gL_holds_X5_stepsLeft (n := 0) rfl rfl rfl (by decide +kernel) ⟨Nat.le_of_ble_eq_true rfl, Nat.le_of_ble_eq_true rfl⟩ 0 rfl rfl rfl (rest := []) rfl (Nat.le_of_ble_eq_true rfl) [(b, .inr (5, [.ref a, .ref h, .ref sa, .int tk, .ref pa, .ref ta])), (a, .inr (3, [.ref v, .ref m, .int w, .int o, .int t])), (v, .inl (U.2.2.1 0, 6, .inl f)), (m, .inr (1, [.int sl, .int bp, .int mw, .int mc, .int hi, .int lo, .int ex]))] [0, 1, 3] [2] [1, 2, 0, 3] (wr := [(v, .inl (U.2.2.1 0, 6, .inl f))]) rfl rfl rfl rfl (by decide) rfl rfl  dL_holds_343 ⟨Nat.le_of_ble_eq_true rfl, Nat.le_of_ble_eq_true rfl⟩ [.int sl] rfl ?_
  refine J_iconst C (v := (-1 : Int32)) dL_holds_346 (by decide) ?_
  refine J_icmp_lt C 363 dL_holds_347 (by decide) (fun h => absurd h t1) (fun _ => ?_)
  refine J_aload_n C dL_holds_350 rfl rfl ?_
  refine J_callV C (c_X5_stepsLeft U b a h sa pa ta tk v m w o t sl bp mw mc hi lo ex ) gL_holds_X5_stepsLeft (n := 0) rfl rfl rfl (by decide +kernel) ⟨Nat.le_of_ble_eq_true rfl, Nat.le_of_ble_eq_true rfl⟩ 0 rfl rfl rfl (rest := []) rfl (Nat.le_of_ble_eq_true rfl) [(b, .inr (5, [.ref a, .ref h, .ref sa, .int tk, .ref pa, .ref ta])), (a, .inr (3, [.ref v, .ref m, .int w, .int o, .int t])), (v, .inl (U.2.2.1 0, 6, .inl f)), (m, .inr (1, [.int sl, .int bp, .int mw, .int mc, .int hi, .int lo, .int ex]))] [0, 1, 3] [2] [1, 2, 0, 3] (wr := [(v, .inl (U.2.2.1 0, 6, .inl f))]) rfl rfl rfl rfl (by decide) rfl rfl  dL_holds_351 ⟨Nat.le_of_ble_eq_true rfl, Nat.le_of_ble_eq_true rfl⟩ [.int sl] rfl ?_
  refine J_bipush C (v := (16 : Int32)) dL_holds_354 (by decide) ?_
  refine J_icmp_gt C 363 dL_holds_356 (by decide) (fun h => absurd h t2) (fun _ => ?_)
  refine J_iconst C (v := (1 : Int32)) dL_holds_359 (by decide) ?_
  refine J_goto C 364 dL_holds_360 (by decide) ?_
  exact J_zret C R rfl dL_holds_364 (Nat.le_of_ble_eq_true rfl) (Nat.le_of_ble_eq_true rfl) rfl rfl
set_option maxHeartbeats 4000000 in
set_option maxRecDepth 100000 in
theorem c_L_holds_ebyp (U : jU) (b a h sa pa ta : Nat) (tk : Int32) (v m : Nat) (f : Nat → Int32) (w o t sl bp mw mc hi lo ex : Int32) (p0 p1 : Int32) (W : Nat) (v_1 : isReg p0) (v_2 : isReg p1) (hJ : jW W w f) (ymc : (valF f p1) * (valF f p0) = ((valF f p0) * (valF f p1))) (l1 : ¬ (valF f p0) < -((1 : Int32) <<< ((w - (1 : Int32)) &&& 31))) (l2 : ¬ ((1 : Int32) <<< ((w - (1 : Int32)) &&& 31)) ≤ (valF f p0)) (c1 : nI (crN W (valF f p0) (valF f p1)) = nI (crN W (valF f p1) (valF f p0))) (c2 : ¬ nI (crN W (valF f p0) (valF f p1)) < nI (lrN W (valF f p0) (valF f p1))) (c3 : ¬ w < nI (crN W (valF f p0) (valF f p1))) (s1 : ¬ nI (nzF (valF f p0) 0 W) < nI (nzF (valF f p0) 2 W)) (s2 : ¬ (nI (pcN W (tn (valF f p0))) + (1 : Int32)) < nI (nzF (valF f p0) 2 W)) (t1 : ¬ sl < -1) (t2 : ¬ 16 < sl) (e1 : ¬ rem2 w = 1) (hev : W % 2 = 0) (w1 : ¬ w / 2 < nI (nzF (valF f p1) 1 (W / 2))) (ft : b2i (wrapF w ((valF f p0) * (valF f p1)) = ((valF f p0) * (valF f p1))) = 0) (d1 : ((valF f p0) * (valF f p1)) < -((1 : Int32) <<< ((w - (1 : Int32)) &&& 31))) (z1 : ¬ nI (lrN W (valF f p0) (valF f p1)) = 0) (z2 : ¬ nI (crN W (valF f p0) (valF f p1)) = 0) (h1 : ¬ sl < 0) (h2 : ¬ sl = -1) (h3 : ¬ lo < 0) (h4 : ¬ ((2 : Int32) * ((1 : Int32) <<< ((w - (1 : Int32)) &&& 31))) ≤ lo) (hx : ex = 0 ∨ ex = 1) : Fn U yL_holds wsL_holds { frames := 8, cells := 0, slots := 0, locals := 137 } [.ref b, .int p0, .int p1] [(b, .inr (5, [.ref a, .ref h, .ref sa, .int tk, .ref pa, .ref ta])), (a, .inr (3, [.ref v, .ref m, .int w, .int o, .int t])), (v, .inl (U.2.2.1 0, 6, .inl f)), (m, .inr (1, [.int sl, .int bp, .int mw, .int mc, .int hi, .int lo, .int ex]))] (some (.int (1 : Int32))) [(b, .inr (5, [.ref a, .ref h, .ref sa, .int tk, .ref pa, .ref ta])), (a, .inr (3, [.ref v, .ref m, .int w, .int o, .int t])), (v, .inl (U.2.2.1 0, 6, .inl f)), (m, .inr (1, [.int sl, .int bp, .int mw, .int mc, .int hi, .int lo, .int ex]))] 0 0 := by
  refine Fn_of (cc := cL_holds) (maxL := 7) (ret := (some .boolean)) [some (.ref b), some (.int p0), some (.int p1), none, none, none, none] (by decide +kernel) rfl (jcat rfl) (Nat.le_of_ble_eq_true rfl) rfl (fun k C R hin hnL => ?_)
  have hN : ∀ i, i < 7 → i < k.2.2.2.2.2.2.2.2.2.2.2.1 := fun i h => by rw [hnL]; exact h
  refine J_aload_n C dL_holds_0 rfl rfl ?_
  refine J_callV C (c_X5_width U b a h sa pa ta tk v m w o t ) gL_holds_X5_width (n := 0) rfl rfl rfl (by decide +kernel) ⟨Nat.le_of_ble_eq_true rfl, Nat.le_of_ble_eq_true rfl⟩ 0 rfl rfl rfl (rest := []) rfl (Nat.le_of_ble_eq_true rfl) [(b, .inr (5, [.ref a, .ref h, .ref sa, .int tk, .ref pa, .ref ta])), (a, .inr (3, [.ref v, .ref m, .int w, .int o, .int t])), (v, .inl (U.2.2.1 0, 6, .inl f)), (m, .inr (1, [.int sl, .int bp, .int mw, .int mc, .int hi, .int lo, .int ex]))] [0, 1] [2, 3] [2, 3, 0, 1] (wr := [(v, .inl (U.2.2.1 0, 6, .inl f)), (m, .inr (1, [.int sl, .int bp, .int mw, .int mc, .int hi, .int lo, .int ex]))]) rfl rfl rfl rfl (by decide) rfl rfl  dL_holds_1 ⟨Nat.le_of_ble_eq_true rfl, Nat.le_of_ble_eq_true rfl⟩ [.int w] rfl ?_
  refine J_istore_n C [some (.ref b), some (.int p0), some (.int p1), some (.int w), none, none, none] dL_holds_4 rfl (hN 3 (by decide)) rfl rfl ?_
  refine J_aload_n C dL_holds_5 rfl rfl ?_
  refine J_iload_n C dL_holds_6 rfl rfl ?_
  refine J_callV C (c_X5_valueOf_ok U b a h sa pa ta tk v m f w o t p0 v_1) gL_holds_X5_valueOf (n := 1) rfl rfl rfl (by decide +kernel) ⟨Nat.le_of_ble_eq_true rfl, Nat.le_of_ble_eq_true rfl⟩ 0 rfl rfl rfl (rest := []) rfl (Nat.le_of_ble_eq_true rfl) [(b, .inr (5, [.ref a, .ref h, .ref sa, .int tk, .ref pa, .ref ta])), (a, .inr (3, [.ref v, .ref m, .int w, .int o, .int t])), (v, .inl (U.2.2.1 0, 6, .inl f)), (m, .inr (1, [.int sl, .int bp, .int mw, .int mc, .int hi, .int lo, .int ex]))] [0, 1, 2] [3] [1, 2, 3, 0] (wr := [(m, .inr (1, [.int sl, .int bp, .int mw, .int mc, .int hi, .int lo, .int ex]))]) rfl rfl rfl rfl (by decide) rfl rfl  dL_holds_7 ⟨Nat.le_of_ble_eq_true rfl, Nat.le_of_ble_eq_true rfl⟩ [.int (valF f p0)] rfl ?_
  refine J_aload_n C dL_holds_10 rfl rfl ?_
  refine J_iload_n C dL_holds_11 rfl rfl ?_
  refine J_callV C (c_X5_valueOf_ok U b a h sa pa ta tk v m f w o t p1 v_2) gL_holds_X5_valueOf (n := 1) rfl rfl rfl (by decide +kernel) ⟨Nat.le_of_ble_eq_true rfl, Nat.le_of_ble_eq_true rfl⟩ 0 rfl rfl rfl (rest := [.int (valF f p0)]) rfl (Nat.le_of_ble_eq_true rfl) [(b, .inr (5, [.ref a, .ref h, .ref sa, .int tk, .ref pa, .ref ta])), (a, .inr (3, [.ref v, .ref m, .int w, .int o, .int t])), (v, .inl (U.2.2.1 0, 6, .inl f)), (m, .inr (1, [.int sl, .int bp, .int mw, .int mc, .int hi, .int lo, .int ex]))] [0, 1, 2] [3] [1, 2, 3, 0] (wr := [(m, .inr (1, [.int sl, .int bp, .int mw, .int mc, .int hi, .int lo, .int ex]))]) rfl rfl rfl rfl (by decide) rfl rfl  dL_holds_12 ⟨Nat.le_of_ble_eq_true rfl, Nat.le_of_ble_eq_true rfl⟩ [.int (valF f p1), .int (valF f p0)] rfl ?_
  refine J_imul C (v := (valF f p0) * (valF f p1)) dL_holds_15 rfl ?_
  refine J_istore C [some (.ref b), some (.int p0), some (.int p1), some (.int w), some (.int ((valF f p0) * (valF f p1))), none, none] dL_holds_16 (hN 4 (by decide)) rfl rfl ?_
  refine J_iconst C (v := (1 : Int32)) dL_holds_18 (by decide) ?_
  refine J_iload_n C dL_holds_19 rfl rfl ?_
  refine J_iconst C (v := (1 : Int32)) dL_holds_20 (by decide) ?_
  refine J_isub C (v := w - (1 : Int32)) dL_holds_21 rfl ?_
  refine J_ishl C (v := (1 : Int32) <<< ((w - (1 : Int32)) &&& 31)) dL_holds_22 rfl ?_
  refine J_istore C [some (.ref b), some (.int p0), some (.int p1), some (.int w), some (.int ((valF f p0) * (valF f p1))), some (.int ((1 : Int32) <<< ((w - (1 : Int32)) &&& 31))), none] dL_holds_23 (hN 5 (by decide)) rfl rfl ?_
  refine J_aload_n C dL_holds_25 rfl rfl ?_
  refine J_iload_n C dL_holds_26 rfl rfl ?_
  refine J_iload_n C dL_holds_27 rfl rfl ?_
  refine J_callV C (c_X5_productByBits_eq U b a h sa pa ta tk v m f w o t p0 p1 W v_1 v_2 hJ) gL_holds_X5_productByBits (n := 2) rfl rfl rfl (by decide +kernel) ⟨Nat.le_of_ble_eq_true rfl, Nat.le_of_ble_eq_true rfl⟩ 0 rfl rfl rfl (rest := []) rfl (Nat.le_of_ble_eq_true rfl) [(b, .inr (5, [.ref a, .ref h, .ref sa, .int tk, .ref pa, .ref ta])), (a, .inr (3, [.ref v, .ref m, .int w, .int o, .int t])), (v, .inl (U.2.2.1 0, 6, .inl f)), (m, .inr (1, [.int sl, .int bp, .int mw, .int mc, .int hi, .int lo, .int ex]))] [0, 1, 2] [3] [1, 2, 3, 0] (wr := [(m, .inr (1, [.int sl, .int bp, .int mw, .int mc, .int hi, .int lo, .int ex]))]) rfl rfl rfl rfl (by decide) rfl rfl  dL_holds_28 ⟨Nat.le_of_ble_eq_true rfl, Nat.le_of_ble_eq_true rfl⟩ [.int ((valF f p0) * (valF f p1))] rfl ?_
  refine J_iload C dL_holds_31 rfl ?_
  refine J_icmp_ne C 106 dL_holds_33 (by decide) (fun h => absurd h (fun hh => hh rfl)) (fun _ => ?_)
  refine J_aload_n C dL_holds_36 rfl rfl ?_
  refine J_iload_n C dL_holds_37 rfl rfl ?_
  refine J_iload_n C dL_holds_38 rfl rfl ?_
  refine J_callV C (c_X5_productByBits_eq U b a h sa pa ta tk v m f w o t p1 p0 W v_2 v_1 hJ) gL_holds_X5_productByBits (n := 2) rfl rfl rfl (by decide +kernel) ⟨Nat.le_of_ble_eq_true rfl, Nat.le_of_ble_eq_true rfl⟩ 0 rfl rfl rfl (rest := []) rfl (Nat.le_of_ble_eq_true rfl) [(b, .inr (5, [.ref a, .ref h, .ref sa, .int tk, .ref pa, .ref ta])), (a, .inr (3, [.ref v, .ref m, .int w, .int o, .int t])), (v, .inl (U.2.2.1 0, 6, .inl f)), (m, .inr (1, [.int sl, .int bp, .int mw, .int mc, .int hi, .int lo, .int ex]))] [0, 1, 2] [3] [1, 2, 3, 0] (wr := [(m, .inr (1, [.int sl, .int bp, .int mw, .int mc, .int hi, .int lo, .int ex]))]) rfl rfl rfl rfl (by decide) rfl rfl  dL_holds_39 ⟨Nat.le_of_ble_eq_true rfl, Nat.le_of_ble_eq_true rfl⟩ [.int ((valF f p1) * (valF f p0))] rfl ?_
  refine J_iload C dL_holds_42 rfl ?_
  refine J_icmp_ne C 106 dL_holds_44 (by decide) (fun h => absurd h (fun hh => hh ymc)) (fun _ => ?_)
  refine J_aload_n C dL_holds_47 rfl rfl ?_
  refine J_iload_n C dL_holds_48 rfl rfl ?_
  refine J_iload_n C dL_holds_49 rfl rfl ?_
  refine J_iconst C (v := (0 : Int32)) dL_holds_50 (by decide) ?_
  refine J_callV C (c_X5_productByRows_eq0 U b a h sa pa ta tk v m f w o t p0 p1 W v_1 v_2 hJ) gL_holds_X5_productByRows (n := 3) rfl rfl rfl (by decide +kernel) ⟨Nat.le_of_ble_eq_true rfl, Nat.le_of_ble_eq_true rfl⟩ 0 rfl rfl rfl (rest := []) rfl (Nat.le_of_ble_eq_true rfl) [(b, .inr (5, [.ref a, .ref h, .ref sa, .int tk, .ref pa, .ref ta])), (a, .inr (3, [.ref v, .ref m, .int w, .int o, .int t])), (v, .inl (U.2.2.1 0, 6, .inl f)), (m, .inr (1, [.int sl, .int bp, .int mw, .int mc, .int hi, .int lo, .int ex]))] [0, 1, 2] [3] [1, 2, 3, 0] (wr := [(m, .inr (1, [.int sl, .int bp, .int mw, .int mc, .int hi, .int lo, .int ex]))]) rfl rfl rfl rfl (by decide) rfl rfl  dL_holds_51 ⟨Nat.le_of_ble_eq_true rfl, Nat.le_of_ble_eq_true rfl⟩ [.int ((valF f p0) * (valF f p1))] rfl ?_
  refine J_iload C dL_holds_54 rfl ?_
  refine J_icmp_ne C 106 dL_holds_56 (by decide) (fun h => absurd h (fun hh => hh rfl)) (fun _ => ?_)
  refine J_aload_n C dL_holds_59 rfl rfl ?_
  refine J_iload_n C dL_holds_60 rfl rfl ?_
  refine J_iload_n C dL_holds_61 rfl rfl ?_
  refine J_iconst C (v := (2 : Int32)) dL_holds_62 (by decide) ?_
  refine J_callV C (c_X5_productByRows_eq2 U b a h sa pa ta tk v m f w o t p0 p1 W v_1 v_2 hJ) gL_holds_X5_productByRows (n := 3) rfl rfl rfl (by decide +kernel) ⟨Nat.le_of_ble_eq_true rfl, Nat.le_of_ble_eq_true rfl⟩ 0 rfl rfl rfl (rest := []) rfl (Nat.le_of_ble_eq_true rfl) [(b, .inr (5, [.ref a, .ref h, .ref sa, .int tk, .ref pa, .ref ta])), (a, .inr (3, [.ref v, .ref m, .int w, .int o, .int t])), (v, .inl (U.2.2.1 0, 6, .inl f)), (m, .inr (1, [.int sl, .int bp, .int mw, .int mc, .int hi, .int lo, .int ex]))] [0, 1, 2] [3] [1, 2, 3, 0] (wr := [(m, .inr (1, [.int sl, .int bp, .int mw, .int mc, .int hi, .int lo, .int ex]))]) rfl rfl rfl rfl (by decide) rfl rfl  dL_holds_63 ⟨Nat.le_of_ble_eq_true rfl, Nat.le_of_ble_eq_true rfl⟩ [.int ((valF f p0) * (valF f p1))] rfl ?_
  refine J_iload C dL_holds_66 rfl ?_
  refine J_icmp_ne C 106 dL_holds_68 (by decide) (fun h => absurd h (fun hh => hh rfl)) (fun _ => ?_)
  refine J_iload_n C dL_holds_71 rfl rfl ?_
  refine J_iconst C (v := (2 : Int32)) dL_holds_72 (by decide) ?_
  refine J_irem C (v := rem2 w) dL_holds_73 (by decide) rfl ?_
  refine J_iconst C (v := (1 : Int32)) dL_holds_74 (by decide) ?_
  refine J_icmp_eq C 102 dL_holds_75 (by decide) (fun h => absurd h e1) (fun _ => ?_)
  refine J_aload_n C dL_holds_78 rfl rfl ?_
  refine J_iload_n C dL_holds_79 rfl rfl ?_
  refine J_iload_n C dL_holds_80 rfl rfl ?_
  refine J_iconst C (v := (1 : Int32)) dL_holds_81 (by decide) ?_
  refine J_callV C (c_X5_productByRows_eq1 U b a h sa pa ta tk v m f w o t p0 p1 W v_1 v_2 hev hJ) gL_holds_X5_productByRows (n := 3) rfl rfl rfl (by decide +kernel) ⟨Nat.le_of_ble_eq_true rfl, Nat.le_of_ble_eq_true rfl⟩ 0 rfl rfl rfl (rest := []) rfl (Nat.le_of_ble_eq_true rfl) [(b, .inr (5, [.ref a, .ref h, .ref sa, .int tk, .ref pa, .ref ta])), (a, .inr (3, [.ref v, .ref m, .int w, .int o, .int t])), (v, .inl (U.2.2.1 0, 6, .inl f)), (m, .inr (1, [.int sl, .int bp, .int mw, .int mc, .int hi, .int lo, .int ex]))] [0, 1, 2] [3] [1, 2, 3, 0] (wr := [(m, .inr (1, [.int sl, .int bp, .int mw, .int mc, .int hi, .int lo, .int ex]))]) rfl rfl rfl rfl (by decide) rfl rfl  dL_holds_82 ⟨Nat.le_of_ble_eq_true rfl, Nat.le_of_ble_eq_true rfl⟩ [.int ((valF f p0) * (valF f p1))] rfl ?_
  refine J_iload C dL_holds_85 rfl ?_
  refine J_icmp_ne C 106 dL_holds_87 (by decide) (fun h => absurd h (fun hh => hh rfl)) (fun _ => ?_)
  refine J_aload_n C dL_holds_90 rfl rfl ?_
  refine J_iload_n C dL_holds_91 rfl rfl ?_
  refine J_iconst C (v := (1 : Int32)) dL_holds_92 (by decide) ?_
  refine J_callV C (c_X5_rowsOf_eq1 U b a h sa pa ta tk v m f w o t p1 W v_2 hev hJ) gL_holds_X5_rowsOf (n := 2) rfl rfl rfl (by decide +kernel) ⟨Nat.le_of_ble_eq_true rfl, Nat.le_of_ble_eq_true rfl⟩ 0 rfl rfl rfl (rest := []) rfl (Nat.le_of_ble_eq_true rfl) [(b, .inr (5, [.ref a, .ref h, .ref sa, .int tk, .ref pa, .ref ta])), (a, .inr (3, [.ref v, .ref m, .int w, .int o, .int t])), (v, .inl (U.2.2.1 0, 6, .inl f)), (m, .inr (1, [.int sl, .int bp, .int mw, .int mc, .int hi, .int lo, .int ex]))] [0, 1, 2] [3] [1, 2, 3, 0] (wr := [(m, .inr (1, [.int sl, .int bp, .int mw, .int mc, .int hi, .int lo, .int ex]))]) rfl rfl rfl rfl (by decide) rfl rfl  dL_holds_93 ⟨Nat.le_of_ble_eq_true rfl, Nat.le_of_ble_eq_true rfl⟩ [.int (nI (nzF (valF f p1) 1 (W / 2)))] rfl ?_
  refine J_iload_n C dL_holds_96 rfl rfl ?_
  refine J_iconst C (v := (2 : Int32)) dL_holds_97 (by decide) ?_
  refine J_idiv C (v := w / (2 : Int32)) dL_holds_98 (by decide) rfl ?_
  refine J_icmp_gt C 106 dL_holds_99 (by decide) (fun h => absurd h w1) (fun _ => ?_)
  refine J_iconst C (v := (1 : Int32)) dL_holds_102 (by decide) ?_
  refine J_goto C 107 dL_holds_103 (by decide) ?_
  refine J_istore C [some (.ref b), some (.int p0), some (.int p1), some (.int w), some (.int ((valF f p0) * (valF f p1))), some (.int ((1 : Int32) <<< ((w - (1 : Int32)) &&& 31))), some (.int (1 : Int32))] dL_holds_107 (hN 6 (by decide)) rfl rfl ?_
  refine J_iload C dL_holds_109 rfl ?_
  refine J_if_eq C 239 dL_holds_111 (by decide) (fun h => absurd h (by decide)) (fun _ => ?_)
  refine J_aload_n C dL_holds_114 rfl rfl ?_
  refine J_iload_n C dL_holds_115 rfl rfl ?_
  refine J_callV C (c_X5_valueOf_ok U b a h sa pa ta tk v m f w o t p0 v_1) gL_holds_X5_valueOf (n := 1) rfl rfl rfl (by decide +kernel) ⟨Nat.le_of_ble_eq_true rfl, Nat.le_of_ble_eq_true rfl⟩ 0 rfl rfl rfl (rest := []) rfl (Nat.le_of_ble_eq_true rfl) [(b, .inr (5, [.ref a, .ref h, .ref sa, .int tk, .ref pa, .ref ta])), (a, .inr (3, [.ref v, .ref m, .int w, .int o, .int t])), (v, .inl (U.2.2.1 0, 6, .inl f)), (m, .inr (1, [.int sl, .int bp, .int mw, .int mc, .int hi, .int lo, .int ex]))] [0, 1, 2] [3] [1, 2, 3, 0] (wr := [(m, .inr (1, [.int sl, .int bp, .int mw, .int mc, .int hi, .int lo, .int ex]))]) rfl rfl rfl rfl (by decide) rfl rfl  dL_holds_116 ⟨Nat.le_of_ble_eq_true rfl, Nat.le_of_ble_eq_true rfl⟩ [.int (valF f p0)] rfl ?_
  refine J_iload C dL_holds_119 rfl ?_
  refine J_ineg C dL_holds_121 rfl ?_
  refine J_icmp_lt C 239 dL_holds_122 (by decide) (fun h => absurd h l1) (fun _ => ?_)
  refine J_aload_n C dL_holds_125 rfl rfl ?_
  refine J_iload_n C dL_holds_126 rfl rfl ?_
  refine J_callV C (c_X5_valueOf_ok U b a h sa pa ta tk v m f w o t p0 v_1) gL_holds_X5_valueOf (n := 1) rfl rfl rfl (by decide +kernel) ⟨Nat.le_of_ble_eq_true rfl, Nat.le_of_ble_eq_true rfl⟩ 0 rfl rfl rfl (rest := []) rfl (Nat.le_of_ble_eq_true rfl) [(b, .inr (5, [.ref a, .ref h, .ref sa, .int tk, .ref pa, .ref ta])), (a, .inr (3, [.ref v, .ref m, .int w, .int o, .int t])), (v, .inl (U.2.2.1 0, 6, .inl f)), (m, .inr (1, [.int sl, .int bp, .int mw, .int mc, .int hi, .int lo, .int ex]))] [0, 1, 2] [3] [1, 2, 3, 0] (wr := [(m, .inr (1, [.int sl, .int bp, .int mw, .int mc, .int hi, .int lo, .int ex]))]) rfl rfl rfl rfl (by decide) rfl rfl  dL_holds_127 ⟨Nat.le_of_ble_eq_true rfl, Nat.le_of_ble_eq_true rfl⟩ [.int (valF f p0)] rfl ?_
  refine J_iload C dL_holds_130 rfl ?_
  refine J_icmp_ge C 239 dL_holds_132 (by decide) (fun h => absurd h l2) (fun _ => ?_)
  refine J_aload_n C dL_holds_135 rfl rfl ?_
  refine J_iload_n C dL_holds_136 rfl rfl ?_
  refine J_iload_n C dL_holds_137 rfl rfl ?_
  refine J_callV C (c_X5_fits_ok U b a h sa pa ta tk v m f w o t p0 p1 v_1 v_2) gL_holds_X5_fits (n := 2) rfl rfl rfl (by decide +kernel) ⟨Nat.le_of_ble_eq_true rfl, Nat.le_of_ble_eq_true rfl⟩ 0 rfl rfl rfl (rest := []) rfl (Nat.le_of_ble_eq_true rfl) [(b, .inr (5, [.ref a, .ref h, .ref sa, .int tk, .ref pa, .ref ta])), (a, .inr (3, [.ref v, .ref m, .int w, .int o, .int t])), (v, .inl (U.2.2.1 0, 6, .inl f)), (m, .inr (1, [.int sl, .int bp, .int mw, .int mc, .int hi, .int lo, .int ex]))] [0, 1, 2] [3] [1, 2, 3, 0] (wr := [(m, .inr (1, [.int sl, .int bp, .int mw, .int mc, .int hi, .int lo, .int ex]))]) rfl rfl rfl rfl (by decide) rfl rfl  dL_holds_138 ⟨Nat.le_of_ble_eq_true rfl, Nat.le_of_ble_eq_true rfl⟩ [.int (b2i (wrapF w (valF f p0 * valF f p1) = (valF f p0 * valF f p1)))] rfl ?_
  refine J_iload C dL_holds_141 rfl ?_
  refine J_iload C dL_holds_143 rfl ?_
  refine J_ineg C dL_holds_145 rfl ?_
  refine J_icmp_lt C 160 dL_holds_146 (by decide) (fun _ => ?_) (fun h => absurd d1 h)
  refine J_iconst C (v := (0 : Int32)) dL_holds_160 (by decide) ?_
  refine J_icmp_ne C 239 dL_holds_161 (by decide) (fun h => absurd h (fun hh => hh ft)) (fun _ => ?_)
  refine J_aload_n C dL_holds_164 rfl rfl ?_
  refine J_iload_n C dL_holds_165 rfl rfl ?_
  refine J_iload_n C dL_holds_166 rfl rfl ?_
  refine J_callV C (c_X5_carries_eq U b a h sa pa ta tk v m f w o t p0 p1 W v_1 v_2 hJ) gL_holds_X5_carries (n := 2) rfl rfl rfl (by decide +kernel) ⟨Nat.le_of_ble_eq_true rfl, Nat.le_of_ble_eq_true rfl⟩ 0 rfl rfl rfl (rest := []) rfl (Nat.le_of_ble_eq_true rfl) [(b, .inr (5, [.ref a, .ref h, .ref sa, .int tk, .ref pa, .ref ta])), (a, .inr (3, [.ref v, .ref m, .int w, .int o, .int t])), (v, .inl (U.2.2.1 0, 6, .inl f)), (m, .inr (1, [.int sl, .int bp, .int mw, .int mc, .int hi, .int lo, .int ex]))] [0, 1, 2] [3] [1, 2, 3, 0] (wr := [(m, .inr (1, [.int sl, .int bp, .int mw, .int mc, .int hi, .int lo, .int ex]))]) rfl rfl rfl rfl (by decide) rfl rfl  dL_holds_167 ⟨Nat.le_of_ble_eq_true rfl, Nat.le_of_ble_eq_true rfl⟩ [.int (nI (crN W (valF f p0) (valF f p1)))] rfl ?_
  refine J_aload_n C dL_holds_170 rfl rfl ?_
  refine J_iload_n C dL_holds_171 rfl rfl ?_
  refine J_iload_n C dL_holds_172 rfl rfl ?_
  refine J_callV C (c_X5_carries_eq U b a h sa pa ta tk v m f w o t p1 p0 W v_2 v_1 hJ) gL_holds_X5_carries (n := 2) rfl rfl rfl (by decide +kernel) ⟨Nat.le_of_ble_eq_true rfl, Nat.le_of_ble_eq_true rfl⟩ 0 rfl rfl rfl (rest := [.int (nI (crN W (valF f p0) (valF f p1)))]) rfl (Nat.le_of_ble_eq_true rfl) [(b, .inr (5, [.ref a, .ref h, .ref sa, .int tk, .ref pa, .ref ta])), (a, .inr (3, [.ref v, .ref m, .int w, .int o, .int t])), (v, .inl (U.2.2.1 0, 6, .inl f)), (m, .inr (1, [.int sl, .int bp, .int mw, .int mc, .int hi, .int lo, .int ex]))] [0, 1, 2] [3] [1, 2, 3, 0] (wr := [(m, .inr (1, [.int sl, .int bp, .int mw, .int mc, .int hi, .int lo, .int ex]))]) rfl rfl rfl rfl (by decide) rfl rfl  dL_holds_173 ⟨Nat.le_of_ble_eq_true rfl, Nat.le_of_ble_eq_true rfl⟩ [.int (nI (crN W (valF f p1) (valF f p0))), .int (nI (crN W (valF f p0) (valF f p1)))] rfl ?_
  refine J_icmp_ne C 239 dL_holds_176 (by decide) (fun h => absurd h (fun hh => hh c1)) (fun _ => ?_)
  refine J_aload_n C dL_holds_179 rfl rfl ?_
  refine J_iload_n C dL_holds_180 rfl rfl ?_
  refine J_iload_n C dL_holds_181 rfl rfl ?_
  refine J_callV C (c_X5_longestRun_eq U b a h sa pa ta tk v m f w o t p0 p1 W v_1 v_2 hJ) gL_holds_X5_longestRun (n := 2) rfl rfl rfl (by decide +kernel) ⟨Nat.le_of_ble_eq_true rfl, Nat.le_of_ble_eq_true rfl⟩ 0 rfl rfl rfl (rest := []) rfl (Nat.le_of_ble_eq_true rfl) [(b, .inr (5, [.ref a, .ref h, .ref sa, .int tk, .ref pa, .ref ta])), (a, .inr (3, [.ref v, .ref m, .int w, .int o, .int t])), (v, .inl (U.2.2.1 0, 6, .inl f)), (m, .inr (1, [.int sl, .int bp, .int mw, .int mc, .int hi, .int lo, .int ex]))] [0, 1, 2] [3] [1, 2, 3, 0] (wr := [(m, .inr (1, [.int sl, .int bp, .int mw, .int mc, .int hi, .int lo, .int ex]))]) rfl rfl rfl rfl (by decide) rfl rfl  dL_holds_182 ⟨Nat.le_of_ble_eq_true rfl, Nat.le_of_ble_eq_true rfl⟩ [.int (nI (lrN W (valF f p0) (valF f p1)))] rfl ?_
  refine J_aload_n C dL_holds_185 rfl rfl ?_
  refine J_iload_n C dL_holds_186 rfl rfl ?_
  refine J_iload_n C dL_holds_187 rfl rfl ?_
  refine J_callV C (c_X5_carries_eq U b a h sa pa ta tk v m f w o t p0 p1 W v_1 v_2 hJ) gL_holds_X5_carries (n := 2) rfl rfl rfl (by decide +kernel) ⟨Nat.le_of_ble_eq_true rfl, Nat.le_of_ble_eq_true rfl⟩ 0 rfl rfl rfl (rest := [.int (nI (lrN W (valF f p0) (valF f p1)))]) rfl (Nat.le_of_ble_eq_true rfl) [(b, .inr (5, [.ref a, .ref h, .ref sa, .int tk, .ref pa, .ref ta])), (a, .inr (3, [.ref v, .ref m, .int w, .int o, .int t])), (v, .inl (U.2.2.1 0, 6, .inl f)), (m, .inr (1, [.int sl, .int bp, .int mw, .int mc, .int hi, .int lo, .int ex]))] [0, 1, 2] [3] [1, 2, 3, 0] (wr := [(m, .inr (1, [.int sl, .int bp, .int mw, .int mc, .int hi, .int lo, .int ex]))]) rfl rfl rfl rfl (by decide) rfl rfl  dL_holds_188 ⟨Nat.le_of_ble_eq_true rfl, Nat.le_of_ble_eq_true rfl⟩ [.int (nI (crN W (valF f p0) (valF f p1))), .int (nI (lrN W (valF f p0) (valF f p1)))] rfl ?_
  refine J_icmp_gt C 239 dL_holds_191 (by decide) (fun h => absurd h c2) (fun _ => ?_)
  refine J_aload_n C dL_holds_194 rfl rfl ?_
  refine J_iload_n C dL_holds_195 rfl rfl ?_
  refine J_iload_n C dL_holds_196 rfl rfl ?_
  refine J_callV C (c_X5_longestRun_eq U b a h sa pa ta tk v m f w o t p0 p1 W v_1 v_2 hJ) gL_holds_X5_longestRun (n := 2) rfl rfl rfl (by decide +kernel) ⟨Nat.le_of_ble_eq_true rfl, Nat.le_of_ble_eq_true rfl⟩ 0 rfl rfl rfl (rest := []) rfl (Nat.le_of_ble_eq_true rfl) [(b, .inr (5, [.ref a, .ref h, .ref sa, .int tk, .ref pa, .ref ta])), (a, .inr (3, [.ref v, .ref m, .int w, .int o, .int t])), (v, .inl (U.2.2.1 0, 6, .inl f)), (m, .inr (1, [.int sl, .int bp, .int mw, .int mc, .int hi, .int lo, .int ex]))] [0, 1, 2] [3] [1, 2, 3, 0] (wr := [(m, .inr (1, [.int sl, .int bp, .int mw, .int mc, .int hi, .int lo, .int ex]))]) rfl rfl rfl rfl (by decide) rfl rfl  dL_holds_197 ⟨Nat.le_of_ble_eq_true rfl, Nat.le_of_ble_eq_true rfl⟩ [.int (nI (lrN W (valF f p0) (valF f p1)))] rfl ?_
  refine J_if_ne C 207 dL_holds_200 (by decide) (fun _ => ?_) (fun h => absurd h z1)
  refine J_iconst C (v := (0 : Int32)) dL_holds_207 (by decide) ?_
  refine J_aload_n C dL_holds_208 rfl rfl ?_
  refine J_iload_n C dL_holds_209 rfl rfl ?_
  refine J_iload_n C dL_holds_210 rfl rfl ?_
  refine J_callV C (c_X5_carries_eq U b a h sa pa ta tk v m f w o t p0 p1 W v_1 v_2 hJ) gL_holds_X5_carries (n := 2) rfl rfl rfl (by decide +kernel) ⟨Nat.le_of_ble_eq_true rfl, Nat.le_of_ble_eq_true rfl⟩ 0 rfl rfl rfl (rest := [.int (0 : Int32)]) rfl (Nat.le_of_ble_eq_true rfl) [(b, .inr (5, [.ref a, .ref h, .ref sa, .int tk, .ref pa, .ref ta])), (a, .inr (3, [.ref v, .ref m, .int w, .int o, .int t])), (v, .inl (U.2.2.1 0, 6, .inl f)), (m, .inr (1, [.int sl, .int bp, .int mw, .int mc, .int hi, .int lo, .int ex]))] [0, 1, 2] [3] [1, 2, 3, 0] (wr := [(m, .inr (1, [.int sl, .int bp, .int mw, .int mc, .int hi, .int lo, .int ex]))]) rfl rfl rfl rfl (by decide) rfl rfl  dL_holds_211 ⟨Nat.le_of_ble_eq_true rfl, Nat.le_of_ble_eq_true rfl⟩ [.int (nI (crN W (valF f p0) (valF f p1))), .int (0 : Int32)] rfl ?_
  refine J_if_ne C 221 dL_holds_214 (by decide) (fun _ => ?_) (fun h => absurd h z2)
  refine J_iconst C (v := (0 : Int32)) dL_holds_221 (by decide) ?_
  refine J_icmp_ne C 239 dL_holds_222 (by decide) (fun h => absurd (by decide) h) (fun _ => ?_)
  refine J_aload_n C dL_holds_225 rfl rfl ?_
  refine J_iload_n C dL_holds_226 rfl rfl ?_
  refine J_iload_n C dL_holds_227 rfl rfl ?_
  refine J_callV C (c_X5_carries_eq U b a h sa pa ta tk v m f w o t p0 p1 W v_1 v_2 hJ) gL_holds_X5_carries (n := 2) rfl rfl rfl (by decide +kernel) ⟨Nat.le_of_ble_eq_true rfl, Nat.le_of_ble_eq_true rfl⟩ 0 rfl rfl rfl (rest := []) rfl (Nat.le_of_ble_eq_true rfl) [(b, .inr (5, [.ref a, .ref h, .ref sa, .int tk, .ref pa, .ref ta])), (a, .inr (3, [.ref v, .ref m, .int w, .int o, .int t])), (v, .inl (U.2.2.1 0, 6, .inl f)), (m, .inr (1, [.int sl, .int bp, .int mw, .int mc, .int hi, .int lo, .int ex]))] [0, 1, 2] [3] [1, 2, 3, 0] (wr := [(m, .inr (1, [.int sl, .int bp, .int mw, .int mc, .int hi, .int lo, .int ex]))]) rfl rfl rfl rfl (by decide) rfl rfl  dL_holds_228 ⟨Nat.le_of_ble_eq_true rfl, Nat.le_of_ble_eq_true rfl⟩ [.int (nI (crN W (valF f p0) (valF f p1)))] rfl ?_
  refine J_iload_n C dL_holds_231 rfl rfl ?_
  refine J_icmp_gt C 239 dL_holds_232 (by decide) (fun h => absurd h c3) (fun _ => ?_)
  refine J_iconst C (v := (1 : Int32)) dL_holds_235 (by decide) ?_
  refine J_goto C 240 dL_holds_236 (by decide) ?_
  refine J_istore C [some (.ref b), some (.int p0), some (.int p1), some (.int w), some (.int ((valF f p0) * (valF f p1))), some (.int ((1 : Int32) <<< ((w - (1 : Int32)) &&& 31))), some (.int (1 : Int32))] dL_holds_240 (hN 6 (by decide)) rfl rfl ?_
  refine J_iload C dL_holds_242 rfl ?_
  refine J_if_eq C 282 dL_holds_244 (by decide) (fun h => absurd h (by decide)) (fun _ => ?_)
  refine J_aload_n C dL_holds_247 rfl rfl ?_
  refine J_iload_n C dL_holds_248 rfl rfl ?_
  refine J_iconst C (v := (2 : Int32)) dL_holds_249 (by decide) ?_
  refine J_callV C (c_X5_rowsOf_eq2 U b a h sa pa ta tk v m f w o t p0 W v_1 hJ) gL_holds_X5_rowsOf (n := 2) rfl rfl rfl (by decide +kernel) ⟨Nat.le_of_ble_eq_true rfl, Nat.le_of_ble_eq_true rfl⟩ 0 rfl rfl rfl (rest := []) rfl (Nat.le_of_ble_eq_true rfl) [(b, .inr (5, [.ref a, .ref h, .ref sa, .int tk, .ref pa, .ref ta])), (a, .inr (3, [.ref v, .ref m, .int w, .int o, .int t])), (v, .inl (U.2.2.1 0, 6, .inl f)), (m, .inr (1, [.int sl, .int bp, .int mw, .int mc, .int hi, .int lo, .int ex]))] [0, 1, 2] [3] [1, 2, 3, 0] (wr := [(m, .inr (1, [.int sl, .int bp, .int mw, .int mc, .int hi, .int lo, .int ex]))]) rfl rfl rfl rfl (by decide) rfl rfl  dL_holds_250 ⟨Nat.le_of_ble_eq_true rfl, Nat.le_of_ble_eq_true rfl⟩ [.int (nI (nzF (valF f p0) 2 W))] rfl ?_
  refine J_aload_n C dL_holds_253 rfl rfl ?_
  refine J_iload_n C dL_holds_254 rfl rfl ?_
  refine J_iconst C (v := (0 : Int32)) dL_holds_255 (by decide) ?_
  refine J_callV C (c_X5_rowsOf_eq0 U b a h sa pa ta tk v m f w o t p0 W v_1 hJ) gL_holds_X5_rowsOf (n := 2) rfl rfl rfl (by decide +kernel) ⟨Nat.le_of_ble_eq_true rfl, Nat.le_of_ble_eq_true rfl⟩ 0 rfl rfl rfl (rest := [.int (nI (nzF (valF f p0) 2 W))]) rfl (Nat.le_of_ble_eq_true rfl) [(b, .inr (5, [.ref a, .ref h, .ref sa, .int tk, .ref pa, .ref ta])), (a, .inr (3, [.ref v, .ref m, .int w, .int o, .int t])), (v, .inl (U.2.2.1 0, 6, .inl f)), (m, .inr (1, [.int sl, .int bp, .int mw, .int mc, .int hi, .int lo, .int ex]))] [0, 1, 2] [3] [1, 2, 3, 0] (wr := [(m, .inr (1, [.int sl, .int bp, .int mw, .int mc, .int hi, .int lo, .int ex]))]) rfl rfl rfl rfl (by decide) rfl rfl  dL_holds_256 ⟨Nat.le_of_ble_eq_true rfl, Nat.le_of_ble_eq_true rfl⟩ [.int (nI (nzF (valF f p0) 0 W)), .int (nI (nzF (valF f p0) 2 W))] rfl ?_
  refine J_icmp_gt C 282 dL_holds_259 (by decide) (fun h => absurd h s1) (fun _ => ?_)
  refine J_aload_n C dL_holds_262 rfl rfl ?_
  refine J_iload_n C dL_holds_263 rfl rfl ?_
  refine J_iconst C (v := (2 : Int32)) dL_holds_264 (by decide) ?_
  refine J_callV C (c_X5_rowsOf_eq2 U b a h sa pa ta tk v m f w o t p0 W v_1 hJ) gL_holds_X5_rowsOf (n := 2) rfl rfl rfl (by decide +kernel) ⟨Nat.le_of_ble_eq_true rfl, Nat.le_of_ble_eq_true rfl⟩ 0 rfl rfl rfl (rest := []) rfl (Nat.le_of_ble_eq_true rfl) [(b, .inr (5, [.ref a, .ref h, .ref sa, .int tk, .ref pa, .ref ta])), (a, .inr (3, [.ref v, .ref m, .int w, .int o, .int t])), (v, .inl (U.2.2.1 0, 6, .inl f)), (m, .inr (1, [.int sl, .int bp, .int mw, .int mc, .int hi, .int lo, .int ex]))] [0, 1, 2] [3] [1, 2, 3, 0] (wr := [(m, .inr (1, [.int sl, .int bp, .int mw, .int mc, .int hi, .int lo, .int ex]))]) rfl rfl rfl rfl (by decide) rfl rfl  dL_holds_265 ⟨Nat.le_of_ble_eq_true rfl, Nat.le_of_ble_eq_true rfl⟩ [.int (nI (nzF (valF f p0) 2 W))] rfl ?_
  refine J_aload_n C dL_holds_268 rfl rfl ?_
  refine J_iload_n C dL_holds_269 rfl rfl ?_
  refine J_callV C (c_X5_onesOf_eq U b a h sa pa ta tk v m f w o t p0 W v_1 hJ) gL_holds_X5_onesOf (n := 1) rfl rfl rfl (by decide +kernel) ⟨Nat.le_of_ble_eq_true rfl, Nat.le_of_ble_eq_true rfl⟩ 0 rfl rfl rfl (rest := [.int (nI (nzF (valF f p0) 2 W))]) rfl (Nat.le_of_ble_eq_true rfl) [(b, .inr (5, [.ref a, .ref h, .ref sa, .int tk, .ref pa, .ref ta])), (a, .inr (3, [.ref v, .ref m, .int w, .int o, .int t])), (v, .inl (U.2.2.1 0, 6, .inl f)), (m, .inr (1, [.int sl, .int bp, .int mw, .int mc, .int hi, .int lo, .int ex]))] [0, 1, 2] [3] [1, 2, 3, 0] (wr := [(m, .inr (1, [.int sl, .int bp, .int mw, .int mc, .int hi, .int lo, .int ex]))]) rfl rfl rfl rfl (by decide) rfl rfl  dL_holds_270 ⟨Nat.le_of_ble_eq_true rfl, Nat.le_of_ble_eq_true rfl⟩ [.int (nI (pcN W (tn (valF f p0)))), .int (nI (nzF (valF f p0) 2 W))] rfl ?_
  refine J_iconst C (v := (1 : Int32)) dL_holds_273 (by decide) ?_
  refine J_iadd C (v := (nI (pcN W (tn (valF f p0)))) + (1 : Int32)) dL_holds_274 rfl ?_
  refine J_icmp_gt C 282 dL_holds_275 (by decide) (fun h => absurd h s2) (fun _ => ?_)
  refine J_iconst C (v := (1 : Int32)) dL_holds_278 (by decide) ?_
  refine J_goto C 283 dL_holds_279 (by decide) ?_
  refine J_istore C [some (.ref b), some (.int p0), some (.int p1), some (.int w), some (.int ((valF f p0) * (valF f p1))), some (.int ((1 : Int32) <<< ((w - (1 : Int32)) &&& 31))), some (.int (1 : Int32))] dL_holds_283 (hN 6 (by decide)) rfl rfl ?_
  refine J_aload_n C dL_holds_285 rfl rfl ?_
  refine J_callV C (c_X5_stepsLeft U b a h sa pa ta tk v m w o t sl bp mw mc hi lo ex ) gL_holds_X5_stepsLeft (n := 0) rfl rfl rfl (by decide +kernel) ⟨Nat.le_of_ble_eq_true rfl, Nat.le_of_ble_eq_true rfl⟩ 0 rfl rfl rfl (rest := []) rfl (Nat.le_of_ble_eq_true rfl) [(b, .inr (5, [.ref a, .ref h, .ref sa, .int tk, .ref pa, .ref ta])), (a, .inr (3, [.ref v, .ref m, .int w, .int o, .int t])), (v, .inl (U.2.2.1 0, 6, .inl f)), (m, .inr (1, [.int sl, .int bp, .int mw, .int mc, .int hi, .int lo, .int ex]))] [0, 1, 3] [2] [1, 2, 0, 3] (wr := [(v, .inl (U.2.2.1 0, 6, .inl f))]) rfl rfl rfl rfl (by decide) rfl rfl  dL_holds_286 ⟨Nat.le_of_ble_eq_true rfl, Nat.le_of_ble_eq_true rfl⟩ [.int sl] rfl ?_
  refine J_if_lt C 337 dL_holds_289 (by decide) (fun h => absurd h h1) (fun _ => ?_)
  refine J_iload C dL_holds_292 rfl ?_
  refine J_if_eq C 334 dL_holds_294 (by decide) (fun h => absurd h (by decide)) (fun _ => ?_)
  refine J_aload_n C dL_holds_297 rfl rfl ?_
  refine J_callV C (c_X5_lowPart_ok U b a h sa pa ta tk v m w o t sl bp mw mc hi lo ex h2) gL_holds_X5_lowPart (n := 0) rfl rfl rfl (by decide +kernel) ⟨Nat.le_of_ble_eq_true rfl, Nat.le_of_ble_eq_true rfl⟩ 0 rfl rfl rfl (rest := []) rfl (Nat.le_of_ble_eq_true rfl) [(b, .inr (5, [.ref a, .ref h, .ref sa, .int tk, .ref pa, .ref ta])), (a, .inr (3, [.ref v, .ref m, .int w, .int o, .int t])), (v, .inl (U.2.2.1 0, 6, .inl f)), (m, .inr (1, [.int sl, .int bp, .int mw, .int mc, .int hi, .int lo, .int ex]))] [0, 1, 3] [2] [1, 2, 0, 3] (wr := [(v, .inl (U.2.2.1 0, 6, .inl f))]) rfl rfl rfl rfl (by decide) rfl rfl  dL_holds_298 ⟨Nat.le_of_ble_eq_true rfl, Nat.le_of_ble_eq_true rfl⟩ [.int lo] rfl ?_
  refine J_if_lt C 334 dL_holds_301 (by decide) (fun h => absurd h h3) (fun _ => ?_)
  refine J_aload_n C dL_holds_304 rfl rfl ?_
  refine J_callV C (c_X5_lowPart_ok U b a h sa pa ta tk v m w o t sl bp mw mc hi lo ex h2) gL_holds_X5_lowPart (n := 0) rfl rfl rfl (by decide +kernel) ⟨Nat.le_of_ble_eq_true rfl, Nat.le_of_ble_eq_true rfl⟩ 0 rfl rfl rfl (rest := []) rfl (Nat.le_of_ble_eq_true rfl) [(b, .inr (5, [.ref a, .ref h, .ref sa, .int tk, .ref pa, .ref ta])), (a, .inr (3, [.ref v, .ref m, .int w, .int o, .int t])), (v, .inl (U.2.2.1 0, 6, .inl f)), (m, .inr (1, [.int sl, .int bp, .int mw, .int mc, .int hi, .int lo, .int ex]))] [0, 1, 3] [2] [1, 2, 0, 3] (wr := [(v, .inl (U.2.2.1 0, 6, .inl f))]) rfl rfl rfl rfl (by decide) rfl rfl  dL_holds_305 ⟨Nat.le_of_ble_eq_true rfl, Nat.le_of_ble_eq_true rfl⟩ [.int lo] rfl ?_
  refine J_iconst C (v := (2 : Int32)) dL_holds_308 (by decide) ?_
  refine J_iload C dL_holds_309 rfl ?_
  refine J_imul C (v := (2 : Int32) * ((1 : Int32) <<< ((w - (1 : Int32)) &&& 31))) dL_holds_311 rfl ?_
  refine J_icmp_ge C 334 dL_holds_312 (by decide) (fun h => absurd h h4) (fun _ => ?_)
  refine J_aload_n C dL_holds_315 rfl rfl ?_
  refine J_callV C (c_X5_extraBit_ok U b a h sa pa ta tk v m w o t sl bp mw mc hi lo ex h2) gL_holds_X5_extraBit (n := 0) rfl rfl rfl (by decide +kernel) ⟨Nat.le_of_ble_eq_true rfl, Nat.le_of_ble_eq_true rfl⟩ 0 rfl rfl rfl (rest := []) rfl (Nat.le_of_ble_eq_true rfl) [(b, .inr (5, [.ref a, .ref h, .ref sa, .int tk, .ref pa, .ref ta])), (a, .inr (3, [.ref v, .ref m, .int w, .int o, .int t])), (v, .inl (U.2.2.1 0, 6, .inl f)), (m, .inr (1, [.int sl, .int bp, .int mw, .int mc, .int hi, .int lo, .int ex]))] [0, 1, 3] [2] [1, 2, 0, 3] (wr := [(v, .inl (U.2.2.1 0, 6, .inl f))]) rfl rfl rfl rfl (by decide) rfl rfl  dL_holds_316 ⟨Nat.le_of_ble_eq_true rfl, Nat.le_of_ble_eq_true rfl⟩ [.int ex] rfl ?_
  refine J_if_eq C 330 dL_holds_319 (by decide) (fun c_319_1 => ?_) (fun c_319_1 => ?_)
  · refine J_iconst C (v := (1 : Int32)) dL_holds_330 (by decide) ?_
    refine J_goto C 335 dL_holds_331 (by decide) ?_
    refine J_istore C [some (.ref b), some (.int p0), some (.int p1), some (.int w), some (.int ((valF f p0) * (valF f p1))), some (.int ((1 : Int32) <<< ((w - (1 : Int32)) &&& 31))), some (.int (1 : Int32))] dL_holds_335 (hN 6 (by decide)) rfl rfl ?_
    refine J_iload C dL_holds_337 rfl ?_
    refine J_if_eq C 363 dL_holds_339 (by decide) (fun h => absurd h (by decide)) (fun _ => ?_)
    refine J_aload_n C dL_holds_342 rfl rfl ?_
    refine J_callV C (c_X5_stepsLeft U b a h sa pa ta tk v m w o t sl bp mw mc hi lo ex ) gL_holds_X5_stepsLeft (n := 0) rfl rfl rfl (by decide +kernel) ⟨Nat.le_of_ble_eq_true rfl, Nat.le_of_ble_eq_true rfl⟩ 0 rfl rfl rfl (rest := []) rfl (Nat.le_of_ble_eq_true rfl) [(b, .inr (5, [.ref a, .ref h, .ref sa, .int tk, .ref pa, .ref ta])), (a, .inr (3, [.ref v, .ref m, .int w, .int o, .int t])), (v, .inl (U.2.2.1 0, 6, .inl f)), (m, .inr (1, [.int sl, .int bp, .int mw, .int mc, .int hi, .int lo, .int ex]))] [0, 1, 3] [2] [1, 2, 0, 3] (wr := [(v, .inl (U.2.2.1 0, 6, .inl f))]) rfl rfl rfl rfl (by decide) rfl rfl  dL_holds_343 ⟨Nat.le_of_ble_eq_true rfl, Nat.le_of_ble_eq_true rfl⟩ [.int sl] rfl ?_
    refine J_iconst C (v := (-1 : Int32)) dL_holds_346 (by decide) ?_
    refine J_icmp_lt C 363 dL_holds_347 (by decide) (fun h => absurd h t1) (fun _ => ?_)
    refine J_aload_n C dL_holds_350 rfl rfl ?_
    refine J_callV C (c_X5_stepsLeft U b a h sa pa ta tk v m w o t sl bp mw mc hi lo ex ) gL_holds_X5_stepsLeft (n := 0) rfl rfl rfl (by decide +kernel) ⟨Nat.le_of_ble_eq_true rfl, Nat.le_of_ble_eq_true rfl⟩ 0 rfl rfl rfl (rest := []) rfl (Nat.le_of_ble_eq_true rfl) [(b, .inr (5, [.ref a, .ref h, .ref sa, .int tk, .ref pa, .ref ta])), (a, .inr (3, [.ref v, .ref m, .int w, .int o, .int t])), (v, .inl (U.2.2.1 0, 6, .inl f)), (m, .inr (1, [.int sl, .int bp, .int mw, .int mc, .int hi, .int lo, .int ex]))] [0, 1, 3] [2] [1, 2, 0, 3] (wr := [(v, .inl (U.2.2.1 0, 6, .inl f))]) rfl rfl rfl rfl (by decide) rfl rfl  dL_holds_351 ⟨Nat.le_of_ble_eq_true rfl, Nat.le_of_ble_eq_true rfl⟩ [.int sl] rfl ?_
    refine J_bipush C (v := (16 : Int32)) dL_holds_354 (by decide) ?_
    refine J_icmp_gt C 363 dL_holds_356 (by decide) (fun h => absurd h t2) (fun _ => ?_)
    refine J_iconst C (v := (1 : Int32)) dL_holds_359 (by decide) ?_
    refine J_goto C 364 dL_holds_360 (by decide) ?_
    exact J_zret C R rfl dL_holds_364 (Nat.le_of_ble_eq_true rfl) (Nat.le_of_ble_eq_true rfl) rfl rfl
  · have hx1 : ex = 1 := hx.resolve_left c_319_1
    refine J_aload_n C dL_holds_322 rfl rfl ?_
    refine J_callV C (c_X5_extraBit_ok U b a h sa pa ta tk v m w o t sl bp mw mc hi lo ex h2) gL_holds_X5_extraBit (n := 0) rfl rfl rfl (by decide +kernel) ⟨Nat.le_of_ble_eq_true rfl, Nat.le_of_ble_eq_true rfl⟩ 0 rfl rfl rfl (rest := []) rfl (Nat.le_of_ble_eq_true rfl) [(b, .inr (5, [.ref a, .ref h, .ref sa, .int tk, .ref pa, .ref ta])), (a, .inr (3, [.ref v, .ref m, .int w, .int o, .int t])), (v, .inl (U.2.2.1 0, 6, .inl f)), (m, .inr (1, [.int sl, .int bp, .int mw, .int mc, .int hi, .int lo, .int ex]))] [0, 1, 3] [2] [1, 2, 0, 3] (wr := [(v, .inl (U.2.2.1 0, 6, .inl f))]) rfl rfl rfl rfl (by decide) rfl rfl  dL_holds_323 ⟨Nat.le_of_ble_eq_true rfl, Nat.le_of_ble_eq_true rfl⟩ [.int ex] rfl ?_
    refine J_iconst C (v := (1 : Int32)) dL_holds_326 (by decide) ?_
    refine J_icmp_ne C 334 dL_holds_327 (by decide) (fun h => absurd h (fun hh => hh hx1)) (fun _ => ?_)
    refine J_iconst C (v := (1 : Int32)) dL_holds_330 (by decide) ?_
    refine J_goto C 335 dL_holds_331 (by decide) ?_
    refine J_istore C [some (.ref b), some (.int p0), some (.int p1), some (.int w), some (.int ((valF f p0) * (valF f p1))), some (.int ((1 : Int32) <<< ((w - (1 : Int32)) &&& 31))), some (.int (1 : Int32))] dL_holds_335 (hN 6 (by decide)) rfl rfl ?_
    refine J_iload C dL_holds_337 rfl ?_
    refine J_if_eq C 363 dL_holds_339 (by decide) (fun h => absurd h (by decide)) (fun _ => ?_)
    refine J_aload_n C dL_holds_342 rfl rfl ?_
    refine J_callV C (c_X5_stepsLeft U b a h sa pa ta tk v m w o t sl bp mw mc hi lo ex ) gL_holds_X5_stepsLeft (n := 0) rfl rfl rfl (by decide +kernel) ⟨Nat.le_of_ble_eq_true rfl, Nat.le_of_ble_eq_true rfl⟩ 0 rfl rfl rfl (rest := []) rfl (Nat.le_of_ble_eq_true rfl) [(b, .inr (5, [.ref a, .ref h, .ref sa, .int tk, .ref pa, .ref ta])), (a, .inr (3, [.ref v, .ref m, .int w, .int o, .int t])), (v, .inl (U.2.2.1 0, 6, .inl f)), (m, .inr (1, [.int sl, .int bp, .int mw, .int mc, .int hi, .int lo, .int ex]))] [0, 1, 3] [2] [1, 2, 0, 3] (wr := [(v, .inl (U.2.2.1 0, 6, .inl f))]) rfl rfl rfl rfl (by decide) rfl rfl  dL_holds_343 ⟨Nat.le_of_ble_eq_true rfl, Nat.le_of_ble_eq_true rfl⟩ [.int sl] rfl ?_
    refine J_iconst C (v := (-1 : Int32)) dL_holds_346 (by decide) ?_
    refine J_icmp_lt C 363 dL_holds_347 (by decide) (fun h => absurd h t1) (fun _ => ?_)
    refine J_aload_n C dL_holds_350 rfl rfl ?_
    refine J_callV C (c_X5_stepsLeft U b a h sa pa ta tk v m w o t sl bp mw mc hi lo ex ) gL_holds_X5_stepsLeft (n := 0) rfl rfl rfl (by decide +kernel) ⟨Nat.le_of_ble_eq_true rfl, Nat.le_of_ble_eq_true rfl⟩ 0 rfl rfl rfl (rest := []) rfl (Nat.le_of_ble_eq_true rfl) [(b, .inr (5, [.ref a, .ref h, .ref sa, .int tk, .ref pa, .ref ta])), (a, .inr (3, [.ref v, .ref m, .int w, .int o, .int t])), (v, .inl (U.2.2.1 0, 6, .inl f)), (m, .inr (1, [.int sl, .int bp, .int mw, .int mc, .int hi, .int lo, .int ex]))] [0, 1, 3] [2] [1, 2, 0, 3] (wr := [(v, .inl (U.2.2.1 0, 6, .inl f))]) rfl rfl rfl rfl (by decide) rfl rfl  dL_holds_351 ⟨Nat.le_of_ble_eq_true rfl, Nat.le_of_ble_eq_true rfl⟩ [.int sl] rfl ?_
    refine J_bipush C (v := (16 : Int32)) dL_holds_354 (by decide) ?_
    refine J_icmp_gt C 363 dL_holds_356 (by decide) (fun h => absurd h t2) (fun _ => ?_)
    refine J_iconst C (v := (1 : Int32)) dL_holds_359 (by decide) ?_
    refine J_goto C 364 dL_holds_360 (by decide) ?_
    exact J_zret C R rfl dL_holds_364 (Nat.le_of_ble_eq_true rfl) (Nat.le_of_ble_eq_true rfl) rfl rfl
set_option maxHeartbeats 4000000 in
set_option maxRecDepth 100000 in
theorem c_L_holds_eazn (U : jU) (b a h sa pa ta : Nat) (tk : Int32) (v m : Nat) (f : Nat → Int32) (w o t sl bp mw mc hi lo ex : Int32) (p0 p1 : Int32) (W : Nat) (v_1 : isReg p0) (v_2 : isReg p1) (hJ : jW W w f) (ymc : (valF f p1) * (valF f p0) = ((valF f p0) * (valF f p1))) (l1 : ¬ (valF f p0) < -((1 : Int32) <<< ((w - (1 : Int32)) &&& 31))) (l2 : ¬ ((1 : Int32) <<< ((w - (1 : Int32)) &&& 31)) ≤ (valF f p0)) (c1 : nI (crN W (valF f p0) (valF f p1)) = nI (crN W (valF f p1) (valF f p0))) (c2 : ¬ nI (crN W (valF f p0) (valF f p1)) < nI (lrN W (valF f p0) (valF f p1))) (c3 : ¬ w < nI (crN W (valF f p0) (valF f p1))) (s1 : ¬ nI (nzF (valF f p0) 0 W) < nI (nzF (valF f p0) 2 W)) (s2 : ¬ (nI (pcN W (tn (valF f p0))) + (1 : Int32)) < nI (nzF (valF f p0) 2 W)) (t1 : ¬ sl < -1) (t2 : ¬ 16 < sl) (e1 : ¬ rem2 w = 1) (hev : W % 2 = 0) (w1 : ¬ w / 2 < nI (nzF (valF f p1) 1 (W / 2))) (ft : b2i (wrapF w ((valF f p0) * (valF f p1)) = ((valF f p0) * (valF f p1))) = 0) (d1 : ¬ ((valF f p0) * (valF f p1)) < -((1 : Int32) <<< ((w - (1 : Int32)) &&& 31))) (d2 : ((1 : Int32) <<< ((w - (1 : Int32)) &&& 31)) ≤ ((valF f p0) * (valF f p1))) (z1 : nI (lrN W (valF f p0) (valF f p1)) = 0) (z2 : nI (crN W (valF f p0) (valF f p1)) = 0) (h1 : sl < 0) : Fn U yL_holds wsL_holds { frames := 8, cells := 0, slots := 0, locals := 137 } [.ref b, .int p0, .int p1] [(b, .inr (5, [.ref a, .ref h, .ref sa, .int tk, .ref pa, .ref ta])), (a, .inr (3, [.ref v, .ref m, .int w, .int o, .int t])), (v, .inl (U.2.2.1 0, 6, .inl f)), (m, .inr (1, [.int sl, .int bp, .int mw, .int mc, .int hi, .int lo, .int ex]))] (some (.int (1 : Int32))) [(b, .inr (5, [.ref a, .ref h, .ref sa, .int tk, .ref pa, .ref ta])), (a, .inr (3, [.ref v, .ref m, .int w, .int o, .int t])), (v, .inl (U.2.2.1 0, 6, .inl f)), (m, .inr (1, [.int sl, .int bp, .int mw, .int mc, .int hi, .int lo, .int ex]))] 0 0 := by
  refine Fn_of (cc := cL_holds) (maxL := 7) (ret := (some .boolean)) [some (.ref b), some (.int p0), some (.int p1), none, none, none, none] (by decide +kernel) rfl (jcat rfl) (Nat.le_of_ble_eq_true rfl) rfl (fun k C R hin hnL => ?_)
  have hN : ∀ i, i < 7 → i < k.2.2.2.2.2.2.2.2.2.2.2.1 := fun i h => by rw [hnL]; exact h
  refine J_aload_n C dL_holds_0 rfl rfl ?_
  refine J_callV C (c_X5_width U b a h sa pa ta tk v m w o t ) gL_holds_X5_width (n := 0) rfl rfl rfl (by decide +kernel) ⟨Nat.le_of_ble_eq_true rfl, Nat.le_of_ble_eq_true rfl⟩ 0 rfl rfl rfl (rest := []) rfl (Nat.le_of_ble_eq_true rfl) [(b, .inr (5, [.ref a, .ref h, .ref sa, .int tk, .ref pa, .ref ta])), (a, .inr (3, [.ref v, .ref m, .int w, .int o, .int t])), (v, .inl (U.2.2.1 0, 6, .inl f)), (m, .inr (1, [.int sl, .int bp, .int mw, .int mc, .int hi, .int lo, .int ex]))] [0, 1] [2, 3] [2, 3, 0, 1] (wr := [(v, .inl (U.2.2.1 0, 6, .inl f)), (m, .inr (1, [.int sl, .int bp, .int mw, .int mc, .int hi, .int lo, .int ex]))]) rfl rfl rfl rfl (by decide) rfl rfl  dL_holds_1 ⟨Nat.le_of_ble_eq_true rfl, Nat.le_of_ble_eq_true rfl⟩ [.int w] rfl ?_
  refine J_istore_n C [some (.ref b), some (.int p0), some (.int p1), some (.int w), none, none, none] dL_holds_4 rfl (hN 3 (by decide)) rfl rfl ?_
  refine J_aload_n C dL_holds_5 rfl rfl ?_
  refine J_iload_n C dL_holds_6 rfl rfl ?_
  refine J_callV C (c_X5_valueOf_ok U b a h sa pa ta tk v m f w o t p0 v_1) gL_holds_X5_valueOf (n := 1) rfl rfl rfl (by decide +kernel) ⟨Nat.le_of_ble_eq_true rfl, Nat.le_of_ble_eq_true rfl⟩ 0 rfl rfl rfl (rest := []) rfl (Nat.le_of_ble_eq_true rfl) [(b, .inr (5, [.ref a, .ref h, .ref sa, .int tk, .ref pa, .ref ta])), (a, .inr (3, [.ref v, .ref m, .int w, .int o, .int t])), (v, .inl (U.2.2.1 0, 6, .inl f)), (m, .inr (1, [.int sl, .int bp, .int mw, .int mc, .int hi, .int lo, .int ex]))] [0, 1, 2] [3] [1, 2, 3, 0] (wr := [(m, .inr (1, [.int sl, .int bp, .int mw, .int mc, .int hi, .int lo, .int ex]))]) rfl rfl rfl rfl (by decide) rfl rfl  dL_holds_7 ⟨Nat.le_of_ble_eq_true rfl, Nat.le_of_ble_eq_true rfl⟩ [.int (valF f p0)] rfl ?_
  refine J_aload_n C dL_holds_10 rfl rfl ?_
  refine J_iload_n C dL_holds_11 rfl rfl ?_
  refine J_callV C (c_X5_valueOf_ok U b a h sa pa ta tk v m f w o t p1 v_2) gL_holds_X5_valueOf (n := 1) rfl rfl rfl (by decide +kernel) ⟨Nat.le_of_ble_eq_true rfl, Nat.le_of_ble_eq_true rfl⟩ 0 rfl rfl rfl (rest := [.int (valF f p0)]) rfl (Nat.le_of_ble_eq_true rfl) [(b, .inr (5, [.ref a, .ref h, .ref sa, .int tk, .ref pa, .ref ta])), (a, .inr (3, [.ref v, .ref m, .int w, .int o, .int t])), (v, .inl (U.2.2.1 0, 6, .inl f)), (m, .inr (1, [.int sl, .int bp, .int mw, .int mc, .int hi, .int lo, .int ex]))] [0, 1, 2] [3] [1, 2, 3, 0] (wr := [(m, .inr (1, [.int sl, .int bp, .int mw, .int mc, .int hi, .int lo, .int ex]))]) rfl rfl rfl rfl (by decide) rfl rfl  dL_holds_12 ⟨Nat.le_of_ble_eq_true rfl, Nat.le_of_ble_eq_true rfl⟩ [.int (valF f p1), .int (valF f p0)] rfl ?_
  refine J_imul C (v := (valF f p0) * (valF f p1)) dL_holds_15 rfl ?_
  refine J_istore C [some (.ref b), some (.int p0), some (.int p1), some (.int w), some (.int ((valF f p0) * (valF f p1))), none, none] dL_holds_16 (hN 4 (by decide)) rfl rfl ?_
  refine J_iconst C (v := (1 : Int32)) dL_holds_18 (by decide) ?_
  refine J_iload_n C dL_holds_19 rfl rfl ?_
  refine J_iconst C (v := (1 : Int32)) dL_holds_20 (by decide) ?_
  refine J_isub C (v := w - (1 : Int32)) dL_holds_21 rfl ?_
  refine J_ishl C (v := (1 : Int32) <<< ((w - (1 : Int32)) &&& 31)) dL_holds_22 rfl ?_
  refine J_istore C [some (.ref b), some (.int p0), some (.int p1), some (.int w), some (.int ((valF f p0) * (valF f p1))), some (.int ((1 : Int32) <<< ((w - (1 : Int32)) &&& 31))), none] dL_holds_23 (hN 5 (by decide)) rfl rfl ?_
  refine J_aload_n C dL_holds_25 rfl rfl ?_
  refine J_iload_n C dL_holds_26 rfl rfl ?_
  refine J_iload_n C dL_holds_27 rfl rfl ?_
  refine J_callV C (c_X5_productByBits_eq U b a h sa pa ta tk v m f w o t p0 p1 W v_1 v_2 hJ) gL_holds_X5_productByBits (n := 2) rfl rfl rfl (by decide +kernel) ⟨Nat.le_of_ble_eq_true rfl, Nat.le_of_ble_eq_true rfl⟩ 0 rfl rfl rfl (rest := []) rfl (Nat.le_of_ble_eq_true rfl) [(b, .inr (5, [.ref a, .ref h, .ref sa, .int tk, .ref pa, .ref ta])), (a, .inr (3, [.ref v, .ref m, .int w, .int o, .int t])), (v, .inl (U.2.2.1 0, 6, .inl f)), (m, .inr (1, [.int sl, .int bp, .int mw, .int mc, .int hi, .int lo, .int ex]))] [0, 1, 2] [3] [1, 2, 3, 0] (wr := [(m, .inr (1, [.int sl, .int bp, .int mw, .int mc, .int hi, .int lo, .int ex]))]) rfl rfl rfl rfl (by decide) rfl rfl  dL_holds_28 ⟨Nat.le_of_ble_eq_true rfl, Nat.le_of_ble_eq_true rfl⟩ [.int ((valF f p0) * (valF f p1))] rfl ?_
  refine J_iload C dL_holds_31 rfl ?_
  refine J_icmp_ne C 106 dL_holds_33 (by decide) (fun h => absurd h (fun hh => hh rfl)) (fun _ => ?_)
  refine J_aload_n C dL_holds_36 rfl rfl ?_
  refine J_iload_n C dL_holds_37 rfl rfl ?_
  refine J_iload_n C dL_holds_38 rfl rfl ?_
  refine J_callV C (c_X5_productByBits_eq U b a h sa pa ta tk v m f w o t p1 p0 W v_2 v_1 hJ) gL_holds_X5_productByBits (n := 2) rfl rfl rfl (by decide +kernel) ⟨Nat.le_of_ble_eq_true rfl, Nat.le_of_ble_eq_true rfl⟩ 0 rfl rfl rfl (rest := []) rfl (Nat.le_of_ble_eq_true rfl) [(b, .inr (5, [.ref a, .ref h, .ref sa, .int tk, .ref pa, .ref ta])), (a, .inr (3, [.ref v, .ref m, .int w, .int o, .int t])), (v, .inl (U.2.2.1 0, 6, .inl f)), (m, .inr (1, [.int sl, .int bp, .int mw, .int mc, .int hi, .int lo, .int ex]))] [0, 1, 2] [3] [1, 2, 3, 0] (wr := [(m, .inr (1, [.int sl, .int bp, .int mw, .int mc, .int hi, .int lo, .int ex]))]) rfl rfl rfl rfl (by decide) rfl rfl  dL_holds_39 ⟨Nat.le_of_ble_eq_true rfl, Nat.le_of_ble_eq_true rfl⟩ [.int ((valF f p1) * (valF f p0))] rfl ?_
  refine J_iload C dL_holds_42 rfl ?_
  refine J_icmp_ne C 106 dL_holds_44 (by decide) (fun h => absurd h (fun hh => hh ymc)) (fun _ => ?_)
  refine J_aload_n C dL_holds_47 rfl rfl ?_
  refine J_iload_n C dL_holds_48 rfl rfl ?_
  refine J_iload_n C dL_holds_49 rfl rfl ?_
  refine J_iconst C (v := (0 : Int32)) dL_holds_50 (by decide) ?_
  refine J_callV C (c_X5_productByRows_eq0 U b a h sa pa ta tk v m f w o t p0 p1 W v_1 v_2 hJ) gL_holds_X5_productByRows (n := 3) rfl rfl rfl (by decide +kernel) ⟨Nat.le_of_ble_eq_true rfl, Nat.le_of_ble_eq_true rfl⟩ 0 rfl rfl rfl (rest := []) rfl (Nat.le_of_ble_eq_true rfl) [(b, .inr (5, [.ref a, .ref h, .ref sa, .int tk, .ref pa, .ref ta])), (a, .inr (3, [.ref v, .ref m, .int w, .int o, .int t])), (v, .inl (U.2.2.1 0, 6, .inl f)), (m, .inr (1, [.int sl, .int bp, .int mw, .int mc, .int hi, .int lo, .int ex]))] [0, 1, 2] [3] [1, 2, 3, 0] (wr := [(m, .inr (1, [.int sl, .int bp, .int mw, .int mc, .int hi, .int lo, .int ex]))]) rfl rfl rfl rfl (by decide) rfl rfl  dL_holds_51 ⟨Nat.le_of_ble_eq_true rfl, Nat.le_of_ble_eq_true rfl⟩ [.int ((valF f p0) * (valF f p1))] rfl ?_
  refine J_iload C dL_holds_54 rfl ?_
  refine J_icmp_ne C 106 dL_holds_56 (by decide) (fun h => absurd h (fun hh => hh rfl)) (fun _ => ?_)
  refine J_aload_n C dL_holds_59 rfl rfl ?_
  refine J_iload_n C dL_holds_60 rfl rfl ?_
  refine J_iload_n C dL_holds_61 rfl rfl ?_
  refine J_iconst C (v := (2 : Int32)) dL_holds_62 (by decide) ?_
  refine J_callV C (c_X5_productByRows_eq2 U b a h sa pa ta tk v m f w o t p0 p1 W v_1 v_2 hJ) gL_holds_X5_productByRows (n := 3) rfl rfl rfl (by decide +kernel) ⟨Nat.le_of_ble_eq_true rfl, Nat.le_of_ble_eq_true rfl⟩ 0 rfl rfl rfl (rest := []) rfl (Nat.le_of_ble_eq_true rfl) [(b, .inr (5, [.ref a, .ref h, .ref sa, .int tk, .ref pa, .ref ta])), (a, .inr (3, [.ref v, .ref m, .int w, .int o, .int t])), (v, .inl (U.2.2.1 0, 6, .inl f)), (m, .inr (1, [.int sl, .int bp, .int mw, .int mc, .int hi, .int lo, .int ex]))] [0, 1, 2] [3] [1, 2, 3, 0] (wr := [(m, .inr (1, [.int sl, .int bp, .int mw, .int mc, .int hi, .int lo, .int ex]))]) rfl rfl rfl rfl (by decide) rfl rfl  dL_holds_63 ⟨Nat.le_of_ble_eq_true rfl, Nat.le_of_ble_eq_true rfl⟩ [.int ((valF f p0) * (valF f p1))] rfl ?_
  refine J_iload C dL_holds_66 rfl ?_
  refine J_icmp_ne C 106 dL_holds_68 (by decide) (fun h => absurd h (fun hh => hh rfl)) (fun _ => ?_)
  refine J_iload_n C dL_holds_71 rfl rfl ?_
  refine J_iconst C (v := (2 : Int32)) dL_holds_72 (by decide) ?_
  refine J_irem C (v := rem2 w) dL_holds_73 (by decide) rfl ?_
  refine J_iconst C (v := (1 : Int32)) dL_holds_74 (by decide) ?_
  refine J_icmp_eq C 102 dL_holds_75 (by decide) (fun h => absurd h e1) (fun _ => ?_)
  refine J_aload_n C dL_holds_78 rfl rfl ?_
  refine J_iload_n C dL_holds_79 rfl rfl ?_
  refine J_iload_n C dL_holds_80 rfl rfl ?_
  refine J_iconst C (v := (1 : Int32)) dL_holds_81 (by decide) ?_
  refine J_callV C (c_X5_productByRows_eq1 U b a h sa pa ta tk v m f w o t p0 p1 W v_1 v_2 hev hJ) gL_holds_X5_productByRows (n := 3) rfl rfl rfl (by decide +kernel) ⟨Nat.le_of_ble_eq_true rfl, Nat.le_of_ble_eq_true rfl⟩ 0 rfl rfl rfl (rest := []) rfl (Nat.le_of_ble_eq_true rfl) [(b, .inr (5, [.ref a, .ref h, .ref sa, .int tk, .ref pa, .ref ta])), (a, .inr (3, [.ref v, .ref m, .int w, .int o, .int t])), (v, .inl (U.2.2.1 0, 6, .inl f)), (m, .inr (1, [.int sl, .int bp, .int mw, .int mc, .int hi, .int lo, .int ex]))] [0, 1, 2] [3] [1, 2, 3, 0] (wr := [(m, .inr (1, [.int sl, .int bp, .int mw, .int mc, .int hi, .int lo, .int ex]))]) rfl rfl rfl rfl (by decide) rfl rfl  dL_holds_82 ⟨Nat.le_of_ble_eq_true rfl, Nat.le_of_ble_eq_true rfl⟩ [.int ((valF f p0) * (valF f p1))] rfl ?_
  refine J_iload C dL_holds_85 rfl ?_
  refine J_icmp_ne C 106 dL_holds_87 (by decide) (fun h => absurd h (fun hh => hh rfl)) (fun _ => ?_)
  refine J_aload_n C dL_holds_90 rfl rfl ?_
  refine J_iload_n C dL_holds_91 rfl rfl ?_
  refine J_iconst C (v := (1 : Int32)) dL_holds_92 (by decide) ?_
  refine J_callV C (c_X5_rowsOf_eq1 U b a h sa pa ta tk v m f w o t p1 W v_2 hev hJ) gL_holds_X5_rowsOf (n := 2) rfl rfl rfl (by decide +kernel) ⟨Nat.le_of_ble_eq_true rfl, Nat.le_of_ble_eq_true rfl⟩ 0 rfl rfl rfl (rest := []) rfl (Nat.le_of_ble_eq_true rfl) [(b, .inr (5, [.ref a, .ref h, .ref sa, .int tk, .ref pa, .ref ta])), (a, .inr (3, [.ref v, .ref m, .int w, .int o, .int t])), (v, .inl (U.2.2.1 0, 6, .inl f)), (m, .inr (1, [.int sl, .int bp, .int mw, .int mc, .int hi, .int lo, .int ex]))] [0, 1, 2] [3] [1, 2, 3, 0] (wr := [(m, .inr (1, [.int sl, .int bp, .int mw, .int mc, .int hi, .int lo, .int ex]))]) rfl rfl rfl rfl (by decide) rfl rfl  dL_holds_93 ⟨Nat.le_of_ble_eq_true rfl, Nat.le_of_ble_eq_true rfl⟩ [.int (nI (nzF (valF f p1) 1 (W / 2)))] rfl ?_
  refine J_iload_n C dL_holds_96 rfl rfl ?_
  refine J_iconst C (v := (2 : Int32)) dL_holds_97 (by decide) ?_
  refine J_idiv C (v := w / (2 : Int32)) dL_holds_98 (by decide) rfl ?_
  refine J_icmp_gt C 106 dL_holds_99 (by decide) (fun h => absurd h w1) (fun _ => ?_)
  refine J_iconst C (v := (1 : Int32)) dL_holds_102 (by decide) ?_
  refine J_goto C 107 dL_holds_103 (by decide) ?_
  refine J_istore C [some (.ref b), some (.int p0), some (.int p1), some (.int w), some (.int ((valF f p0) * (valF f p1))), some (.int ((1 : Int32) <<< ((w - (1 : Int32)) &&& 31))), some (.int (1 : Int32))] dL_holds_107 (hN 6 (by decide)) rfl rfl ?_
  refine J_iload C dL_holds_109 rfl ?_
  refine J_if_eq C 239 dL_holds_111 (by decide) (fun h => absurd h (by decide)) (fun _ => ?_)
  refine J_aload_n C dL_holds_114 rfl rfl ?_
  refine J_iload_n C dL_holds_115 rfl rfl ?_
  refine J_callV C (c_X5_valueOf_ok U b a h sa pa ta tk v m f w o t p0 v_1) gL_holds_X5_valueOf (n := 1) rfl rfl rfl (by decide +kernel) ⟨Nat.le_of_ble_eq_true rfl, Nat.le_of_ble_eq_true rfl⟩ 0 rfl rfl rfl (rest := []) rfl (Nat.le_of_ble_eq_true rfl) [(b, .inr (5, [.ref a, .ref h, .ref sa, .int tk, .ref pa, .ref ta])), (a, .inr (3, [.ref v, .ref m, .int w, .int o, .int t])), (v, .inl (U.2.2.1 0, 6, .inl f)), (m, .inr (1, [.int sl, .int bp, .int mw, .int mc, .int hi, .int lo, .int ex]))] [0, 1, 2] [3] [1, 2, 3, 0] (wr := [(m, .inr (1, [.int sl, .int bp, .int mw, .int mc, .int hi, .int lo, .int ex]))]) rfl rfl rfl rfl (by decide) rfl rfl  dL_holds_116 ⟨Nat.le_of_ble_eq_true rfl, Nat.le_of_ble_eq_true rfl⟩ [.int (valF f p0)] rfl ?_
  refine J_iload C dL_holds_119 rfl ?_
  refine J_ineg C dL_holds_121 rfl ?_
  refine J_icmp_lt C 239 dL_holds_122 (by decide) (fun h => absurd h l1) (fun _ => ?_)
  refine J_aload_n C dL_holds_125 rfl rfl ?_
  refine J_iload_n C dL_holds_126 rfl rfl ?_
  refine J_callV C (c_X5_valueOf_ok U b a h sa pa ta tk v m f w o t p0 v_1) gL_holds_X5_valueOf (n := 1) rfl rfl rfl (by decide +kernel) ⟨Nat.le_of_ble_eq_true rfl, Nat.le_of_ble_eq_true rfl⟩ 0 rfl rfl rfl (rest := []) rfl (Nat.le_of_ble_eq_true rfl) [(b, .inr (5, [.ref a, .ref h, .ref sa, .int tk, .ref pa, .ref ta])), (a, .inr (3, [.ref v, .ref m, .int w, .int o, .int t])), (v, .inl (U.2.2.1 0, 6, .inl f)), (m, .inr (1, [.int sl, .int bp, .int mw, .int mc, .int hi, .int lo, .int ex]))] [0, 1, 2] [3] [1, 2, 3, 0] (wr := [(m, .inr (1, [.int sl, .int bp, .int mw, .int mc, .int hi, .int lo, .int ex]))]) rfl rfl rfl rfl (by decide) rfl rfl  dL_holds_127 ⟨Nat.le_of_ble_eq_true rfl, Nat.le_of_ble_eq_true rfl⟩ [.int (valF f p0)] rfl ?_
  refine J_iload C dL_holds_130 rfl ?_
  refine J_icmp_ge C 239 dL_holds_132 (by decide) (fun h => absurd h l2) (fun _ => ?_)
  refine J_aload_n C dL_holds_135 rfl rfl ?_
  refine J_iload_n C dL_holds_136 rfl rfl ?_
  refine J_iload_n C dL_holds_137 rfl rfl ?_
  refine J_callV C (c_X5_fits_ok U b a h sa pa ta tk v m f w o t p0 p1 v_1 v_2) gL_holds_X5_fits (n := 2) rfl rfl rfl (by decide +kernel) ⟨Nat.le_of_ble_eq_true rfl, Nat.le_of_ble_eq_true rfl⟩ 0 rfl rfl rfl (rest := []) rfl (Nat.le_of_ble_eq_true rfl) [(b, .inr (5, [.ref a, .ref h, .ref sa, .int tk, .ref pa, .ref ta])), (a, .inr (3, [.ref v, .ref m, .int w, .int o, .int t])), (v, .inl (U.2.2.1 0, 6, .inl f)), (m, .inr (1, [.int sl, .int bp, .int mw, .int mc, .int hi, .int lo, .int ex]))] [0, 1, 2] [3] [1, 2, 3, 0] (wr := [(m, .inr (1, [.int sl, .int bp, .int mw, .int mc, .int hi, .int lo, .int ex]))]) rfl rfl rfl rfl (by decide) rfl rfl  dL_holds_138 ⟨Nat.le_of_ble_eq_true rfl, Nat.le_of_ble_eq_true rfl⟩ [.int (b2i (wrapF w (valF f p0 * valF f p1) = (valF f p0 * valF f p1)))] rfl ?_
  refine J_iload C dL_holds_141 rfl ?_
  refine J_iload C dL_holds_143 rfl ?_
  refine J_ineg C dL_holds_145 rfl ?_
  refine J_icmp_lt C 160 dL_holds_146 (by decide) (fun h => absurd h d1) (fun _ => ?_)
  refine J_iload C dL_holds_149 rfl ?_
  refine J_iload C dL_holds_151 rfl ?_
  refine J_icmp_ge C 160 dL_holds_153 (by decide) (fun _ => ?_) (fun h => absurd d2 h)
  refine J_iconst C (v := (0 : Int32)) dL_holds_160 (by decide) ?_
  refine J_icmp_ne C 239 dL_holds_161 (by decide) (fun h => absurd h (fun hh => hh ft)) (fun _ => ?_)
  refine J_aload_n C dL_holds_164 rfl rfl ?_
  refine J_iload_n C dL_holds_165 rfl rfl ?_
  refine J_iload_n C dL_holds_166 rfl rfl ?_
  refine J_callV C (c_X5_carries_eq U b a h sa pa ta tk v m f w o t p0 p1 W v_1 v_2 hJ) gL_holds_X5_carries (n := 2) rfl rfl rfl (by decide +kernel) ⟨Nat.le_of_ble_eq_true rfl, Nat.le_of_ble_eq_true rfl⟩ 0 rfl rfl rfl (rest := []) rfl (Nat.le_of_ble_eq_true rfl) [(b, .inr (5, [.ref a, .ref h, .ref sa, .int tk, .ref pa, .ref ta])), (a, .inr (3, [.ref v, .ref m, .int w, .int o, .int t])), (v, .inl (U.2.2.1 0, 6, .inl f)), (m, .inr (1, [.int sl, .int bp, .int mw, .int mc, .int hi, .int lo, .int ex]))] [0, 1, 2] [3] [1, 2, 3, 0] (wr := [(m, .inr (1, [.int sl, .int bp, .int mw, .int mc, .int hi, .int lo, .int ex]))]) rfl rfl rfl rfl (by decide) rfl rfl  dL_holds_167 ⟨Nat.le_of_ble_eq_true rfl, Nat.le_of_ble_eq_true rfl⟩ [.int (nI (crN W (valF f p0) (valF f p1)))] rfl ?_
  refine J_aload_n C dL_holds_170 rfl rfl ?_
  refine J_iload_n C dL_holds_171 rfl rfl ?_
  refine J_iload_n C dL_holds_172 rfl rfl ?_
  refine J_callV C (c_X5_carries_eq U b a h sa pa ta tk v m f w o t p1 p0 W v_2 v_1 hJ) gL_holds_X5_carries (n := 2) rfl rfl rfl (by decide +kernel) ⟨Nat.le_of_ble_eq_true rfl, Nat.le_of_ble_eq_true rfl⟩ 0 rfl rfl rfl (rest := [.int (nI (crN W (valF f p0) (valF f p1)))]) rfl (Nat.le_of_ble_eq_true rfl) [(b, .inr (5, [.ref a, .ref h, .ref sa, .int tk, .ref pa, .ref ta])), (a, .inr (3, [.ref v, .ref m, .int w, .int o, .int t])), (v, .inl (U.2.2.1 0, 6, .inl f)), (m, .inr (1, [.int sl, .int bp, .int mw, .int mc, .int hi, .int lo, .int ex]))] [0, 1, 2] [3] [1, 2, 3, 0] (wr := [(m, .inr (1, [.int sl, .int bp, .int mw, .int mc, .int hi, .int lo, .int ex]))]) rfl rfl rfl rfl (by decide) rfl rfl  dL_holds_173 ⟨Nat.le_of_ble_eq_true rfl, Nat.le_of_ble_eq_true rfl⟩ [.int (nI (crN W (valF f p1) (valF f p0))), .int (nI (crN W (valF f p0) (valF f p1)))] rfl ?_
  refine J_icmp_ne C 239 dL_holds_176 (by decide) (fun h => absurd h (fun hh => hh c1)) (fun _ => ?_)
  refine J_aload_n C dL_holds_179 rfl rfl ?_
  refine J_iload_n C dL_holds_180 rfl rfl ?_
  refine J_iload_n C dL_holds_181 rfl rfl ?_
  refine J_callV C (c_X5_longestRun_eq U b a h sa pa ta tk v m f w o t p0 p1 W v_1 v_2 hJ) gL_holds_X5_longestRun (n := 2) rfl rfl rfl (by decide +kernel) ⟨Nat.le_of_ble_eq_true rfl, Nat.le_of_ble_eq_true rfl⟩ 0 rfl rfl rfl (rest := []) rfl (Nat.le_of_ble_eq_true rfl) [(b, .inr (5, [.ref a, .ref h, .ref sa, .int tk, .ref pa, .ref ta])), (a, .inr (3, [.ref v, .ref m, .int w, .int o, .int t])), (v, .inl (U.2.2.1 0, 6, .inl f)), (m, .inr (1, [.int sl, .int bp, .int mw, .int mc, .int hi, .int lo, .int ex]))] [0, 1, 2] [3] [1, 2, 3, 0] (wr := [(m, .inr (1, [.int sl, .int bp, .int mw, .int mc, .int hi, .int lo, .int ex]))]) rfl rfl rfl rfl (by decide) rfl rfl  dL_holds_182 ⟨Nat.le_of_ble_eq_true rfl, Nat.le_of_ble_eq_true rfl⟩ [.int (nI (lrN W (valF f p0) (valF f p1)))] rfl ?_
  refine J_aload_n C dL_holds_185 rfl rfl ?_
  refine J_iload_n C dL_holds_186 rfl rfl ?_
  refine J_iload_n C dL_holds_187 rfl rfl ?_
  refine J_callV C (c_X5_carries_eq U b a h sa pa ta tk v m f w o t p0 p1 W v_1 v_2 hJ) gL_holds_X5_carries (n := 2) rfl rfl rfl (by decide +kernel) ⟨Nat.le_of_ble_eq_true rfl, Nat.le_of_ble_eq_true rfl⟩ 0 rfl rfl rfl (rest := [.int (nI (lrN W (valF f p0) (valF f p1)))]) rfl (Nat.le_of_ble_eq_true rfl) [(b, .inr (5, [.ref a, .ref h, .ref sa, .int tk, .ref pa, .ref ta])), (a, .inr (3, [.ref v, .ref m, .int w, .int o, .int t])), (v, .inl (U.2.2.1 0, 6, .inl f)), (m, .inr (1, [.int sl, .int bp, .int mw, .int mc, .int hi, .int lo, .int ex]))] [0, 1, 2] [3] [1, 2, 3, 0] (wr := [(m, .inr (1, [.int sl, .int bp, .int mw, .int mc, .int hi, .int lo, .int ex]))]) rfl rfl rfl rfl (by decide) rfl rfl  dL_holds_188 ⟨Nat.le_of_ble_eq_true rfl, Nat.le_of_ble_eq_true rfl⟩ [.int (nI (crN W (valF f p0) (valF f p1))), .int (nI (lrN W (valF f p0) (valF f p1)))] rfl ?_
  refine J_icmp_gt C 239 dL_holds_191 (by decide) (fun h => absurd h c2) (fun _ => ?_)
  refine J_aload_n C dL_holds_194 rfl rfl ?_
  refine J_iload_n C dL_holds_195 rfl rfl ?_
  refine J_iload_n C dL_holds_196 rfl rfl ?_
  refine J_callV C (c_X5_longestRun_eq U b a h sa pa ta tk v m f w o t p0 p1 W v_1 v_2 hJ) gL_holds_X5_longestRun (n := 2) rfl rfl rfl (by decide +kernel) ⟨Nat.le_of_ble_eq_true rfl, Nat.le_of_ble_eq_true rfl⟩ 0 rfl rfl rfl (rest := []) rfl (Nat.le_of_ble_eq_true rfl) [(b, .inr (5, [.ref a, .ref h, .ref sa, .int tk, .ref pa, .ref ta])), (a, .inr (3, [.ref v, .ref m, .int w, .int o, .int t])), (v, .inl (U.2.2.1 0, 6, .inl f)), (m, .inr (1, [.int sl, .int bp, .int mw, .int mc, .int hi, .int lo, .int ex]))] [0, 1, 2] [3] [1, 2, 3, 0] (wr := [(m, .inr (1, [.int sl, .int bp, .int mw, .int mc, .int hi, .int lo, .int ex]))]) rfl rfl rfl rfl (by decide) rfl rfl  dL_holds_197 ⟨Nat.le_of_ble_eq_true rfl, Nat.le_of_ble_eq_true rfl⟩ [.int (nI (lrN W (valF f p0) (valF f p1)))] rfl ?_
  refine J_if_ne C 207 dL_holds_200 (by decide) (fun h => absurd h (fun hh => hh z1)) (fun _ => ?_)
  refine J_iconst C (v := (1 : Int32)) dL_holds_203 (by decide) ?_
  refine J_goto C 208 dL_holds_204 (by decide) ?_
  refine J_aload_n C dL_holds_208 rfl rfl ?_
  refine J_iload_n C dL_holds_209 rfl rfl ?_
  refine J_iload_n C dL_holds_210 rfl rfl ?_
  refine J_callV C (c_X5_carries_eq U b a h sa pa ta tk v m f w o t p0 p1 W v_1 v_2 hJ) gL_holds_X5_carries (n := 2) rfl rfl rfl (by decide +kernel) ⟨Nat.le_of_ble_eq_true rfl, Nat.le_of_ble_eq_true rfl⟩ 0 rfl rfl rfl (rest := [.int (1 : Int32)]) rfl (Nat.le_of_ble_eq_true rfl) [(b, .inr (5, [.ref a, .ref h, .ref sa, .int tk, .ref pa, .ref ta])), (a, .inr (3, [.ref v, .ref m, .int w, .int o, .int t])), (v, .inl (U.2.2.1 0, 6, .inl f)), (m, .inr (1, [.int sl, .int bp, .int mw, .int mc, .int hi, .int lo, .int ex]))] [0, 1, 2] [3] [1, 2, 3, 0] (wr := [(m, .inr (1, [.int sl, .int bp, .int mw, .int mc, .int hi, .int lo, .int ex]))]) rfl rfl rfl rfl (by decide) rfl rfl  dL_holds_211 ⟨Nat.le_of_ble_eq_true rfl, Nat.le_of_ble_eq_true rfl⟩ [.int (nI (crN W (valF f p0) (valF f p1))), .int (1 : Int32)] rfl ?_
  refine J_if_ne C 221 dL_holds_214 (by decide) (fun h => absurd h (fun hh => hh z2)) (fun _ => ?_)
  refine J_iconst C (v := (1 : Int32)) dL_holds_217 (by decide) ?_
  refine J_goto C 222 dL_holds_218 (by decide) ?_
  refine J_icmp_ne C 239 dL_holds_222 (by decide) (fun h => absurd (by decide) h) (fun _ => ?_)
  refine J_aload_n C dL_holds_225 rfl rfl ?_
  refine J_iload_n C dL_holds_226 rfl rfl ?_
  refine J_iload_n C dL_holds_227 rfl rfl ?_
  refine J_callV C (c_X5_carries_eq U b a h sa pa ta tk v m f w o t p0 p1 W v_1 v_2 hJ) gL_holds_X5_carries (n := 2) rfl rfl rfl (by decide +kernel) ⟨Nat.le_of_ble_eq_true rfl, Nat.le_of_ble_eq_true rfl⟩ 0 rfl rfl rfl (rest := []) rfl (Nat.le_of_ble_eq_true rfl) [(b, .inr (5, [.ref a, .ref h, .ref sa, .int tk, .ref pa, .ref ta])), (a, .inr (3, [.ref v, .ref m, .int w, .int o, .int t])), (v, .inl (U.2.2.1 0, 6, .inl f)), (m, .inr (1, [.int sl, .int bp, .int mw, .int mc, .int hi, .int lo, .int ex]))] [0, 1, 2] [3] [1, 2, 3, 0] (wr := [(m, .inr (1, [.int sl, .int bp, .int mw, .int mc, .int hi, .int lo, .int ex]))]) rfl rfl rfl rfl (by decide) rfl rfl  dL_holds_228 ⟨Nat.le_of_ble_eq_true rfl, Nat.le_of_ble_eq_true rfl⟩ [.int (nI (crN W (valF f p0) (valF f p1)))] rfl ?_
  refine J_iload_n C dL_holds_231 rfl rfl ?_
  refine J_icmp_gt C 239 dL_holds_232 (by decide) (fun h => absurd h c3) (fun _ => ?_)
  refine J_iconst C (v := (1 : Int32)) dL_holds_235 (by decide) ?_
  refine J_goto C 240 dL_holds_236 (by decide) ?_
  refine J_istore C [some (.ref b), some (.int p0), some (.int p1), some (.int w), some (.int ((valF f p0) * (valF f p1))), some (.int ((1 : Int32) <<< ((w - (1 : Int32)) &&& 31))), some (.int (1 : Int32))] dL_holds_240 (hN 6 (by decide)) rfl rfl ?_
  refine J_iload C dL_holds_242 rfl ?_
  refine J_if_eq C 282 dL_holds_244 (by decide) (fun h => absurd h (by decide)) (fun _ => ?_)
  refine J_aload_n C dL_holds_247 rfl rfl ?_
  refine J_iload_n C dL_holds_248 rfl rfl ?_
  refine J_iconst C (v := (2 : Int32)) dL_holds_249 (by decide) ?_
  refine J_callV C (c_X5_rowsOf_eq2 U b a h sa pa ta tk v m f w o t p0 W v_1 hJ) gL_holds_X5_rowsOf (n := 2) rfl rfl rfl (by decide +kernel) ⟨Nat.le_of_ble_eq_true rfl, Nat.le_of_ble_eq_true rfl⟩ 0 rfl rfl rfl (rest := []) rfl (Nat.le_of_ble_eq_true rfl) [(b, .inr (5, [.ref a, .ref h, .ref sa, .int tk, .ref pa, .ref ta])), (a, .inr (3, [.ref v, .ref m, .int w, .int o, .int t])), (v, .inl (U.2.2.1 0, 6, .inl f)), (m, .inr (1, [.int sl, .int bp, .int mw, .int mc, .int hi, .int lo, .int ex]))] [0, 1, 2] [3] [1, 2, 3, 0] (wr := [(m, .inr (1, [.int sl, .int bp, .int mw, .int mc, .int hi, .int lo, .int ex]))]) rfl rfl rfl rfl (by decide) rfl rfl  dL_holds_250 ⟨Nat.le_of_ble_eq_true rfl, Nat.le_of_ble_eq_true rfl⟩ [.int (nI (nzF (valF f p0) 2 W))] rfl ?_
  refine J_aload_n C dL_holds_253 rfl rfl ?_
  refine J_iload_n C dL_holds_254 rfl rfl ?_
  refine J_iconst C (v := (0 : Int32)) dL_holds_255 (by decide) ?_
  refine J_callV C (c_X5_rowsOf_eq0 U b a h sa pa ta tk v m f w o t p0 W v_1 hJ) gL_holds_X5_rowsOf (n := 2) rfl rfl rfl (by decide +kernel) ⟨Nat.le_of_ble_eq_true rfl, Nat.le_of_ble_eq_true rfl⟩ 0 rfl rfl rfl (rest := [.int (nI (nzF (valF f p0) 2 W))]) rfl (Nat.le_of_ble_eq_true rfl) [(b, .inr (5, [.ref a, .ref h, .ref sa, .int tk, .ref pa, .ref ta])), (a, .inr (3, [.ref v, .ref m, .int w, .int o, .int t])), (v, .inl (U.2.2.1 0, 6, .inl f)), (m, .inr (1, [.int sl, .int bp, .int mw, .int mc, .int hi, .int lo, .int ex]))] [0, 1, 2] [3] [1, 2, 3, 0] (wr := [(m, .inr (1, [.int sl, .int bp, .int mw, .int mc, .int hi, .int lo, .int ex]))]) rfl rfl rfl rfl (by decide) rfl rfl  dL_holds_256 ⟨Nat.le_of_ble_eq_true rfl, Nat.le_of_ble_eq_true rfl⟩ [.int (nI (nzF (valF f p0) 0 W)), .int (nI (nzF (valF f p0) 2 W))] rfl ?_
  refine J_icmp_gt C 282 dL_holds_259 (by decide) (fun h => absurd h s1) (fun _ => ?_)
  refine J_aload_n C dL_holds_262 rfl rfl ?_
  refine J_iload_n C dL_holds_263 rfl rfl ?_
  refine J_iconst C (v := (2 : Int32)) dL_holds_264 (by decide) ?_
  refine J_callV C (c_X5_rowsOf_eq2 U b a h sa pa ta tk v m f w o t p0 W v_1 hJ) gL_holds_X5_rowsOf (n := 2) rfl rfl rfl (by decide +kernel) ⟨Nat.le_of_ble_eq_true rfl, Nat.le_of_ble_eq_true rfl⟩ 0 rfl rfl rfl (rest := []) rfl (Nat.le_of_ble_eq_true rfl) [(b, .inr (5, [.ref a, .ref h, .ref sa, .int tk, .ref pa, .ref ta])), (a, .inr (3, [.ref v, .ref m, .int w, .int o, .int t])), (v, .inl (U.2.2.1 0, 6, .inl f)), (m, .inr (1, [.int sl, .int bp, .int mw, .int mc, .int hi, .int lo, .int ex]))] [0, 1, 2] [3] [1, 2, 3, 0] (wr := [(m, .inr (1, [.int sl, .int bp, .int mw, .int mc, .int hi, .int lo, .int ex]))]) rfl rfl rfl rfl (by decide) rfl rfl  dL_holds_265 ⟨Nat.le_of_ble_eq_true rfl, Nat.le_of_ble_eq_true rfl⟩ [.int (nI (nzF (valF f p0) 2 W))] rfl ?_
  refine J_aload_n C dL_holds_268 rfl rfl ?_
  refine J_iload_n C dL_holds_269 rfl rfl ?_
  refine J_callV C (c_X5_onesOf_eq U b a h sa pa ta tk v m f w o t p0 W v_1 hJ) gL_holds_X5_onesOf (n := 1) rfl rfl rfl (by decide +kernel) ⟨Nat.le_of_ble_eq_true rfl, Nat.le_of_ble_eq_true rfl⟩ 0 rfl rfl rfl (rest := [.int (nI (nzF (valF f p0) 2 W))]) rfl (Nat.le_of_ble_eq_true rfl) [(b, .inr (5, [.ref a, .ref h, .ref sa, .int tk, .ref pa, .ref ta])), (a, .inr (3, [.ref v, .ref m, .int w, .int o, .int t])), (v, .inl (U.2.2.1 0, 6, .inl f)), (m, .inr (1, [.int sl, .int bp, .int mw, .int mc, .int hi, .int lo, .int ex]))] [0, 1, 2] [3] [1, 2, 3, 0] (wr := [(m, .inr (1, [.int sl, .int bp, .int mw, .int mc, .int hi, .int lo, .int ex]))]) rfl rfl rfl rfl (by decide) rfl rfl  dL_holds_270 ⟨Nat.le_of_ble_eq_true rfl, Nat.le_of_ble_eq_true rfl⟩ [.int (nI (pcN W (tn (valF f p0)))), .int (nI (nzF (valF f p0) 2 W))] rfl ?_
  refine J_iconst C (v := (1 : Int32)) dL_holds_273 (by decide) ?_
  refine J_iadd C (v := (nI (pcN W (tn (valF f p0)))) + (1 : Int32)) dL_holds_274 rfl ?_
  refine J_icmp_gt C 282 dL_holds_275 (by decide) (fun h => absurd h s2) (fun _ => ?_)
  refine J_iconst C (v := (1 : Int32)) dL_holds_278 (by decide) ?_
  refine J_goto C 283 dL_holds_279 (by decide) ?_
  refine J_istore C [some (.ref b), some (.int p0), some (.int p1), some (.int w), some (.int ((valF f p0) * (valF f p1))), some (.int ((1 : Int32) <<< ((w - (1 : Int32)) &&& 31))), some (.int (1 : Int32))] dL_holds_283 (hN 6 (by decide)) rfl rfl ?_
  refine J_aload_n C dL_holds_285 rfl rfl ?_
  refine J_callV C (c_X5_stepsLeft U b a h sa pa ta tk v m w o t sl bp mw mc hi lo ex ) gL_holds_X5_stepsLeft (n := 0) rfl rfl rfl (by decide +kernel) ⟨Nat.le_of_ble_eq_true rfl, Nat.le_of_ble_eq_true rfl⟩ 0 rfl rfl rfl (rest := []) rfl (Nat.le_of_ble_eq_true rfl) [(b, .inr (5, [.ref a, .ref h, .ref sa, .int tk, .ref pa, .ref ta])), (a, .inr (3, [.ref v, .ref m, .int w, .int o, .int t])), (v, .inl (U.2.2.1 0, 6, .inl f)), (m, .inr (1, [.int sl, .int bp, .int mw, .int mc, .int hi, .int lo, .int ex]))] [0, 1, 3] [2] [1, 2, 0, 3] (wr := [(v, .inl (U.2.2.1 0, 6, .inl f))]) rfl rfl rfl rfl (by decide) rfl rfl  dL_holds_286 ⟨Nat.le_of_ble_eq_true rfl, Nat.le_of_ble_eq_true rfl⟩ [.int sl] rfl ?_
  refine J_if_lt C 337 dL_holds_289 (by decide) (fun _ => ?_) (fun h => absurd h1 h)
  refine J_iload C dL_holds_337 rfl ?_
  refine J_if_eq C 363 dL_holds_339 (by decide) (fun h => absurd h (by decide)) (fun _ => ?_)
  refine J_aload_n C dL_holds_342 rfl rfl ?_
  refine J_callV C (c_X5_stepsLeft U b a h sa pa ta tk v m w o t sl bp mw mc hi lo ex ) gL_holds_X5_stepsLeft (n := 0) rfl rfl rfl (by decide +kernel) ⟨Nat.le_of_ble_eq_true rfl, Nat.le_of_ble_eq_true rfl⟩ 0 rfl rfl rfl (rest := []) rfl (Nat.le_of_ble_eq_true rfl) [(b, .inr (5, [.ref a, .ref h, .ref sa, .int tk, .ref pa, .ref ta])), (a, .inr (3, [.ref v, .ref m, .int w, .int o, .int t])), (v, .inl (U.2.2.1 0, 6, .inl f)), (m, .inr (1, [.int sl, .int bp, .int mw, .int mc, .int hi, .int lo, .int ex]))] [0, 1, 3] [2] [1, 2, 0, 3] (wr := [(v, .inl (U.2.2.1 0, 6, .inl f))]) rfl rfl rfl rfl (by decide) rfl rfl  dL_holds_343 ⟨Nat.le_of_ble_eq_true rfl, Nat.le_of_ble_eq_true rfl⟩ [.int sl] rfl ?_
  refine J_iconst C (v := (-1 : Int32)) dL_holds_346 (by decide) ?_
  refine J_icmp_lt C 363 dL_holds_347 (by decide) (fun h => absurd h t1) (fun _ => ?_)
  refine J_aload_n C dL_holds_350 rfl rfl ?_
  refine J_callV C (c_X5_stepsLeft U b a h sa pa ta tk v m w o t sl bp mw mc hi lo ex ) gL_holds_X5_stepsLeft (n := 0) rfl rfl rfl (by decide +kernel) ⟨Nat.le_of_ble_eq_true rfl, Nat.le_of_ble_eq_true rfl⟩ 0 rfl rfl rfl (rest := []) rfl (Nat.le_of_ble_eq_true rfl) [(b, .inr (5, [.ref a, .ref h, .ref sa, .int tk, .ref pa, .ref ta])), (a, .inr (3, [.ref v, .ref m, .int w, .int o, .int t])), (v, .inl (U.2.2.1 0, 6, .inl f)), (m, .inr (1, [.int sl, .int bp, .int mw, .int mc, .int hi, .int lo, .int ex]))] [0, 1, 3] [2] [1, 2, 0, 3] (wr := [(v, .inl (U.2.2.1 0, 6, .inl f))]) rfl rfl rfl rfl (by decide) rfl rfl  dL_holds_351 ⟨Nat.le_of_ble_eq_true rfl, Nat.le_of_ble_eq_true rfl⟩ [.int sl] rfl ?_
  refine J_bipush C (v := (16 : Int32)) dL_holds_354 (by decide) ?_
  refine J_icmp_gt C 363 dL_holds_356 (by decide) (fun h => absurd h t2) (fun _ => ?_)
  refine J_iconst C (v := (1 : Int32)) dL_holds_359 (by decide) ?_
  refine J_goto C 364 dL_holds_360 (by decide) ?_
  exact J_zret C R rfl dL_holds_364 (Nat.le_of_ble_eq_true rfl) (Nat.le_of_ble_eq_true rfl) rfl rfl
set_option maxHeartbeats 4000000 in
set_option maxRecDepth 100000 in
theorem c_L_holds_eazp (U : jU) (b a h sa pa ta : Nat) (tk : Int32) (v m : Nat) (f : Nat → Int32) (w o t sl bp mw mc hi lo ex : Int32) (p0 p1 : Int32) (W : Nat) (v_1 : isReg p0) (v_2 : isReg p1) (hJ : jW W w f) (ymc : (valF f p1) * (valF f p0) = ((valF f p0) * (valF f p1))) (l1 : ¬ (valF f p0) < -((1 : Int32) <<< ((w - (1 : Int32)) &&& 31))) (l2 : ¬ ((1 : Int32) <<< ((w - (1 : Int32)) &&& 31)) ≤ (valF f p0)) (c1 : nI (crN W (valF f p0) (valF f p1)) = nI (crN W (valF f p1) (valF f p0))) (c2 : ¬ nI (crN W (valF f p0) (valF f p1)) < nI (lrN W (valF f p0) (valF f p1))) (c3 : ¬ w < nI (crN W (valF f p0) (valF f p1))) (s1 : ¬ nI (nzF (valF f p0) 0 W) < nI (nzF (valF f p0) 2 W)) (s2 : ¬ (nI (pcN W (tn (valF f p0))) + (1 : Int32)) < nI (nzF (valF f p0) 2 W)) (t1 : ¬ sl < -1) (t2 : ¬ 16 < sl) (e1 : ¬ rem2 w = 1) (hev : W % 2 = 0) (w1 : ¬ w / 2 < nI (nzF (valF f p1) 1 (W / 2))) (ft : b2i (wrapF w ((valF f p0) * (valF f p1)) = ((valF f p0) * (valF f p1))) = 0) (d1 : ¬ ((valF f p0) * (valF f p1)) < -((1 : Int32) <<< ((w - (1 : Int32)) &&& 31))) (d2 : ((1 : Int32) <<< ((w - (1 : Int32)) &&& 31)) ≤ ((valF f p0) * (valF f p1))) (z1 : nI (lrN W (valF f p0) (valF f p1)) = 0) (z2 : nI (crN W (valF f p0) (valF f p1)) = 0) (h1 : ¬ sl < 0) (h2 : ¬ sl = -1) (h3 : ¬ lo < 0) (h4 : ¬ ((2 : Int32) * ((1 : Int32) <<< ((w - (1 : Int32)) &&& 31))) ≤ lo) (hx : ex = 0 ∨ ex = 1) : Fn U yL_holds wsL_holds { frames := 8, cells := 0, slots := 0, locals := 137 } [.ref b, .int p0, .int p1] [(b, .inr (5, [.ref a, .ref h, .ref sa, .int tk, .ref pa, .ref ta])), (a, .inr (3, [.ref v, .ref m, .int w, .int o, .int t])), (v, .inl (U.2.2.1 0, 6, .inl f)), (m, .inr (1, [.int sl, .int bp, .int mw, .int mc, .int hi, .int lo, .int ex]))] (some (.int (1 : Int32))) [(b, .inr (5, [.ref a, .ref h, .ref sa, .int tk, .ref pa, .ref ta])), (a, .inr (3, [.ref v, .ref m, .int w, .int o, .int t])), (v, .inl (U.2.2.1 0, 6, .inl f)), (m, .inr (1, [.int sl, .int bp, .int mw, .int mc, .int hi, .int lo, .int ex]))] 0 0 := by
  refine Fn_of (cc := cL_holds) (maxL := 7) (ret := (some .boolean)) [some (.ref b), some (.int p0), some (.int p1), none, none, none, none] (by decide +kernel) rfl (jcat rfl) (Nat.le_of_ble_eq_true rfl) rfl (fun k C R hin hnL => ?_)
  have hN : ∀ i, i < 7 → i < k.2.2.2.2.2.2.2.2.2.2.2.1 := fun i h => by rw [hnL]; exact h
  refine J_aload_n C dL_holds_0 rfl rfl ?_
  refine J_callV C (c_X5_width U b a h sa pa ta tk v m w o t ) gL_holds_X5_width (n := 0) rfl rfl rfl (by decide +kernel) ⟨Nat.le_of_ble_eq_true rfl, Nat.le_of_ble_eq_true rfl⟩ 0 rfl rfl rfl (rest := []) rfl (Nat.le_of_ble_eq_true rfl) [(b, .inr (5, [.ref a, .ref h, .ref sa, .int tk, .ref pa, .ref ta])), (a, .inr (3, [.ref v, .ref m, .int w, .int o, .int t])), (v, .inl (U.2.2.1 0, 6, .inl f)), (m, .inr (1, [.int sl, .int bp, .int mw, .int mc, .int hi, .int lo, .int ex]))] [0, 1] [2, 3] [2, 3, 0, 1] (wr := [(v, .inl (U.2.2.1 0, 6, .inl f)), (m, .inr (1, [.int sl, .int bp, .int mw, .int mc, .int hi, .int lo, .int ex]))]) rfl rfl rfl rfl (by decide) rfl rfl  dL_holds_1 ⟨Nat.le_of_ble_eq_true rfl, Nat.le_of_ble_eq_true rfl⟩ [.int w] rfl ?_
  refine J_istore_n C [some (.ref b), some (.int p0), some (.int p1), some (.int w), none, none, none] dL_holds_4 rfl (hN 3 (by decide)) rfl rfl ?_
  refine J_aload_n C dL_holds_5 rfl rfl ?_
  refine J_iload_n C dL_holds_6 rfl rfl ?_
  refine J_callV C (c_X5_valueOf_ok U b a h sa pa ta tk v m f w o t p0 v_1) gL_holds_X5_valueOf (n := 1) rfl rfl rfl (by decide +kernel) ⟨Nat.le_of_ble_eq_true rfl, Nat.le_of_ble_eq_true rfl⟩ 0 rfl rfl rfl (rest := []) rfl (Nat.le_of_ble_eq_true rfl) [(b, .inr (5, [.ref a, .ref h, .ref sa, .int tk, .ref pa, .ref ta])), (a, .inr (3, [.ref v, .ref m, .int w, .int o, .int t])), (v, .inl (U.2.2.1 0, 6, .inl f)), (m, .inr (1, [.int sl, .int bp, .int mw, .int mc, .int hi, .int lo, .int ex]))] [0, 1, 2] [3] [1, 2, 3, 0] (wr := [(m, .inr (1, [.int sl, .int bp, .int mw, .int mc, .int hi, .int lo, .int ex]))]) rfl rfl rfl rfl (by decide) rfl rfl  dL_holds_7 ⟨Nat.le_of_ble_eq_true rfl, Nat.le_of_ble_eq_true rfl⟩ [.int (valF f p0)] rfl ?_
  refine J_aload_n C dL_holds_10 rfl rfl ?_
  refine J_iload_n C dL_holds_11 rfl rfl ?_
  refine J_callV C (c_X5_valueOf_ok U b a h sa pa ta tk v m f w o t p1 v_2) gL_holds_X5_valueOf (n := 1) rfl rfl rfl (by decide +kernel) ⟨Nat.le_of_ble_eq_true rfl, Nat.le_of_ble_eq_true rfl⟩ 0 rfl rfl rfl (rest := [.int (valF f p0)]) rfl (Nat.le_of_ble_eq_true rfl) [(b, .inr (5, [.ref a, .ref h, .ref sa, .int tk, .ref pa, .ref ta])), (a, .inr (3, [.ref v, .ref m, .int w, .int o, .int t])), (v, .inl (U.2.2.1 0, 6, .inl f)), (m, .inr (1, [.int sl, .int bp, .int mw, .int mc, .int hi, .int lo, .int ex]))] [0, 1, 2] [3] [1, 2, 3, 0] (wr := [(m, .inr (1, [.int sl, .int bp, .int mw, .int mc, .int hi, .int lo, .int ex]))]) rfl rfl rfl rfl (by decide) rfl rfl  dL_holds_12 ⟨Nat.le_of_ble_eq_true rfl, Nat.le_of_ble_eq_true rfl⟩ [.int (valF f p1), .int (valF f p0)] rfl ?_
  refine J_imul C (v := (valF f p0) * (valF f p1)) dL_holds_15 rfl ?_
  refine J_istore C [some (.ref b), some (.int p0), some (.int p1), some (.int w), some (.int ((valF f p0) * (valF f p1))), none, none] dL_holds_16 (hN 4 (by decide)) rfl rfl ?_
  refine J_iconst C (v := (1 : Int32)) dL_holds_18 (by decide) ?_
  refine J_iload_n C dL_holds_19 rfl rfl ?_
  refine J_iconst C (v := (1 : Int32)) dL_holds_20 (by decide) ?_
  refine J_isub C (v := w - (1 : Int32)) dL_holds_21 rfl ?_
  refine J_ishl C (v := (1 : Int32) <<< ((w - (1 : Int32)) &&& 31)) dL_holds_22 rfl ?_
  refine J_istore C [some (.ref b), some (.int p0), some (.int p1), some (.int w), some (.int ((valF f p0) * (valF f p1))), some (.int ((1 : Int32) <<< ((w - (1 : Int32)) &&& 31))), none] dL_holds_23 (hN 5 (by decide)) rfl rfl ?_
  refine J_aload_n C dL_holds_25 rfl rfl ?_
  refine J_iload_n C dL_holds_26 rfl rfl ?_
  refine J_iload_n C dL_holds_27 rfl rfl ?_
  refine J_callV C (c_X5_productByBits_eq U b a h sa pa ta tk v m f w o t p0 p1 W v_1 v_2 hJ) gL_holds_X5_productByBits (n := 2) rfl rfl rfl (by decide +kernel) ⟨Nat.le_of_ble_eq_true rfl, Nat.le_of_ble_eq_true rfl⟩ 0 rfl rfl rfl (rest := []) rfl (Nat.le_of_ble_eq_true rfl) [(b, .inr (5, [.ref a, .ref h, .ref sa, .int tk, .ref pa, .ref ta])), (a, .inr (3, [.ref v, .ref m, .int w, .int o, .int t])), (v, .inl (U.2.2.1 0, 6, .inl f)), (m, .inr (1, [.int sl, .int bp, .int mw, .int mc, .int hi, .int lo, .int ex]))] [0, 1, 2] [3] [1, 2, 3, 0] (wr := [(m, .inr (1, [.int sl, .int bp, .int mw, .int mc, .int hi, .int lo, .int ex]))]) rfl rfl rfl rfl (by decide) rfl rfl  dL_holds_28 ⟨Nat.le_of_ble_eq_true rfl, Nat.le_of_ble_eq_true rfl⟩ [.int ((valF f p0) * (valF f p1))] rfl ?_
  refine J_iload C dL_holds_31 rfl ?_
  refine J_icmp_ne C 106 dL_holds_33 (by decide) (fun h => absurd h (fun hh => hh rfl)) (fun _ => ?_)
  refine J_aload_n C dL_holds_36 rfl rfl ?_
  refine J_iload_n C dL_holds_37 rfl rfl ?_
  refine J_iload_n C dL_holds_38 rfl rfl ?_
  refine J_callV C (c_X5_productByBits_eq U b a h sa pa ta tk v m f w o t p1 p0 W v_2 v_1 hJ) gL_holds_X5_productByBits (n := 2) rfl rfl rfl (by decide +kernel) ⟨Nat.le_of_ble_eq_true rfl, Nat.le_of_ble_eq_true rfl⟩ 0 rfl rfl rfl (rest := []) rfl (Nat.le_of_ble_eq_true rfl) [(b, .inr (5, [.ref a, .ref h, .ref sa, .int tk, .ref pa, .ref ta])), (a, .inr (3, [.ref v, .ref m, .int w, .int o, .int t])), (v, .inl (U.2.2.1 0, 6, .inl f)), (m, .inr (1, [.int sl, .int bp, .int mw, .int mc, .int hi, .int lo, .int ex]))] [0, 1, 2] [3] [1, 2, 3, 0] (wr := [(m, .inr (1, [.int sl, .int bp, .int mw, .int mc, .int hi, .int lo, .int ex]))]) rfl rfl rfl rfl (by decide) rfl rfl  dL_holds_39 ⟨Nat.le_of_ble_eq_true rfl, Nat.le_of_ble_eq_true rfl⟩ [.int ((valF f p1) * (valF f p0))] rfl ?_
  refine J_iload C dL_holds_42 rfl ?_
  refine J_icmp_ne C 106 dL_holds_44 (by decide) (fun h => absurd h (fun hh => hh ymc)) (fun _ => ?_)
  refine J_aload_n C dL_holds_47 rfl rfl ?_
  refine J_iload_n C dL_holds_48 rfl rfl ?_
  refine J_iload_n C dL_holds_49 rfl rfl ?_
  refine J_iconst C (v := (0 : Int32)) dL_holds_50 (by decide) ?_
  refine J_callV C (c_X5_productByRows_eq0 U b a h sa pa ta tk v m f w o t p0 p1 W v_1 v_2 hJ) gL_holds_X5_productByRows (n := 3) rfl rfl rfl (by decide +kernel) ⟨Nat.le_of_ble_eq_true rfl, Nat.le_of_ble_eq_true rfl⟩ 0 rfl rfl rfl (rest := []) rfl (Nat.le_of_ble_eq_true rfl) [(b, .inr (5, [.ref a, .ref h, .ref sa, .int tk, .ref pa, .ref ta])), (a, .inr (3, [.ref v, .ref m, .int w, .int o, .int t])), (v, .inl (U.2.2.1 0, 6, .inl f)), (m, .inr (1, [.int sl, .int bp, .int mw, .int mc, .int hi, .int lo, .int ex]))] [0, 1, 2] [3] [1, 2, 3, 0] (wr := [(m, .inr (1, [.int sl, .int bp, .int mw, .int mc, .int hi, .int lo, .int ex]))]) rfl rfl rfl rfl (by decide) rfl rfl  dL_holds_51 ⟨Nat.le_of_ble_eq_true rfl, Nat.le_of_ble_eq_true rfl⟩ [.int ((valF f p0) * (valF f p1))] rfl ?_
  refine J_iload C dL_holds_54 rfl ?_
  refine J_icmp_ne C 106 dL_holds_56 (by decide) (fun h => absurd h (fun hh => hh rfl)) (fun _ => ?_)
  refine J_aload_n C dL_holds_59 rfl rfl ?_
  refine J_iload_n C dL_holds_60 rfl rfl ?_
  refine J_iload_n C dL_holds_61 rfl rfl ?_
  refine J_iconst C (v := (2 : Int32)) dL_holds_62 (by decide) ?_
  refine J_callV C (c_X5_productByRows_eq2 U b a h sa pa ta tk v m f w o t p0 p1 W v_1 v_2 hJ) gL_holds_X5_productByRows (n := 3) rfl rfl rfl (by decide +kernel) ⟨Nat.le_of_ble_eq_true rfl, Nat.le_of_ble_eq_true rfl⟩ 0 rfl rfl rfl (rest := []) rfl (Nat.le_of_ble_eq_true rfl) [(b, .inr (5, [.ref a, .ref h, .ref sa, .int tk, .ref pa, .ref ta])), (a, .inr (3, [.ref v, .ref m, .int w, .int o, .int t])), (v, .inl (U.2.2.1 0, 6, .inl f)), (m, .inr (1, [.int sl, .int bp, .int mw, .int mc, .int hi, .int lo, .int ex]))] [0, 1, 2] [3] [1, 2, 3, 0] (wr := [(m, .inr (1, [.int sl, .int bp, .int mw, .int mc, .int hi, .int lo, .int ex]))]) rfl rfl rfl rfl (by decide) rfl rfl  dL_holds_63 ⟨Nat.le_of_ble_eq_true rfl, Nat.le_of_ble_eq_true rfl⟩ [.int ((valF f p0) * (valF f p1))] rfl ?_
  refine J_iload C dL_holds_66 rfl ?_
  refine J_icmp_ne C 106 dL_holds_68 (by decide) (fun h => absurd h (fun hh => hh rfl)) (fun _ => ?_)
  refine J_iload_n C dL_holds_71 rfl rfl ?_
  refine J_iconst C (v := (2 : Int32)) dL_holds_72 (by decide) ?_
  refine J_irem C (v := rem2 w) dL_holds_73 (by decide) rfl ?_
  refine J_iconst C (v := (1 : Int32)) dL_holds_74 (by decide) ?_
  refine J_icmp_eq C 102 dL_holds_75 (by decide) (fun h => absurd h e1) (fun _ => ?_)
  refine J_aload_n C dL_holds_78 rfl rfl ?_
  refine J_iload_n C dL_holds_79 rfl rfl ?_
  refine J_iload_n C dL_holds_80 rfl rfl ?_
  refine J_iconst C (v := (1 : Int32)) dL_holds_81 (by decide) ?_
  refine J_callV C (c_X5_productByRows_eq1 U b a h sa pa ta tk v m f w o t p0 p1 W v_1 v_2 hev hJ) gL_holds_X5_productByRows (n := 3) rfl rfl rfl (by decide +kernel) ⟨Nat.le_of_ble_eq_true rfl, Nat.le_of_ble_eq_true rfl⟩ 0 rfl rfl rfl (rest := []) rfl (Nat.le_of_ble_eq_true rfl) [(b, .inr (5, [.ref a, .ref h, .ref sa, .int tk, .ref pa, .ref ta])), (a, .inr (3, [.ref v, .ref m, .int w, .int o, .int t])), (v, .inl (U.2.2.1 0, 6, .inl f)), (m, .inr (1, [.int sl, .int bp, .int mw, .int mc, .int hi, .int lo, .int ex]))] [0, 1, 2] [3] [1, 2, 3, 0] (wr := [(m, .inr (1, [.int sl, .int bp, .int mw, .int mc, .int hi, .int lo, .int ex]))]) rfl rfl rfl rfl (by decide) rfl rfl  dL_holds_82 ⟨Nat.le_of_ble_eq_true rfl, Nat.le_of_ble_eq_true rfl⟩ [.int ((valF f p0) * (valF f p1))] rfl ?_
  refine J_iload C dL_holds_85 rfl ?_
  refine J_icmp_ne C 106 dL_holds_87 (by decide) (fun h => absurd h (fun hh => hh rfl)) (fun _ => ?_)
  refine J_aload_n C dL_holds_90 rfl rfl ?_
  refine J_iload_n C dL_holds_91 rfl rfl ?_
  refine J_iconst C (v := (1 : Int32)) dL_holds_92 (by decide) ?_
  refine J_callV C (c_X5_rowsOf_eq1 U b a h sa pa ta tk v m f w o t p1 W v_2 hev hJ) gL_holds_X5_rowsOf (n := 2) rfl rfl rfl (by decide +kernel) ⟨Nat.le_of_ble_eq_true rfl, Nat.le_of_ble_eq_true rfl⟩ 0 rfl rfl rfl (rest := []) rfl (Nat.le_of_ble_eq_true rfl) [(b, .inr (5, [.ref a, .ref h, .ref sa, .int tk, .ref pa, .ref ta])), (a, .inr (3, [.ref v, .ref m, .int w, .int o, .int t])), (v, .inl (U.2.2.1 0, 6, .inl f)), (m, .inr (1, [.int sl, .int bp, .int mw, .int mc, .int hi, .int lo, .int ex]))] [0, 1, 2] [3] [1, 2, 3, 0] (wr := [(m, .inr (1, [.int sl, .int bp, .int mw, .int mc, .int hi, .int lo, .int ex]))]) rfl rfl rfl rfl (by decide) rfl rfl  dL_holds_93 ⟨Nat.le_of_ble_eq_true rfl, Nat.le_of_ble_eq_true rfl⟩ [.int (nI (nzF (valF f p1) 1 (W / 2)))] rfl ?_
  refine J_iload_n C dL_holds_96 rfl rfl ?_
  refine J_iconst C (v := (2 : Int32)) dL_holds_97 (by decide) ?_
  refine J_idiv C (v := w / (2 : Int32)) dL_holds_98 (by decide) rfl ?_
  refine J_icmp_gt C 106 dL_holds_99 (by decide) (fun h => absurd h w1) (fun _ => ?_)
  refine J_iconst C (v := (1 : Int32)) dL_holds_102 (by decide) ?_
  refine J_goto C 107 dL_holds_103 (by decide) ?_
  refine J_istore C [some (.ref b), some (.int p0), some (.int p1), some (.int w), some (.int ((valF f p0) * (valF f p1))), some (.int ((1 : Int32) <<< ((w - (1 : Int32)) &&& 31))), some (.int (1 : Int32))] dL_holds_107 (hN 6 (by decide)) rfl rfl ?_
  refine J_iload C dL_holds_109 rfl ?_
  refine J_if_eq C 239 dL_holds_111 (by decide) (fun h => absurd h (by decide)) (fun _ => ?_)
  refine J_aload_n C dL_holds_114 rfl rfl ?_
  refine J_iload_n C dL_holds_115 rfl rfl ?_
  refine J_callV C (c_X5_valueOf_ok U b a h sa pa ta tk v m f w o t p0 v_1) gL_holds_X5_valueOf (n := 1) rfl rfl rfl (by decide +kernel) ⟨Nat.le_of_ble_eq_true rfl, Nat.le_of_ble_eq_true rfl⟩ 0 rfl rfl rfl (rest := []) rfl (Nat.le_of_ble_eq_true rfl) [(b, .inr (5, [.ref a, .ref h, .ref sa, .int tk, .ref pa, .ref ta])), (a, .inr (3, [.ref v, .ref m, .int w, .int o, .int t])), (v, .inl (U.2.2.1 0, 6, .inl f)), (m, .inr (1, [.int sl, .int bp, .int mw, .int mc, .int hi, .int lo, .int ex]))] [0, 1, 2] [3] [1, 2, 3, 0] (wr := [(m, .inr (1, [.int sl, .int bp, .int mw, .int mc, .int hi, .int lo, .int ex]))]) rfl rfl rfl rfl (by decide) rfl rfl  dL_holds_116 ⟨Nat.le_of_ble_eq_true rfl, Nat.le_of_ble_eq_true rfl⟩ [.int (valF f p0)] rfl ?_
  refine J_iload C dL_holds_119 rfl ?_
  refine J_ineg C dL_holds_121 rfl ?_
  refine J_icmp_lt C 239 dL_holds_122 (by decide) (fun h => absurd h l1) (fun _ => ?_)
  refine J_aload_n C dL_holds_125 rfl rfl ?_
  refine J_iload_n C dL_holds_126 rfl rfl ?_
  refine J_callV C (c_X5_valueOf_ok U b a h sa pa ta tk v m f w o t p0 v_1) gL_holds_X5_valueOf (n := 1) rfl rfl rfl (by decide +kernel) ⟨Nat.le_of_ble_eq_true rfl, Nat.le_of_ble_eq_true rfl⟩ 0 rfl rfl rfl (rest := []) rfl (Nat.le_of_ble_eq_true rfl) [(b, .inr (5, [.ref a, .ref h, .ref sa, .int tk, .ref pa, .ref ta])), (a, .inr (3, [.ref v, .ref m, .int w, .int o, .int t])), (v, .inl (U.2.2.1 0, 6, .inl f)), (m, .inr (1, [.int sl, .int bp, .int mw, .int mc, .int hi, .int lo, .int ex]))] [0, 1, 2] [3] [1, 2, 3, 0] (wr := [(m, .inr (1, [.int sl, .int bp, .int mw, .int mc, .int hi, .int lo, .int ex]))]) rfl rfl rfl rfl (by decide) rfl rfl  dL_holds_127 ⟨Nat.le_of_ble_eq_true rfl, Nat.le_of_ble_eq_true rfl⟩ [.int (valF f p0)] rfl ?_
  refine J_iload C dL_holds_130 rfl ?_
  refine J_icmp_ge C 239 dL_holds_132 (by decide) (fun h => absurd h l2) (fun _ => ?_)
  refine J_aload_n C dL_holds_135 rfl rfl ?_
  refine J_iload_n C dL_holds_136 rfl rfl ?_
  refine J_iload_n C dL_holds_137 rfl rfl ?_
  refine J_callV C (c_X5_fits_ok U b a h sa pa ta tk v m f w o t p0 p1 v_1 v_2) gL_holds_X5_fits (n := 2) rfl rfl rfl (by decide +kernel) ⟨Nat.le_of_ble_eq_true rfl, Nat.le_of_ble_eq_true rfl⟩ 0 rfl rfl rfl (rest := []) rfl (Nat.le_of_ble_eq_true rfl) [(b, .inr (5, [.ref a, .ref h, .ref sa, .int tk, .ref pa, .ref ta])), (a, .inr (3, [.ref v, .ref m, .int w, .int o, .int t])), (v, .inl (U.2.2.1 0, 6, .inl f)), (m, .inr (1, [.int sl, .int bp, .int mw, .int mc, .int hi, .int lo, .int ex]))] [0, 1, 2] [3] [1, 2, 3, 0] (wr := [(m, .inr (1, [.int sl, .int bp, .int mw, .int mc, .int hi, .int lo, .int ex]))]) rfl rfl rfl rfl (by decide) rfl rfl  dL_holds_138 ⟨Nat.le_of_ble_eq_true rfl, Nat.le_of_ble_eq_true rfl⟩ [.int (b2i (wrapF w (valF f p0 * valF f p1) = (valF f p0 * valF f p1)))] rfl ?_
  refine J_iload C dL_holds_141 rfl ?_
  refine J_iload C dL_holds_143 rfl ?_
  refine J_ineg C dL_holds_145 rfl ?_
  refine J_icmp_lt C 160 dL_holds_146 (by decide) (fun h => absurd h d1) (fun _ => ?_)
  refine J_iload C dL_holds_149 rfl ?_
  refine J_iload C dL_holds_151 rfl ?_
  refine J_icmp_ge C 160 dL_holds_153 (by decide) (fun _ => ?_) (fun h => absurd d2 h)
  refine J_iconst C (v := (0 : Int32)) dL_holds_160 (by decide) ?_
  refine J_icmp_ne C 239 dL_holds_161 (by decide) (fun h => absurd h (fun hh => hh ft)) (fun _ => ?_)
  refine J_aload_n C dL_holds_164 rfl rfl ?_
  refine J_iload_n C dL_holds_165 rfl rfl ?_
  refine J_iload_n C dL_holds_166 rfl rfl ?_
  refine J_callV C (c_X5_carries_eq U b a h sa pa ta tk v m f w o t p0 p1 W v_1 v_2 hJ) gL_holds_X5_carries (n := 2) rfl rfl rfl (by decide +kernel) ⟨Nat.le_of_ble_eq_true rfl, Nat.le_of_ble_eq_true rfl⟩ 0 rfl rfl rfl (rest := []) rfl (Nat.le_of_ble_eq_true rfl) [(b, .inr (5, [.ref a, .ref h, .ref sa, .int tk, .ref pa, .ref ta])), (a, .inr (3, [.ref v, .ref m, .int w, .int o, .int t])), (v, .inl (U.2.2.1 0, 6, .inl f)), (m, .inr (1, [.int sl, .int bp, .int mw, .int mc, .int hi, .int lo, .int ex]))] [0, 1, 2] [3] [1, 2, 3, 0] (wr := [(m, .inr (1, [.int sl, .int bp, .int mw, .int mc, .int hi, .int lo, .int ex]))]) rfl rfl rfl rfl (by decide) rfl rfl  dL_holds_167 ⟨Nat.le_of_ble_eq_true rfl, Nat.le_of_ble_eq_true rfl⟩ [.int (nI (crN W (valF f p0) (valF f p1)))] rfl ?_
  refine J_aload_n C dL_holds_170 rfl rfl ?_
  refine J_iload_n C dL_holds_171 rfl rfl ?_
  refine J_iload_n C dL_holds_172 rfl rfl ?_
  refine J_callV C (c_X5_carries_eq U b a h sa pa ta tk v m f w o t p1 p0 W v_2 v_1 hJ) gL_holds_X5_carries (n := 2) rfl rfl rfl (by decide +kernel) ⟨Nat.le_of_ble_eq_true rfl, Nat.le_of_ble_eq_true rfl⟩ 0 rfl rfl rfl (rest := [.int (nI (crN W (valF f p0) (valF f p1)))]) rfl (Nat.le_of_ble_eq_true rfl) [(b, .inr (5, [.ref a, .ref h, .ref sa, .int tk, .ref pa, .ref ta])), (a, .inr (3, [.ref v, .ref m, .int w, .int o, .int t])), (v, .inl (U.2.2.1 0, 6, .inl f)), (m, .inr (1, [.int sl, .int bp, .int mw, .int mc, .int hi, .int lo, .int ex]))] [0, 1, 2] [3] [1, 2, 3, 0] (wr := [(m, .inr (1, [.int sl, .int bp, .int mw, .int mc, .int hi, .int lo, .int ex]))]) rfl rfl rfl rfl (by decide) rfl rfl  dL_holds_173 ⟨Nat.le_of_ble_eq_true rfl, Nat.le_of_ble_eq_true rfl⟩ [.int (nI (crN W (valF f p1) (valF f p0))), .int (nI (crN W (valF f p0) (valF f p1)))] rfl ?_
  refine J_icmp_ne C 239 dL_holds_176 (by decide) (fun h => absurd h (fun hh => hh c1)) (fun _ => ?_)
  refine J_aload_n C dL_holds_179 rfl rfl ?_
  refine J_iload_n C dL_holds_180 rfl rfl ?_
  refine J_iload_n C dL_holds_181 rfl rfl ?_
  refine J_callV C (c_X5_longestRun_eq U b a h sa pa ta tk v m f w o t p0 p1 W v_1 v_2 hJ) gL_holds_X5_longestRun (n := 2) rfl rfl rfl (by decide +kernel) ⟨Nat.le_of_ble_eq_true rfl, Nat.le_of_ble_eq_true rfl⟩ 0 rfl rfl rfl (rest := []) rfl (Nat.le_of_ble_eq_true rfl) [(b, .inr (5, [.ref a, .ref h, .ref sa, .int tk, .ref pa, .ref ta])), (a, .inr (3, [.ref v, .ref m, .int w, .int o, .int t])), (v, .inl (U.2.2.1 0, 6, .inl f)), (m, .inr (1, [.int sl, .int bp, .int mw, .int mc, .int hi, .int lo, .int ex]))] [0, 1, 2] [3] [1, 2, 3, 0] (wr := [(m, .inr (1, [.int sl, .int bp, .int mw, .int mc, .int hi, .int lo, .int ex]))]) rfl rfl rfl rfl (by decide) rfl rfl  dL_holds_182 ⟨Nat.le_of_ble_eq_true rfl, Nat.le_of_ble_eq_true rfl⟩ [.int (nI (lrN W (valF f p0) (valF f p1)))] rfl ?_
  refine J_aload_n C dL_holds_185 rfl rfl ?_
  refine J_iload_n C dL_holds_186 rfl rfl ?_
  refine J_iload_n C dL_holds_187 rfl rfl ?_
  refine J_callV C (c_X5_carries_eq U b a h sa pa ta tk v m f w o t p0 p1 W v_1 v_2 hJ) gL_holds_X5_carries (n := 2) rfl rfl rfl (by decide +kernel) ⟨Nat.le_of_ble_eq_true rfl, Nat.le_of_ble_eq_true rfl⟩ 0 rfl rfl rfl (rest := [.int (nI (lrN W (valF f p0) (valF f p1)))]) rfl (Nat.le_of_ble_eq_true rfl) [(b, .inr (5, [.ref a, .ref h, .ref sa, .int tk, .ref pa, .ref ta])), (a, .inr (3, [.ref v, .ref m, .int w, .int o, .int t])), (v, .inl (U.2.2.1 0, 6, .inl f)), (m, .inr (1, [.int sl, .int bp, .int mw, .int mc, .int hi, .int lo, .int ex]))] [0, 1, 2] [3] [1, 2, 3, 0] (wr := [(m, .inr (1, [.int sl, .int bp, .int mw, .int mc, .int hi, .int lo, .int ex]))]) rfl rfl rfl rfl (by decide) rfl rfl  dL_holds_188 ⟨Nat.le_of_ble_eq_true rfl, Nat.le_of_ble_eq_true rfl⟩ [.int (nI (crN W (valF f p0) (valF f p1))), .int (nI (lrN W (valF f p0) (valF f p1)))] rfl ?_
  refine J_icmp_gt C 239 dL_holds_191 (by decide) (fun h => absurd h c2) (fun _ => ?_)
  refine J_aload_n C dL_holds_194 rfl rfl ?_
  refine J_iload_n C dL_holds_195 rfl rfl ?_
  refine J_iload_n C dL_holds_196 rfl rfl ?_
  refine J_callV C (c_X5_longestRun_eq U b a h sa pa ta tk v m f w o t p0 p1 W v_1 v_2 hJ) gL_holds_X5_longestRun (n := 2) rfl rfl rfl (by decide +kernel) ⟨Nat.le_of_ble_eq_true rfl, Nat.le_of_ble_eq_true rfl⟩ 0 rfl rfl rfl (rest := []) rfl (Nat.le_of_ble_eq_true rfl) [(b, .inr (5, [.ref a, .ref h, .ref sa, .int tk, .ref pa, .ref ta])), (a, .inr (3, [.ref v, .ref m, .int w, .int o, .int t])), (v, .inl (U.2.2.1 0, 6, .inl f)), (m, .inr (1, [.int sl, .int bp, .int mw, .int mc, .int hi, .int lo, .int ex]))] [0, 1, 2] [3] [1, 2, 3, 0] (wr := [(m, .inr (1, [.int sl, .int bp, .int mw, .int mc, .int hi, .int lo, .int ex]))]) rfl rfl rfl rfl (by decide) rfl rfl  dL_holds_197 ⟨Nat.le_of_ble_eq_true rfl, Nat.le_of_ble_eq_true rfl⟩ [.int (nI (lrN W (valF f p0) (valF f p1)))] rfl ?_
  refine J_if_ne C 207 dL_holds_200 (by decide) (fun h => absurd h (fun hh => hh z1)) (fun _ => ?_)
  refine J_iconst C (v := (1 : Int32)) dL_holds_203 (by decide) ?_
  refine J_goto C 208 dL_holds_204 (by decide) ?_
  refine J_aload_n C dL_holds_208 rfl rfl ?_
  refine J_iload_n C dL_holds_209 rfl rfl ?_
  refine J_iload_n C dL_holds_210 rfl rfl ?_
  refine J_callV C (c_X5_carries_eq U b a h sa pa ta tk v m f w o t p0 p1 W v_1 v_2 hJ) gL_holds_X5_carries (n := 2) rfl rfl rfl (by decide +kernel) ⟨Nat.le_of_ble_eq_true rfl, Nat.le_of_ble_eq_true rfl⟩ 0 rfl rfl rfl (rest := [.int (1 : Int32)]) rfl (Nat.le_of_ble_eq_true rfl) [(b, .inr (5, [.ref a, .ref h, .ref sa, .int tk, .ref pa, .ref ta])), (a, .inr (3, [.ref v, .ref m, .int w, .int o, .int t])), (v, .inl (U.2.2.1 0, 6, .inl f)), (m, .inr (1, [.int sl, .int bp, .int mw, .int mc, .int hi, .int lo, .int ex]))] [0, 1, 2] [3] [1, 2, 3, 0] (wr := [(m, .inr (1, [.int sl, .int bp, .int mw, .int mc, .int hi, .int lo, .int ex]))]) rfl rfl rfl rfl (by decide) rfl rfl  dL_holds_211 ⟨Nat.le_of_ble_eq_true rfl, Nat.le_of_ble_eq_true rfl⟩ [.int (nI (crN W (valF f p0) (valF f p1))), .int (1 : Int32)] rfl ?_
  refine J_if_ne C 221 dL_holds_214 (by decide) (fun h => absurd h (fun hh => hh z2)) (fun _ => ?_)
  refine J_iconst C (v := (1 : Int32)) dL_holds_217 (by decide) ?_
  refine J_goto C 222 dL_holds_218 (by decide) ?_
  refine J_icmp_ne C 239 dL_holds_222 (by decide) (fun h => absurd (by decide) h) (fun _ => ?_)
  refine J_aload_n C dL_holds_225 rfl rfl ?_
  refine J_iload_n C dL_holds_226 rfl rfl ?_
  refine J_iload_n C dL_holds_227 rfl rfl ?_
  refine J_callV C (c_X5_carries_eq U b a h sa pa ta tk v m f w o t p0 p1 W v_1 v_2 hJ) gL_holds_X5_carries (n := 2) rfl rfl rfl (by decide +kernel) ⟨Nat.le_of_ble_eq_true rfl, Nat.le_of_ble_eq_true rfl⟩ 0 rfl rfl rfl (rest := []) rfl (Nat.le_of_ble_eq_true rfl) [(b, .inr (5, [.ref a, .ref h, .ref sa, .int tk, .ref pa, .ref ta])), (a, .inr (3, [.ref v, .ref m, .int w, .int o, .int t])), (v, .inl (U.2.2.1 0, 6, .inl f)), (m, .inr (1, [.int sl, .int bp, .int mw, .int mc, .int hi, .int lo, .int ex]))] [0, 1, 2] [3] [1, 2, 3, 0] (wr := [(m, .inr (1, [.int sl, .int bp, .int mw, .int mc, .int hi, .int lo, .int ex]))]) rfl rfl rfl rfl (by decide) rfl rfl  dL_holds_228 ⟨Nat.le_of_ble_eq_true rfl, Nat.le_of_ble_eq_true rfl⟩ [.int (nI (crN W (valF f p0) (valF f p1)))] rfl ?_
  refine J_iload_n C dL_holds_231 rfl rfl ?_
  refine J_icmp_gt C 239 dL_holds_232 (by decide) (fun h => absurd h c3) (fun _ => ?_)
  refine J_iconst C (v := (1 : Int32)) dL_holds_235 (by decide) ?_
  refine J_goto C 240 dL_holds_236 (by decide) ?_
  refine J_istore C [some (.ref b), some (.int p0), some (.int p1), some (.int w), some (.int ((valF f p0) * (valF f p1))), some (.int ((1 : Int32) <<< ((w - (1 : Int32)) &&& 31))), some (.int (1 : Int32))] dL_holds_240 (hN 6 (by decide)) rfl rfl ?_
  refine J_iload C dL_holds_242 rfl ?_
  refine J_if_eq C 282 dL_holds_244 (by decide) (fun h => absurd h (by decide)) (fun _ => ?_)
  refine J_aload_n C dL_holds_247 rfl rfl ?_
  refine J_iload_n C dL_holds_248 rfl rfl ?_
  refine J_iconst C (v := (2 : Int32)) dL_holds_249 (by decide) ?_
  refine J_callV C (c_X5_rowsOf_eq2 U b a h sa pa ta tk v m f w o t p0 W v_1 hJ) gL_holds_X5_rowsOf (n := 2) rfl rfl rfl (by decide +kernel) ⟨Nat.le_of_ble_eq_true rfl, Nat.le_of_ble_eq_true rfl⟩ 0 rfl rfl rfl (rest := []) rfl (Nat.le_of_ble_eq_true rfl) [(b, .inr (5, [.ref a, .ref h, .ref sa, .int tk, .ref pa, .ref ta])), (a, .inr (3, [.ref v, .ref m, .int w, .int o, .int t])), (v, .inl (U.2.2.1 0, 6, .inl f)), (m, .inr (1, [.int sl, .int bp, .int mw, .int mc, .int hi, .int lo, .int ex]))] [0, 1, 2] [3] [1, 2, 3, 0] (wr := [(m, .inr (1, [.int sl, .int bp, .int mw, .int mc, .int hi, .int lo, .int ex]))]) rfl rfl rfl rfl (by decide) rfl rfl  dL_holds_250 ⟨Nat.le_of_ble_eq_true rfl, Nat.le_of_ble_eq_true rfl⟩ [.int (nI (nzF (valF f p0) 2 W))] rfl ?_
  refine J_aload_n C dL_holds_253 rfl rfl ?_
  refine J_iload_n C dL_holds_254 rfl rfl ?_
  refine J_iconst C (v := (0 : Int32)) dL_holds_255 (by decide) ?_
  refine J_callV C (c_X5_rowsOf_eq0 U b a h sa pa ta tk v m f w o t p0 W v_1 hJ) gL_holds_X5_rowsOf (n := 2) rfl rfl rfl (by decide +kernel) ⟨Nat.le_of_ble_eq_true rfl, Nat.le_of_ble_eq_true rfl⟩ 0 rfl rfl rfl (rest := [.int (nI (nzF (valF f p0) 2 W))]) rfl (Nat.le_of_ble_eq_true rfl) [(b, .inr (5, [.ref a, .ref h, .ref sa, .int tk, .ref pa, .ref ta])), (a, .inr (3, [.ref v, .ref m, .int w, .int o, .int t])), (v, .inl (U.2.2.1 0, 6, .inl f)), (m, .inr (1, [.int sl, .int bp, .int mw, .int mc, .int hi, .int lo, .int ex]))] [0, 1, 2] [3] [1, 2, 3, 0] (wr := [(m, .inr (1, [.int sl, .int bp, .int mw, .int mc, .int hi, .int lo, .int ex]))]) rfl rfl rfl rfl (by decide) rfl rfl  dL_holds_256 ⟨Nat.le_of_ble_eq_true rfl, Nat.le_of_ble_eq_true rfl⟩ [.int (nI (nzF (valF f p0) 0 W)), .int (nI (nzF (valF f p0) 2 W))] rfl ?_
  refine J_icmp_gt C 282 dL_holds_259 (by decide) (fun h => absurd h s1) (fun _ => ?_)
  refine J_aload_n C dL_holds_262 rfl rfl ?_
  refine J_iload_n C dL_holds_263 rfl rfl ?_
  refine J_iconst C (v := (2 : Int32)) dL_holds_264 (by decide) ?_
  refine J_callV C (c_X5_rowsOf_eq2 U b a h sa pa ta tk v m f w o t p0 W v_1 hJ) gL_holds_X5_rowsOf (n := 2) rfl rfl rfl (by decide +kernel) ⟨Nat.le_of_ble_eq_true rfl, Nat.le_of_ble_eq_true rfl⟩ 0 rfl rfl rfl (rest := []) rfl (Nat.le_of_ble_eq_true rfl) [(b, .inr (5, [.ref a, .ref h, .ref sa, .int tk, .ref pa, .ref ta])), (a, .inr (3, [.ref v, .ref m, .int w, .int o, .int t])), (v, .inl (U.2.2.1 0, 6, .inl f)), (m, .inr (1, [.int sl, .int bp, .int mw, .int mc, .int hi, .int lo, .int ex]))] [0, 1, 2] [3] [1, 2, 3, 0] (wr := [(m, .inr (1, [.int sl, .int bp, .int mw, .int mc, .int hi, .int lo, .int ex]))]) rfl rfl rfl rfl (by decide) rfl rfl  dL_holds_265 ⟨Nat.le_of_ble_eq_true rfl, Nat.le_of_ble_eq_true rfl⟩ [.int (nI (nzF (valF f p0) 2 W))] rfl ?_
  refine J_aload_n C dL_holds_268 rfl rfl ?_
  refine J_iload_n C dL_holds_269 rfl rfl ?_
  refine J_callV C (c_X5_onesOf_eq U b a h sa pa ta tk v m f w o t p0 W v_1 hJ) gL_holds_X5_onesOf (n := 1) rfl rfl rfl (by decide +kernel) ⟨Nat.le_of_ble_eq_true rfl, Nat.le_of_ble_eq_true rfl⟩ 0 rfl rfl rfl (rest := [.int (nI (nzF (valF f p0) 2 W))]) rfl (Nat.le_of_ble_eq_true rfl) [(b, .inr (5, [.ref a, .ref h, .ref sa, .int tk, .ref pa, .ref ta])), (a, .inr (3, [.ref v, .ref m, .int w, .int o, .int t])), (v, .inl (U.2.2.1 0, 6, .inl f)), (m, .inr (1, [.int sl, .int bp, .int mw, .int mc, .int hi, .int lo, .int ex]))] [0, 1, 2] [3] [1, 2, 3, 0] (wr := [(m, .inr (1, [.int sl, .int bp, .int mw, .int mc, .int hi, .int lo, .int ex]))]) rfl rfl rfl rfl (by decide) rfl rfl  dL_holds_270 ⟨Nat.le_of_ble_eq_true rfl, Nat.le_of_ble_eq_true rfl⟩ [.int (nI (pcN W (tn (valF f p0)))), .int (nI (nzF (valF f p0) 2 W))] rfl ?_
  refine J_iconst C (v := (1 : Int32)) dL_holds_273 (by decide) ?_
  refine J_iadd C (v := (nI (pcN W (tn (valF f p0)))) + (1 : Int32)) dL_holds_274 rfl ?_
  refine J_icmp_gt C 282 dL_holds_275 (by decide) (fun h => absurd h s2) (fun _ => ?_)
  refine J_iconst C (v := (1 : Int32)) dL_holds_278 (by decide) ?_
  refine J_goto C 283 dL_holds_279 (by decide) ?_
  refine J_istore C [some (.ref b), some (.int p0), some (.int p1), some (.int w), some (.int ((valF f p0) * (valF f p1))), some (.int ((1 : Int32) <<< ((w - (1 : Int32)) &&& 31))), some (.int (1 : Int32))] dL_holds_283 (hN 6 (by decide)) rfl rfl ?_
  refine J_aload_n C dL_holds_285 rfl rfl ?_
  refine J_callV C (c_X5_stepsLeft U b a h sa pa ta tk v m w o t sl bp mw mc hi lo ex ) gL_holds_X5_stepsLeft (n := 0) rfl rfl rfl (by decide +kernel) ⟨Nat.le_of_ble_eq_true rfl, Nat.le_of_ble_eq_true rfl⟩ 0 rfl rfl rfl (rest := []) rfl (Nat.le_of_ble_eq_true rfl) [(b, .inr (5, [.ref a, .ref h, .ref sa, .int tk, .ref pa, .ref ta])), (a, .inr (3, [.ref v, .ref m, .int w, .int o, .int t])), (v, .inl (U.2.2.1 0, 6, .inl f)), (m, .inr (1, [.int sl, .int bp, .int mw, .int mc, .int hi, .int lo, .int ex]))] [0, 1, 3] [2] [1, 2, 0, 3] (wr := [(v, .inl (U.2.2.1 0, 6, .inl f))]) rfl rfl rfl rfl (by decide) rfl rfl  dL_holds_286 ⟨Nat.le_of_ble_eq_true rfl, Nat.le_of_ble_eq_true rfl⟩ [.int sl] rfl ?_
  refine J_if_lt C 337 dL_holds_289 (by decide) (fun h => absurd h h1) (fun _ => ?_)
  refine J_iload C dL_holds_292 rfl ?_
  refine J_if_eq C 334 dL_holds_294 (by decide) (fun h => absurd h (by decide)) (fun _ => ?_)
  refine J_aload_n C dL_holds_297 rfl rfl ?_
  refine J_callV C (c_X5_lowPart_ok U b a h sa pa ta tk v m w o t sl bp mw mc hi lo ex h2) gL_holds_X5_lowPart (n := 0) rfl rfl rfl (by decide +kernel) ⟨Nat.le_of_ble_eq_true rfl, Nat.le_of_ble_eq_true rfl⟩ 0 rfl rfl rfl (rest := []) rfl (Nat.le_of_ble_eq_true rfl) [(b, .inr (5, [.ref a, .ref h, .ref sa, .int tk, .ref pa, .ref ta])), (a, .inr (3, [.ref v, .ref m, .int w, .int o, .int t])), (v, .inl (U.2.2.1 0, 6, .inl f)), (m, .inr (1, [.int sl, .int bp, .int mw, .int mc, .int hi, .int lo, .int ex]))] [0, 1, 3] [2] [1, 2, 0, 3] (wr := [(v, .inl (U.2.2.1 0, 6, .inl f))]) rfl rfl rfl rfl (by decide) rfl rfl  dL_holds_298 ⟨Nat.le_of_ble_eq_true rfl, Nat.le_of_ble_eq_true rfl⟩ [.int lo] rfl ?_
  refine J_if_lt C 334 dL_holds_301 (by decide) (fun h => absurd h h3) (fun _ => ?_)
  refine J_aload_n C dL_holds_304 rfl rfl ?_
  refine J_callV C (c_X5_lowPart_ok U b a h sa pa ta tk v m w o t sl bp mw mc hi lo ex h2) gL_holds_X5_lowPart (n := 0) rfl rfl rfl (by decide +kernel) ⟨Nat.le_of_ble_eq_true rfl, Nat.le_of_ble_eq_true rfl⟩ 0 rfl rfl rfl (rest := []) rfl (Nat.le_of_ble_eq_true rfl) [(b, .inr (5, [.ref a, .ref h, .ref sa, .int tk, .ref pa, .ref ta])), (a, .inr (3, [.ref v, .ref m, .int w, .int o, .int t])), (v, .inl (U.2.2.1 0, 6, .inl f)), (m, .inr (1, [.int sl, .int bp, .int mw, .int mc, .int hi, .int lo, .int ex]))] [0, 1, 3] [2] [1, 2, 0, 3] (wr := [(v, .inl (U.2.2.1 0, 6, .inl f))]) rfl rfl rfl rfl (by decide) rfl rfl  dL_holds_305 ⟨Nat.le_of_ble_eq_true rfl, Nat.le_of_ble_eq_true rfl⟩ [.int lo] rfl ?_
  refine J_iconst C (v := (2 : Int32)) dL_holds_308 (by decide) ?_
  refine J_iload C dL_holds_309 rfl ?_
  refine J_imul C (v := (2 : Int32) * ((1 : Int32) <<< ((w - (1 : Int32)) &&& 31))) dL_holds_311 rfl ?_
  refine J_icmp_ge C 334 dL_holds_312 (by decide) (fun h => absurd h h4) (fun _ => ?_)
  refine J_aload_n C dL_holds_315 rfl rfl ?_
  refine J_callV C (c_X5_extraBit_ok U b a h sa pa ta tk v m w o t sl bp mw mc hi lo ex h2) gL_holds_X5_extraBit (n := 0) rfl rfl rfl (by decide +kernel) ⟨Nat.le_of_ble_eq_true rfl, Nat.le_of_ble_eq_true rfl⟩ 0 rfl rfl rfl (rest := []) rfl (Nat.le_of_ble_eq_true rfl) [(b, .inr (5, [.ref a, .ref h, .ref sa, .int tk, .ref pa, .ref ta])), (a, .inr (3, [.ref v, .ref m, .int w, .int o, .int t])), (v, .inl (U.2.2.1 0, 6, .inl f)), (m, .inr (1, [.int sl, .int bp, .int mw, .int mc, .int hi, .int lo, .int ex]))] [0, 1, 3] [2] [1, 2, 0, 3] (wr := [(v, .inl (U.2.2.1 0, 6, .inl f))]) rfl rfl rfl rfl (by decide) rfl rfl  dL_holds_316 ⟨Nat.le_of_ble_eq_true rfl, Nat.le_of_ble_eq_true rfl⟩ [.int ex] rfl ?_
  refine J_if_eq C 330 dL_holds_319 (by decide) (fun c_319_1 => ?_) (fun c_319_1 => ?_)
  · refine J_iconst C (v := (1 : Int32)) dL_holds_330 (by decide) ?_
    refine J_goto C 335 dL_holds_331 (by decide) ?_
    refine J_istore C [some (.ref b), some (.int p0), some (.int p1), some (.int w), some (.int ((valF f p0) * (valF f p1))), some (.int ((1 : Int32) <<< ((w - (1 : Int32)) &&& 31))), some (.int (1 : Int32))] dL_holds_335 (hN 6 (by decide)) rfl rfl ?_
    refine J_iload C dL_holds_337 rfl ?_
    refine J_if_eq C 363 dL_holds_339 (by decide) (fun h => absurd h (by decide)) (fun _ => ?_)
    refine J_aload_n C dL_holds_342 rfl rfl ?_
    refine J_callV C (c_X5_stepsLeft U b a h sa pa ta tk v m w o t sl bp mw mc hi lo ex ) gL_holds_X5_stepsLeft (n := 0) rfl rfl rfl (by decide +kernel) ⟨Nat.le_of_ble_eq_true rfl, Nat.le_of_ble_eq_true rfl⟩ 0 rfl rfl rfl (rest := []) rfl (Nat.le_of_ble_eq_true rfl) [(b, .inr (5, [.ref a, .ref h, .ref sa, .int tk, .ref pa, .ref ta])), (a, .inr (3, [.ref v, .ref m, .int w, .int o, .int t])), (v, .inl (U.2.2.1 0, 6, .inl f)), (m, .inr (1, [.int sl, .int bp, .int mw, .int mc, .int hi, .int lo, .int ex]))] [0, 1, 3] [2] [1, 2, 0, 3] (wr := [(v, .inl (U.2.2.1 0, 6, .inl f))]) rfl rfl rfl rfl (by decide) rfl rfl  dL_holds_343 ⟨Nat.le_of_ble_eq_true rfl, Nat.le_of_ble_eq_true rfl⟩ [.int sl] rfl ?_
    refine J_iconst C (v := (-1 : Int32)) dL_holds_346 (by decide) ?_
    refine J_icmp_lt C 363 dL_holds_347 (by decide) (fun h => absurd h t1) (fun _ => ?_)
    refine J_aload_n C dL_holds_350 rfl rfl ?_
    refine J_callV C (c_X5_stepsLeft U b a h sa pa ta tk v m w o t sl bp mw mc hi lo ex ) gL_holds_X5_stepsLeft (n := 0) rfl rfl rfl (by decide +kernel) ⟨Nat.le_of_ble_eq_true rfl, Nat.le_of_ble_eq_true rfl⟩ 0 rfl rfl rfl (rest := []) rfl (Nat.le_of_ble_eq_true rfl) [(b, .inr (5, [.ref a, .ref h, .ref sa, .int tk, .ref pa, .ref ta])), (a, .inr (3, [.ref v, .ref m, .int w, .int o, .int t])), (v, .inl (U.2.2.1 0, 6, .inl f)), (m, .inr (1, [.int sl, .int bp, .int mw, .int mc, .int hi, .int lo, .int ex]))] [0, 1, 3] [2] [1, 2, 0, 3] (wr := [(v, .inl (U.2.2.1 0, 6, .inl f))]) rfl rfl rfl rfl (by decide) rfl rfl  dL_holds_351 ⟨Nat.le_of_ble_eq_true rfl, Nat.le_of_ble_eq_true rfl⟩ [.int sl] rfl ?_
    refine J_bipush C (v := (16 : Int32)) dL_holds_354 (by decide) ?_
    refine J_icmp_gt C 363 dL_holds_356 (by decide) (fun h => absurd h t2) (fun _ => ?_)
    refine J_iconst C (v := (1 : Int32)) dL_holds_359 (by decide) ?_
    refine J_goto C 364 dL_holds_360 (by decide) ?_
    exact J_zret C R rfl dL_holds_364 (Nat.le_of_ble_eq_true rfl) (Nat.le_of_ble_eq_true rfl) rfl rfl
  · have hx1 : ex = 1 := hx.resolve_left c_319_1
    refine J_aload_n C dL_holds_322 rfl rfl ?_
    refine J_callV C (c_X5_extraBit_ok U b a h sa pa ta tk v m w o t sl bp mw mc hi lo ex h2) gL_holds_X5_extraBit (n := 0) rfl rfl rfl (by decide +kernel) ⟨Nat.le_of_ble_eq_true rfl, Nat.le_of_ble_eq_true rfl⟩ 0 rfl rfl rfl (rest := []) rfl (Nat.le_of_ble_eq_true rfl) [(b, .inr (5, [.ref a, .ref h, .ref sa, .int tk, .ref pa, .ref ta])), (a, .inr (3, [.ref v, .ref m, .int w, .int o, .int t])), (v, .inl (U.2.2.1 0, 6, .inl f)), (m, .inr (1, [.int sl, .int bp, .int mw, .int mc, .int hi, .int lo, .int ex]))] [0, 1, 3] [2] [1, 2, 0, 3] (wr := [(v, .inl (U.2.2.1 0, 6, .inl f))]) rfl rfl rfl rfl (by decide) rfl rfl  dL_holds_323 ⟨Nat.le_of_ble_eq_true rfl, Nat.le_of_ble_eq_true rfl⟩ [.int ex] rfl ?_
    refine J_iconst C (v := (1 : Int32)) dL_holds_326 (by decide) ?_
    refine J_icmp_ne C 334 dL_holds_327 (by decide) (fun h => absurd h (fun hh => hh hx1)) (fun _ => ?_)
    refine J_iconst C (v := (1 : Int32)) dL_holds_330 (by decide) ?_
    refine J_goto C 335 dL_holds_331 (by decide) ?_
    refine J_istore C [some (.ref b), some (.int p0), some (.int p1), some (.int w), some (.int ((valF f p0) * (valF f p1))), some (.int ((1 : Int32) <<< ((w - (1 : Int32)) &&& 31))), some (.int (1 : Int32))] dL_holds_335 (hN 6 (by decide)) rfl rfl ?_
    refine J_iload C dL_holds_337 rfl ?_
    refine J_if_eq C 363 dL_holds_339 (by decide) (fun h => absurd h (by decide)) (fun _ => ?_)
    refine J_aload_n C dL_holds_342 rfl rfl ?_
    refine J_callV C (c_X5_stepsLeft U b a h sa pa ta tk v m w o t sl bp mw mc hi lo ex ) gL_holds_X5_stepsLeft (n := 0) rfl rfl rfl (by decide +kernel) ⟨Nat.le_of_ble_eq_true rfl, Nat.le_of_ble_eq_true rfl⟩ 0 rfl rfl rfl (rest := []) rfl (Nat.le_of_ble_eq_true rfl) [(b, .inr (5, [.ref a, .ref h, .ref sa, .int tk, .ref pa, .ref ta])), (a, .inr (3, [.ref v, .ref m, .int w, .int o, .int t])), (v, .inl (U.2.2.1 0, 6, .inl f)), (m, .inr (1, [.int sl, .int bp, .int mw, .int mc, .int hi, .int lo, .int ex]))] [0, 1, 3] [2] [1, 2, 0, 3] (wr := [(v, .inl (U.2.2.1 0, 6, .inl f))]) rfl rfl rfl rfl (by decide) rfl rfl  dL_holds_343 ⟨Nat.le_of_ble_eq_true rfl, Nat.le_of_ble_eq_true rfl⟩ [.int sl] rfl ?_
    refine J_iconst C (v := (-1 : Int32)) dL_holds_346 (by decide) ?_
    refine J_icmp_lt C 363 dL_holds_347 (by decide) (fun h => absurd h t1) (fun _ => ?_)
    refine J_aload_n C dL_holds_350 rfl rfl ?_
    refine J_callV C (c_X5_stepsLeft U b a h sa pa ta tk v m w o t sl bp mw mc hi lo ex ) gL_holds_X5_stepsLeft (n := 0) rfl rfl rfl (by decide +kernel) ⟨Nat.le_of_ble_eq_true rfl, Nat.le_of_ble_eq_true rfl⟩ 0 rfl rfl rfl (rest := []) rfl (Nat.le_of_ble_eq_true rfl) [(b, .inr (5, [.ref a, .ref h, .ref sa, .int tk, .ref pa, .ref ta])), (a, .inr (3, [.ref v, .ref m, .int w, .int o, .int t])), (v, .inl (U.2.2.1 0, 6, .inl f)), (m, .inr (1, [.int sl, .int bp, .int mw, .int mc, .int hi, .int lo, .int ex]))] [0, 1, 3] [2] [1, 2, 0, 3] (wr := [(v, .inl (U.2.2.1 0, 6, .inl f))]) rfl rfl rfl rfl (by decide) rfl rfl  dL_holds_351 ⟨Nat.le_of_ble_eq_true rfl, Nat.le_of_ble_eq_true rfl⟩ [.int sl] rfl ?_
    refine J_bipush C (v := (16 : Int32)) dL_holds_354 (by decide) ?_
    refine J_icmp_gt C 363 dL_holds_356 (by decide) (fun h => absurd h t2) (fun _ => ?_)
    refine J_iconst C (v := (1 : Int32)) dL_holds_359 (by decide) ?_
    refine J_goto C 364 dL_holds_360 (by decide) ?_
    exact J_zret C R rfl dL_holds_364 (Nat.le_of_ble_eq_true rfl) (Nat.le_of_ble_eq_true rfl) rfl rfl
set_option maxHeartbeats 4000000 in
set_option maxRecDepth 100000 in
theorem c_L_holds_eayn (U : jU) (b a h sa pa ta : Nat) (tk : Int32) (v m : Nat) (f : Nat → Int32) (w o t sl bp mw mc hi lo ex : Int32) (p0 p1 : Int32) (W : Nat) (v_1 : isReg p0) (v_2 : isReg p1) (hJ : jW W w f) (ymc : (valF f p1) * (valF f p0) = ((valF f p0) * (valF f p1))) (l1 : ¬ (valF f p0) < -((1 : Int32) <<< ((w - (1 : Int32)) &&& 31))) (l2 : ¬ ((1 : Int32) <<< ((w - (1 : Int32)) &&& 31)) ≤ (valF f p0)) (c1 : nI (crN W (valF f p0) (valF f p1)) = nI (crN W (valF f p1) (valF f p0))) (c2 : ¬ nI (crN W (valF f p0) (valF f p1)) < nI (lrN W (valF f p0) (valF f p1))) (c3 : ¬ w < nI (crN W (valF f p0) (valF f p1))) (s1 : ¬ nI (nzF (valF f p0) 0 W) < nI (nzF (valF f p0) 2 W)) (s2 : ¬ (nI (pcN W (tn (valF f p0))) + (1 : Int32)) < nI (nzF (valF f p0) 2 W)) (t1 : ¬ sl < -1) (t2 : ¬ 16 < sl) (e1 : ¬ rem2 w = 1) (hev : W % 2 = 0) (w1 : ¬ w / 2 < nI (nzF (valF f p1) 1 (W / 2))) (ft : b2i (wrapF w ((valF f p0) * (valF f p1)) = ((valF f p0) * (valF f p1))) = 0) (d1 : ¬ ((valF f p0) * (valF f p1)) < -((1 : Int32) <<< ((w - (1 : Int32)) &&& 31))) (d2 : ((1 : Int32) <<< ((w - (1 : Int32)) &&& 31)) ≤ ((valF f p0) * (valF f p1))) (z1 : ¬ nI (lrN W (valF f p0) (valF f p1)) = 0) (z2 : ¬ nI (crN W (valF f p0) (valF f p1)) = 0) (h1 : sl < 0) : Fn U yL_holds wsL_holds { frames := 8, cells := 0, slots := 0, locals := 137 } [.ref b, .int p0, .int p1] [(b, .inr (5, [.ref a, .ref h, .ref sa, .int tk, .ref pa, .ref ta])), (a, .inr (3, [.ref v, .ref m, .int w, .int o, .int t])), (v, .inl (U.2.2.1 0, 6, .inl f)), (m, .inr (1, [.int sl, .int bp, .int mw, .int mc, .int hi, .int lo, .int ex]))] (some (.int (1 : Int32))) [(b, .inr (5, [.ref a, .ref h, .ref sa, .int tk, .ref pa, .ref ta])), (a, .inr (3, [.ref v, .ref m, .int w, .int o, .int t])), (v, .inl (U.2.2.1 0, 6, .inl f)), (m, .inr (1, [.int sl, .int bp, .int mw, .int mc, .int hi, .int lo, .int ex]))] 0 0 := by
  refine Fn_of (cc := cL_holds) (maxL := 7) (ret := (some .boolean)) [some (.ref b), some (.int p0), some (.int p1), none, none, none, none] (by decide +kernel) rfl (jcat rfl) (Nat.le_of_ble_eq_true rfl) rfl (fun k C R hin hnL => ?_)
  have hN : ∀ i, i < 7 → i < k.2.2.2.2.2.2.2.2.2.2.2.1 := fun i h => by rw [hnL]; exact h
  refine J_aload_n C dL_holds_0 rfl rfl ?_
  refine J_callV C (c_X5_width U b a h sa pa ta tk v m w o t ) gL_holds_X5_width (n := 0) rfl rfl rfl (by decide +kernel) ⟨Nat.le_of_ble_eq_true rfl, Nat.le_of_ble_eq_true rfl⟩ 0 rfl rfl rfl (rest := []) rfl (Nat.le_of_ble_eq_true rfl) [(b, .inr (5, [.ref a, .ref h, .ref sa, .int tk, .ref pa, .ref ta])), (a, .inr (3, [.ref v, .ref m, .int w, .int o, .int t])), (v, .inl (U.2.2.1 0, 6, .inl f)), (m, .inr (1, [.int sl, .int bp, .int mw, .int mc, .int hi, .int lo, .int ex]))] [0, 1] [2, 3] [2, 3, 0, 1] (wr := [(v, .inl (U.2.2.1 0, 6, .inl f)), (m, .inr (1, [.int sl, .int bp, .int mw, .int mc, .int hi, .int lo, .int ex]))]) rfl rfl rfl rfl (by decide) rfl rfl  dL_holds_1 ⟨Nat.le_of_ble_eq_true rfl, Nat.le_of_ble_eq_true rfl⟩ [.int w] rfl ?_
  refine J_istore_n C [some (.ref b), some (.int p0), some (.int p1), some (.int w), none, none, none] dL_holds_4 rfl (hN 3 (by decide)) rfl rfl ?_
  refine J_aload_n C dL_holds_5 rfl rfl ?_
  refine J_iload_n C dL_holds_6 rfl rfl ?_
  refine J_callV C (c_X5_valueOf_ok U b a h sa pa ta tk v m f w o t p0 v_1) gL_holds_X5_valueOf (n := 1) rfl rfl rfl (by decide +kernel) ⟨Nat.le_of_ble_eq_true rfl, Nat.le_of_ble_eq_true rfl⟩ 0 rfl rfl rfl (rest := []) rfl (Nat.le_of_ble_eq_true rfl) [(b, .inr (5, [.ref a, .ref h, .ref sa, .int tk, .ref pa, .ref ta])), (a, .inr (3, [.ref v, .ref m, .int w, .int o, .int t])), (v, .inl (U.2.2.1 0, 6, .inl f)), (m, .inr (1, [.int sl, .int bp, .int mw, .int mc, .int hi, .int lo, .int ex]))] [0, 1, 2] [3] [1, 2, 3, 0] (wr := [(m, .inr (1, [.int sl, .int bp, .int mw, .int mc, .int hi, .int lo, .int ex]))]) rfl rfl rfl rfl (by decide) rfl rfl  dL_holds_7 ⟨Nat.le_of_ble_eq_true rfl, Nat.le_of_ble_eq_true rfl⟩ [.int (valF f p0)] rfl ?_
  refine J_aload_n C dL_holds_10 rfl rfl ?_
  refine J_iload_n C dL_holds_11 rfl rfl ?_
  refine J_callV C (c_X5_valueOf_ok U b a h sa pa ta tk v m f w o t p1 v_2) gL_holds_X5_valueOf (n := 1) rfl rfl rfl (by decide +kernel) ⟨Nat.le_of_ble_eq_true rfl, Nat.le_of_ble_eq_true rfl⟩ 0 rfl rfl rfl (rest := [.int (valF f p0)]) rfl (Nat.le_of_ble_eq_true rfl) [(b, .inr (5, [.ref a, .ref h, .ref sa, .int tk, .ref pa, .ref ta])), (a, .inr (3, [.ref v, .ref m, .int w, .int o, .int t])), (v, .inl (U.2.2.1 0, 6, .inl f)), (m, .inr (1, [.int sl, .int bp, .int mw, .int mc, .int hi, .int lo, .int ex]))] [0, 1, 2] [3] [1, 2, 3, 0] (wr := [(m, .inr (1, [.int sl, .int bp, .int mw, .int mc, .int hi, .int lo, .int ex]))]) rfl rfl rfl rfl (by decide) rfl rfl  dL_holds_12 ⟨Nat.le_of_ble_eq_true rfl, Nat.le_of_ble_eq_true rfl⟩ [.int (valF f p1), .int (valF f p0)] rfl ?_
  refine J_imul C (v := (valF f p0) * (valF f p1)) dL_holds_15 rfl ?_
  refine J_istore C [some (.ref b), some (.int p0), some (.int p1), some (.int w), some (.int ((valF f p0) * (valF f p1))), none, none] dL_holds_16 (hN 4 (by decide)) rfl rfl ?_
  refine J_iconst C (v := (1 : Int32)) dL_holds_18 (by decide) ?_
  refine J_iload_n C dL_holds_19 rfl rfl ?_
  refine J_iconst C (v := (1 : Int32)) dL_holds_20 (by decide) ?_
  refine J_isub C (v := w - (1 : Int32)) dL_holds_21 rfl ?_
  refine J_ishl C (v := (1 : Int32) <<< ((w - (1 : Int32)) &&& 31)) dL_holds_22 rfl ?_
  refine J_istore C [some (.ref b), some (.int p0), some (.int p1), some (.int w), some (.int ((valF f p0) * (valF f p1))), some (.int ((1 : Int32) <<< ((w - (1 : Int32)) &&& 31))), none] dL_holds_23 (hN 5 (by decide)) rfl rfl ?_
  refine J_aload_n C dL_holds_25 rfl rfl ?_
  refine J_iload_n C dL_holds_26 rfl rfl ?_
  refine J_iload_n C dL_holds_27 rfl rfl ?_
  refine J_callV C (c_X5_productByBits_eq U b a h sa pa ta tk v m f w o t p0 p1 W v_1 v_2 hJ) gL_holds_X5_productByBits (n := 2) rfl rfl rfl (by decide +kernel) ⟨Nat.le_of_ble_eq_true rfl, Nat.le_of_ble_eq_true rfl⟩ 0 rfl rfl rfl (rest := []) rfl (Nat.le_of_ble_eq_true rfl) [(b, .inr (5, [.ref a, .ref h, .ref sa, .int tk, .ref pa, .ref ta])), (a, .inr (3, [.ref v, .ref m, .int w, .int o, .int t])), (v, .inl (U.2.2.1 0, 6, .inl f)), (m, .inr (1, [.int sl, .int bp, .int mw, .int mc, .int hi, .int lo, .int ex]))] [0, 1, 2] [3] [1, 2, 3, 0] (wr := [(m, .inr (1, [.int sl, .int bp, .int mw, .int mc, .int hi, .int lo, .int ex]))]) rfl rfl rfl rfl (by decide) rfl rfl  dL_holds_28 ⟨Nat.le_of_ble_eq_true rfl, Nat.le_of_ble_eq_true rfl⟩ [.int ((valF f p0) * (valF f p1))] rfl ?_
  refine J_iload C dL_holds_31 rfl ?_
  refine J_icmp_ne C 106 dL_holds_33 (by decide) (fun h => absurd h (fun hh => hh rfl)) (fun _ => ?_)
  refine J_aload_n C dL_holds_36 rfl rfl ?_
  refine J_iload_n C dL_holds_37 rfl rfl ?_
  refine J_iload_n C dL_holds_38 rfl rfl ?_
  refine J_callV C (c_X5_productByBits_eq U b a h sa pa ta tk v m f w o t p1 p0 W v_2 v_1 hJ) gL_holds_X5_productByBits (n := 2) rfl rfl rfl (by decide +kernel) ⟨Nat.le_of_ble_eq_true rfl, Nat.le_of_ble_eq_true rfl⟩ 0 rfl rfl rfl (rest := []) rfl (Nat.le_of_ble_eq_true rfl) [(b, .inr (5, [.ref a, .ref h, .ref sa, .int tk, .ref pa, .ref ta])), (a, .inr (3, [.ref v, .ref m, .int w, .int o, .int t])), (v, .inl (U.2.2.1 0, 6, .inl f)), (m, .inr (1, [.int sl, .int bp, .int mw, .int mc, .int hi, .int lo, .int ex]))] [0, 1, 2] [3] [1, 2, 3, 0] (wr := [(m, .inr (1, [.int sl, .int bp, .int mw, .int mc, .int hi, .int lo, .int ex]))]) rfl rfl rfl rfl (by decide) rfl rfl  dL_holds_39 ⟨Nat.le_of_ble_eq_true rfl, Nat.le_of_ble_eq_true rfl⟩ [.int ((valF f p1) * (valF f p0))] rfl ?_
  refine J_iload C dL_holds_42 rfl ?_
  refine J_icmp_ne C 106 dL_holds_44 (by decide) (fun h => absurd h (fun hh => hh ymc)) (fun _ => ?_)
  refine J_aload_n C dL_holds_47 rfl rfl ?_
  refine J_iload_n C dL_holds_48 rfl rfl ?_
  refine J_iload_n C dL_holds_49 rfl rfl ?_
  refine J_iconst C (v := (0 : Int32)) dL_holds_50 (by decide) ?_
  refine J_callV C (c_X5_productByRows_eq0 U b a h sa pa ta tk v m f w o t p0 p1 W v_1 v_2 hJ) gL_holds_X5_productByRows (n := 3) rfl rfl rfl (by decide +kernel) ⟨Nat.le_of_ble_eq_true rfl, Nat.le_of_ble_eq_true rfl⟩ 0 rfl rfl rfl (rest := []) rfl (Nat.le_of_ble_eq_true rfl) [(b, .inr (5, [.ref a, .ref h, .ref sa, .int tk, .ref pa, .ref ta])), (a, .inr (3, [.ref v, .ref m, .int w, .int o, .int t])), (v, .inl (U.2.2.1 0, 6, .inl f)), (m, .inr (1, [.int sl, .int bp, .int mw, .int mc, .int hi, .int lo, .int ex]))] [0, 1, 2] [3] [1, 2, 3, 0] (wr := [(m, .inr (1, [.int sl, .int bp, .int mw, .int mc, .int hi, .int lo, .int ex]))]) rfl rfl rfl rfl (by decide) rfl rfl  dL_holds_51 ⟨Nat.le_of_ble_eq_true rfl, Nat.le_of_ble_eq_true rfl⟩ [.int ((valF f p0) * (valF f p1))] rfl ?_
  refine J_iload C dL_holds_54 rfl ?_
  refine J_icmp_ne C 106 dL_holds_56 (by decide) (fun h => absurd h (fun hh => hh rfl)) (fun _ => ?_)
  refine J_aload_n C dL_holds_59 rfl rfl ?_
  refine J_iload_n C dL_holds_60 rfl rfl ?_
  refine J_iload_n C dL_holds_61 rfl rfl ?_
  refine J_iconst C (v := (2 : Int32)) dL_holds_62 (by decide) ?_
  refine J_callV C (c_X5_productByRows_eq2 U b a h sa pa ta tk v m f w o t p0 p1 W v_1 v_2 hJ) gL_holds_X5_productByRows (n := 3) rfl rfl rfl (by decide +kernel) ⟨Nat.le_of_ble_eq_true rfl, Nat.le_of_ble_eq_true rfl⟩ 0 rfl rfl rfl (rest := []) rfl (Nat.le_of_ble_eq_true rfl) [(b, .inr (5, [.ref a, .ref h, .ref sa, .int tk, .ref pa, .ref ta])), (a, .inr (3, [.ref v, .ref m, .int w, .int o, .int t])), (v, .inl (U.2.2.1 0, 6, .inl f)), (m, .inr (1, [.int sl, .int bp, .int mw, .int mc, .int hi, .int lo, .int ex]))] [0, 1, 2] [3] [1, 2, 3, 0] (wr := [(m, .inr (1, [.int sl, .int bp, .int mw, .int mc, .int hi, .int lo, .int ex]))]) rfl rfl rfl rfl (by decide) rfl rfl  dL_holds_63 ⟨Nat.le_of_ble_eq_true rfl, Nat.le_of_ble_eq_true rfl⟩ [.int ((valF f p0) * (valF f p1))] rfl ?_
  refine J_iload C dL_holds_66 rfl ?_
  refine J_icmp_ne C 106 dL_holds_68 (by decide) (fun h => absurd h (fun hh => hh rfl)) (fun _ => ?_)
  refine J_iload_n C dL_holds_71 rfl rfl ?_
  refine J_iconst C (v := (2 : Int32)) dL_holds_72 (by decide) ?_
  refine J_irem C (v := rem2 w) dL_holds_73 (by decide) rfl ?_
  refine J_iconst C (v := (1 : Int32)) dL_holds_74 (by decide) ?_
  refine J_icmp_eq C 102 dL_holds_75 (by decide) (fun h => absurd h e1) (fun _ => ?_)
  refine J_aload_n C dL_holds_78 rfl rfl ?_
  refine J_iload_n C dL_holds_79 rfl rfl ?_
  refine J_iload_n C dL_holds_80 rfl rfl ?_
  refine J_iconst C (v := (1 : Int32)) dL_holds_81 (by decide) ?_
  refine J_callV C (c_X5_productByRows_eq1 U b a h sa pa ta tk v m f w o t p0 p1 W v_1 v_2 hev hJ) gL_holds_X5_productByRows (n := 3) rfl rfl rfl (by decide +kernel) ⟨Nat.le_of_ble_eq_true rfl, Nat.le_of_ble_eq_true rfl⟩ 0 rfl rfl rfl (rest := []) rfl (Nat.le_of_ble_eq_true rfl) [(b, .inr (5, [.ref a, .ref h, .ref sa, .int tk, .ref pa, .ref ta])), (a, .inr (3, [.ref v, .ref m, .int w, .int o, .int t])), (v, .inl (U.2.2.1 0, 6, .inl f)), (m, .inr (1, [.int sl, .int bp, .int mw, .int mc, .int hi, .int lo, .int ex]))] [0, 1, 2] [3] [1, 2, 3, 0] (wr := [(m, .inr (1, [.int sl, .int bp, .int mw, .int mc, .int hi, .int lo, .int ex]))]) rfl rfl rfl rfl (by decide) rfl rfl  dL_holds_82 ⟨Nat.le_of_ble_eq_true rfl, Nat.le_of_ble_eq_true rfl⟩ [.int ((valF f p0) * (valF f p1))] rfl ?_
  refine J_iload C dL_holds_85 rfl ?_
  refine J_icmp_ne C 106 dL_holds_87 (by decide) (fun h => absurd h (fun hh => hh rfl)) (fun _ => ?_)
  refine J_aload_n C dL_holds_90 rfl rfl ?_
  refine J_iload_n C dL_holds_91 rfl rfl ?_
  refine J_iconst C (v := (1 : Int32)) dL_holds_92 (by decide) ?_
  refine J_callV C (c_X5_rowsOf_eq1 U b a h sa pa ta tk v m f w o t p1 W v_2 hev hJ) gL_holds_X5_rowsOf (n := 2) rfl rfl rfl (by decide +kernel) ⟨Nat.le_of_ble_eq_true rfl, Nat.le_of_ble_eq_true rfl⟩ 0 rfl rfl rfl (rest := []) rfl (Nat.le_of_ble_eq_true rfl) [(b, .inr (5, [.ref a, .ref h, .ref sa, .int tk, .ref pa, .ref ta])), (a, .inr (3, [.ref v, .ref m, .int w, .int o, .int t])), (v, .inl (U.2.2.1 0, 6, .inl f)), (m, .inr (1, [.int sl, .int bp, .int mw, .int mc, .int hi, .int lo, .int ex]))] [0, 1, 2] [3] [1, 2, 3, 0] (wr := [(m, .inr (1, [.int sl, .int bp, .int mw, .int mc, .int hi, .int lo, .int ex]))]) rfl rfl rfl rfl (by decide) rfl rfl  dL_holds_93 ⟨Nat.le_of_ble_eq_true rfl, Nat.le_of_ble_eq_true rfl⟩ [.int (nI (nzF (valF f p1) 1 (W / 2)))] rfl ?_
  refine J_iload_n C dL_holds_96 rfl rfl ?_
  refine J_iconst C (v := (2 : Int32)) dL_holds_97 (by decide) ?_
  refine J_idiv C (v := w / (2 : Int32)) dL_holds_98 (by decide) rfl ?_
  refine J_icmp_gt C 106 dL_holds_99 (by decide) (fun h => absurd h w1) (fun _ => ?_)
  refine J_iconst C (v := (1 : Int32)) dL_holds_102 (by decide) ?_
  refine J_goto C 107 dL_holds_103 (by decide) ?_
  refine J_istore C [some (.ref b), some (.int p0), some (.int p1), some (.int w), some (.int ((valF f p0) * (valF f p1))), some (.int ((1 : Int32) <<< ((w - (1 : Int32)) &&& 31))), some (.int (1 : Int32))] dL_holds_107 (hN 6 (by decide)) rfl rfl ?_
  refine J_iload C dL_holds_109 rfl ?_
  refine J_if_eq C 239 dL_holds_111 (by decide) (fun h => absurd h (by decide)) (fun _ => ?_)
  refine J_aload_n C dL_holds_114 rfl rfl ?_
  refine J_iload_n C dL_holds_115 rfl rfl ?_
  refine J_callV C (c_X5_valueOf_ok U b a h sa pa ta tk v m f w o t p0 v_1) gL_holds_X5_valueOf (n := 1) rfl rfl rfl (by decide +kernel) ⟨Nat.le_of_ble_eq_true rfl, Nat.le_of_ble_eq_true rfl⟩ 0 rfl rfl rfl (rest := []) rfl (Nat.le_of_ble_eq_true rfl) [(b, .inr (5, [.ref a, .ref h, .ref sa, .int tk, .ref pa, .ref ta])), (a, .inr (3, [.ref v, .ref m, .int w, .int o, .int t])), (v, .inl (U.2.2.1 0, 6, .inl f)), (m, .inr (1, [.int sl, .int bp, .int mw, .int mc, .int hi, .int lo, .int ex]))] [0, 1, 2] [3] [1, 2, 3, 0] (wr := [(m, .inr (1, [.int sl, .int bp, .int mw, .int mc, .int hi, .int lo, .int ex]))]) rfl rfl rfl rfl (by decide) rfl rfl  dL_holds_116 ⟨Nat.le_of_ble_eq_true rfl, Nat.le_of_ble_eq_true rfl⟩ [.int (valF f p0)] rfl ?_
  refine J_iload C dL_holds_119 rfl ?_
  refine J_ineg C dL_holds_121 rfl ?_
  refine J_icmp_lt C 239 dL_holds_122 (by decide) (fun h => absurd h l1) (fun _ => ?_)
  refine J_aload_n C dL_holds_125 rfl rfl ?_
  refine J_iload_n C dL_holds_126 rfl rfl ?_
  refine J_callV C (c_X5_valueOf_ok U b a h sa pa ta tk v m f w o t p0 v_1) gL_holds_X5_valueOf (n := 1) rfl rfl rfl (by decide +kernel) ⟨Nat.le_of_ble_eq_true rfl, Nat.le_of_ble_eq_true rfl⟩ 0 rfl rfl rfl (rest := []) rfl (Nat.le_of_ble_eq_true rfl) [(b, .inr (5, [.ref a, .ref h, .ref sa, .int tk, .ref pa, .ref ta])), (a, .inr (3, [.ref v, .ref m, .int w, .int o, .int t])), (v, .inl (U.2.2.1 0, 6, .inl f)), (m, .inr (1, [.int sl, .int bp, .int mw, .int mc, .int hi, .int lo, .int ex]))] [0, 1, 2] [3] [1, 2, 3, 0] (wr := [(m, .inr (1, [.int sl, .int bp, .int mw, .int mc, .int hi, .int lo, .int ex]))]) rfl rfl rfl rfl (by decide) rfl rfl  dL_holds_127 ⟨Nat.le_of_ble_eq_true rfl, Nat.le_of_ble_eq_true rfl⟩ [.int (valF f p0)] rfl ?_
  refine J_iload C dL_holds_130 rfl ?_
  refine J_icmp_ge C 239 dL_holds_132 (by decide) (fun h => absurd h l2) (fun _ => ?_)
  refine J_aload_n C dL_holds_135 rfl rfl ?_
  refine J_iload_n C dL_holds_136 rfl rfl ?_
  refine J_iload_n C dL_holds_137 rfl rfl ?_
  refine J_callV C (c_X5_fits_ok U b a h sa pa ta tk v m f w o t p0 p1 v_1 v_2) gL_holds_X5_fits (n := 2) rfl rfl rfl (by decide +kernel) ⟨Nat.le_of_ble_eq_true rfl, Nat.le_of_ble_eq_true rfl⟩ 0 rfl rfl rfl (rest := []) rfl (Nat.le_of_ble_eq_true rfl) [(b, .inr (5, [.ref a, .ref h, .ref sa, .int tk, .ref pa, .ref ta])), (a, .inr (3, [.ref v, .ref m, .int w, .int o, .int t])), (v, .inl (U.2.2.1 0, 6, .inl f)), (m, .inr (1, [.int sl, .int bp, .int mw, .int mc, .int hi, .int lo, .int ex]))] [0, 1, 2] [3] [1, 2, 3, 0] (wr := [(m, .inr (1, [.int sl, .int bp, .int mw, .int mc, .int hi, .int lo, .int ex]))]) rfl rfl rfl rfl (by decide) rfl rfl  dL_holds_138 ⟨Nat.le_of_ble_eq_true rfl, Nat.le_of_ble_eq_true rfl⟩ [.int (b2i (wrapF w (valF f p0 * valF f p1) = (valF f p0 * valF f p1)))] rfl ?_
  refine J_iload C dL_holds_141 rfl ?_
  refine J_iload C dL_holds_143 rfl ?_
  refine J_ineg C dL_holds_145 rfl ?_
  refine J_icmp_lt C 160 dL_holds_146 (by decide) (fun h => absurd h d1) (fun _ => ?_)
  refine J_iload C dL_holds_149 rfl ?_
  refine J_iload C dL_holds_151 rfl ?_
  refine J_icmp_ge C 160 dL_holds_153 (by decide) (fun _ => ?_) (fun h => absurd d2 h)
  refine J_iconst C (v := (0 : Int32)) dL_holds_160 (by decide) ?_
  refine J_icmp_ne C 239 dL_holds_161 (by decide) (fun h => absurd h (fun hh => hh ft)) (fun _ => ?_)
  refine J_aload_n C dL_holds_164 rfl rfl ?_
  refine J_iload_n C dL_holds_165 rfl rfl ?_
  refine J_iload_n C dL_holds_166 rfl rfl ?_
  refine J_callV C (c_X5_carries_eq U b a h sa pa ta tk v m f w o t p0 p1 W v_1 v_2 hJ) gL_holds_X5_carries (n := 2) rfl rfl rfl (by decide +kernel) ⟨Nat.le_of_ble_eq_true rfl, Nat.le_of_ble_eq_true rfl⟩ 0 rfl rfl rfl (rest := []) rfl (Nat.le_of_ble_eq_true rfl) [(b, .inr (5, [.ref a, .ref h, .ref sa, .int tk, .ref pa, .ref ta])), (a, .inr (3, [.ref v, .ref m, .int w, .int o, .int t])), (v, .inl (U.2.2.1 0, 6, .inl f)), (m, .inr (1, [.int sl, .int bp, .int mw, .int mc, .int hi, .int lo, .int ex]))] [0, 1, 2] [3] [1, 2, 3, 0] (wr := [(m, .inr (1, [.int sl, .int bp, .int mw, .int mc, .int hi, .int lo, .int ex]))]) rfl rfl rfl rfl (by decide) rfl rfl  dL_holds_167 ⟨Nat.le_of_ble_eq_true rfl, Nat.le_of_ble_eq_true rfl⟩ [.int (nI (crN W (valF f p0) (valF f p1)))] rfl ?_
  refine J_aload_n C dL_holds_170 rfl rfl ?_
  refine J_iload_n C dL_holds_171 rfl rfl ?_
  refine J_iload_n C dL_holds_172 rfl rfl ?_
  refine J_callV C (c_X5_carries_eq U b a h sa pa ta tk v m f w o t p1 p0 W v_2 v_1 hJ) gL_holds_X5_carries (n := 2) rfl rfl rfl (by decide +kernel) ⟨Nat.le_of_ble_eq_true rfl, Nat.le_of_ble_eq_true rfl⟩ 0 rfl rfl rfl (rest := [.int (nI (crN W (valF f p0) (valF f p1)))]) rfl (Nat.le_of_ble_eq_true rfl) [(b, .inr (5, [.ref a, .ref h, .ref sa, .int tk, .ref pa, .ref ta])), (a, .inr (3, [.ref v, .ref m, .int w, .int o, .int t])), (v, .inl (U.2.2.1 0, 6, .inl f)), (m, .inr (1, [.int sl, .int bp, .int mw, .int mc, .int hi, .int lo, .int ex]))] [0, 1, 2] [3] [1, 2, 3, 0] (wr := [(m, .inr (1, [.int sl, .int bp, .int mw, .int mc, .int hi, .int lo, .int ex]))]) rfl rfl rfl rfl (by decide) rfl rfl  dL_holds_173 ⟨Nat.le_of_ble_eq_true rfl, Nat.le_of_ble_eq_true rfl⟩ [.int (nI (crN W (valF f p1) (valF f p0))), .int (nI (crN W (valF f p0) (valF f p1)))] rfl ?_
  refine J_icmp_ne C 239 dL_holds_176 (by decide) (fun h => absurd h (fun hh => hh c1)) (fun _ => ?_)
  refine J_aload_n C dL_holds_179 rfl rfl ?_
  refine J_iload_n C dL_holds_180 rfl rfl ?_
  refine J_iload_n C dL_holds_181 rfl rfl ?_
  refine J_callV C (c_X5_longestRun_eq U b a h sa pa ta tk v m f w o t p0 p1 W v_1 v_2 hJ) gL_holds_X5_longestRun (n := 2) rfl rfl rfl (by decide +kernel) ⟨Nat.le_of_ble_eq_true rfl, Nat.le_of_ble_eq_true rfl⟩ 0 rfl rfl rfl (rest := []) rfl (Nat.le_of_ble_eq_true rfl) [(b, .inr (5, [.ref a, .ref h, .ref sa, .int tk, .ref pa, .ref ta])), (a, .inr (3, [.ref v, .ref m, .int w, .int o, .int t])), (v, .inl (U.2.2.1 0, 6, .inl f)), (m, .inr (1, [.int sl, .int bp, .int mw, .int mc, .int hi, .int lo, .int ex]))] [0, 1, 2] [3] [1, 2, 3, 0] (wr := [(m, .inr (1, [.int sl, .int bp, .int mw, .int mc, .int hi, .int lo, .int ex]))]) rfl rfl rfl rfl (by decide) rfl rfl  dL_holds_182 ⟨Nat.le_of_ble_eq_true rfl, Nat.le_of_ble_eq_true rfl⟩ [.int (nI (lrN W (valF f p0) (valF f p1)))] rfl ?_
  refine J_aload_n C dL_holds_185 rfl rfl ?_
  refine J_iload_n C dL_holds_186 rfl rfl ?_
  refine J_iload_n C dL_holds_187 rfl rfl ?_
  refine J_callV C (c_X5_carries_eq U b a h sa pa ta tk v m f w o t p0 p1 W v_1 v_2 hJ) gL_holds_X5_carries (n := 2) rfl rfl rfl (by decide +kernel) ⟨Nat.le_of_ble_eq_true rfl, Nat.le_of_ble_eq_true rfl⟩ 0 rfl rfl rfl (rest := [.int (nI (lrN W (valF f p0) (valF f p1)))]) rfl (Nat.le_of_ble_eq_true rfl) [(b, .inr (5, [.ref a, .ref h, .ref sa, .int tk, .ref pa, .ref ta])), (a, .inr (3, [.ref v, .ref m, .int w, .int o, .int t])), (v, .inl (U.2.2.1 0, 6, .inl f)), (m, .inr (1, [.int sl, .int bp, .int mw, .int mc, .int hi, .int lo, .int ex]))] [0, 1, 2] [3] [1, 2, 3, 0] (wr := [(m, .inr (1, [.int sl, .int bp, .int mw, .int mc, .int hi, .int lo, .int ex]))]) rfl rfl rfl rfl (by decide) rfl rfl  dL_holds_188 ⟨Nat.le_of_ble_eq_true rfl, Nat.le_of_ble_eq_true rfl⟩ [.int (nI (crN W (valF f p0) (valF f p1))), .int (nI (lrN W (valF f p0) (valF f p1)))] rfl ?_
  refine J_icmp_gt C 239 dL_holds_191 (by decide) (fun h => absurd h c2) (fun _ => ?_)
  refine J_aload_n C dL_holds_194 rfl rfl ?_
  refine J_iload_n C dL_holds_195 rfl rfl ?_
  refine J_iload_n C dL_holds_196 rfl rfl ?_
  refine J_callV C (c_X5_longestRun_eq U b a h sa pa ta tk v m f w o t p0 p1 W v_1 v_2 hJ) gL_holds_X5_longestRun (n := 2) rfl rfl rfl (by decide +kernel) ⟨Nat.le_of_ble_eq_true rfl, Nat.le_of_ble_eq_true rfl⟩ 0 rfl rfl rfl (rest := []) rfl (Nat.le_of_ble_eq_true rfl) [(b, .inr (5, [.ref a, .ref h, .ref sa, .int tk, .ref pa, .ref ta])), (a, .inr (3, [.ref v, .ref m, .int w, .int o, .int t])), (v, .inl (U.2.2.1 0, 6, .inl f)), (m, .inr (1, [.int sl, .int bp, .int mw, .int mc, .int hi, .int lo, .int ex]))] [0, 1, 2] [3] [1, 2, 3, 0] (wr := [(m, .inr (1, [.int sl, .int bp, .int mw, .int mc, .int hi, .int lo, .int ex]))]) rfl rfl rfl rfl (by decide) rfl rfl  dL_holds_197 ⟨Nat.le_of_ble_eq_true rfl, Nat.le_of_ble_eq_true rfl⟩ [.int (nI (lrN W (valF f p0) (valF f p1)))] rfl ?_
  refine J_if_ne C 207 dL_holds_200 (by decide) (fun _ => ?_) (fun h => absurd h z1)
  refine J_iconst C (v := (0 : Int32)) dL_holds_207 (by decide) ?_
  refine J_aload_n C dL_holds_208 rfl rfl ?_
  refine J_iload_n C dL_holds_209 rfl rfl ?_
  refine J_iload_n C dL_holds_210 rfl rfl ?_
  refine J_callV C (c_X5_carries_eq U b a h sa pa ta tk v m f w o t p0 p1 W v_1 v_2 hJ) gL_holds_X5_carries (n := 2) rfl rfl rfl (by decide +kernel) ⟨Nat.le_of_ble_eq_true rfl, Nat.le_of_ble_eq_true rfl⟩ 0 rfl rfl rfl (rest := [.int (0 : Int32)]) rfl (Nat.le_of_ble_eq_true rfl) [(b, .inr (5, [.ref a, .ref h, .ref sa, .int tk, .ref pa, .ref ta])), (a, .inr (3, [.ref v, .ref m, .int w, .int o, .int t])), (v, .inl (U.2.2.1 0, 6, .inl f)), (m, .inr (1, [.int sl, .int bp, .int mw, .int mc, .int hi, .int lo, .int ex]))] [0, 1, 2] [3] [1, 2, 3, 0] (wr := [(m, .inr (1, [.int sl, .int bp, .int mw, .int mc, .int hi, .int lo, .int ex]))]) rfl rfl rfl rfl (by decide) rfl rfl  dL_holds_211 ⟨Nat.le_of_ble_eq_true rfl, Nat.le_of_ble_eq_true rfl⟩ [.int (nI (crN W (valF f p0) (valF f p1))), .int (0 : Int32)] rfl ?_
  refine J_if_ne C 221 dL_holds_214 (by decide) (fun _ => ?_) (fun h => absurd h z2)
  refine J_iconst C (v := (0 : Int32)) dL_holds_221 (by decide) ?_
  refine J_icmp_ne C 239 dL_holds_222 (by decide) (fun h => absurd (by decide) h) (fun _ => ?_)
  refine J_aload_n C dL_holds_225 rfl rfl ?_
  refine J_iload_n C dL_holds_226 rfl rfl ?_
  refine J_iload_n C dL_holds_227 rfl rfl ?_
  refine J_callV C (c_X5_carries_eq U b a h sa pa ta tk v m f w o t p0 p1 W v_1 v_2 hJ) gL_holds_X5_carries (n := 2) rfl rfl rfl (by decide +kernel) ⟨Nat.le_of_ble_eq_true rfl, Nat.le_of_ble_eq_true rfl⟩ 0 rfl rfl rfl (rest := []) rfl (Nat.le_of_ble_eq_true rfl) [(b, .inr (5, [.ref a, .ref h, .ref sa, .int tk, .ref pa, .ref ta])), (a, .inr (3, [.ref v, .ref m, .int w, .int o, .int t])), (v, .inl (U.2.2.1 0, 6, .inl f)), (m, .inr (1, [.int sl, .int bp, .int mw, .int mc, .int hi, .int lo, .int ex]))] [0, 1, 2] [3] [1, 2, 3, 0] (wr := [(m, .inr (1, [.int sl, .int bp, .int mw, .int mc, .int hi, .int lo, .int ex]))]) rfl rfl rfl rfl (by decide) rfl rfl  dL_holds_228 ⟨Nat.le_of_ble_eq_true rfl, Nat.le_of_ble_eq_true rfl⟩ [.int (nI (crN W (valF f p0) (valF f p1)))] rfl ?_
  refine J_iload_n C dL_holds_231 rfl rfl ?_
  refine J_icmp_gt C 239 dL_holds_232 (by decide) (fun h => absurd h c3) (fun _ => ?_)
  refine J_iconst C (v := (1 : Int32)) dL_holds_235 (by decide) ?_
  refine J_goto C 240 dL_holds_236 (by decide) ?_
  refine J_istore C [some (.ref b), some (.int p0), some (.int p1), some (.int w), some (.int ((valF f p0) * (valF f p1))), some (.int ((1 : Int32) <<< ((w - (1 : Int32)) &&& 31))), some (.int (1 : Int32))] dL_holds_240 (hN 6 (by decide)) rfl rfl ?_
  refine J_iload C dL_holds_242 rfl ?_
  refine J_if_eq C 282 dL_holds_244 (by decide) (fun h => absurd h (by decide)) (fun _ => ?_)
  refine J_aload_n C dL_holds_247 rfl rfl ?_
  refine J_iload_n C dL_holds_248 rfl rfl ?_
  refine J_iconst C (v := (2 : Int32)) dL_holds_249 (by decide) ?_
  refine J_callV C (c_X5_rowsOf_eq2 U b a h sa pa ta tk v m f w o t p0 W v_1 hJ) gL_holds_X5_rowsOf (n := 2) rfl rfl rfl (by decide +kernel) ⟨Nat.le_of_ble_eq_true rfl, Nat.le_of_ble_eq_true rfl⟩ 0 rfl rfl rfl (rest := []) rfl (Nat.le_of_ble_eq_true rfl) [(b, .inr (5, [.ref a, .ref h, .ref sa, .int tk, .ref pa, .ref ta])), (a, .inr (3, [.ref v, .ref m, .int w, .int o, .int t])), (v, .inl (U.2.2.1 0, 6, .inl f)), (m, .inr (1, [.int sl, .int bp, .int mw, .int mc, .int hi, .int lo, .int ex]))] [0, 1, 2] [3] [1, 2, 3, 0] (wr := [(m, .inr (1, [.int sl, .int bp, .int mw, .int mc, .int hi, .int lo, .int ex]))]) rfl rfl rfl rfl (by decide) rfl rfl  dL_holds_250 ⟨Nat.le_of_ble_eq_true rfl, Nat.le_of_ble_eq_true rfl⟩ [.int (nI (nzF (valF f p0) 2 W))] rfl ?_
  refine J_aload_n C dL_holds_253 rfl rfl ?_
  refine J_iload_n C dL_holds_254 rfl rfl ?_
  refine J_iconst C (v := (0 : Int32)) dL_holds_255 (by decide) ?_
  refine J_callV C (c_X5_rowsOf_eq0 U b a h sa pa ta tk v m f w o t p0 W v_1 hJ) gL_holds_X5_rowsOf (n := 2) rfl rfl rfl (by decide +kernel) ⟨Nat.le_of_ble_eq_true rfl, Nat.le_of_ble_eq_true rfl⟩ 0 rfl rfl rfl (rest := [.int (nI (nzF (valF f p0) 2 W))]) rfl (Nat.le_of_ble_eq_true rfl) [(b, .inr (5, [.ref a, .ref h, .ref sa, .int tk, .ref pa, .ref ta])), (a, .inr (3, [.ref v, .ref m, .int w, .int o, .int t])), (v, .inl (U.2.2.1 0, 6, .inl f)), (m, .inr (1, [.int sl, .int bp, .int mw, .int mc, .int hi, .int lo, .int ex]))] [0, 1, 2] [3] [1, 2, 3, 0] (wr := [(m, .inr (1, [.int sl, .int bp, .int mw, .int mc, .int hi, .int lo, .int ex]))]) rfl rfl rfl rfl (by decide) rfl rfl  dL_holds_256 ⟨Nat.le_of_ble_eq_true rfl, Nat.le_of_ble_eq_true rfl⟩ [.int (nI (nzF (valF f p0) 0 W)), .int (nI (nzF (valF f p0) 2 W))] rfl ?_
  refine J_icmp_gt C 282 dL_holds_259 (by decide) (fun h => absurd h s1) (fun _ => ?_)
  refine J_aload_n C dL_holds_262 rfl rfl ?_
  refine J_iload_n C dL_holds_263 rfl rfl ?_
  refine J_iconst C (v := (2 : Int32)) dL_holds_264 (by decide) ?_
  refine J_callV C (c_X5_rowsOf_eq2 U b a h sa pa ta tk v m f w o t p0 W v_1 hJ) gL_holds_X5_rowsOf (n := 2) rfl rfl rfl (by decide +kernel) ⟨Nat.le_of_ble_eq_true rfl, Nat.le_of_ble_eq_true rfl⟩ 0 rfl rfl rfl (rest := []) rfl (Nat.le_of_ble_eq_true rfl) [(b, .inr (5, [.ref a, .ref h, .ref sa, .int tk, .ref pa, .ref ta])), (a, .inr (3, [.ref v, .ref m, .int w, .int o, .int t])), (v, .inl (U.2.2.1 0, 6, .inl f)), (m, .inr (1, [.int sl, .int bp, .int mw, .int mc, .int hi, .int lo, .int ex]))] [0, 1, 2] [3] [1, 2, 3, 0] (wr := [(m, .inr (1, [.int sl, .int bp, .int mw, .int mc, .int hi, .int lo, .int ex]))]) rfl rfl rfl rfl (by decide) rfl rfl  dL_holds_265 ⟨Nat.le_of_ble_eq_true rfl, Nat.le_of_ble_eq_true rfl⟩ [.int (nI (nzF (valF f p0) 2 W))] rfl ?_
  refine J_aload_n C dL_holds_268 rfl rfl ?_
  refine J_iload_n C dL_holds_269 rfl rfl ?_
  refine J_callV C (c_X5_onesOf_eq U b a h sa pa ta tk v m f w o t p0 W v_1 hJ) gL_holds_X5_onesOf (n := 1) rfl rfl rfl (by decide +kernel) ⟨Nat.le_of_ble_eq_true rfl, Nat.le_of_ble_eq_true rfl⟩ 0 rfl rfl rfl (rest := [.int (nI (nzF (valF f p0) 2 W))]) rfl (Nat.le_of_ble_eq_true rfl) [(b, .inr (5, [.ref a, .ref h, .ref sa, .int tk, .ref pa, .ref ta])), (a, .inr (3, [.ref v, .ref m, .int w, .int o, .int t])), (v, .inl (U.2.2.1 0, 6, .inl f)), (m, .inr (1, [.int sl, .int bp, .int mw, .int mc, .int hi, .int lo, .int ex]))] [0, 1, 2] [3] [1, 2, 3, 0] (wr := [(m, .inr (1, [.int sl, .int bp, .int mw, .int mc, .int hi, .int lo, .int ex]))]) rfl rfl rfl rfl (by decide) rfl rfl  dL_holds_270 ⟨Nat.le_of_ble_eq_true rfl, Nat.le_of_ble_eq_true rfl⟩ [.int (nI (pcN W (tn (valF f p0)))), .int (nI (nzF (valF f p0) 2 W))] rfl ?_
  refine J_iconst C (v := (1 : Int32)) dL_holds_273 (by decide) ?_
  refine J_iadd C (v := (nI (pcN W (tn (valF f p0)))) + (1 : Int32)) dL_holds_274 rfl ?_
  refine J_icmp_gt C 282 dL_holds_275 (by decide) (fun h => absurd h s2) (fun _ => ?_)
  refine J_iconst C (v := (1 : Int32)) dL_holds_278 (by decide) ?_
  refine J_goto C 283 dL_holds_279 (by decide) ?_
  refine J_istore C [some (.ref b), some (.int p0), some (.int p1), some (.int w), some (.int ((valF f p0) * (valF f p1))), some (.int ((1 : Int32) <<< ((w - (1 : Int32)) &&& 31))), some (.int (1 : Int32))] dL_holds_283 (hN 6 (by decide)) rfl rfl ?_
  refine J_aload_n C dL_holds_285 rfl rfl ?_
  refine J_callV C (c_X5_stepsLeft U b a h sa pa ta tk v m w o t sl bp mw mc hi lo ex ) gL_holds_X5_stepsLeft (n := 0) rfl rfl rfl (by decide +kernel) ⟨Nat.le_of_ble_eq_true rfl, Nat.le_of_ble_eq_true rfl⟩ 0 rfl rfl rfl (rest := []) rfl (Nat.le_of_ble_eq_true rfl) [(b, .inr (5, [.ref a, .ref h, .ref sa, .int tk, .ref pa, .ref ta])), (a, .inr (3, [.ref v, .ref m, .int w, .int o, .int t])), (v, .inl (U.2.2.1 0, 6, .inl f)), (m, .inr (1, [.int sl, .int bp, .int mw, .int mc, .int hi, .int lo, .int ex]))] [0, 1, 3] [2] [1, 2, 0, 3] (wr := [(v, .inl (U.2.2.1 0, 6, .inl f))]) rfl rfl rfl rfl (by decide) rfl rfl  dL_holds_286 ⟨Nat.le_of_ble_eq_true rfl, Nat.le_of_ble_eq_true rfl⟩ [.int sl] rfl ?_
  refine J_if_lt C 337 dL_holds_289 (by decide) (fun _ => ?_) (fun h => absurd h1 h)
  refine J_iload C dL_holds_337 rfl ?_
  refine J_if_eq C 363 dL_holds_339 (by decide) (fun h => absurd h (by decide)) (fun _ => ?_)
  refine J_aload_n C dL_holds_342 rfl rfl ?_
  refine J_callV C (c_X5_stepsLeft U b a h sa pa ta tk v m w o t sl bp mw mc hi lo ex ) gL_holds_X5_stepsLeft (n := 0) rfl rfl rfl (by decide +kernel) ⟨Nat.le_of_ble_eq_true rfl, Nat.le_of_ble_eq_true rfl⟩ 0 rfl rfl rfl (rest := []) rfl (Nat.le_of_ble_eq_true rfl) [(b, .inr (5, [.ref a, .ref h, .ref sa, .int tk, .ref pa, .ref ta])), (a, .inr (3, [.ref v, .ref m, .int w, .int o, .int t])), (v, .inl (U.2.2.1 0, 6, .inl f)), (m, .inr (1, [.int sl, .int bp, .int mw, .int mc, .int hi, .int lo, .int ex]))] [0, 1, 3] [2] [1, 2, 0, 3] (wr := [(v, .inl (U.2.2.1 0, 6, .inl f))]) rfl rfl rfl rfl (by decide) rfl rfl  dL_holds_343 ⟨Nat.le_of_ble_eq_true rfl, Nat.le_of_ble_eq_true rfl⟩ [.int sl] rfl ?_
  refine J_iconst C (v := (-1 : Int32)) dL_holds_346 (by decide) ?_
  refine J_icmp_lt C 363 dL_holds_347 (by decide) (fun h => absurd h t1) (fun _ => ?_)
  refine J_aload_n C dL_holds_350 rfl rfl ?_
  refine J_callV C (c_X5_stepsLeft U b a h sa pa ta tk v m w o t sl bp mw mc hi lo ex ) gL_holds_X5_stepsLeft (n := 0) rfl rfl rfl (by decide +kernel) ⟨Nat.le_of_ble_eq_true rfl, Nat.le_of_ble_eq_true rfl⟩ 0 rfl rfl rfl (rest := []) rfl (Nat.le_of_ble_eq_true rfl) [(b, .inr (5, [.ref a, .ref h, .ref sa, .int tk, .ref pa, .ref ta])), (a, .inr (3, [.ref v, .ref m, .int w, .int o, .int t])), (v, .inl (U.2.2.1 0, 6, .inl f)), (m, .inr (1, [.int sl, .int bp, .int mw, .int mc, .int hi, .int lo, .int ex]))] [0, 1, 3] [2] [1, 2, 0, 3] (wr := [(v, .inl (U.2.2.1 0, 6, .inl f))]) rfl rfl rfl rfl (by decide) rfl rfl  dL_holds_351 ⟨Nat.le_of_ble_eq_true rfl, Nat.le_of_ble_eq_true rfl⟩ [.int sl] rfl ?_
  refine J_bipush C (v := (16 : Int32)) dL_holds_354 (by decide) ?_
  refine J_icmp_gt C 363 dL_holds_356 (by decide) (fun h => absurd h t2) (fun _ => ?_)
  refine J_iconst C (v := (1 : Int32)) dL_holds_359 (by decide) ?_
  refine J_goto C 364 dL_holds_360 (by decide) ?_
  exact J_zret C R rfl dL_holds_364 (Nat.le_of_ble_eq_true rfl) (Nat.le_of_ble_eq_true rfl) rfl rfl
set_option maxHeartbeats 4000000 in
set_option maxRecDepth 100000 in
theorem c_L_holds_eayp (U : jU) (b a h sa pa ta : Nat) (tk : Int32) (v m : Nat) (f : Nat → Int32) (w o t sl bp mw mc hi lo ex : Int32) (p0 p1 : Int32) (W : Nat) (v_1 : isReg p0) (v_2 : isReg p1) (hJ : jW W w f) (ymc : (valF f p1) * (valF f p0) = ((valF f p0) * (valF f p1))) (l1 : ¬ (valF f p0) < -((1 : Int32) <<< ((w - (1 : Int32)) &&& 31))) (l2 : ¬ ((1 : Int32) <<< ((w - (1 : Int32)) &&& 31)) ≤ (valF f p0)) (c1 : nI (crN W (valF f p0) (valF f p1)) = nI (crN W (valF f p1) (valF f p0))) (c2 : ¬ nI (crN W (valF f p0) (valF f p1)) < nI (lrN W (valF f p0) (valF f p1))) (c3 : ¬ w < nI (crN W (valF f p0) (valF f p1))) (s1 : ¬ nI (nzF (valF f p0) 0 W) < nI (nzF (valF f p0) 2 W)) (s2 : ¬ (nI (pcN W (tn (valF f p0))) + (1 : Int32)) < nI (nzF (valF f p0) 2 W)) (t1 : ¬ sl < -1) (t2 : ¬ 16 < sl) (e1 : ¬ rem2 w = 1) (hev : W % 2 = 0) (w1 : ¬ w / 2 < nI (nzF (valF f p1) 1 (W / 2))) (ft : b2i (wrapF w ((valF f p0) * (valF f p1)) = ((valF f p0) * (valF f p1))) = 0) (d1 : ¬ ((valF f p0) * (valF f p1)) < -((1 : Int32) <<< ((w - (1 : Int32)) &&& 31))) (d2 : ((1 : Int32) <<< ((w - (1 : Int32)) &&& 31)) ≤ ((valF f p0) * (valF f p1))) (z1 : ¬ nI (lrN W (valF f p0) (valF f p1)) = 0) (z2 : ¬ nI (crN W (valF f p0) (valF f p1)) = 0) (h1 : ¬ sl < 0) (h2 : ¬ sl = -1) (h3 : ¬ lo < 0) (h4 : ¬ ((2 : Int32) * ((1 : Int32) <<< ((w - (1 : Int32)) &&& 31))) ≤ lo) (hx : ex = 0 ∨ ex = 1) : Fn U yL_holds wsL_holds { frames := 8, cells := 0, slots := 0, locals := 137 } [.ref b, .int p0, .int p1] [(b, .inr (5, [.ref a, .ref h, .ref sa, .int tk, .ref pa, .ref ta])), (a, .inr (3, [.ref v, .ref m, .int w, .int o, .int t])), (v, .inl (U.2.2.1 0, 6, .inl f)), (m, .inr (1, [.int sl, .int bp, .int mw, .int mc, .int hi, .int lo, .int ex]))] (some (.int (1 : Int32))) [(b, .inr (5, [.ref a, .ref h, .ref sa, .int tk, .ref pa, .ref ta])), (a, .inr (3, [.ref v, .ref m, .int w, .int o, .int t])), (v, .inl (U.2.2.1 0, 6, .inl f)), (m, .inr (1, [.int sl, .int bp, .int mw, .int mc, .int hi, .int lo, .int ex]))] 0 0 := by
  refine Fn_of (cc := cL_holds) (maxL := 7) (ret := (some .boolean)) [some (.ref b), some (.int p0), some (.int p1), none, none, none, none] (by decide +kernel) rfl (jcat rfl) (Nat.le_of_ble_eq_true rfl) rfl (fun k C R hin hnL => ?_)
  have hN : ∀ i, i < 7 → i < k.2.2.2.2.2.2.2.2.2.2.2.1 := fun i h => by rw [hnL]; exact h
  refine J_aload_n C dL_holds_0 rfl rfl ?_
  refine J_callV C (c_X5_width U b a h sa pa ta tk v m w o t ) gL_holds_X5_width (n := 0) rfl rfl rfl (by decide +kernel) ⟨Nat.le_of_ble_eq_true rfl, Nat.le_of_ble_eq_true rfl⟩ 0 rfl rfl rfl (rest := []) rfl (Nat.le_of_ble_eq_true rfl) [(b, .inr (5, [.ref a, .ref h, .ref sa, .int tk, .ref pa, .ref ta])), (a, .inr (3, [.ref v, .ref m, .int w, .int o, .int t])), (v, .inl (U.2.2.1 0, 6, .inl f)), (m, .inr (1, [.int sl, .int bp, .int mw, .int mc, .int hi, .int lo, .int ex]))] [0, 1] [2, 3] [2, 3, 0, 1] (wr := [(v, .inl (U.2.2.1 0, 6, .inl f)), (m, .inr (1, [.int sl, .int bp, .int mw, .int mc, .int hi, .int lo, .int ex]))]) rfl rfl rfl rfl (by decide) rfl rfl  dL_holds_1 ⟨Nat.le_of_ble_eq_true rfl, Nat.le_of_ble_eq_true rfl⟩ [.int w] rfl ?_
  refine J_istore_n C [some (.ref b), some (.int p0), some (.int p1), some (.int w), none, none, none] dL_holds_4 rfl (hN 3 (by decide)) rfl rfl ?_
  refine J_aload_n C dL_holds_5 rfl rfl ?_
  refine J_iload_n C dL_holds_6 rfl rfl ?_
  refine J_callV C (c_X5_valueOf_ok U b a h sa pa ta tk v m f w o t p0 v_1) gL_holds_X5_valueOf (n := 1) rfl rfl rfl (by decide +kernel) ⟨Nat.le_of_ble_eq_true rfl, Nat.le_of_ble_eq_true rfl⟩ 0 rfl rfl rfl (rest := []) rfl (Nat.le_of_ble_eq_true rfl) [(b, .inr (5, [.ref a, .ref h, .ref sa, .int tk, .ref pa, .ref ta])), (a, .inr (3, [.ref v, .ref m, .int w, .int o, .int t])), (v, .inl (U.2.2.1 0, 6, .inl f)), (m, .inr (1, [.int sl, .int bp, .int mw, .int mc, .int hi, .int lo, .int ex]))] [0, 1, 2] [3] [1, 2, 3, 0] (wr := [(m, .inr (1, [.int sl, .int bp, .int mw, .int mc, .int hi, .int lo, .int ex]))]) rfl rfl rfl rfl (by decide) rfl rfl  dL_holds_7 ⟨Nat.le_of_ble_eq_true rfl, Nat.le_of_ble_eq_true rfl⟩ [.int (valF f p0)] rfl ?_
  refine J_aload_n C dL_holds_10 rfl rfl ?_
  refine J_iload_n C dL_holds_11 rfl rfl ?_
  refine J_callV C (c_X5_valueOf_ok U b a h sa pa ta tk v m f w o t p1 v_2) gL_holds_X5_valueOf (n := 1) rfl rfl rfl (by decide +kernel) ⟨Nat.le_of_ble_eq_true rfl, Nat.le_of_ble_eq_true rfl⟩ 0 rfl rfl rfl (rest := [.int (valF f p0)]) rfl (Nat.le_of_ble_eq_true rfl) [(b, .inr (5, [.ref a, .ref h, .ref sa, .int tk, .ref pa, .ref ta])), (a, .inr (3, [.ref v, .ref m, .int w, .int o, .int t])), (v, .inl (U.2.2.1 0, 6, .inl f)), (m, .inr (1, [.int sl, .int bp, .int mw, .int mc, .int hi, .int lo, .int ex]))] [0, 1, 2] [3] [1, 2, 3, 0] (wr := [(m, .inr (1, [.int sl, .int bp, .int mw, .int mc, .int hi, .int lo, .int ex]))]) rfl rfl rfl rfl (by decide) rfl rfl  dL_holds_12 ⟨Nat.le_of_ble_eq_true rfl, Nat.le_of_ble_eq_true rfl⟩ [.int (valF f p1), .int (valF f p0)] rfl ?_
  refine J_imul C (v := (valF f p0) * (valF f p1)) dL_holds_15 rfl ?_
  refine J_istore C [some (.ref b), some (.int p0), some (.int p1), some (.int w), some (.int ((valF f p0) * (valF f p1))), none, none] dL_holds_16 (hN 4 (by decide)) rfl rfl ?_
  refine J_iconst C (v := (1 : Int32)) dL_holds_18 (by decide) ?_
  refine J_iload_n C dL_holds_19 rfl rfl ?_
  refine J_iconst C (v := (1 : Int32)) dL_holds_20 (by decide) ?_
  refine J_isub C (v := w - (1 : Int32)) dL_holds_21 rfl ?_
  refine J_ishl C (v := (1 : Int32) <<< ((w - (1 : Int32)) &&& 31)) dL_holds_22 rfl ?_
  refine J_istore C [some (.ref b), some (.int p0), some (.int p1), some (.int w), some (.int ((valF f p0) * (valF f p1))), some (.int ((1 : Int32) <<< ((w - (1 : Int32)) &&& 31))), none] dL_holds_23 (hN 5 (by decide)) rfl rfl ?_
  refine J_aload_n C dL_holds_25 rfl rfl ?_
  refine J_iload_n C dL_holds_26 rfl rfl ?_
  refine J_iload_n C dL_holds_27 rfl rfl ?_
  refine J_callV C (c_X5_productByBits_eq U b a h sa pa ta tk v m f w o t p0 p1 W v_1 v_2 hJ) gL_holds_X5_productByBits (n := 2) rfl rfl rfl (by decide +kernel) ⟨Nat.le_of_ble_eq_true rfl, Nat.le_of_ble_eq_true rfl⟩ 0 rfl rfl rfl (rest := []) rfl (Nat.le_of_ble_eq_true rfl) [(b, .inr (5, [.ref a, .ref h, .ref sa, .int tk, .ref pa, .ref ta])), (a, .inr (3, [.ref v, .ref m, .int w, .int o, .int t])), (v, .inl (U.2.2.1 0, 6, .inl f)), (m, .inr (1, [.int sl, .int bp, .int mw, .int mc, .int hi, .int lo, .int ex]))] [0, 1, 2] [3] [1, 2, 3, 0] (wr := [(m, .inr (1, [.int sl, .int bp, .int mw, .int mc, .int hi, .int lo, .int ex]))]) rfl rfl rfl rfl (by decide) rfl rfl  dL_holds_28 ⟨Nat.le_of_ble_eq_true rfl, Nat.le_of_ble_eq_true rfl⟩ [.int ((valF f p0) * (valF f p1))] rfl ?_
  refine J_iload C dL_holds_31 rfl ?_
  refine J_icmp_ne C 106 dL_holds_33 (by decide) (fun h => absurd h (fun hh => hh rfl)) (fun _ => ?_)
  refine J_aload_n C dL_holds_36 rfl rfl ?_
  refine J_iload_n C dL_holds_37 rfl rfl ?_
  refine J_iload_n C dL_holds_38 rfl rfl ?_
  refine J_callV C (c_X5_productByBits_eq U b a h sa pa ta tk v m f w o t p1 p0 W v_2 v_1 hJ) gL_holds_X5_productByBits (n := 2) rfl rfl rfl (by decide +kernel) ⟨Nat.le_of_ble_eq_true rfl, Nat.le_of_ble_eq_true rfl⟩ 0 rfl rfl rfl (rest := []) rfl (Nat.le_of_ble_eq_true rfl) [(b, .inr (5, [.ref a, .ref h, .ref sa, .int tk, .ref pa, .ref ta])), (a, .inr (3, [.ref v, .ref m, .int w, .int o, .int t])), (v, .inl (U.2.2.1 0, 6, .inl f)), (m, .inr (1, [.int sl, .int bp, .int mw, .int mc, .int hi, .int lo, .int ex]))] [0, 1, 2] [3] [1, 2, 3, 0] (wr := [(m, .inr (1, [.int sl, .int bp, .int mw, .int mc, .int hi, .int lo, .int ex]))]) rfl rfl rfl rfl (by decide) rfl rfl  dL_holds_39 ⟨Nat.le_of_ble_eq_true rfl, Nat.le_of_ble_eq_true rfl⟩ [.int ((valF f p1) * (valF f p0))] rfl ?_
  refine J_iload C dL_holds_42 rfl ?_
  refine J_icmp_ne C 106 dL_holds_44 (by decide) (fun h => absurd h (fun hh => hh ymc)) (fun _ => ?_)
  refine J_aload_n C dL_holds_47 rfl rfl ?_
  refine J_iload_n C dL_holds_48 rfl rfl ?_
  refine J_iload_n C dL_holds_49 rfl rfl ?_
  refine J_iconst C (v := (0 : Int32)) dL_holds_50 (by decide) ?_
  refine J_callV C (c_X5_productByRows_eq0 U b a h sa pa ta tk v m f w o t p0 p1 W v_1 v_2 hJ) gL_holds_X5_productByRows (n := 3) rfl rfl rfl (by decide +kernel) ⟨Nat.le_of_ble_eq_true rfl, Nat.le_of_ble_eq_true rfl⟩ 0 rfl rfl rfl (rest := []) rfl (Nat.le_of_ble_eq_true rfl) [(b, .inr (5, [.ref a, .ref h, .ref sa, .int tk, .ref pa, .ref ta])), (a, .inr (3, [.ref v, .ref m, .int w, .int o, .int t])), (v, .inl (U.2.2.1 0, 6, .inl f)), (m, .inr (1, [.int sl, .int bp, .int mw, .int mc, .int hi, .int lo, .int ex]))] [0, 1, 2] [3] [1, 2, 3, 0] (wr := [(m, .inr (1, [.int sl, .int bp, .int mw, .int mc, .int hi, .int lo, .int ex]))]) rfl rfl rfl rfl (by decide) rfl rfl  dL_holds_51 ⟨Nat.le_of_ble_eq_true rfl, Nat.le_of_ble_eq_true rfl⟩ [.int ((valF f p0) * (valF f p1))] rfl ?_
  refine J_iload C dL_holds_54 rfl ?_
  refine J_icmp_ne C 106 dL_holds_56 (by decide) (fun h => absurd h (fun hh => hh rfl)) (fun _ => ?_)
  refine J_aload_n C dL_holds_59 rfl rfl ?_
  refine J_iload_n C dL_holds_60 rfl rfl ?_
  refine J_iload_n C dL_holds_61 rfl rfl ?_
  refine J_iconst C (v := (2 : Int32)) dL_holds_62 (by decide) ?_
  refine J_callV C (c_X5_productByRows_eq2 U b a h sa pa ta tk v m f w o t p0 p1 W v_1 v_2 hJ) gL_holds_X5_productByRows (n := 3) rfl rfl rfl (by decide +kernel) ⟨Nat.le_of_ble_eq_true rfl, Nat.le_of_ble_eq_true rfl⟩ 0 rfl rfl rfl (rest := []) rfl (Nat.le_of_ble_eq_true rfl) [(b, .inr (5, [.ref a, .ref h, .ref sa, .int tk, .ref pa, .ref ta])), (a, .inr (3, [.ref v, .ref m, .int w, .int o, .int t])), (v, .inl (U.2.2.1 0, 6, .inl f)), (m, .inr (1, [.int sl, .int bp, .int mw, .int mc, .int hi, .int lo, .int ex]))] [0, 1, 2] [3] [1, 2, 3, 0] (wr := [(m, .inr (1, [.int sl, .int bp, .int mw, .int mc, .int hi, .int lo, .int ex]))]) rfl rfl rfl rfl (by decide) rfl rfl  dL_holds_63 ⟨Nat.le_of_ble_eq_true rfl, Nat.le_of_ble_eq_true rfl⟩ [.int ((valF f p0) * (valF f p1))] rfl ?_
  refine J_iload C dL_holds_66 rfl ?_
  refine J_icmp_ne C 106 dL_holds_68 (by decide) (fun h => absurd h (fun hh => hh rfl)) (fun _ => ?_)
  refine J_iload_n C dL_holds_71 rfl rfl ?_
  refine J_iconst C (v := (2 : Int32)) dL_holds_72 (by decide) ?_
  refine J_irem C (v := rem2 w) dL_holds_73 (by decide) rfl ?_
  refine J_iconst C (v := (1 : Int32)) dL_holds_74 (by decide) ?_
  refine J_icmp_eq C 102 dL_holds_75 (by decide) (fun h => absurd h e1) (fun _ => ?_)
  refine J_aload_n C dL_holds_78 rfl rfl ?_
  refine J_iload_n C dL_holds_79 rfl rfl ?_
  refine J_iload_n C dL_holds_80 rfl rfl ?_
  refine J_iconst C (v := (1 : Int32)) dL_holds_81 (by decide) ?_
  refine J_callV C (c_X5_productByRows_eq1 U b a h sa pa ta tk v m f w o t p0 p1 W v_1 v_2 hev hJ) gL_holds_X5_productByRows (n := 3) rfl rfl rfl (by decide +kernel) ⟨Nat.le_of_ble_eq_true rfl, Nat.le_of_ble_eq_true rfl⟩ 0 rfl rfl rfl (rest := []) rfl (Nat.le_of_ble_eq_true rfl) [(b, .inr (5, [.ref a, .ref h, .ref sa, .int tk, .ref pa, .ref ta])), (a, .inr (3, [.ref v, .ref m, .int w, .int o, .int t])), (v, .inl (U.2.2.1 0, 6, .inl f)), (m, .inr (1, [.int sl, .int bp, .int mw, .int mc, .int hi, .int lo, .int ex]))] [0, 1, 2] [3] [1, 2, 3, 0] (wr := [(m, .inr (1, [.int sl, .int bp, .int mw, .int mc, .int hi, .int lo, .int ex]))]) rfl rfl rfl rfl (by decide) rfl rfl  dL_holds_82 ⟨Nat.le_of_ble_eq_true rfl, Nat.le_of_ble_eq_true rfl⟩ [.int ((valF f p0) * (valF f p1))] rfl ?_
  refine J_iload C dL_holds_85 rfl ?_
  refine J_icmp_ne C 106 dL_holds_87 (by decide) (fun h => absurd h (fun hh => hh rfl)) (fun _ => ?_)
  refine J_aload_n C dL_holds_90 rfl rfl ?_
  refine J_iload_n C dL_holds_91 rfl rfl ?_
  refine J_iconst C (v := (1 : Int32)) dL_holds_92 (by decide) ?_
  refine J_callV C (c_X5_rowsOf_eq1 U b a h sa pa ta tk v m f w o t p1 W v_2 hev hJ) gL_holds_X5_rowsOf (n := 2) rfl rfl rfl (by decide +kernel) ⟨Nat.le_of_ble_eq_true rfl, Nat.le_of_ble_eq_true rfl⟩ 0 rfl rfl rfl (rest := []) rfl (Nat.le_of_ble_eq_true rfl) [(b, .inr (5, [.ref a, .ref h, .ref sa, .int tk, .ref pa, .ref ta])), (a, .inr (3, [.ref v, .ref m, .int w, .int o, .int t])), (v, .inl (U.2.2.1 0, 6, .inl f)), (m, .inr (1, [.int sl, .int bp, .int mw, .int mc, .int hi, .int lo, .int ex]))] [0, 1, 2] [3] [1, 2, 3, 0] (wr := [(m, .inr (1, [.int sl, .int bp, .int mw, .int mc, .int hi, .int lo, .int ex]))]) rfl rfl rfl rfl (by decide) rfl rfl  dL_holds_93 ⟨Nat.le_of_ble_eq_true rfl, Nat.le_of_ble_eq_true rfl⟩ [.int (nI (nzF (valF f p1) 1 (W / 2)))] rfl ?_
  refine J_iload_n C dL_holds_96 rfl rfl ?_
  refine J_iconst C (v := (2 : Int32)) dL_holds_97 (by decide) ?_
  refine J_idiv C (v := w / (2 : Int32)) dL_holds_98 (by decide) rfl ?_
  refine J_icmp_gt C 106 dL_holds_99 (by decide) (fun h => absurd h w1) (fun _ => ?_)
  refine J_iconst C (v := (1 : Int32)) dL_holds_102 (by decide) ?_
  refine J_goto C 107 dL_holds_103 (by decide) ?_
  refine J_istore C [some (.ref b), some (.int p0), some (.int p1), some (.int w), some (.int ((valF f p0) * (valF f p1))), some (.int ((1 : Int32) <<< ((w - (1 : Int32)) &&& 31))), some (.int (1 : Int32))] dL_holds_107 (hN 6 (by decide)) rfl rfl ?_
  refine J_iload C dL_holds_109 rfl ?_
  refine J_if_eq C 239 dL_holds_111 (by decide) (fun h => absurd h (by decide)) (fun _ => ?_)
  refine J_aload_n C dL_holds_114 rfl rfl ?_
  refine J_iload_n C dL_holds_115 rfl rfl ?_
  refine J_callV C (c_X5_valueOf_ok U b a h sa pa ta tk v m f w o t p0 v_1) gL_holds_X5_valueOf (n := 1) rfl rfl rfl (by decide +kernel) ⟨Nat.le_of_ble_eq_true rfl, Nat.le_of_ble_eq_true rfl⟩ 0 rfl rfl rfl (rest := []) rfl (Nat.le_of_ble_eq_true rfl) [(b, .inr (5, [.ref a, .ref h, .ref sa, .int tk, .ref pa, .ref ta])), (a, .inr (3, [.ref v, .ref m, .int w, .int o, .int t])), (v, .inl (U.2.2.1 0, 6, .inl f)), (m, .inr (1, [.int sl, .int bp, .int mw, .int mc, .int hi, .int lo, .int ex]))] [0, 1, 2] [3] [1, 2, 3, 0] (wr := [(m, .inr (1, [.int sl, .int bp, .int mw, .int mc, .int hi, .int lo, .int ex]))]) rfl rfl rfl rfl (by decide) rfl rfl  dL_holds_116 ⟨Nat.le_of_ble_eq_true rfl, Nat.le_of_ble_eq_true rfl⟩ [.int (valF f p0)] rfl ?_
  refine J_iload C dL_holds_119 rfl ?_
  refine J_ineg C dL_holds_121 rfl ?_
  refine J_icmp_lt C 239 dL_holds_122 (by decide) (fun h => absurd h l1) (fun _ => ?_)
  refine J_aload_n C dL_holds_125 rfl rfl ?_
  refine J_iload_n C dL_holds_126 rfl rfl ?_
  refine J_callV C (c_X5_valueOf_ok U b a h sa pa ta tk v m f w o t p0 v_1) gL_holds_X5_valueOf (n := 1) rfl rfl rfl (by decide +kernel) ⟨Nat.le_of_ble_eq_true rfl, Nat.le_of_ble_eq_true rfl⟩ 0 rfl rfl rfl (rest := []) rfl (Nat.le_of_ble_eq_true rfl) [(b, .inr (5, [.ref a, .ref h, .ref sa, .int tk, .ref pa, .ref ta])), (a, .inr (3, [.ref v, .ref m, .int w, .int o, .int t])), (v, .inl (U.2.2.1 0, 6, .inl f)), (m, .inr (1, [.int sl, .int bp, .int mw, .int mc, .int hi, .int lo, .int ex]))] [0, 1, 2] [3] [1, 2, 3, 0] (wr := [(m, .inr (1, [.int sl, .int bp, .int mw, .int mc, .int hi, .int lo, .int ex]))]) rfl rfl rfl rfl (by decide) rfl rfl  dL_holds_127 ⟨Nat.le_of_ble_eq_true rfl, Nat.le_of_ble_eq_true rfl⟩ [.int (valF f p0)] rfl ?_
  refine J_iload C dL_holds_130 rfl ?_
  refine J_icmp_ge C 239 dL_holds_132 (by decide) (fun h => absurd h l2) (fun _ => ?_)
  refine J_aload_n C dL_holds_135 rfl rfl ?_
  refine J_iload_n C dL_holds_136 rfl rfl ?_
  refine J_iload_n C dL_holds_137 rfl rfl ?_
  refine J_callV C (c_X5_fits_ok U b a h sa pa ta tk v m f w o t p0 p1 v_1 v_2) gL_holds_X5_fits (n := 2) rfl rfl rfl (by decide +kernel) ⟨Nat.le_of_ble_eq_true rfl, Nat.le_of_ble_eq_true rfl⟩ 0 rfl rfl rfl (rest := []) rfl (Nat.le_of_ble_eq_true rfl) [(b, .inr (5, [.ref a, .ref h, .ref sa, .int tk, .ref pa, .ref ta])), (a, .inr (3, [.ref v, .ref m, .int w, .int o, .int t])), (v, .inl (U.2.2.1 0, 6, .inl f)), (m, .inr (1, [.int sl, .int bp, .int mw, .int mc, .int hi, .int lo, .int ex]))] [0, 1, 2] [3] [1, 2, 3, 0] (wr := [(m, .inr (1, [.int sl, .int bp, .int mw, .int mc, .int hi, .int lo, .int ex]))]) rfl rfl rfl rfl (by decide) rfl rfl  dL_holds_138 ⟨Nat.le_of_ble_eq_true rfl, Nat.le_of_ble_eq_true rfl⟩ [.int (b2i (wrapF w (valF f p0 * valF f p1) = (valF f p0 * valF f p1)))] rfl ?_
  refine J_iload C dL_holds_141 rfl ?_
  refine J_iload C dL_holds_143 rfl ?_
  refine J_ineg C dL_holds_145 rfl ?_
  refine J_icmp_lt C 160 dL_holds_146 (by decide) (fun h => absurd h d1) (fun _ => ?_)
  refine J_iload C dL_holds_149 rfl ?_
  refine J_iload C dL_holds_151 rfl ?_
  refine J_icmp_ge C 160 dL_holds_153 (by decide) (fun _ => ?_) (fun h => absurd d2 h)
  refine J_iconst C (v := (0 : Int32)) dL_holds_160 (by decide) ?_
  refine J_icmp_ne C 239 dL_holds_161 (by decide) (fun h => absurd h (fun hh => hh ft)) (fun _ => ?_)
  refine J_aload_n C dL_holds_164 rfl rfl ?_
  refine J_iload_n C dL_holds_165 rfl rfl ?_
  refine J_iload_n C dL_holds_166 rfl rfl ?_
  refine J_callV C (c_X5_carries_eq U b a h sa pa ta tk v m f w o t p0 p1 W v_1 v_2 hJ) gL_holds_X5_carries (n := 2) rfl rfl rfl (by decide +kernel) ⟨Nat.le_of_ble_eq_true rfl, Nat.le_of_ble_eq_true rfl⟩ 0 rfl rfl rfl (rest := []) rfl (Nat.le_of_ble_eq_true rfl) [(b, .inr (5, [.ref a, .ref h, .ref sa, .int tk, .ref pa, .ref ta])), (a, .inr (3, [.ref v, .ref m, .int w, .int o, .int t])), (v, .inl (U.2.2.1 0, 6, .inl f)), (m, .inr (1, [.int sl, .int bp, .int mw, .int mc, .int hi, .int lo, .int ex]))] [0, 1, 2] [3] [1, 2, 3, 0] (wr := [(m, .inr (1, [.int sl, .int bp, .int mw, .int mc, .int hi, .int lo, .int ex]))]) rfl rfl rfl rfl (by decide) rfl rfl  dL_holds_167 ⟨Nat.le_of_ble_eq_true rfl, Nat.le_of_ble_eq_true rfl⟩ [.int (nI (crN W (valF f p0) (valF f p1)))] rfl ?_
  refine J_aload_n C dL_holds_170 rfl rfl ?_
  refine J_iload_n C dL_holds_171 rfl rfl ?_
  refine J_iload_n C dL_holds_172 rfl rfl ?_
  refine J_callV C (c_X5_carries_eq U b a h sa pa ta tk v m f w o t p1 p0 W v_2 v_1 hJ) gL_holds_X5_carries (n := 2) rfl rfl rfl (by decide +kernel) ⟨Nat.le_of_ble_eq_true rfl, Nat.le_of_ble_eq_true rfl⟩ 0 rfl rfl rfl (rest := [.int (nI (crN W (valF f p0) (valF f p1)))]) rfl (Nat.le_of_ble_eq_true rfl) [(b, .inr (5, [.ref a, .ref h, .ref sa, .int tk, .ref pa, .ref ta])), (a, .inr (3, [.ref v, .ref m, .int w, .int o, .int t])), (v, .inl (U.2.2.1 0, 6, .inl f)), (m, .inr (1, [.int sl, .int bp, .int mw, .int mc, .int hi, .int lo, .int ex]))] [0, 1, 2] [3] [1, 2, 3, 0] (wr := [(m, .inr (1, [.int sl, .int bp, .int mw, .int mc, .int hi, .int lo, .int ex]))]) rfl rfl rfl rfl (by decide) rfl rfl  dL_holds_173 ⟨Nat.le_of_ble_eq_true rfl, Nat.le_of_ble_eq_true rfl⟩ [.int (nI (crN W (valF f p1) (valF f p0))), .int (nI (crN W (valF f p0) (valF f p1)))] rfl ?_
  refine J_icmp_ne C 239 dL_holds_176 (by decide) (fun h => absurd h (fun hh => hh c1)) (fun _ => ?_)
  refine J_aload_n C dL_holds_179 rfl rfl ?_
  refine J_iload_n C dL_holds_180 rfl rfl ?_
  refine J_iload_n C dL_holds_181 rfl rfl ?_
  refine J_callV C (c_X5_longestRun_eq U b a h sa pa ta tk v m f w o t p0 p1 W v_1 v_2 hJ) gL_holds_X5_longestRun (n := 2) rfl rfl rfl (by decide +kernel) ⟨Nat.le_of_ble_eq_true rfl, Nat.le_of_ble_eq_true rfl⟩ 0 rfl rfl rfl (rest := []) rfl (Nat.le_of_ble_eq_true rfl) [(b, .inr (5, [.ref a, .ref h, .ref sa, .int tk, .ref pa, .ref ta])), (a, .inr (3, [.ref v, .ref m, .int w, .int o, .int t])), (v, .inl (U.2.2.1 0, 6, .inl f)), (m, .inr (1, [.int sl, .int bp, .int mw, .int mc, .int hi, .int lo, .int ex]))] [0, 1, 2] [3] [1, 2, 3, 0] (wr := [(m, .inr (1, [.int sl, .int bp, .int mw, .int mc, .int hi, .int lo, .int ex]))]) rfl rfl rfl rfl (by decide) rfl rfl  dL_holds_182 ⟨Nat.le_of_ble_eq_true rfl, Nat.le_of_ble_eq_true rfl⟩ [.int (nI (lrN W (valF f p0) (valF f p1)))] rfl ?_
  refine J_aload_n C dL_holds_185 rfl rfl ?_
  refine J_iload_n C dL_holds_186 rfl rfl ?_
  refine J_iload_n C dL_holds_187 rfl rfl ?_
  refine J_callV C (c_X5_carries_eq U b a h sa pa ta tk v m f w o t p0 p1 W v_1 v_2 hJ) gL_holds_X5_carries (n := 2) rfl rfl rfl (by decide +kernel) ⟨Nat.le_of_ble_eq_true rfl, Nat.le_of_ble_eq_true rfl⟩ 0 rfl rfl rfl (rest := [.int (nI (lrN W (valF f p0) (valF f p1)))]) rfl (Nat.le_of_ble_eq_true rfl) [(b, .inr (5, [.ref a, .ref h, .ref sa, .int tk, .ref pa, .ref ta])), (a, .inr (3, [.ref v, .ref m, .int w, .int o, .int t])), (v, .inl (U.2.2.1 0, 6, .inl f)), (m, .inr (1, [.int sl, .int bp, .int mw, .int mc, .int hi, .int lo, .int ex]))] [0, 1, 2] [3] [1, 2, 3, 0] (wr := [(m, .inr (1, [.int sl, .int bp, .int mw, .int mc, .int hi, .int lo, .int ex]))]) rfl rfl rfl rfl (by decide) rfl rfl  dL_holds_188 ⟨Nat.le_of_ble_eq_true rfl, Nat.le_of_ble_eq_true rfl⟩ [.int (nI (crN W (valF f p0) (valF f p1))), .int (nI (lrN W (valF f p0) (valF f p1)))] rfl ?_
  refine J_icmp_gt C 239 dL_holds_191 (by decide) (fun h => absurd h c2) (fun _ => ?_)
  refine J_aload_n C dL_holds_194 rfl rfl ?_
  refine J_iload_n C dL_holds_195 rfl rfl ?_
  refine J_iload_n C dL_holds_196 rfl rfl ?_
  refine J_callV C (c_X5_longestRun_eq U b a h sa pa ta tk v m f w o t p0 p1 W v_1 v_2 hJ) gL_holds_X5_longestRun (n := 2) rfl rfl rfl (by decide +kernel) ⟨Nat.le_of_ble_eq_true rfl, Nat.le_of_ble_eq_true rfl⟩ 0 rfl rfl rfl (rest := []) rfl (Nat.le_of_ble_eq_true rfl) [(b, .inr (5, [.ref a, .ref h, .ref sa, .int tk, .ref pa, .ref ta])), (a, .inr (3, [.ref v, .ref m, .int w, .int o, .int t])), (v, .inl (U.2.2.1 0, 6, .inl f)), (m, .inr (1, [.int sl, .int bp, .int mw, .int mc, .int hi, .int lo, .int ex]))] [0, 1, 2] [3] [1, 2, 3, 0] (wr := [(m, .inr (1, [.int sl, .int bp, .int mw, .int mc, .int hi, .int lo, .int ex]))]) rfl rfl rfl rfl (by decide) rfl rfl  dL_holds_197 ⟨Nat.le_of_ble_eq_true rfl, Nat.le_of_ble_eq_true rfl⟩ [.int (nI (lrN W (valF f p0) (valF f p1)))] rfl ?_
  refine J_if_ne C 207 dL_holds_200 (by decide) (fun _ => ?_) (fun h => absurd h z1)
  refine J_iconst C (v := (0 : Int32)) dL_holds_207 (by decide) ?_
  refine J_aload_n C dL_holds_208 rfl rfl ?_
  refine J_iload_n C dL_holds_209 rfl rfl ?_
  refine J_iload_n C dL_holds_210 rfl rfl ?_
  refine J_callV C (c_X5_carries_eq U b a h sa pa ta tk v m f w o t p0 p1 W v_1 v_2 hJ) gL_holds_X5_carries (n := 2) rfl rfl rfl (by decide +kernel) ⟨Nat.le_of_ble_eq_true rfl, Nat.le_of_ble_eq_true rfl⟩ 0 rfl rfl rfl (rest := [.int (0 : Int32)]) rfl (Nat.le_of_ble_eq_true rfl) [(b, .inr (5, [.ref a, .ref h, .ref sa, .int tk, .ref pa, .ref ta])), (a, .inr (3, [.ref v, .ref m, .int w, .int o, .int t])), (v, .inl (U.2.2.1 0, 6, .inl f)), (m, .inr (1, [.int sl, .int bp, .int mw, .int mc, .int hi, .int lo, .int ex]))] [0, 1, 2] [3] [1, 2, 3, 0] (wr := [(m, .inr (1, [.int sl, .int bp, .int mw, .int mc, .int hi, .int lo, .int ex]))]) rfl rfl rfl rfl (by decide) rfl rfl  dL_holds_211 ⟨Nat.le_of_ble_eq_true rfl, Nat.le_of_ble_eq_true rfl⟩ [.int (nI (crN W (valF f p0) (valF f p1))), .int (0 : Int32)] rfl ?_
  refine J_if_ne C 221 dL_holds_214 (by decide) (fun _ => ?_) (fun h => absurd h z2)
  refine J_iconst C (v := (0 : Int32)) dL_holds_221 (by decide) ?_
  refine J_icmp_ne C 239 dL_holds_222 (by decide) (fun h => absurd (by decide) h) (fun _ => ?_)
  refine J_aload_n C dL_holds_225 rfl rfl ?_
  refine J_iload_n C dL_holds_226 rfl rfl ?_
  refine J_iload_n C dL_holds_227 rfl rfl ?_
  refine J_callV C (c_X5_carries_eq U b a h sa pa ta tk v m f w o t p0 p1 W v_1 v_2 hJ) gL_holds_X5_carries (n := 2) rfl rfl rfl (by decide +kernel) ⟨Nat.le_of_ble_eq_true rfl, Nat.le_of_ble_eq_true rfl⟩ 0 rfl rfl rfl (rest := []) rfl (Nat.le_of_ble_eq_true rfl) [(b, .inr (5, [.ref a, .ref h, .ref sa, .int tk, .ref pa, .ref ta])), (a, .inr (3, [.ref v, .ref m, .int w, .int o, .int t])), (v, .inl (U.2.2.1 0, 6, .inl f)), (m, .inr (1, [.int sl, .int bp, .int mw, .int mc, .int hi, .int lo, .int ex]))] [0, 1, 2] [3] [1, 2, 3, 0] (wr := [(m, .inr (1, [.int sl, .int bp, .int mw, .int mc, .int hi, .int lo, .int ex]))]) rfl rfl rfl rfl (by decide) rfl rfl  dL_holds_228 ⟨Nat.le_of_ble_eq_true rfl, Nat.le_of_ble_eq_true rfl⟩ [.int (nI (crN W (valF f p0) (valF f p1)))] rfl ?_
  refine J_iload_n C dL_holds_231 rfl rfl ?_
  refine J_icmp_gt C 239 dL_holds_232 (by decide) (fun h => absurd h c3) (fun _ => ?_)
  refine J_iconst C (v := (1 : Int32)) dL_holds_235 (by decide) ?_
  refine J_goto C 240 dL_holds_236 (by decide) ?_
  refine J_istore C [some (.ref b), some (.int p0), some (.int p1), some (.int w), some (.int ((valF f p0) * (valF f p1))), some (.int ((1 : Int32) <<< ((w - (1 : Int32)) &&& 31))), some (.int (1 : Int32))] dL_holds_240 (hN 6 (by decide)) rfl rfl ?_
  refine J_iload C dL_holds_242 rfl ?_
  refine J_if_eq C 282 dL_holds_244 (by decide) (fun h => absurd h (by decide)) (fun _ => ?_)
  refine J_aload_n C dL_holds_247 rfl rfl ?_
  refine J_iload_n C dL_holds_248 rfl rfl ?_
  refine J_iconst C (v := (2 : Int32)) dL_holds_249 (by decide) ?_
  refine J_callV C (c_X5_rowsOf_eq2 U b a h sa pa ta tk v m f w o t p0 W v_1 hJ) gL_holds_X5_rowsOf (n := 2) rfl rfl rfl (by decide +kernel) ⟨Nat.le_of_ble_eq_true rfl, Nat.le_of_ble_eq_true rfl⟩ 0 rfl rfl rfl (rest := []) rfl (Nat.le_of_ble_eq_true rfl) [(b, .inr (5, [.ref a, .ref h, .ref sa, .int tk, .ref pa, .ref ta])), (a, .inr (3, [.ref v, .ref m, .int w, .int o, .int t])), (v, .inl (U.2.2.1 0, 6, .inl f)), (m, .inr (1, [.int sl, .int bp, .int mw, .int mc, .int hi, .int lo, .int ex]))] [0, 1, 2] [3] [1, 2, 3, 0] (wr := [(m, .inr (1, [.int sl, .int bp, .int mw, .int mc, .int hi, .int lo, .int ex]))]) rfl rfl rfl rfl (by decide) rfl rfl  dL_holds_250 ⟨Nat.le_of_ble_eq_true rfl, Nat.le_of_ble_eq_true rfl⟩ [.int (nI (nzF (valF f p0) 2 W))] rfl ?_
  refine J_aload_n C dL_holds_253 rfl rfl ?_
  refine J_iload_n C dL_holds_254 rfl rfl ?_
  refine J_iconst C (v := (0 : Int32)) dL_holds_255 (by decide) ?_
  refine J_callV C (c_X5_rowsOf_eq0 U b a h sa pa ta tk v m f w o t p0 W v_1 hJ) gL_holds_X5_rowsOf (n := 2) rfl rfl rfl (by decide +kernel) ⟨Nat.le_of_ble_eq_true rfl, Nat.le_of_ble_eq_true rfl⟩ 0 rfl rfl rfl (rest := [.int (nI (nzF (valF f p0) 2 W))]) rfl (Nat.le_of_ble_eq_true rfl) [(b, .inr (5, [.ref a, .ref h, .ref sa, .int tk, .ref pa, .ref ta])), (a, .inr (3, [.ref v, .ref m, .int w, .int o, .int t])), (v, .inl (U.2.2.1 0, 6, .inl f)), (m, .inr (1, [.int sl, .int bp, .int mw, .int mc, .int hi, .int lo, .int ex]))] [0, 1, 2] [3] [1, 2, 3, 0] (wr := [(m, .inr (1, [.int sl, .int bp, .int mw, .int mc, .int hi, .int lo, .int ex]))]) rfl rfl rfl rfl (by decide) rfl rfl  dL_holds_256 ⟨Nat.le_of_ble_eq_true rfl, Nat.le_of_ble_eq_true rfl⟩ [.int (nI (nzF (valF f p0) 0 W)), .int (nI (nzF (valF f p0) 2 W))] rfl ?_
  refine J_icmp_gt C 282 dL_holds_259 (by decide) (fun h => absurd h s1) (fun _ => ?_)
  refine J_aload_n C dL_holds_262 rfl rfl ?_
  refine J_iload_n C dL_holds_263 rfl rfl ?_
  refine J_iconst C (v := (2 : Int32)) dL_holds_264 (by decide) ?_
  refine J_callV C (c_X5_rowsOf_eq2 U b a h sa pa ta tk v m f w o t p0 W v_1 hJ) gL_holds_X5_rowsOf (n := 2) rfl rfl rfl (by decide +kernel) ⟨Nat.le_of_ble_eq_true rfl, Nat.le_of_ble_eq_true rfl⟩ 0 rfl rfl rfl (rest := []) rfl (Nat.le_of_ble_eq_true rfl) [(b, .inr (5, [.ref a, .ref h, .ref sa, .int tk, .ref pa, .ref ta])), (a, .inr (3, [.ref v, .ref m, .int w, .int o, .int t])), (v, .inl (U.2.2.1 0, 6, .inl f)), (m, .inr (1, [.int sl, .int bp, .int mw, .int mc, .int hi, .int lo, .int ex]))] [0, 1, 2] [3] [1, 2, 3, 0] (wr := [(m, .inr (1, [.int sl, .int bp, .int mw, .int mc, .int hi, .int lo, .int ex]))]) rfl rfl rfl rfl (by decide) rfl rfl  dL_holds_265 ⟨Nat.le_of_ble_eq_true rfl, Nat.le_of_ble_eq_true rfl⟩ [.int (nI (nzF (valF f p0) 2 W))] rfl ?_
  refine J_aload_n C dL_holds_268 rfl rfl ?_
  refine J_iload_n C dL_holds_269 rfl rfl ?_
  refine J_callV C (c_X5_onesOf_eq U b a h sa pa ta tk v m f w o t p0 W v_1 hJ) gL_holds_X5_onesOf (n := 1) rfl rfl rfl (by decide +kernel) ⟨Nat.le_of_ble_eq_true rfl, Nat.le_of_ble_eq_true rfl⟩ 0 rfl rfl rfl (rest := [.int (nI (nzF (valF f p0) 2 W))]) rfl (Nat.le_of_ble_eq_true rfl) [(b, .inr (5, [.ref a, .ref h, .ref sa, .int tk, .ref pa, .ref ta])), (a, .inr (3, [.ref v, .ref m, .int w, .int o, .int t])), (v, .inl (U.2.2.1 0, 6, .inl f)), (m, .inr (1, [.int sl, .int bp, .int mw, .int mc, .int hi, .int lo, .int ex]))] [0, 1, 2] [3] [1, 2, 3, 0] (wr := [(m, .inr (1, [.int sl, .int bp, .int mw, .int mc, .int hi, .int lo, .int ex]))]) rfl rfl rfl rfl (by decide) rfl rfl  dL_holds_270 ⟨Nat.le_of_ble_eq_true rfl, Nat.le_of_ble_eq_true rfl⟩ [.int (nI (pcN W (tn (valF f p0)))), .int (nI (nzF (valF f p0) 2 W))] rfl ?_
  refine J_iconst C (v := (1 : Int32)) dL_holds_273 (by decide) ?_
  refine J_iadd C (v := (nI (pcN W (tn (valF f p0)))) + (1 : Int32)) dL_holds_274 rfl ?_
  refine J_icmp_gt C 282 dL_holds_275 (by decide) (fun h => absurd h s2) (fun _ => ?_)
  refine J_iconst C (v := (1 : Int32)) dL_holds_278 (by decide) ?_
  refine J_goto C 283 dL_holds_279 (by decide) ?_
  refine J_istore C [some (.ref b), some (.int p0), some (.int p1), some (.int w), some (.int ((valF f p0) * (valF f p1))), some (.int ((1 : Int32) <<< ((w - (1 : Int32)) &&& 31))), some (.int (1 : Int32))] dL_holds_283 (hN 6 (by decide)) rfl rfl ?_
  refine J_aload_n C dL_holds_285 rfl rfl ?_
  refine J_callV C (c_X5_stepsLeft U b a h sa pa ta tk v m w o t sl bp mw mc hi lo ex ) gL_holds_X5_stepsLeft (n := 0) rfl rfl rfl (by decide +kernel) ⟨Nat.le_of_ble_eq_true rfl, Nat.le_of_ble_eq_true rfl⟩ 0 rfl rfl rfl (rest := []) rfl (Nat.le_of_ble_eq_true rfl) [(b, .inr (5, [.ref a, .ref h, .ref sa, .int tk, .ref pa, .ref ta])), (a, .inr (3, [.ref v, .ref m, .int w, .int o, .int t])), (v, .inl (U.2.2.1 0, 6, .inl f)), (m, .inr (1, [.int sl, .int bp, .int mw, .int mc, .int hi, .int lo, .int ex]))] [0, 1, 3] [2] [1, 2, 0, 3] (wr := [(v, .inl (U.2.2.1 0, 6, .inl f))]) rfl rfl rfl rfl (by decide) rfl rfl  dL_holds_286 ⟨Nat.le_of_ble_eq_true rfl, Nat.le_of_ble_eq_true rfl⟩ [.int sl] rfl ?_
  refine J_if_lt C 337 dL_holds_289 (by decide) (fun h => absurd h h1) (fun _ => ?_)
  refine J_iload C dL_holds_292 rfl ?_
  refine J_if_eq C 334 dL_holds_294 (by decide) (fun h => absurd h (by decide)) (fun _ => ?_)
  refine J_aload_n C dL_holds_297 rfl rfl ?_
  refine J_callV C (c_X5_lowPart_ok U b a h sa pa ta tk v m w o t sl bp mw mc hi lo ex h2) gL_holds_X5_lowPart (n := 0) rfl rfl rfl (by decide +kernel) ⟨Nat.le_of_ble_eq_true rfl, Nat.le_of_ble_eq_true rfl⟩ 0 rfl rfl rfl (rest := []) rfl (Nat.le_of_ble_eq_true rfl) [(b, .inr (5, [.ref a, .ref h, .ref sa, .int tk, .ref pa, .ref ta])), (a, .inr (3, [.ref v, .ref m, .int w, .int o, .int t])), (v, .inl (U.2.2.1 0, 6, .inl f)), (m, .inr (1, [.int sl, .int bp, .int mw, .int mc, .int hi, .int lo, .int ex]))] [0, 1, 3] [2] [1, 2, 0, 3] (wr := [(v, .inl (U.2.2.1 0, 6, .inl f))]) rfl rfl rfl rfl (by decide) rfl rfl  dL_holds_298 ⟨Nat.le_of_ble_eq_true rfl, Nat.le_of_ble_eq_true rfl⟩ [.int lo] rfl ?_
  refine J_if_lt C 334 dL_holds_301 (by decide) (fun h => absurd h h3) (fun _ => ?_)
  refine J_aload_n C dL_holds_304 rfl rfl ?_
  refine J_callV C (c_X5_lowPart_ok U b a h sa pa ta tk v m w o t sl bp mw mc hi lo ex h2) gL_holds_X5_lowPart (n := 0) rfl rfl rfl (by decide +kernel) ⟨Nat.le_of_ble_eq_true rfl, Nat.le_of_ble_eq_true rfl⟩ 0 rfl rfl rfl (rest := []) rfl (Nat.le_of_ble_eq_true rfl) [(b, .inr (5, [.ref a, .ref h, .ref sa, .int tk, .ref pa, .ref ta])), (a, .inr (3, [.ref v, .ref m, .int w, .int o, .int t])), (v, .inl (U.2.2.1 0, 6, .inl f)), (m, .inr (1, [.int sl, .int bp, .int mw, .int mc, .int hi, .int lo, .int ex]))] [0, 1, 3] [2] [1, 2, 0, 3] (wr := [(v, .inl (U.2.2.1 0, 6, .inl f))]) rfl rfl rfl rfl (by decide) rfl rfl  dL_holds_305 ⟨Nat.le_of_ble_eq_true rfl, Nat.le_of_ble_eq_true rfl⟩ [.int lo] rfl ?_
  refine J_iconst C (v := (2 : Int32)) dL_holds_308 (by decide) ?_
  refine J_iload C dL_holds_309 rfl ?_
  refine J_imul C (v := (2 : Int32) * ((1 : Int32) <<< ((w - (1 : Int32)) &&& 31))) dL_holds_311 rfl ?_
  refine J_icmp_ge C 334 dL_holds_312 (by decide) (fun h => absurd h h4) (fun _ => ?_)
  refine J_aload_n C dL_holds_315 rfl rfl ?_
  refine J_callV C (c_X5_extraBit_ok U b a h sa pa ta tk v m w o t sl bp mw mc hi lo ex h2) gL_holds_X5_extraBit (n := 0) rfl rfl rfl (by decide +kernel) ⟨Nat.le_of_ble_eq_true rfl, Nat.le_of_ble_eq_true rfl⟩ 0 rfl rfl rfl (rest := []) rfl (Nat.le_of_ble_eq_true rfl) [(b, .inr (5, [.ref a, .ref h, .ref sa, .int tk, .ref pa, .ref ta])), (a, .inr (3, [.ref v, .ref m, .int w, .int o, .int t])), (v, .inl (U.2.2.1 0, 6, .inl f)), (m, .inr (1, [.int sl, .int bp, .int mw, .int mc, .int hi, .int lo, .int ex]))] [0, 1, 3] [2] [1, 2, 0, 3] (wr := [(v, .inl (U.2.2.1 0, 6, .inl f))]) rfl rfl rfl rfl (by decide) rfl rfl  dL_holds_316 ⟨Nat.le_of_ble_eq_true rfl, Nat.le_of_ble_eq_true rfl⟩ [.int ex] rfl ?_
  refine J_if_eq C 330 dL_holds_319 (by decide) (fun c_319_1 => ?_) (fun c_319_1 => ?_)
  · refine J_iconst C (v := (1 : Int32)) dL_holds_330 (by decide) ?_
    refine J_goto C 335 dL_holds_331 (by decide) ?_
    refine J_istore C [some (.ref b), some (.int p0), some (.int p1), some (.int w), some (.int ((valF f p0) * (valF f p1))), some (.int ((1 : Int32) <<< ((w - (1 : Int32)) &&& 31))), some (.int (1 : Int32))] dL_holds_335 (hN 6 (by decide)) rfl rfl ?_
    refine J_iload C dL_holds_337 rfl ?_
    refine J_if_eq C 363 dL_holds_339 (by decide) (fun h => absurd h (by decide)) (fun _ => ?_)
    refine J_aload_n C dL_holds_342 rfl rfl ?_
    refine J_callV C (c_X5_stepsLeft U b a h sa pa ta tk v m w o t sl bp mw mc hi lo ex ) gL_holds_X5_stepsLeft (n := 0) rfl rfl rfl (by decide +kernel) ⟨Nat.le_of_ble_eq_true rfl, Nat.le_of_ble_eq_true rfl⟩ 0 rfl rfl rfl (rest := []) rfl (Nat.le_of_ble_eq_true rfl) [(b, .inr (5, [.ref a, .ref h, .ref sa, .int tk, .ref pa, .ref ta])), (a, .inr (3, [.ref v, .ref m, .int w, .int o, .int t])), (v, .inl (U.2.2.1 0, 6, .inl f)), (m, .inr (1, [.int sl, .int bp, .int mw, .int mc, .int hi, .int lo, .int ex]))] [0, 1, 3] [2] [1, 2, 0, 3] (wr := [(v, .inl (U.2.2.1 0, 6, .inl f))]) rfl rfl rfl rfl (by decide) rfl rfl  dL_holds_343 ⟨Nat.le_of_ble_eq_true rfl, Nat.le_of_ble_eq_true rfl⟩ [.int sl] rfl ?_
    refine J_iconst C (v := (-1 : Int32)) dL_holds_346 (by decide) ?_
    refine J_icmp_lt C 363 dL_holds_347 (by decide) (fun h => absurd h t1) (fun _ => ?_)
    refine J_aload_n C dL_holds_350 rfl rfl ?_
    refine J_callV C (c_X5_stepsLeft U b a h sa pa ta tk v m w o t sl bp mw mc hi lo ex ) gL_holds_X5_stepsLeft (n := 0) rfl rfl rfl (by decide +kernel) ⟨Nat.le_of_ble_eq_true rfl, Nat.le_of_ble_eq_true rfl⟩ 0 rfl rfl rfl (rest := []) rfl (Nat.le_of_ble_eq_true rfl) [(b, .inr (5, [.ref a, .ref h, .ref sa, .int tk, .ref pa, .ref ta])), (a, .inr (3, [.ref v, .ref m, .int w, .int o, .int t])), (v, .inl (U.2.2.1 0, 6, .inl f)), (m, .inr (1, [.int sl, .int bp, .int mw, .int mc, .int hi, .int lo, .int ex]))] [0, 1, 3] [2] [1, 2, 0, 3] (wr := [(v, .inl (U.2.2.1 0, 6, .inl f))]) rfl rfl rfl rfl (by decide) rfl rfl  dL_holds_351 ⟨Nat.le_of_ble_eq_true rfl, Nat.le_of_ble_eq_true rfl⟩ [.int sl] rfl ?_
    refine J_bipush C (v := (16 : Int32)) dL_holds_354 (by decide) ?_
    refine J_icmp_gt C 363 dL_holds_356 (by decide) (fun h => absurd h t2) (fun _ => ?_)
    refine J_iconst C (v := (1 : Int32)) dL_holds_359 (by decide) ?_
    refine J_goto C 364 dL_holds_360 (by decide) ?_
    exact J_zret C R rfl dL_holds_364 (Nat.le_of_ble_eq_true rfl) (Nat.le_of_ble_eq_true rfl) rfl rfl
  · have hx1 : ex = 1 := hx.resolve_left c_319_1
    refine J_aload_n C dL_holds_322 rfl rfl ?_
    refine J_callV C (c_X5_extraBit_ok U b a h sa pa ta tk v m w o t sl bp mw mc hi lo ex h2) gL_holds_X5_extraBit (n := 0) rfl rfl rfl (by decide +kernel) ⟨Nat.le_of_ble_eq_true rfl, Nat.le_of_ble_eq_true rfl⟩ 0 rfl rfl rfl (rest := []) rfl (Nat.le_of_ble_eq_true rfl) [(b, .inr (5, [.ref a, .ref h, .ref sa, .int tk, .ref pa, .ref ta])), (a, .inr (3, [.ref v, .ref m, .int w, .int o, .int t])), (v, .inl (U.2.2.1 0, 6, .inl f)), (m, .inr (1, [.int sl, .int bp, .int mw, .int mc, .int hi, .int lo, .int ex]))] [0, 1, 3] [2] [1, 2, 0, 3] (wr := [(v, .inl (U.2.2.1 0, 6, .inl f))]) rfl rfl rfl rfl (by decide) rfl rfl  dL_holds_323 ⟨Nat.le_of_ble_eq_true rfl, Nat.le_of_ble_eq_true rfl⟩ [.int ex] rfl ?_
    refine J_iconst C (v := (1 : Int32)) dL_holds_326 (by decide) ?_
    refine J_icmp_ne C 334 dL_holds_327 (by decide) (fun h => absurd h (fun hh => hh hx1)) (fun _ => ?_)
    refine J_iconst C (v := (1 : Int32)) dL_holds_330 (by decide) ?_
    refine J_goto C 335 dL_holds_331 (by decide) ?_
    refine J_istore C [some (.ref b), some (.int p0), some (.int p1), some (.int w), some (.int ((valF f p0) * (valF f p1))), some (.int ((1 : Int32) <<< ((w - (1 : Int32)) &&& 31))), some (.int (1 : Int32))] dL_holds_335 (hN 6 (by decide)) rfl rfl ?_
    refine J_iload C dL_holds_337 rfl ?_
    refine J_if_eq C 363 dL_holds_339 (by decide) (fun h => absurd h (by decide)) (fun _ => ?_)
    refine J_aload_n C dL_holds_342 rfl rfl ?_
    refine J_callV C (c_X5_stepsLeft U b a h sa pa ta tk v m w o t sl bp mw mc hi lo ex ) gL_holds_X5_stepsLeft (n := 0) rfl rfl rfl (by decide +kernel) ⟨Nat.le_of_ble_eq_true rfl, Nat.le_of_ble_eq_true rfl⟩ 0 rfl rfl rfl (rest := []) rfl (Nat.le_of_ble_eq_true rfl) [(b, .inr (5, [.ref a, .ref h, .ref sa, .int tk, .ref pa, .ref ta])), (a, .inr (3, [.ref v, .ref m, .int w, .int o, .int t])), (v, .inl (U.2.2.1 0, 6, .inl f)), (m, .inr (1, [.int sl, .int bp, .int mw, .int mc, .int hi, .int lo, .int ex]))] [0, 1, 3] [2] [1, 2, 0, 3] (wr := [(v, .inl (U.2.2.1 0, 6, .inl f))]) rfl rfl rfl rfl (by decide) rfl rfl  dL_holds_343 ⟨Nat.le_of_ble_eq_true rfl, Nat.le_of_ble_eq_true rfl⟩ [.int sl] rfl ?_
    refine J_iconst C (v := (-1 : Int32)) dL_holds_346 (by decide) ?_
    refine J_icmp_lt C 363 dL_holds_347 (by decide) (fun h => absurd h t1) (fun _ => ?_)
    refine J_aload_n C dL_holds_350 rfl rfl ?_
    refine J_callV C (c_X5_stepsLeft U b a h sa pa ta tk v m w o t sl bp mw mc hi lo ex ) gL_holds_X5_stepsLeft (n := 0) rfl rfl rfl (by decide +kernel) ⟨Nat.le_of_ble_eq_true rfl, Nat.le_of_ble_eq_true rfl⟩ 0 rfl rfl rfl (rest := []) rfl (Nat.le_of_ble_eq_true rfl) [(b, .inr (5, [.ref a, .ref h, .ref sa, .int tk, .ref pa, .ref ta])), (a, .inr (3, [.ref v, .ref m, .int w, .int o, .int t])), (v, .inl (U.2.2.1 0, 6, .inl f)), (m, .inr (1, [.int sl, .int bp, .int mw, .int mc, .int hi, .int lo, .int ex]))] [0, 1, 3] [2] [1, 2, 0, 3] (wr := [(v, .inl (U.2.2.1 0, 6, .inl f))]) rfl rfl rfl rfl (by decide) rfl rfl  dL_holds_351 ⟨Nat.le_of_ble_eq_true rfl, Nat.le_of_ble_eq_true rfl⟩ [.int sl] rfl ?_
    refine J_bipush C (v := (16 : Int32)) dL_holds_354 (by decide) ?_
    refine J_icmp_gt C 363 dL_holds_356 (by decide) (fun h => absurd h t2) (fun _ => ?_)
    refine J_iconst C (v := (1 : Int32)) dL_holds_359 (by decide) ?_
    refine J_goto C 364 dL_holds_360 (by decide) ?_
    exact J_zret C R rfl dL_holds_364 (Nat.le_of_ble_eq_true rfl) (Nat.le_of_ble_eq_true rfl) rfl rfl
