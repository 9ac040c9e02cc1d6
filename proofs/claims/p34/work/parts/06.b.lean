set_option maxHeartbeats 4000000 in
set_option maxRecDepth 100000 in
theorem c_X5_productByBits_eq (U : jU) (b a h sa pa ta : Nat) (tk : Int32) (v m : Nat) (f : Nat → Int32) (w o t : Int32) (p0 p1 : Int32) (W : Nat) (v_1 : isReg p0) (v_2 : isReg p1) (hJ : jW W w f) : Fn U yX5_productByBits wsX5_productByBits { frames := 7, cells := 0, slots := 0, locals := 110 } [.ref b, .int p0, .int p1] [(b, .inr (5, [.ref a, .ref h, .ref sa, .int tk, .ref pa, .ref ta])), (a, .inr (3, [.ref v, .ref m, .int w, .int o, .int t])), (v, .inl (U.2.2.1 0, 6, .inl f))] (some (.int ((valF f p0) * (valF f p1)))) [(b, .inr (5, [.ref a, .ref h, .ref sa, .int tk, .ref pa, .ref ta])), (a, .inr (3, [.ref v, .ref m, .int w, .int o, .int t])), (v, .inl (U.2.2.1 0, 6, .inl f))] 0 0 := by
  have h9 := c_X5_productByBits_ok U b a h sa pa ta tk v m f w o t p0 p1 (W - 1) v_1 v_2 (jW_w hJ) (by have := hJ.1.2; omega)
  rw [q_bits hJ] at h9
  exact h9
set_option maxHeartbeats 4000000 in
set_option maxRecDepth 100000 in
theorem c_X5_productByRows_eq0 (U : jU) (b a h sa pa ta : Nat) (tk : Int32) (v m : Nat) (f : Nat → Int32) (w o t : Int32) (p0 p1 : Int32) (W : Nat) (v_1 : isReg p0) (v_2 : isReg p1) (hJ : jW W w f) : Fn U yX5_productByRows wsX5_productByRows { frames := 7, cells := 0, slots := 0, locals := 111 } [.ref b, .int p0, .int p1, .int (0 : Int32)] [(b, .inr (5, [.ref a, .ref h, .ref sa, .int tk, .ref pa, .ref ta])), (a, .inr (3, [.ref v, .ref m, .int w, .int o, .int t])), (v, .inl (U.2.2.1 0, 6, .inl f))] (some (.int ((valF f p0) * (valF f p1)))) [(b, .inr (5, [.ref a, .ref h, .ref sa, .int tk, .ref pa, .ref ta])), (a, .inr (3, [.ref v, .ref m, .int w, .int o, .int t])), (v, .inl (U.2.2.1 0, 6, .inl f))] 0 0 := by
  have h9 := c_X5_productByRows_ok2 U b a h sa pa ta tk v m f w o t p0 p1 0 W v_1 v_2 (by decide) (by decide) (by rw [hJ.2.1, dcntF, if_neg (by decide)]) (by have := hJ.1.2; omega)
  rw [pq0 hJ.1 _ (jW_v hJ p1)] at h9
  exact h9
set_option maxHeartbeats 4000000 in
set_option maxRecDepth 100000 in
theorem c_X5_rowsOf_eq0 (U : jU) (b a h sa pa ta : Nat) (tk : Int32) (v m : Nat) (f : Nat → Int32) (w o t : Int32) (p0 : Int32) (W : Nat) (v_1 : isReg p0) (hJ : jW W w f) : Fn U yX5_rowsOf wsX5_rowsOf { frames := 7, cells := 0, slots := 0, locals := 111 } [.ref b, .int p0, .int (0 : Int32)] [(b, .inr (5, [.ref a, .ref h, .ref sa, .int tk, .ref pa, .ref ta])), (a, .inr (3, [.ref v, .ref m, .int w, .int o, .int t])), (v, .inl (U.2.2.1 0, 6, .inl f))] (some (.int (nI (nzF (valF f p0) 0 W)))) [(b, .inr (5, [.ref a, .ref h, .ref sa, .int tk, .ref pa, .ref ta])), (a, .inr (3, [.ref v, .ref m, .int w, .int o, .int t])), (v, .inl (U.2.2.1 0, 6, .inl f))] 0 0 := by
  have h9 := c_X5_rowsOf_ok2 U b a h sa pa ta tk v m f w o t p0 0 W v_1 (by decide) (by decide) (by rw [hJ.2.1, dcntF, if_neg (by decide)]) (by have := hJ.1.2; omega)
  rw [rw_nz] at h9
  exact h9
set_option maxHeartbeats 4000000 in
set_option maxRecDepth 100000 in
theorem c_X5_productByRows_eq2 (U : jU) (b a h sa pa ta : Nat) (tk : Int32) (v m : Nat) (f : Nat → Int32) (w o t : Int32) (p0 p1 : Int32) (W : Nat) (v_1 : isReg p0) (v_2 : isReg p1) (hJ : jW W w f) : Fn U yX5_productByRows wsX5_productByRows { frames := 7, cells := 0, slots := 0, locals := 111 } [.ref b, .int p0, .int p1, .int (2 : Int32)] [(b, .inr (5, [.ref a, .ref h, .ref sa, .int tk, .ref pa, .ref ta])), (a, .inr (3, [.ref v, .ref m, .int w, .int o, .int t])), (v, .inl (U.2.2.1 0, 6, .inl f))] (some (.int ((valF f p0) * (valF f p1)))) [(b, .inr (5, [.ref a, .ref h, .ref sa, .int tk, .ref pa, .ref ta])), (a, .inr (3, [.ref v, .ref m, .int w, .int o, .int t])), (v, .inl (U.2.2.1 0, 6, .inl f))] 0 0 := by
  have h9 := c_X5_productByRows_ok2 U b a h sa pa ta tk v m f w o t p0 p1 2 W v_1 v_2 (by decide) (by decide) (by rw [hJ.2.1, dcntF, if_neg (by decide)]) (by have := hJ.1.2; omega)
  rw [pq2 hJ.1 _ (jW_v hJ p1)] at h9
  exact h9
set_option maxHeartbeats 4000000 in
set_option maxRecDepth 100000 in
theorem c_X5_rowsOf_eq2 (U : jU) (b a h sa pa ta : Nat) (tk : Int32) (v m : Nat) (f : Nat → Int32) (w o t : Int32) (p0 : Int32) (W : Nat) (v_1 : isReg p0) (hJ : jW W w f) : Fn U yX5_rowsOf wsX5_rowsOf { frames := 7, cells := 0, slots := 0, locals := 111 } [.ref b, .int p0, .int (2 : Int32)] [(b, .inr (5, [.ref a, .ref h, .ref sa, .int tk, .ref pa, .ref ta])), (a, .inr (3, [.ref v, .ref m, .int w, .int o, .int t])), (v, .inl (U.2.2.1 0, 6, .inl f))] (some (.int (nI (nzF (valF f p0) 2 W)))) [(b, .inr (5, [.ref a, .ref h, .ref sa, .int tk, .ref pa, .ref ta])), (a, .inr (3, [.ref v, .ref m, .int w, .int o, .int t])), (v, .inl (U.2.2.1 0, 6, .inl f))] 0 0 := by
  have h9 := c_X5_rowsOf_ok2 U b a h sa pa ta tk v m f w o t p0 2 W v_1 (by decide) (by decide) (by rw [hJ.2.1, dcntF, if_neg (by decide)]) (by have := hJ.1.2; omega)
  rw [rw_nz] at h9
  exact h9
set_option maxHeartbeats 4000000 in
set_option maxRecDepth 100000 in
theorem c_X5_productByRows_eq1 (U : jU) (b a h sa pa ta : Nat) (tk : Int32) (v m : Nat) (f : Nat → Int32) (w o t : Int32) (p0 p1 : Int32) (W : Nat) (v_1 : isReg p0) (v_2 : isReg p1) (hev : W % 2 = 0) (hJ : jW W w f) : Fn U yX5_productByRows wsX5_productByRows { frames := 7, cells := 0, slots := 0, locals := 111 } [.ref b, .int p0, .int p1, .int (1 : Int32)] [(b, .inr (5, [.ref a, .ref h, .ref sa, .int tk, .ref pa, .ref ta])), (a, .inr (3, [.ref v, .ref m, .int w, .int o, .int t])), (v, .inl (U.2.2.1 0, 6, .inl f))] (some (.int ((valF f p0) * (valF f p1)))) [(b, .inr (5, [.ref a, .ref h, .ref sa, .int tk, .ref pa, .ref ta])), (a, .inr (3, [.ref v, .ref m, .int w, .int o, .int t])), (v, .inl (U.2.2.1 0, 6, .inl f))] 0 0 := by
  have h9 := c_X5_productByRows_ok1 U b a h sa pa ta tk v m f w o t p0 p1 1 (W / 2) v_1 v_2 (by decide) rfl ((rl_rem W hJ.1.2 hJ.1.1).2.1.mpr hev |> fun q => by rw [hJ.2.1]; exact q) (by rw [hJ.2.1, dcntF, if_pos (by decide)]; exact (rl_rem W hJ.1.2 hJ.1.1).2.2) (by have := hJ.1.2; omega)
  rw [pq1 hJ.1 hev _ (jW_v hJ p1)] at h9
  exact h9
set_option maxHeartbeats 4000000 in
set_option maxRecDepth 100000 in
theorem c_X5_rowsOf_eq1 (U : jU) (b a h sa pa ta : Nat) (tk : Int32) (v m : Nat) (f : Nat → Int32) (w o t : Int32) (p0 : Int32) (W : Nat) (v_1 : isReg p0) (hev : W % 2 = 0) (hJ : jW W w f) : Fn U yX5_rowsOf wsX5_rowsOf { frames := 7, cells := 0, slots := 0, locals := 111 } [.ref b, .int p0, .int (1 : Int32)] [(b, .inr (5, [.ref a, .ref h, .ref sa, .int tk, .ref pa, .ref ta])), (a, .inr (3, [.ref v, .ref m, .int w, .int o, .int t])), (v, .inl (U.2.2.1 0, 6, .inl f))] (some (.int (nI (nzF (valF f p0) 1 (W / 2))))) [(b, .inr (5, [.ref a, .ref h, .ref sa, .int tk, .ref pa, .ref ta])), (a, .inr (3, [.ref v, .ref m, .int w, .int o, .int t])), (v, .inl (U.2.2.1 0, 6, .inl f))] 0 0 := by
  have h9 := c_X5_rowsOf_ok1 U b a h sa pa ta tk v m f w o t p0 1 (W / 2) v_1 (by decide) rfl ((rl_rem W hJ.1.2 hJ.1.1).2.1.mpr hev |> fun q => by rw [hJ.2.1]; exact q) (by rw [hJ.2.1, dcntF, if_pos (by decide)]; exact (rl_rem W hJ.1.2 hJ.1.1).2.2) (by have := hJ.1.2; omega)
  rw [rw_nz] at h9
  exact h9
set_option maxHeartbeats 4000000 in
set_option maxRecDepth 100000 in
theorem c_X5_carries_eq (U : jU) (b a h sa pa ta : Nat) (tk : Int32) (v m : Nat) (f : Nat → Int32) (w o t : Int32) (p0 p1 : Int32) (W : Nat) (v_1 : isReg p0) (v_2 : isReg p1) (hJ : jW W w f) : Fn U yX5_carries wsX5_carries { frames := 7, cells := 0, slots := 0, locals := 110 } [.ref b, .int p0, .int p1] [(b, .inr (5, [.ref a, .ref h, .ref sa, .int tk, .ref pa, .ref ta])), (a, .inr (3, [.ref v, .ref m, .int w, .int o, .int t])), (v, .inl (U.2.2.1 0, 6, .inl f))] (some (.int (nI (crN W (valF f p0) (valF f p1))))) [(b, .inr (5, [.ref a, .ref h, .ref sa, .int tk, .ref pa, .ref ta])), (a, .inr (3, [.ref v, .ref m, .int w, .int o, .int t])), (v, .inl (U.2.2.1 0, 6, .inl f))] 0 0 := by
  have h9 := c_X5_carries_ok U b a h sa pa ta tk v m f w o t p0 p1 v_1 v_2
  rw [q_car hJ] at h9
  exact h9
set_option maxHeartbeats 4000000 in
set_option maxRecDepth 100000 in
theorem c_X5_longestRun_eq (U : jU) (b a h sa pa ta : Nat) (tk : Int32) (v m : Nat) (f : Nat → Int32) (w o t : Int32) (p0 p1 : Int32) (W : Nat) (v_1 : isReg p0) (v_2 : isReg p1) (hJ : jW W w f) : Fn U yX5_longestRun wsX5_longestRun { frames := 7, cells := 0, slots := 0, locals := 110 } [.ref b, .int p0, .int p1] [(b, .inr (5, [.ref a, .ref h, .ref sa, .int tk, .ref pa, .ref ta])), (a, .inr (3, [.ref v, .ref m, .int w, .int o, .int t])), (v, .inl (U.2.2.1 0, 6, .inl f))] (some (.int (nI (lrN W (valF f p0) (valF f p1))))) [(b, .inr (5, [.ref a, .ref h, .ref sa, .int tk, .ref pa, .ref ta])), (a, .inr (3, [.ref v, .ref m, .int w, .int o, .int t])), (v, .inl (U.2.2.1 0, 6, .inl f))] 0 0 := by
  have h9 := c_X5_longestRun_ok U b a h sa pa ta tk v m f w o t p0 p1 W v_1 v_2 hJ.2.1 (by have := hJ.1.2; omega)
  rw [q_run hJ] at h9
  exact h9
set_option maxHeartbeats 4000000 in
set_option maxRecDepth 100000 in
theorem c_X5_onesOf_eq (U : jU) (b a h sa pa ta : Nat) (tk : Int32) (v m : Nat) (f : Nat → Int32) (w o t : Int32) (p0 : Int32) (W : Nat) (v_1 : isReg p0) (hJ : jW W w f) : Fn U yX5_onesOf wsX5_onesOf { frames := 7, cells := 0, slots := 0, locals := 110 } [.ref b, .int p0] [(b, .inr (5, [.ref a, .ref h, .ref sa, .int tk, .ref pa, .ref ta])), (a, .inr (3, [.ref v, .ref m, .int w, .int o, .int t])), (v, .inl (U.2.2.1 0, 6, .inl f))] (some (.int (nI (pcN W (tn (valF f p0)))))) [(b, .inr (5, [.ref a, .ref h, .ref sa, .int tk, .ref pa, .ref ta])), (a, .inr (3, [.ref v, .ref m, .int w, .int o, .int t])), (v, .inl (U.2.2.1 0, 6, .inl f))] 0 0 := by
  have h9 := c_X5_onesOf_ok U b a h sa pa ta tk v m f w o t p0 v_1
  rw [q_ones hJ] at h9
  exact h9
