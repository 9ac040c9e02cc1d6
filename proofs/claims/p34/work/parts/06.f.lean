/-! ===== the law's methods, as a whole ===== -/
/-- the law's world: the object, its history, its state -/
def PW (U : jU) (b a h sa pa ta v m r s0 v0 m0 s1 v1 m1 s2 v2 m2 s3 v3 m3 : Nat) (tk : Int32) (f x : Nat → Int32) (hv hg : Nat → Nat → Int32) (n : Nat) (cn : Int32) : va_W := [(b, .inr (5, [.ref a, .ref h, .ref sa, .int tk, .ref pa, .ref ta])), (h, .inr (0, [.ref r, .int (nI n), .int cn])), (r, .inl (U.2.2.1 3, 4, .inr (.inr (.inr (.inr (jr4 s0 s1 s2 s3)))))), (s0, .inr (3, [.ref v0, .ref m0, .int (hg 0 0), .int (hg 0 1), .int (hg 0 2)])), (v0, .inl (U.2.2.1 0, 6, .inl (hv 0))), (m0, .inr (1, [.int (hg 0 3), .int (hg 0 4), .int (hg 0 5), .int (hg 0 6), .int (hg 0 7), .int (hg 0 8), .int (hg 0 9)])), (s1, .inr (3, [.ref v1, .ref m1, .int (hg 1 0), .int (hg 1 1), .int (hg 1 2)])), (v1, .inl (U.2.2.1 0, 6, .inl (hv 1))), (m1, .inr (1, [.int (hg 1 3), .int (hg 1 4), .int (hg 1 5), .int (hg 1 6), .int (hg 1 7), .int (hg 1 8), .int (hg 1 9)])), (s2, .inr (3, [.ref v2, .ref m2, .int (hg 2 0), .int (hg 2 1), .int (hg 2 2)])), (v2, .inl (U.2.2.1 0, 6, .inl (hv 2))), (m2, .inr (1, [.int (hg 2 3), .int (hg 2 4), .int (hg 2 5), .int (hg 2 6), .int (hg 2 7), .int (hg 2 8), .int (hg 2 9)])), (s3, .inr (3, [.ref v3, .ref m3, .int (hg 3 0), .int (hg 3 1), .int (hg 3 2)])), (v3, .inl (U.2.2.1 0, 6, .inl (hv 3))), (m3, .inr (1, [.int (hg 3 3), .int (hg 3 4), .int (hg 3 5), .int (hg 3 6), .int (hg 3 7), .int (hg 3 8), .int (hg 3 9)])), (a, .inr (3, [.ref v, .ref m, .int (x 0), .int (x 1), .int (x 2)])), (v, .inl (U.2.2.1 0, 6, .inl f)), (m, .inr (1, [.int (x 3), .int (x 4), .int (x 5), .int (x 6), .int (x 7), .int (x 8), .int (x 9)]))]
def PO (U : jU) (b a h sa pa ta v m : Nat) (tk : Int32) (f x : Nat → Int32) : va_W := [(b, .inr (5, [.ref a, .ref h, .ref sa, .int tk, .ref pa, .ref ta])), (a, .inr (3, [.ref v, .ref m, .int (x 0), .int (x 1), .int (x 2)])), (v, .inl (U.2.2.1 0, 6, .inl f)), (m, .inr (1, [.int (x 3), .int (x 4), .int (x 5), .int (x 6), .int (x 7), .int (x 8), .int (x 9)]))]

def tdF (f x : Nat → Int32) : Int64 := if x 3 < 0 then ((31 : Int64) * (((31 : Int64) * (((31 : Int64) * (((31 : Int64) * (((31 : Int64) * (((31 : Int64) * (((31 : Int64) * (((31 : Int64) * (((31 : Int64) * (((31 : Int64) * (3 : Int64)) + (x 0).toInt64)) + (x 3).toInt64)) + (x 1).toInt64)) + ((valF f (0 : Int32)).toInt64))) + ((valF f (1 : Int32)).toInt64))) + ((valF f (2 : Int32)).toInt64))) + ((valF f (3 : Int32)).toInt64))) + ((valF f (4 : Int32)).toInt64))) + ((valF f (5 : Int32)).toInt64))) + (x 2).toInt64 else ((31 : Int64) * (((31 : Int64) * (((31 : Int64) * (((31 : Int64) * (((31 : Int64) * (((31 : Int64) * (((31 : Int64) * (((31 : Int64) * (((31 : Int64) * (((31 : Int64) * (((31 : Int64) * (((31 : Int64) * (((31 : Int64) * (3 : Int64)) + (x 0).toInt64)) + (x 3).toInt64)) + (x 1).toInt64)) + ((valF f (0 : Int32)).toInt64))) + ((valF f (1 : Int32)).toInt64))) + ((valF f (2 : Int32)).toInt64))) + ((valF f (3 : Int32)).toInt64))) + ((valF f (4 : Int32)).toInt64))) + ((valF f (5 : Int32)).toInt64))) + (x 7).toInt64)) + (x 8).toInt64)) + (x 9).toInt64)) + (x 2).toInt64
theorem told_all (U : jU) (b a h sa pa ta v m : Nat) (tk : Int32) (f x : Nat → Int32) : Fn U yL_told wsL_told { frames := 8, cells := 0, slots := 0, locals := 131 } [.ref b] (PO U b a h sa pa ta v m tk f x) (some (.long (tdF f x))) (PO U b a h sa pa ta v m tk f x) 0 0 := by
  by_cases h1 : x 3 < 0
  · rw [tdF, if_pos h1]; exact c_L_told_n U b a h sa pa ta tk v m f (x 0) (x 1) (x 2) (x 3) (x 4) (x 5) (x 6) (x 7) (x 8) (x 9) h1
  · rw [tdF, if_neg h1]; exact c_L_told_p U b a h sa pa ta tk v m f (x 0) (x 1) (x 2) (x 3) (x 4) (x 5) (x 6) (x 7) (x 8) (x 9) h1 (fun q => h1 (by rw [q]; decide))
theorem holds_all (U : jU) (b a h sa pa ta v m : Nat) (tk : Int32) {W : Nat} {f x : Nat → Int32} (hI : jInv W f x) {p0 p1 : Int32} (v_1 : isReg p0) (v_2 : isReg p1) : Fn U yL_holds wsL_holds { frames := 8, cells := 0, slots := 0, locals := 137 } [.ref b, .int p0, .int p1] (PO U b a h sa pa ta v m tk f x) (some (.int (1 : Int32))) (PO U b a h sa pa ta v m tk f x) 0 0 := by
  obtain ⟨hJ, hs⟩ := hI
  obtain ⟨hW, hw, hf⟩ := id hJ
  obtain ⟨g1, g2, g3, g4, g5, g6⟩ := half_i W hW.2 hW.1
  obtain ⟨rr, re, rd⟩ := rl_rem W hW.2 hW.1
  have va := jW_v hJ p0
  have vb := jW_v hJ p1
  have vab := inW_b hW.2 va
  have vbb := inW_b hW.2 vb
  have ymc : valF f p1 * valF f p0 = valF f p0 * valF f p1 := Int32.mul_comm _ _
  have l1 : ¬ valF f p0 < -((1 : Int32) <<< (((x 0) - (1 : Int32)) &&& 31)) := by
    rw [hw, Int32.lt_iff_toInt_lt, g3]; rw [inW] at va; omega
  have l2 : ¬ ((1 : Int32) <<< (((x 0) - (1 : Int32)) &&& 31)) ≤ valF f p0 := by
    rw [hw, Int32.le_iff_toInt_le, g4]; rw [inW] at va; omega
  have c1 : nI (crN W (valF f p0) (valF f p1)) = nI (crN W (valF f p1) (valF f p0)) := by rw [cr_c]
  have lc := lr_cr hW (valF f p0) (valF f p1)
  have cl := cr_le W (valF f p0) (valF f p1)
  have c2 : ¬ nI (crN W (valF f p0) (valF f p1)) < nI (lrN W (valF f p0) (valF f p1)) := fun q => absurd ((nI_ltI (by omega) (by omega)).mp q) (by omega)
  have c3 : ¬ x 0 < nI (crN W (valF f p0) (valF f p1)) := fun q => by rw [hw] at q; exact absurd ((nI_ltI (by omega) (by omega)).mp q) (by omega)
  have n0 := nz_le (valF f p0) 0 W
  have n2 := nz_le (valF f p0) 2 W
  have n02 := nz_02 vab W hW.2
  have n1s := nz_on vab W hW.2
  have np := pc_leW (tn (valF f p0)) W
  have s1 : ¬ nI (nzF (valF f p0) 0 W) < nI (nzF (valF f p0) 2 W) := fun q => absurd ((nI_ltI (by omega) (by omega)).mp q) (by omega)
  have s2 : ¬ (nI (pcN W (tn (valF f p0))) + (1 : Int32)) < nI (nzF (valF f p0) 2 W) := fun q => by
    rw [nI_1] at q
    exact absurd ((nI_ltI (by omega) (by omega)).mp q) (by omega)
  have n1 := nz_le (valF f p1) 1 (W / 2)
  have w1 : ¬ x 0 / 2 < nI (nzF (valF f p1) 1 (W / 2)) := fun q => by
    rw [hw, rd] at q
    exact absurd ((nI_ltI (by omega) (by omega)).mp q) (by omega)
  have fy : inW W ((valF f p0) * (valF f p1)) → b2i (wrapF (x 0) ((valF f p0) * (valF f p1)) = ((valF f p0) * (valF f p1))) = 1 := fun q => if_pos (by rw [hw]; exact (wv_iff hW _).mpr q)
  have fn : ¬ inW W ((valF f p0) * (valF f p1)) → b2i (wrapF (x 0) ((valF f p0) * (valF f p1)) = ((valF f p0) * (valF f p1))) = 0 := fun q => if_neg (fun e => q ((wv_iff hW _).mp (by rw [hw] at e; exact e)))
  by_cases e1 : rem2 (x 0) = 1
  · by_cases d1 : ((valF f p0) * (valF f p1)) < -((1 : Int32) <<< (((x 0) - (1 : Int32)) &&& 31))
    · have ft := fn (fun q => by rw [hw, Int32.lt_iff_toInt_lt, g3] at d1; rw [inW] at q; omega)
      by_cases z0 : lrN W (valF f p0) (valF f p1) = 0
      · have z1 : nI (lrN W (valF f p0) (valF f p1)) = 0 := by rw [z0]; rfl
        have z2 : nI (crN W (valF f p0) (valF f p1)) = 0 := by rw [lc.2.2.mp z0]; rfl
        rcases hs with h3 | ⟨N, l, e3, hN, e4, e5, e8, hl, hx⟩
        · have h1 : x 3 < 0 := by rw [h3]; decide
          have t1 : ¬ x 3 < -1 := by rw [h3]; decide
          have t2 : ¬ 16 < x 3 := by rw [h3]; decide
          exact c_L_holds_obzn U b a h sa pa ta tk v m f (x 0) (x 1) (x 2) (x 3) (x 4) (x 5) (x 6) (x 7) (x 8) (x 9) p0 p1 W v_1 v_2 hJ ymc l1 l2 c1 c2 c3 s1 s2 t1 t2 e1 ft d1 z1 z2 h1
        · obtain ⟨k1, k2, k3, k4, k5, k6⟩ := nm1 hN
          have h1 : ¬ x 3 < 0 := by rw [e3]; exact k6
          have h2 : ¬ x 3 = -1 := by rw [e3]; exact k1
          have t1 : ¬ x 3 < -1 := by rw [e3]; exact k3
          have t2 : ¬ 16 < x 3 := by rw [e3]; exact k4
          have h3 : ¬ x 8 < 0 := fun q => by rw [e8] at q; exact absurd ((nI_ltI (a := l) (b := 0) (by omega) (by omega)).mp q) (by omega)
          have h4 : ¬ ((2 : Int32) * ((1 : Int32) <<< (((x 0) - (1 : Int32)) &&& 31))) ≤ x 8 := fun q => by rw [hw, g2, e8] at q; exact absurd ((nI_leI (by omega) (by omega)).mp q) (by omega)
          exact c_L_holds_obzp U b a h sa pa ta tk v m f (x 0) (x 1) (x 2) (x 3) (x 4) (x 5) (x 6) (x 7) (x 8) (x 9) p0 p1 W v_1 v_2 hJ ymc l1 l2 c1 c2 c3 s1 s2 t1 t2 e1 ft d1 z1 z2 h1 h2 h3 h4 hx
      · have z1 : ¬ nI (lrN W (valF f p0) (valF f p1)) = 0 := fun q => z0 (by have := congrArg tn q; rw [tn_nI (by omega)] at this; exact this)
        have z2 : ¬ nI (crN W (valF f p0) (valF f p1)) = 0 := fun q => z0 (lc.2.2.mpr (by have := congrArg tn q; rw [tn_nI (by omega)] at this; exact this))
        rcases hs with h3 | ⟨N, l, e3, hN, e4, e5, e8, hl, hx⟩
        · have h1 : x 3 < 0 := by rw [h3]; decide
          have t1 : ¬ x 3 < -1 := by rw [h3]; decide
          have t2 : ¬ 16 < x 3 := by rw [h3]; decide
          exact c_L_holds_obyn U b a h sa pa ta tk v m f (x 0) (x 1) (x 2) (x 3) (x 4) (x 5) (x 6) (x 7) (x 8) (x 9) p0 p1 W v_1 v_2 hJ ymc l1 l2 c1 c2 c3 s1 s2 t1 t2 e1 ft d1 z1 z2 h1
        · obtain ⟨k1, k2, k3, k4, k5, k6⟩ := nm1 hN
          have h1 : ¬ x 3 < 0 := by rw [e3]; exact k6
          have h2 : ¬ x 3 = -1 := by rw [e3]; exact k1
          have t1 : ¬ x 3 < -1 := by rw [e3]; exact k3
          have t2 : ¬ 16 < x 3 := by rw [e3]; exact k4
          have h3 : ¬ x 8 < 0 := fun q => by rw [e8] at q; exact absurd ((nI_ltI (a := l) (b := 0) (by omega) (by omega)).mp q) (by omega)
          have h4 : ¬ ((2 : Int32) * ((1 : Int32) <<< (((x 0) - (1 : Int32)) &&& 31))) ≤ x 8 := fun q => by rw [hw, g2, e8] at q; exact absurd ((nI_leI (by omega) (by omega)).mp q) (by omega)
          exact c_L_holds_obyp U b a h sa pa ta tk v m f (x 0) (x 1) (x 2) (x 3) (x 4) (x 5) (x 6) (x 7) (x 8) (x 9) p0 p1 W v_1 v_2 hJ ymc l1 l2 c1 c2 c3 s1 s2 t1 t2 e1 ft d1 z1 z2 h1 h2 h3 h4 hx
    · by_cases d2 : ((1 : Int32) <<< (((x 0) - (1 : Int32)) &&& 31)) ≤ ((valF f p0) * (valF f p1))
      · have ft := fn (fun q => by rw [hw, Int32.le_iff_toInt_le, g4] at d2; rw [inW] at q; omega)
        by_cases z0 : lrN W (valF f p0) (valF f p1) = 0
        · have z1 : nI (lrN W (valF f p0) (valF f p1)) = 0 := by rw [z0]; rfl
          have z2 : nI (crN W (valF f p0) (valF f p1)) = 0 := by rw [lc.2.2.mp z0]; rfl
          rcases hs with h3 | ⟨N, l, e3, hN, e4, e5, e8, hl, hx⟩
          · have h1 : x 3 < 0 := by rw [h3]; decide
            have t1 : ¬ x 3 < -1 := by rw [h3]; decide
            have t2 : ¬ 16 < x 3 := by rw [h3]; decide
            exact c_L_holds_oazn U b a h sa pa ta tk v m f (x 0) (x 1) (x 2) (x 3) (x 4) (x 5) (x 6) (x 7) (x 8) (x 9) p0 p1 W v_1 v_2 hJ ymc l1 l2 c1 c2 c3 s1 s2 t1 t2 e1 ft d1 d2 z1 z2 h1
          · obtain ⟨k1, k2, k3, k4, k5, k6⟩ := nm1 hN
            have h1 : ¬ x 3 < 0 := by rw [e3]; exact k6
            have h2 : ¬ x 3 = -1 := by rw [e3]; exact k1
            have t1 : ¬ x 3 < -1 := by rw [e3]; exact k3
            have t2 : ¬ 16 < x 3 := by rw [e3]; exact k4
            have h3 : ¬ x 8 < 0 := fun q => by rw [e8] at q; exact absurd ((nI_ltI (a := l) (b := 0) (by omega) (by omega)).mp q) (by omega)
            have h4 : ¬ ((2 : Int32) * ((1 : Int32) <<< (((x 0) - (1 : Int32)) &&& 31))) ≤ x 8 := fun q => by rw [hw, g2, e8] at q; exact absurd ((nI_leI (by omega) (by omega)).mp q) (by omega)
            exact c_L_holds_oazp U b a h sa pa ta tk v m f (x 0) (x 1) (x 2) (x 3) (x 4) (x 5) (x 6) (x 7) (x 8) (x 9) p0 p1 W v_1 v_2 hJ ymc l1 l2 c1 c2 c3 s1 s2 t1 t2 e1 ft d1 d2 z1 z2 h1 h2 h3 h4 hx
        · have z1 : ¬ nI (lrN W (valF f p0) (valF f p1)) = 0 := fun q => z0 (by have := congrArg tn q; rw [tn_nI (by omega)] at this; exact this)
          have z2 : ¬ nI (crN W (valF f p0) (valF f p1)) = 0 := fun q => z0 (lc.2.2.mpr (by have := congrArg tn q; rw [tn_nI (by omega)] at this; exact this))
          rcases hs with h3 | ⟨N, l, e3, hN, e4, e5, e8, hl, hx⟩
          · have h1 : x 3 < 0 := by rw [h3]; decide
            have t1 : ¬ x 3 < -1 := by rw [h3]; decide
            have t2 : ¬ 16 < x 3 := by rw [h3]; decide
            exact c_L_holds_oayn U b a h sa pa ta tk v m f (x 0) (x 1) (x 2) (x 3) (x 4) (x 5) (x 6) (x 7) (x 8) (x 9) p0 p1 W v_1 v_2 hJ ymc l1 l2 c1 c2 c3 s1 s2 t1 t2 e1 ft d1 d2 z1 z2 h1
          · obtain ⟨k1, k2, k3, k4, k5, k6⟩ := nm1 hN
            have h1 : ¬ x 3 < 0 := by rw [e3]; exact k6
            have h2 : ¬ x 3 = -1 := by rw [e3]; exact k1
            have t1 : ¬ x 3 < -1 := by rw [e3]; exact k3
            have t2 : ¬ 16 < x 3 := by rw [e3]; exact k4
            have h3 : ¬ x 8 < 0 := fun q => by rw [e8] at q; exact absurd ((nI_ltI (a := l) (b := 0) (by omega) (by omega)).mp q) (by omega)
            have h4 : ¬ ((2 : Int32) * ((1 : Int32) <<< (((x 0) - (1 : Int32)) &&& 31))) ≤ x 8 := fun q => by rw [hw, g2, e8] at q; exact absurd ((nI_leI (by omega) (by omega)).mp q) (by omega)
            exact c_L_holds_oayp U b a h sa pa ta tk v m f (x 0) (x 1) (x 2) (x 3) (x 4) (x 5) (x 6) (x 7) (x 8) (x 9) p0 p1 W v_1 v_2 hJ ymc l1 l2 c1 c2 c3 s1 s2 t1 t2 e1 ft d1 d2 z1 z2 h1 h2 h3 h4 hx
      · have ft := fy (by rw [hw, Int32.lt_iff_toInt_lt, g3] at d1; rw [hw, Int32.le_iff_toInt_le, g4] at d2; rw [inW]; omega)
        by_cases z0 : lrN W (valF f p0) (valF f p1) = 0
        · have z1 : nI (lrN W (valF f p0) (valF f p1)) = 0 := by rw [z0]; rfl
          have z2 : nI (crN W (valF f p0) (valF f p1)) = 0 := by rw [lc.2.2.mp z0]; rfl
          rcases hs with h3 | ⟨N, l, e3, hN, e4, e5, e8, hl, hx⟩
          · have h1 : x 3 < 0 := by rw [h3]; decide
            have t1 : ¬ x 3 < -1 := by rw [h3]; decide
            have t2 : ¬ 16 < x 3 := by rw [h3]; decide
            exact c_L_holds_oizn U b a h sa pa ta tk v m f (x 0) (x 1) (x 2) (x 3) (x 4) (x 5) (x 6) (x 7) (x 8) (x 9) p0 p1 W v_1 v_2 hJ ymc l1 l2 c1 c2 c3 s1 s2 t1 t2 e1 ft d1 d2 z1 z2 h1
          · obtain ⟨k1, k2, k3, k4, k5, k6⟩ := nm1 hN
            have h1 : ¬ x 3 < 0 := by rw [e3]; exact k6
            have h2 : ¬ x 3 = -1 := by rw [e3]; exact k1
            have t1 : ¬ x 3 < -1 := by rw [e3]; exact k3
            have t2 : ¬ 16 < x 3 := by rw [e3]; exact k4
            have h3 : ¬ x 8 < 0 := fun q => by rw [e8] at q; exact absurd ((nI_ltI (a := l) (b := 0) (by omega) (by omega)).mp q) (by omega)
            have h4 : ¬ ((2 : Int32) * ((1 : Int32) <<< (((x 0) - (1 : Int32)) &&& 31))) ≤ x 8 := fun q => by rw [hw, g2, e8] at q; exact absurd ((nI_leI (by omega) (by omega)).mp q) (by omega)
            exact c_L_holds_oizp U b a h sa pa ta tk v m f (x 0) (x 1) (x 2) (x 3) (x 4) (x 5) (x 6) (x 7) (x 8) (x 9) p0 p1 W v_1 v_2 hJ ymc l1 l2 c1 c2 c3 s1 s2 t1 t2 e1 ft d1 d2 z1 z2 h1 h2 h3 h4 hx
        · have z1 : ¬ nI (lrN W (valF f p0) (valF f p1)) = 0 := fun q => z0 (by have := congrArg tn q; rw [tn_nI (by omega)] at this; exact this)
          have z2 : ¬ nI (crN W (valF f p0) (valF f p1)) = 0 := fun q => z0 (lc.2.2.mpr (by have := congrArg tn q; rw [tn_nI (by omega)] at this; exact this))
          rcases hs with h3 | ⟨N, l, e3, hN, e4, e5, e8, hl, hx⟩
          · have h1 : x 3 < 0 := by rw [h3]; decide
            have t1 : ¬ x 3 < -1 := by rw [h3]; decide
            have t2 : ¬ 16 < x 3 := by rw [h3]; decide
            exact c_L_holds_oiyn U b a h sa pa ta tk v m f (x 0) (x 1) (x 2) (x 3) (x 4) (x 5) (x 6) (x 7) (x 8) (x 9) p0 p1 W v_1 v_2 hJ ymc l1 l2 c1 c2 c3 s1 s2 t1 t2 e1 ft d1 d2 z1 z2 h1
          · obtain ⟨k1, k2, k3, k4, k5, k6⟩ := nm1 hN
            have h1 : ¬ x 3 < 0 := by rw [e3]; exact k6
            have h2 : ¬ x 3 = -1 := by rw [e3]; exact k1
            have t1 : ¬ x 3 < -1 := by rw [e3]; exact k3
            have t2 : ¬ 16 < x 3 := by rw [e3]; exact k4
            have h3 : ¬ x 8 < 0 := fun q => by rw [e8] at q; exact absurd ((nI_ltI (a := l) (b := 0) (by omega) (by omega)).mp q) (by omega)
            have h4 : ¬ ((2 : Int32) * ((1 : Int32) <<< (((x 0) - (1 : Int32)) &&& 31))) ≤ x 8 := fun q => by rw [hw, g2, e8] at q; exact absurd ((nI_leI (by omega) (by omega)).mp q) (by omega)
            exact c_L_holds_oiyp U b a h sa pa ta tk v m f (x 0) (x 1) (x 2) (x 3) (x 4) (x 5) (x 6) (x 7) (x 8) (x 9) p0 p1 W v_1 v_2 hJ ymc l1 l2 c1 c2 c3 s1 s2 t1 t2 e1 ft d1 d2 z1 z2 h1 h2 h3 h4 hx
  · have hev : W % 2 = 0 := re.mp (by rw [hw] at e1; exact rr.resolve_right e1)
    by_cases d1 : ((valF f p0) * (valF f p1)) < -((1 : Int32) <<< (((x 0) - (1 : Int32)) &&& 31))
    · have ft := fn (fun q => by rw [hw, Int32.lt_iff_toInt_lt, g3] at d1; rw [inW] at q; omega)
      by_cases z0 : lrN W (valF f p0) (valF f p1) = 0
      · have z1 : nI (lrN W (valF f p0) (valF f p1)) = 0 := by rw [z0]; rfl
        have z2 : nI (crN W (valF f p0) (valF f p1)) = 0 := by rw [lc.2.2.mp z0]; rfl
        rcases hs with h3 | ⟨N, l, e3, hN, e4, e5, e8, hl, hx⟩
        · have h1 : x 3 < 0 := by rw [h3]; decide
          have t1 : ¬ x 3 < -1 := by rw [h3]; decide
          have t2 : ¬ 16 < x 3 := by rw [h3]; decide
          exact c_L_holds_ebzn U b a h sa pa ta tk v m f (x 0) (x 1) (x 2) (x 3) (x 4) (x 5) (x 6) (x 7) (x 8) (x 9) p0 p1 W v_1 v_2 hJ ymc l1 l2 c1 c2 c3 s1 s2 t1 t2 e1 hev w1 ft d1 z1 z2 h1
        · obtain ⟨k1, k2, k3, k4, k5, k6⟩ := nm1 hN
          have h1 : ¬ x 3 < 0 := by rw [e3]; exact k6
          have h2 : ¬ x 3 = -1 := by rw [e3]; exact k1
          have t1 : ¬ x 3 < -1 := by rw [e3]; exact k3
          have t2 : ¬ 16 < x 3 := by rw [e3]; exact k4
          have h3 : ¬ x 8 < 0 := fun q => by rw [e8] at q; exact absurd ((nI_ltI (a := l) (b := 0) (by omega) (by omega)).mp q) (by omega)
          have h4 : ¬ ((2 : Int32) * ((1 : Int32) <<< (((x 0) - (1 : Int32)) &&& 31))) ≤ x 8 := fun q => by rw [hw, g2, e8] at q; exact absurd ((nI_leI (by omega) (by omega)).mp q) (by omega)
          exact c_L_holds_ebzp U b a h sa pa ta tk v m f (x 0) (x 1) (x 2) (x 3) (x 4) (x 5) (x 6) (x 7) (x 8) (x 9) p0 p1 W v_1 v_2 hJ ymc l1 l2 c1 c2 c3 s1 s2 t1 t2 e1 hev w1 ft d1 z1 z2 h1 h2 h3 h4 hx
      · have z1 : ¬ nI (lrN W (valF f p0) (valF f p1)) = 0 := fun q => z0 (by have := congrArg tn q; rw [tn_nI (by omega)] at this; exact this)
        have z2 : ¬ nI (crN W (valF f p0) (valF f p1)) = 0 := fun q => z0 (lc.2.2.mpr (by have := congrArg tn q; rw [tn_nI (by omega)] at this; exact this))
        rcases hs with h3 | ⟨N, l, e3, hN, e4, e5, e8, hl, hx⟩
        · have h1 : x 3 < 0 := by rw [h3]; decide
          have t1 : ¬ x 3 < -1 := by rw [h3]; decide
          have t2 : ¬ 16 < x 3 := by rw [h3]; decide
          exact c_L_holds_ebyn U b a h sa pa ta tk v m f (x 0) (x 1) (x 2) (x 3) (x 4) (x 5) (x 6) (x 7) (x 8) (x 9) p0 p1 W v_1 v_2 hJ ymc l1 l2 c1 c2 c3 s1 s2 t1 t2 e1 hev w1 ft d1 z1 z2 h1
        · obtain ⟨k1, k2, k3, k4, k5, k6⟩ := nm1 hN
          have h1 : ¬ x 3 < 0 := by rw [e3]; exact k6
          have h2 : ¬ x 3 = -1 := by rw [e3]; exact k1
          have t1 : ¬ x 3 < -1 := by rw [e3]; exact k3
          have t2 : ¬ 16 < x 3 := by rw [e3]; exact k4
          have h3 : ¬ x 8 < 0 := fun q => by rw [e8] at q; exact absurd ((nI_ltI (a := l) (b := 0) (by omega) (by omega)).mp q) (by omega)
          have h4 : ¬ ((2 : Int32) * ((1 : Int32) <<< (((x 0) - (1 : Int32)) &&& 31))) ≤ x 8 := fun q => by rw [hw, g2, e8] at q; exact absurd ((nI_leI (by omega) (by omega)).mp q) (by omega)
          exact c_L_holds_ebyp U b a h sa pa ta tk v m f (x 0) (x 1) (x 2) (x 3) (x 4) (x 5) (x 6) (x 7) (x 8) (x 9) p0 p1 W v_1 v_2 hJ ymc l1 l2 c1 c2 c3 s1 s2 t1 t2 e1 hev w1 ft d1 z1 z2 h1 h2 h3 h4 hx
    · by_cases d2 : ((1 : Int32) <<< (((x 0) - (1 : Int32)) &&& 31)) ≤ ((valF f p0) * (valF f p1))
      · have ft := fn (fun q => by rw [hw, Int32.le_iff_toInt_le, g4] at d2; rw [inW] at q; omega)
        by_cases z0 : lrN W (valF f p0) (valF f p1) = 0
        · have z1 : nI (lrN W (valF f p0) (valF f p1)) = 0 := by rw [z0]; rfl
          have z2 : nI (crN W (valF f p0) (valF f p1)) = 0 := by rw [lc.2.2.mp z0]; rfl
          rcases hs with h3 | ⟨N, l, e3, hN, e4, e5, e8, hl, hx⟩
          · have h1 : x 3 < 0 := by rw [h3]; decide
            have t1 : ¬ x 3 < -1 := by rw [h3]; decide
            have t2 : ¬ 16 < x 3 := by rw [h3]; decide
            exact c_L_holds_eazn U b a h sa pa ta tk v m f (x 0) (x 1) (x 2) (x 3) (x 4) (x 5) (x 6) (x 7) (x 8) (x 9) p0 p1 W v_1 v_2 hJ ymc l1 l2 c1 c2 c3 s1 s2 t1 t2 e1 hev w1 ft d1 d2 z1 z2 h1
          · obtain ⟨k1, k2, k3, k4, k5, k6⟩ := nm1 hN
            have h1 : ¬ x 3 < 0 := by rw [e3]; exact k6
            have h2 : ¬ x 3 = -1 := by rw [e3]; exact k1
            have t1 : ¬ x 3 < -1 := by rw [e3]; exact k3
            have t2 : ¬ 16 < x 3 := by rw [e3]; exact k4
            have h3 : ¬ x 8 < 0 := fun q => by rw [e8] at q; exact absurd ((nI_ltI (a := l) (b := 0) (by omega) (by omega)).mp q) (by omega)
            have h4 : ¬ ((2 : Int32) * ((1 : Int32) <<< (((x 0) - (1 : Int32)) &&& 31))) ≤ x 8 := fun q => by rw [hw, g2, e8] at q; exact absurd ((nI_leI (by omega) (by omega)).mp q) (by omega)
            exact c_L_holds_eazp U b a h sa pa ta tk v m f (x 0) (x 1) (x 2) (x 3) (x 4) (x 5) (x 6) (x 7) (x 8) (x 9) p0 p1 W v_1 v_2 hJ ymc l1 l2 c1 c2 c3 s1 s2 t1 t2 e1 hev w1 ft d1 d2 z1 z2 h1 h2 h3 h4 hx
        · have z1 : ¬ nI (lrN W (valF f p0) (valF f p1)) = 0 := fun q => z0 (by have := congrArg tn q; rw [tn_nI (by omega)] at this; exact this)
          have z2 : ¬ nI (crN W (valF f p0) (valF f p1)) = 0 := fun q => z0 (lc.2.2.mpr (by have := congrArg tn q; rw [tn_nI (by omega)] at this; exact this))
          rcases hs with h3 | ⟨N, l, e3, hN, e4, e5, e8, hl, hx⟩
          · have h1 : x 3 < 0 := by rw [h3]; decide
            have t1 : ¬ x 3 < -1 := by rw [h3]; decide
            have t2 : ¬ 16 < x 3 := by rw [h3]; decide
            exact c_L_holds_eayn U b a h sa pa ta tk v m f (x 0) (x 1) (x 2) (x 3) (x 4) (x 5) (x 6) (x 7) (x 8) (x 9) p0 p1 W v_1 v_2 hJ ymc l1 l2 c1 c2 c3 s1 s2 t1 t2 e1 hev w1 ft d1 d2 z1 z2 h1
          · obtain ⟨k1, k2, k3, k4, k5, k6⟩ := nm1 hN
            have h1 : ¬ x 3 < 0 := by rw [e3]; exact k6
            have h2 : ¬ x 3 = -1 := by rw [e3]; exact k1
            have t1 : ¬ x 3 < -1 := by rw [e3]; exact k3
            have t2 : ¬ 16 < x 3 := by rw [e3]; exact k4
            have h3 : ¬ x 8 < 0 := fun q => by rw [e8] at q; exact absurd ((nI_ltI (a := l) (b := 0) (by omega) (by omega)).mp q) (by omega)
            have h4 : ¬ ((2 : Int32) * ((1 : Int32) <<< (((x 0) - (1 : Int32)) &&& 31))) ≤ x 8 := fun q => by rw [hw, g2, e8] at q; exact absurd ((nI_leI (by omega) (by omega)).mp q) (by omega)
            exact c_L_holds_eayp U b a h sa pa ta tk v m f (x 0) (x 1) (x 2) (x 3) (x 4) (x 5) (x 6) (x 7) (x 8) (x 9) p0 p1 W v_1 v_2 hJ ymc l1 l2 c1 c2 c3 s1 s2 t1 t2 e1 hev w1 ft d1 d2 z1 z2 h1 h2 h3 h4 hx
      · have ft := fy (by rw [hw, Int32.lt_iff_toInt_lt, g3] at d1; rw [hw, Int32.le_iff_toInt_le, g4] at d2; rw [inW]; omega)
        by_cases z0 : lrN W (valF f p0) (valF f p1) = 0
        · have z1 : nI (lrN W (valF f p0) (valF f p1)) = 0 := by rw [z0]; rfl
          have z2 : nI (crN W (valF f p0) (valF f p1)) = 0 := by rw [lc.2.2.mp z0]; rfl
          rcases hs with h3 | ⟨N, l, e3, hN, e4, e5, e8, hl, hx⟩
          · have h1 : x 3 < 0 := by rw [h3]; decide
            have t1 : ¬ x 3 < -1 := by rw [h3]; decide
            have t2 : ¬ 16 < x 3 := by rw [h3]; decide
            exact c_L_holds_eizn U b a h sa pa ta tk v m f (x 0) (x 1) (x 2) (x 3) (x 4) (x 5) (x 6) (x 7) (x 8) (x 9) p0 p1 W v_1 v_2 hJ ymc l1 l2 c1 c2 c3 s1 s2 t1 t2 e1 hev w1 ft d1 d2 z1 z2 h1
          · obtain ⟨k1, k2, k3, k4, k5, k6⟩ := nm1 hN
            have h1 : ¬ x 3 < 0 := by rw [e3]; exact k6
            have h2 : ¬ x 3 = -1 := by rw [e3]; exact k1
            have t1 : ¬ x 3 < -1 := by rw [e3]; exact k3
            have t2 : ¬ 16 < x 3 := by rw [e3]; exact k4
            have h3 : ¬ x 8 < 0 := fun q => by rw [e8] at q; exact absurd ((nI_ltI (a := l) (b := 0) (by omega) (by omega)).mp q) (by omega)
            have h4 : ¬ ((2 : Int32) * ((1 : Int32) <<< (((x 0) - (1 : Int32)) &&& 31))) ≤ x 8 := fun q => by rw [hw, g2, e8] at q; exact absurd ((nI_leI (by omega) (by omega)).mp q) (by omega)
            exact c_L_holds_eizp U b a h sa pa ta tk v m f (x 0) (x 1) (x 2) (x 3) (x 4) (x 5) (x 6) (x 7) (x 8) (x 9) p0 p1 W v_1 v_2 hJ ymc l1 l2 c1 c2 c3 s1 s2 t1 t2 e1 hev w1 ft d1 d2 z1 z2 h1 h2 h3 h4 hx
        · have z1 : ¬ nI (lrN W (valF f p0) (valF f p1)) = 0 := fun q => z0 (by have := congrArg tn q; rw [tn_nI (by omega)] at this; exact this)
          have z2 : ¬ nI (crN W (valF f p0) (valF f p1)) = 0 := fun q => z0 (lc.2.2.mpr (by have := congrArg tn q; rw [tn_nI (by omega)] at this; exact this))
          rcases hs with h3 | ⟨N, l, e3, hN, e4, e5, e8, hl, hx⟩
          · have h1 : x 3 < 0 := by rw [h3]; decide
            have t1 : ¬ x 3 < -1 := by rw [h3]; decide
            have t2 : ¬ 16 < x 3 := by rw [h3]; decide
            exact c_L_holds_eiyn U b a h sa pa ta tk v m f (x 0) (x 1) (x 2) (x 3) (x 4) (x 5) (x 6) (x 7) (x 8) (x 9) p0 p1 W v_1 v_2 hJ ymc l1 l2 c1 c2 c3 s1 s2 t1 t2 e1 hev w1 ft d1 d2 z1 z2 h1
          · obtain ⟨k1, k2, k3, k4, k5, k6⟩ := nm1 hN
            have h1 : ¬ x 3 < 0 := by rw [e3]; exact k6
            have h2 : ¬ x 3 = -1 := by rw [e3]; exact k1
            have t1 : ¬ x 3 < -1 := by rw [e3]; exact k3
            have t2 : ¬ 16 < x 3 := by rw [e3]; exact k4
            have h3 : ¬ x 8 < 0 := fun q => by rw [e8] at q; exact absurd ((nI_ltI (a := l) (b := 0) (by omega) (by omega)).mp q) (by omega)
            have h4 : ¬ ((2 : Int32) * ((1 : Int32) <<< (((x 0) - (1 : Int32)) &&& 31))) ≤ x 8 := fun q => by rw [hw, g2, e8] at q; exact absurd ((nI_leI (by omega) (by omega)).mp q) (by omega)
            exact c_L_holds_eiyp U b a h sa pa ta tk v m f (x 0) (x 1) (x 2) (x 3) (x 4) (x 5) (x 6) (x 7) (x 8) (x 9) p0 p1 W v_1 v_2 hJ ymc l1 l2 c1 c2 c3 s1 s2 t1 t2 e1 hev w1 ft d1 d2 z1 z2 h1 h2 h3 h4 hx
