theorem lw_cmp {N i : Nat} (hN : N ≤ 2048) (hi : i ≤ 4000) : nI N - 4 < nI i ↔ N < i + 4 := by
  have e : (nI N - 4).toInt = (N : Int) - 4 := by rw [sub_i (by rw [nI_i (by omega), show (4 : Int32).toInt = 4 from rfl]; omega), nI_i (by omega)]; rfl
  rw [Int32.lt_iff_toInt_lt, e, nI_i (by omega)]
  omega
theorem nI_o4 (i : Nat) : nI i + Int32.ofInt 4 = nI (i + 4) := by rw [show Int32.ofInt 4 = nI 4 from rfl, nI_add]
theorem lw_exit {U : jU} {k : jK} (C : Cx U k cL_law RL wsL_law room_1) (hnL : k.2.2.2.2.2.2.2.2.2.2.2.1 = 7) {sb N : Nat} {xs : Nat → Int32} (S : jScr k sb N xs) (hNN : N ≤ 2048) (b a v mu h r s0 v0 m0 s1 v1 m1 s2 v2 m2 s3 v3 m3 sa sv sm ta tv tm pa pt pr mo ys ya yt yn yx yr yd yo : Nat) (hend : ∀ (c s : Nat) (ws : va_W) (L : List (Option Value)), c ≤ 1074 → s ≤ 8758 → J U k c s ws L 1620 [.int 1]) (ws : va_W) (q cc ss : Nat) (hc : cc ≤ 100 + q) (hs : ss ≤ 2000 + 6 * q) (hq : q ≤ 700) (hx : N < 4 * q + 4) : J U k cc ss ws (lwL sb b mo yo (4 * q)) 23 [] := by
  refine J_iload C dL_law_23 rfl ?_
  refine J_aload_n C dL_law_25 rfl rfl ?_
  refine J_slen C S (v := nI N) rfl dL_law_26 ?_
  refine J_iconst C (v := (4 : Int32)) dL_law_27 (by decide) ?_
  refine J_isub C (v := nI N - 4) dL_law_28 rfl ?_
  refine J_icmp_gt C 1619 dL_law_29 (by decide) (fun _ => ?_) (fun h => absurd ((lw_cmp hNN (by omega)).mpr hx) h)
  refine J_iconst C (v := (1 : Int32)) dL_law_1619 (by decide) ?_
  exact hend _ _ _ _ (by omega) (by omega)
set_option maxHeartbeats 4000000 in
set_option maxRecDepth 100000 in
theorem lw_loop {U : jU} {k : jK} (C : Cx U k cL_law RL wsL_law room_1) (hnL : k.2.2.2.2.2.2.2.2.2.2.2.1 = 7) {sb N : Nat} {xs : Nat → Int32} (S : jScr k sb N xs) (hNN : N ≤ 2048) (b a v mu h r s0 v0 m0 s1 v1 m1 s2 v2 m2 s3 v3 m3 sa sv sm ta tv tm pa pt pr mo ys ya yt yn yx yr yd yo : Nat) (hend : ∀ (c s : Nat) (ws : va_W) (L : List (Option Value)), c ≤ 1074 → s ≤ 8758 → J U k c s ws L 1620 [.int 1]) : ∀ (nf : Nat) (f x sf sx tf ty rd mm gs ga gt gn tx gr gd : Nat → Int32) (hv hg : Nat → Nat → Int32) (go : Nat → Int64) (n c pn : Nat) (tk hs rs ov : Int32) (q cc ss : Nat), 600 < nf + q → cc ≤ 100 + q → ss ≤ 2000 + 6 * q → q ≤ 700 → lwR f x sf sx tf ty rd mm gs ga gt gn tx gr gd hv hg go n c pn tk hs rs ov → J U k cc ss (LW U b a v mu h r s0 v0 m0 s1 v1 m1 s2 v2 m2 s3 v3 m3 sa sv sm ta tv tm pa pt pr mo ys ya yt yn yx yr yd yo f x sf sx tf ty rd mm gs ga gt gn tx gr gd hv hg go n c pn tk hs rs ov) (lwL sb b mo yo (4 * q)) 23 [] := by
  have hN : ∀ i, i < 7 → i < k.2.2.2.2.2.2.2.2.2.2.2.1 := fun i h => by rw [hnL]; exact h
  intro nf
  induction nf with
  | zero =>
    intro f x sf sx tf ty rd mm gs ga gt gn tx gr gd hv hg go n c pn tk hs rs ov q cc ss hf hc hs8 hq hrel
    exact lw_exit C hnL S hNN b a v mu h r s0 v0 m0 s1 v1 m1 s2 v2 m2 s3 v3 m3 sa sv sm ta tv tm pa pt pr mo ys ya yt yn yx yr yd yo hend _ q cc ss hc hs8 hq (by omega)
  | succ nf ih =>
  intro f x sf sx tf ty rd mm gs ga gt gn tx gr gd hv hg go n c pn tk hs rs ov q cc ss hf hc hs8 hq hrel
  by_cases hx : N < 4 * q + 4
  · exact lw_exit C hnL S hNN b a v mu h r s0 v0 m0 s1 v1 m1 s2 v2 m2 s3 v3 m3 sa sv sm ta tv tm pa pt pr mo ys ya yt yn yx yr yd yo hend _ q cc ss hc hs8 hq hx
  refine J_iload C dL_law_23 rfl ?_
  refine J_aload_n C dL_law_25 rfl rfl ?_
  refine J_slen C S (v := nI N) rfl dL_law_26 ?_
  refine J_iconst C (v := (4 : Int32)) dL_law_27 (by decide) ?_
  refine J_isub C (v := nI N - 4) dL_law_28 rfl ?_
  refine J_icmp_gt C 1619 dL_law_29 (by decide) (fun h => absurd ((lw_cmp hNN (by omega)).mp h) hx) (fun _ => ?_)
  refine J_aload_n C dL_law_32 rfl rfl ?_
  refine J_iload C dL_law_33 rfl ?_
  refine J_sld C S (vp_in_nI (n := 4 * q) (by omega) (by omega)) (congrArg xs (nI_clamp (n := 4 * q) (by omega))) dL_law_35 ?_
  refine J_bipush C (v := (31 : Int32)) dL_law_36 (by decide) ?_
  refine J_iand C (v := xs (4 * q) &&& 31) dL_law_38 rfl ?_
  have kk : ∀ (c9 s9 : Nat) (f x sf sx tf ty rd mm gs ga gt gn tx gr gd : Nat → Int32) (hv hg : Nat → Nat → Int32) (go : Nat → Int64) (n c pn : Nat) (tk hs rs ov : Int32), c9 ≤ cc + 1 → s9 ≤ ss + 6 → lwR f x sf sx tf ty rd mm gs ga gt gn tx gr gd hv hg go n c pn tk hs rs ov → J U k c9 s9 (LW U b a v mu h r s0 v0 m0 s1 v1 m1 s2 v2 m2 s3 v3 m3 sa sv sm ta tv tm pa pt pr mo ys ya yt yn yx yr yd yo f x sf sx tf ty rd mm gs ga gt gn tx gr gd hv hg go n c pn tk hs rs ov) (lwL sb b mo yo (4 * q)) 1613 [] := by
    intro c9 s9 f x sf sx tf ty rd mm gs ga gt gn tx gr gd hv hg go n c pn tk hs rs ov h1 h2 h3
    refine J_iinc C (v := nI (4 * q + 4)) (lwL sb b mo yo (4 * (q + 1))) dL_law_1613 rfl (nI_o4 _) (hN 4 (by decide)) rfl ?_
    refine J_goto C 23 dL_law_1616 (by decide) ?_
    exact ih f x sf sx tf ty rd mm gs ga gt gn tx gr gd hv hg go n c pn tk hs rs ov (q + 1) c9 s9 (by omega) (by omega) (by omega) (by omega) h3
  have kk0 := kk cc ss f x sf sx tf ty rd mm gs ga gt gn tx gr gd hv hg go n c pn tk hs rs ov (by omega) (by omega) hrel
  by_cases c_0 : xs (4 * q) &&& 31 = 0
  · refine J_tableIn C (0 : Int32) (137) 176 dL_law_39 c_0 (by decide) (by decide) (by decide) (by decide) ?_
    exact lw_c0 C hnL S hNN b a v mu h r s0 v0 m0 s1 v1 m1 s2 v2 m2 s3 v3 m3 sa sv sm ta tv tm pa pt pr mo ys ya yt yn yx yr yd yo f x sf sx tf ty rd mm gs ga gt gn tx gr gd hv hg go n c pn tk hs rs ov (4 * q) cc ss (by omega) (by omega) (by omega) hrel kk
  by_cases c_1 : xs (4 * q) &&& 31 = 1
  · refine J_tableIn C (1 : Int32) (193) 232 dL_law_39 c_1 (by decide) (by decide) (by decide) (by decide) ?_
    exact lw_c1 C hnL S hNN b a v mu h r s0 v0 m0 s1 v1 m1 s2 v2 m2 s3 v3 m3 sa sv sm ta tv tm pa pt pr mo ys ya yt yn yx yr yd yo f x sf sx tf ty rd mm gs ga gt gn tx gr gd hv hg go n c pn tk hs rs ov (4 * q) cc ss (by omega) (by omega) (by omega) hrel kk
  by_cases c_2 : xs (4 * q) &&& 31 = 2
  · refine J_tableIn C (2 : Int32) (261) 300 dL_law_39 c_2 (by decide) (by decide) (by decide) (by decide) ?_
    exact lw_c2 C hnL S hNN b a v mu h r s0 v0 m0 s1 v1 m1 s2 v2 m2 s3 v3 m3 sa sv sm ta tv tm pa pt pr mo ys ya yt yn yx yr yd yo f x sf sx tf ty rd mm gs ga gt gn tx gr gd hv hg go n c pn tk hs rs ov (4 * q) cc ss (by omega) (by omega) (by omega) hrel kk
  by_cases c_3 : xs (4 * q) &&& 31 = 3
  · refine J_tableIn C (3 : Int32) (341) 380 dL_law_39 c_3 (by decide) (by decide) (by decide) (by decide) ?_
    exact lw_c3 C hnL S hNN b a v mu h r s0 v0 m0 s1 v1 m1 s2 v2 m2 s3 v3 m3 sa sv sm ta tv tm pa pt pr mo ys ya yt yn yx yr yd yo f x sf sx tf ty rd mm gs ga gt gn tx gr gd hv hg go n c pn tk hs rs ov (4 * q) cc ss (by omega) (by omega) (by omega) hrel kk
  by_cases c_4 : xs (4 * q) &&& 31 = 4
  · refine J_tableIn C (4 : Int32) (385) 424 dL_law_39 c_4 (by decide) (by decide) (by decide) (by decide) ?_
    by_cases h3 : x 3 = -1
    · exact lw_c4a C hnL S hNN b a v mu h r s0 v0 m0 s1 v1 m1 s2 v2 m2 s3 v3 m3 sa sv sm ta tv tm pa pt pr mo ys ya yt yn yx yr yd yo f x sf sx tf ty rd mm gs ga gt gn tx gr gd hv hg go n c pn tk hs rs ov (4 * q) cc ss (by omega) (by omega) (by omega) hrel h3 kk
    · obtain ⟨W, R⟩ := hrel.1
      obtain ⟨N4, hN4, hN9, -⟩ := rl_q R h3
      exact lw_c4b C hnL S hNN b a v mu h r s0 v0 m0 s1 v1 m1 s2 v2 m2 s3 v3 m3 sa sv sm ta tv tm pa pt pr mo ys ya yt yn yx yr yd yo f x sf sx tf ty rd mm gs ga gt gn tx gr gd hv hg go n c pn tk hs rs ov (4 * q) cc ss (by omega) (by omega) (by omega) hrel hN4 hN9 kk
  by_cases c_5 : xs (4 * q) &&& 31 = 5
  · refine J_tableIn C (5 : Int32) (429) 468 dL_law_39 c_5 (by decide) (by decide) (by decide) (by decide) ?_
    exact lw_c5 C hnL S hNN b a v mu h r s0 v0 m0 s1 v1 m1 s2 v2 m2 s3 v3 m3 sa sv sm ta tv tm pa pt pr mo ys ya yt yn yx yr yd yo f x sf sx tf ty rd mm gs ga gt gn tx gr gd hv hg go n c pn tk hs rs ov (4 * q) cc ss (by omega) (by omega) (by omega) hrel kk
  by_cases c_6 : xs (4 * q) &&& 31 = 6
  · refine J_tableIn C (6 : Int32) (485) 524 dL_law_39 c_6 (by decide) (by decide) (by decide) (by decide) ?_
    exact lw_c6 C hnL S hNN b a v mu h r s0 v0 m0 s1 v1 m1 s2 v2 m2 s3 v3 m3 sa sv sm ta tv tm pa pt pr mo ys ya yt yn yx yr yd yo f x sf sx tf ty rd mm gs ga gt gn tx gr gd hv hg go n c pn tk hs rs ov (4 * q) cc ss (by omega) (by omega) (by omega) hrel kk
  by_cases c_7 : xs (4 * q) &&& 31 = 7
  · refine J_tableIn C (7 : Int32) (543) 582 dL_law_39 c_7 (by decide) (by decide) (by decide) (by decide) ?_
    exact lw_c7 C hnL S hNN b a v mu h r s0 v0 m0 s1 v1 m1 s2 v2 m2 s3 v3 m3 sa sv sm ta tv tm pa pt pr mo ys ya yt yn yx yr yd yo f x sf sx tf ty rd mm gs ga gt gn tx gr gd hv hg go n c pn tk hs rs ov (4 * q) cc ss (by omega) (by omega) (by omega) hrel kk
  by_cases c_8 : xs (4 * q) &&& 31 = 8
  · refine J_tableIn C (8 : Int32) (556) 595 dL_law_39 c_8 (by decide) (by decide) (by decide) (by decide) ?_
    exact lw_c8 C hnL S hNN b a v mu h r s0 v0 m0 s1 v1 m1 s2 v2 m2 s3 v3 m3 sa sv sm ta tv tm pa pt pr mo ys ya yt yn yx yr yd yo f x sf sx tf ty rd mm gs ga gt gn tx gr gd hv hg go n c pn tk hs rs ov (4 * q) cc ss (by omega) (by omega) (by omega) hrel kk
  by_cases c_9 : xs (4 * q) &&& 31 = 9
  · refine J_tableIn C (9 : Int32) (569) 608 dL_law_39 c_9 (by decide) (by decide) (by decide) (by decide) ?_
    exact lw_c9 C hnL S hNN b a v mu h r s0 v0 m0 s1 v1 m1 s2 v2 m2 s3 v3 m3 sa sv sm ta tv tm pa pt pr mo ys ya yt yn yx yr yd yo f x sf sx tf ty rd mm gs ga gt gn tx gr gd hv hg go n c pn tk hs rs ov (4 * q) cc ss (by omega) (by omega) (by omega) hrel kk
  by_cases c_10 : xs (4 * q) &&& 31 = 10
  · refine J_tableIn C (10 : Int32) (613) 652 dL_law_39 c_10 (by decide) (by decide) (by decide) (by decide) ?_
    exact lw_c10 C hnL S hNN b a v mu h r s0 v0 m0 s1 v1 m1 s2 v2 m2 s3 v3 m3 sa sv sm ta tv tm pa pt pr mo ys ya yt yn yx yr yd yo f x sf sx tf ty rd mm gs ga gt gn tx gr gd hv hg go n c pn tk hs rs ov (4 * q) cc ss (by omega) (by omega) (by omega) hrel kk
  by_cases c_11 : xs (4 * q) &&& 31 = 11
  · refine J_tableIn C (11 : Int32) (657) 696 dL_law_39 c_11 (by decide) (by decide) (by decide) (by decide) ?_
    exact lw_c11 C hnL S hNN b a v mu h r s0 v0 m0 s1 v1 m1 s2 v2 m2 s3 v3 m3 sa sv sm ta tv tm pa pt pr mo ys ya yt yn yx yr yd yo f x sf sx tf ty rd mm gs ga gt gn tx gr gd hv hg go n c pn tk hs rs ov (4 * q) cc ss (by omega) (by omega) (by omega) hrel kk
  by_cases c_12 : xs (4 * q) &&& 31 = 12
  · refine J_tableIn C (12 : Int32) (701) 740 dL_law_39 c_12 (by decide) (by decide) (by decide) (by decide) ?_
    exact lw_c12 C hnL S hNN b a v mu h r s0 v0 m0 s1 v1 m1 s2 v2 m2 s3 v3 m3 sa sv sm ta tv tm pa pt pr mo ys ya yt yn yx yr yd yo f x sf sx tf ty rd mm gs ga gt gn tx gr gd hv hg go n c pn tk hs rs ov (4 * q) cc ss (by omega) (by omega) (by omega) hrel kk
  by_cases c_13 : xs (4 * q) &&& 31 = 13
  · refine J_tableIn C (13 : Int32) (714) 753 dL_law_39 c_13 (by decide) (by decide) (by decide) (by decide) ?_
    exact lw_c13 C hnL S hNN b a v mu h r s0 v0 m0 s1 v1 m1 s2 v2 m2 s3 v3 m3 sa sv sm ta tv tm pa pt pr mo ys ya yt yn yx yr yd yo f x sf sx tf ty rd mm gs ga gt gn tx gr gd hv hg go n c pn tk hs rs ov (4 * q) cc ss (by omega) (by omega) (by omega) hrel kk
  by_cases c_14 : xs (4 * q) &&& 31 = 14
  · refine J_tableIn C (14 : Int32) (758) 797 dL_law_39 c_14 (by decide) (by decide) (by decide) (by decide) ?_
    exact lw_c14 C hnL S hNN b a v mu h r s0 v0 m0 s1 v1 m1 s2 v2 m2 s3 v3 m3 sa sv sm ta tv tm pa pt pr mo ys ya yt yn yx yr yd yo f x sf sx tf ty rd mm gs ga gt gn tx gr gd hv hg go n c pn tk hs rs ov (4 * q) cc ss (by omega) (by omega) (by omega) hrel kk
  by_cases c_15 : xs (4 * q) &&& 31 = 15
  · refine J_tableIn C (15 : Int32) (771) 810 dL_law_39 c_15 (by decide) (by decide) (by decide) (by decide) ?_
    exact lw_c15 C hnL S hNN b a v mu h r s0 v0 m0 s1 v1 m1 s2 v2 m2 s3 v3 m3 sa sv sm ta tv tm pa pt pr mo ys ya yt yn yx yr yd yo f x sf sx tf ty rd mm gs ga gt gn tx gr gd hv hg go n c pn tk hs rs ov (4 * q) cc ss (by omega) (by omega) (by omega) hrel kk
  by_cases c_16 : xs (4 * q) &&& 31 = 16
  · refine J_tableIn C (16 : Int32) (827) 866 dL_law_39 c_16 (by decide) (by decide) (by decide) (by decide) ?_
    exact lw_c16 C hnL S hNN b a v mu h r s0 v0 m0 s1 v1 m1 s2 v2 m2 s3 v3 m3 sa sv sm ta tv tm pa pt pr mo ys ya yt yn yx yr yd yo f x sf sx tf ty rd mm gs ga gt gn tx gr gd hv hg go n c pn tk hs rs ov (4 * q) cc ss (by omega) (by omega) (by omega) hrel kk
  by_cases c_17 : xs (4 * q) &&& 31 = 17
  · refine J_tableIn C (17 : Int32) (883) 922 dL_law_39 c_17 (by decide) (by decide) (by decide) (by decide) ?_
    by_cases h3 : xs (4 * q + 2) = 1
    · exact lw_c17t C hnL S hNN b a v mu h r s0 v0 m0 s1 v1 m1 s2 v2 m2 s3 v3 m3 sa sv sm ta tv tm pa pt pr mo ys ya yt yn yx yr yd yo f x sf sx tf ty rd mm gs ga gt gn tx gr gd hv hg go n c pn tk hs rs ov (4 * q) cc ss (by omega) (by omega) (by omega) hrel h3 kk
    · exact lw_c17p C hnL S hNN b a v mu h r s0 v0 m0 s1 v1 m1 s2 v2 m2 s3 v3 m3 sa sv sm ta tv tm pa pt pr mo ys ya yt yn yx yr yd yo f x sf sx tf ty rd mm gs ga gt gn tx gr gd hv hg go n c pn tk hs rs ov (4 * q) cc ss (by omega) (by omega) (by omega) hrel h3 kk
  by_cases c_18 : xs (4 * q) &&& 31 = 18
  · refine J_tableIn C (18 : Int32) (963) 1002 dL_law_39 c_18 (by decide) (by decide) (by decide) (by decide) ?_
    exact lw_c18 C hnL S hNN b a v mu h r s0 v0 m0 s1 v1 m1 s2 v2 m2 s3 v3 m3 sa sv sm ta tv tm pa pt pr mo ys ya yt yn yx yr yd yo f x sf sx tf ty rd mm gs ga gt gn tx gr gd hv hg go n c pn tk hs rs ov (4 * q) cc ss (by omega) (by omega) (by omega) hrel kk
  by_cases c_19 : xs (4 * q) &&& 31 = 19
  · refine J_tableIn C (19 : Int32) (1031) 1070 dL_law_39 c_19 (by decide) (by decide) (by decide) (by decide) ?_
    exact lw_c19 C hnL S hNN b a v mu h r s0 v0 m0 s1 v1 m1 s2 v2 m2 s3 v3 m3 sa sv sm ta tv tm pa pt pr mo ys ya yt yn yx yr yd yo f x sf sx tf ty rd mm gs ga gt gn tx gr gd hv hg go n c pn tk hs rs ov (4 * q) cc ss (by omega) (by omega) (by omega) hrel kk
  by_cases c_20 : xs (4 * q) &&& 31 = 20
  · refine J_tableIn C (20 : Int32) (1111) 1150 dL_law_39 c_20 (by decide) (by decide) (by decide) (by decide) ?_
    exact lw_c20 C hnL S hNN b a v mu h r s0 v0 m0 s1 v1 m1 s2 v2 m2 s3 v3 m3 sa sv sm ta tv tm pa pt pr mo ys ya yt yn yx yr yd yo f x sf sx tf ty rd mm gs ga gt gn tx gr gd hv hg go n c pn tk hs rs ov (4 * q) cc ss (by omega) (by omega) (by omega) hrel kk
  by_cases c_21 : xs (4 * q) &&& 31 = 21
  · refine J_tableIn C (21 : Int32) (1179) 1218 dL_law_39 c_21 (by decide) (by decide) (by decide) (by decide) ?_
    exact lw_c21 C hnL S hNN b a v mu h r s0 v0 m0 s1 v1 m1 s2 v2 m2 s3 v3 m3 sa sv sm ta tv tm pa pt pr mo ys ya yt yn yx yr yd yo f x sf sx tf ty rd mm gs ga gt gn tx gr gd hv hg go n c pn tk hs rs ov (4 * q) cc ss (by omega) (by omega) (by omega) hrel kk
  by_cases c_22 : xs (4 * q) &&& 31 = 22
  · refine J_tableIn C (22 : Int32) (1254) 1293 dL_law_39 c_22 (by decide) (by decide) (by decide) (by decide) ?_
    exact lw_c22 C hnL S hNN b a v mu h r s0 v0 m0 s1 v1 m1 s2 v2 m2 s3 v3 m3 sa sv sm ta tv tm pa pt pr mo ys ya yt yn yx yr yd yo f x sf sx tf ty rd mm gs ga gt gn tx gr gd hv hg go n c pn tk hs rs ov (4 * q) cc ss (by omega) (by omega) (by omega) hrel kk
  by_cases c_23 : xs (4 * q) &&& 31 = 23
  · refine J_tableIn C (23 : Int32) (1267) 1306 dL_law_39 c_23 (by decide) (by decide) (by decide) (by decide) ?_
    exact lw_c23 C hnL S hNN b a v mu h r s0 v0 m0 s1 v1 m1 s2 v2 m2 s3 v3 m3 sa sv sm ta tv tm pa pt pr mo ys ya yt yn yx yr yd yo f x sf sx tf ty rd mm gs ga gt gn tx gr gd hv hg go n c pn tk hs rs ov (4 * q) cc ss (by omega) (by omega) (by omega) hrel kk
  by_cases c_24 : xs (4 * q) &&& 31 = 24
  · refine J_tableIn C (24 : Int32) (1311) 1350 dL_law_39 c_24 (by decide) (by decide) (by decide) (by decide) ?_
    exact lw_c24 C hnL S hNN b a v mu h r s0 v0 m0 s1 v1 m1 s2 v2 m2 s3 v3 m3 sa sv sm ta tv tm pa pt pr mo ys ya yt yn yx yr yd yo f x sf sx tf ty rd mm gs ga gt gn tx gr gd hv hg go n c pn tk hs rs ov (4 * q) cc ss (by omega) (by omega) (by omega) hrel kk
  by_cases c_25 : xs (4 * q) &&& 31 = 25
  · refine J_tableIn C (25 : Int32) (1355) 1394 dL_law_39 c_25 (by decide) (by decide) (by decide) (by decide) ?_
    exact lw_c25 C hnL S hNN b a v mu h r s0 v0 m0 s1 v1 m1 s2 v2 m2 s3 v3 m3 sa sv sm ta tv tm pa pt pr mo ys ya yt yn yx yr yd yo f x sf sx tf ty rd mm gs ga gt gn tx gr gd hv hg go n c pn tk hs rs ov (4 * q) cc ss (by omega) (by omega) (by omega) hrel kk
  by_cases c_26 : xs (4 * q) &&& 31 = 26
  · refine J_tableIn C (26 : Int32) (1399) 1438 dL_law_39 c_26 (by decide) (by decide) (by decide) (by decide) ?_
    exact lw_c26 C hnL S hNN b a v mu h r s0 v0 m0 s1 v1 m1 s2 v2 m2 s3 v3 m3 sa sv sm ta tv tm pa pt pr mo ys ya yt yn yx yr yd yo f x sf sx tf ty rd mm gs ga gt gn tx gr gd hv hg go n c pn tk hs rs ov (4 * q) cc ss (by omega) (by omega) (by omega) hrel kk
  by_cases c_27 : xs (4 * q) &&& 31 = 27
  · refine J_tableIn C (27 : Int32) (1467) 1506 dL_law_39 c_27 (by decide) (by decide) (by decide) (by decide) ?_
    exact lw_c27 C hnL S hNN b a v mu h r s0 v0 m0 s1 v1 m1 s2 v2 m2 s3 v3 m3 sa sv sm ta tv tm pa pt pr mo ys ya yt yn yx yr yd yo f x sf sx tf ty rd mm gs ga gt gn tx gr gd hv hg go n c pn tk hs rs ov (4 * q) cc ss (by omega) (by omega) (by omega) hrel kk
  by_cases c_28 : xs (4 * q) &&& 31 = 28
  · refine J_tableIn C (28 : Int32) (1535) 1574 dL_law_39 c_28 (by decide) (by decide) (by decide) (by decide) ?_
    exact lw_c28 C hnL S hNN b a v mu h r s0 v0 m0 s1 v1 m1 s2 v2 m2 s3 v3 m3 sa sv sm ta tv tm pa pt pr mo ys ya yt yn yx yr yd yo f x sf sx tf ty rd mm gs ga gt gn tx gr gd hv hg go n c pn tk hs rs ov (4 * q) cc ss (by omega) (by omega) (by omega) hrel kk
  by_cases c_29 : xs (4 * q) &&& 31 = 29
  · refine J_tableIn C (29 : Int32) (1548) 1587 dL_law_39 c_29 (by decide) (by decide) (by decide) (by decide) ?_
    exact lw_c29 C hnL S hNN b a v mu h r s0 v0 m0 s1 v1 m1 s2 v2 m2 s3 v3 m3 sa sv sm ta tv tm pa pt pr mo ys ya yt yn yx yr yd yo f x sf sx tf ty rd mm gs ga gt gn tx gr gd hv hg go n c pn tk hs rs ov (4 * q) cc ss (by omega) (by omega) (by omega) hrel kk
  by_cases c_30 : xs (4 * q) &&& 31 = 30
  · refine J_tableIn C (30 : Int32) (1561) 1600 dL_law_39 c_30 (by decide) (by decide) (by decide) (by decide) ?_
    exact lw_c30 C hnL S hNN b a v mu h r s0 v0 m0 s1 v1 m1 s2 v2 m2 s3 v3 m3 sa sv sm ta tv tm pa pt pr mo ys ya yt yn yx yr yd yo f x sf sx tf ty rd mm gs ga gt gn tx gr gd hv hg go n c pn tk hs rs ov (4 * q) cc ss (by omega) (by omega) (by omega) hrel kk
  refine J_tableOut C 1613 dL_law_39 (by have g0 := neI c_0 (show (0 : Int32).toInt = 0 from rfl); have g1 := neI c_1 (show (1 : Int32).toInt = 1 from rfl); have g2 := neI c_2 (show (2 : Int32).toInt = 2 from rfl); have g3 := neI c_3 (show (3 : Int32).toInt = 3 from rfl); have g4 := neI c_4 (show (4 : Int32).toInt = 4 from rfl); have g5 := neI c_5 (show (5 : Int32).toInt = 5 from rfl); have g6 := neI c_6 (show (6 : Int32).toInt = 6 from rfl); have g7 := neI c_7 (show (7 : Int32).toInt = 7 from rfl); have g8 := neI c_8 (show (8 : Int32).toInt = 8 from rfl); have g9 := neI c_9 (show (9 : Int32).toInt = 9 from rfl); have g10 := neI c_10 (show (10 : Int32).toInt = 10 from rfl); have g11 := neI c_11 (show (11 : Int32).toInt = 11 from rfl); have g12 := neI c_12 (show (12 : Int32).toInt = 12 from rfl); have g13 := neI c_13 (show (13 : Int32).toInt = 13 from rfl); have g14 := neI c_14 (show (14 : Int32).toInt = 14 from rfl); have g15 := neI c_15 (show (15 : Int32).toInt = 15 from rfl); have g16 := neI c_16 (show (16 : Int32).toInt = 16 from rfl); have g17 := neI c_17 (show (17 : Int32).toInt = 17 from rfl); have g18 := neI c_18 (show (18 : Int32).toInt = 18 from rfl); have g19 := neI c_19 (show (19 : Int32).toInt = 19 from rfl); have g20 := neI c_20 (show (20 : Int32).toInt = 20 from rfl); have g21 := neI c_21 (show (21 : Int32).toInt = 21 from rfl); have g22 := neI c_22 (show (22 : Int32).toInt = 22 from rfl); have g23 := neI c_23 (show (23 : Int32).toInt = 23 from rfl); have g24 := neI c_24 (show (24 : Int32).toInt = 24 from rfl); have g25 := neI c_25 (show (25 : Int32).toInt = 25 from rfl); have g26 := neI c_26 (show (26 : Int32).toInt = 26 from rfl); have g27 := neI c_27 (show (27 : Int32).toInt = 27 from rfl); have g28 := neI c_28 (show (28 : Int32).toInt = 28 from rfl); have g29 := neI c_29 (show (29 : Int32).toInt = 29 from rfl); have g30 := neI c_30 (show (30 : Int32).toInt = 30 from rfl); omega) (by decide) ?_
  exact kk0

