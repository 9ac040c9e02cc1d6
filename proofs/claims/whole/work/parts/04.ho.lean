theorem FnP_ofFn {γ : Type} {U : jU} {y : MethodName} {wy : List Cond} {rm : Room} {av : List Value} {W0 : va_W} {r0 : Option Value} {w0 : va_W} {mc ms : Nat} {P : γ → Prop} {r : γ → Option Value} {W1 : γ → va_W} (h : Fn U y wy rm av W0 r0 w0 mc ms) (z : γ) (hz : P z) (hr : r z = r0) (hw : W1 z = w0) : FnP U y wy rm av W0 P r W1 mc ms := fun hst sz p e h1 h2 h3 s m args below a b c d => by
  obtain ⟨n, o, x1, x2, x3, ⟨⟨⟨q1, q2, q3⟩, q4⟩, q5⟩⟩ := h hst sz p e h1 h2 h3 s m args below a b c d
  exact ⟨n, o, x1, x2, x3, ⟨⟨z, hz, q1.trans (congrArg Outcome.returned hr.symm), by rw [hw]; exact q2, by rw [hw]; exact q3⟩, q4⟩, q5⟩
theorem gr3 (gr : Nat → Int32) (r : Nat) (a b c : Int32) : (∀ j, j < 4 * r → upd (upd (upd gr (4 * r) a) (4 * r + 1) b) (4 * r + 2) c j = gr j) ∧ upd (upd (upd gr (4 * r) a) (4 * r + 1) b) (4 * r + 2) c (4 * r) = a ∧ upd (upd (upd gr (4 * r) a) (4 * r + 1) b) (4 * r + 2) c (4 * r + 1) = b ∧ upd (upd (upd gr (4 * r) a) (4 * r + 1) b) (4 * r + 2) c (4 * r + 2) = c :=
  ⟨fun j hj => by rw [upd_ne (by omega), upd_ne (by omega), upd_ne (by omega)], by rw [upd_ne (by omega), upd_ne (by omega), upd_at], by rw [upd_ne (by omega), upd_at], upd_at _ _ _⟩
theorem gr5 (gr : Nat → Int32) (r : Nat) (a b c d e : Int32) : (∀ j, j < 4 * r → upd (upd (upd (upd (upd gr (4 * r) a) (4 * r + 1) b) (4 * r + 2) c) (4 * r + 1) d) (4 * r + 3) e j = gr j) ∧ upd (upd (upd (upd (upd gr (4 * r) a) (4 * r + 1) b) (4 * r + 2) c) (4 * r + 1) d) (4 * r + 3) e (4 * r) = a ∧ upd (upd (upd (upd (upd gr (4 * r) a) (4 * r + 1) b) (4 * r + 2) c) (4 * r + 1) d) (4 * r + 3) e (4 * r + 1) = d ∧ upd (upd (upd (upd (upd gr (4 * r) a) (4 * r + 1) b) (4 * r + 2) c) (4 * r + 1) d) (4 * r + 3) e (4 * r + 2) = c ∧ upd (upd (upd (upd (upd gr (4 * r) a) (4 * r + 1) b) (4 * r + 2) c) (4 * r + 1) d) (4 * r + 3) e (4 * r + 3) = e :=
  ⟨fun j hj => by rw [upd_ne (by omega), upd_ne (by omega), upd_ne (by omega), upd_ne (by omega), upd_ne (by omega)], by rw [upd_ne (by omega), upd_ne (by omega), upd_ne (by omega), upd_ne (by omega), upd_at], by rw [upd_ne (by omega), upd_at], by rw [upd_ne (by omega), upd_ne (by omega), upd_at], upd_at _ _ _⟩
theorem sdF {gx gr gr' : Nat → Int32} {n i r a : Nat} {rd : Nat → Int32} (hg : ∀ j, j < 4 * r → gr' j = gr j) (h : thr gx n i a rd) (hw : ¬ rdW rd) (hs : stopR gx n a rd) : sdP gx gr n i r (0, a, r, gr') := ⟨hg, Or.inl ⟨rfl, rfl, rd, h, hw, hs⟩⟩
theorem sdO {gx gr gr' : Nat → Int32} {n i r a : Nat} {rd : Nat → Int32} (hg : ∀ j, j < 4 * r → gr' j = gr j) (h3 : i + 3 ≤ a) (h : thr gx n i a rd) (hw : rdW rd) (hs : stopR gx n a rd) (he : encR rd (gr' (4 * r)) (gr' (4 * r + 1)) (gr' (4 * r + 2)) (gr' (4 * r + 3))) : sdP gx gr n i r (1, a, r + 1, gr') := ⟨hg, Or.inr ⟨rfl, rfl, h3, rd, h, hw, hs, he⟩⟩
theorem nl_ge {gx : Nat → Int32} {n : Nat} {most : Int32} : ∀ (k a : Nat) (v : Int32), a ≤ (nlF gx n most k a v).1 := by
  intro k
  induction k with
  | zero => exact fun a v => Nat.le_refl _
  | succ k ih =>
    intro a v
    rw [nlF]
    split
    · exact Nat.le_trans (Nat.le_succ _) (ih _ _)
    · exact Nat.le_refl _
theorem one_49 (c : Int32) : 1 + (c - 49) = wdF 0 c := by
  rw [wdF, Int32.zero_mul, Int32.zero_add, Int32.sub_eq_add_neg, Int32.sub_eq_add_neg, ← Int32.add_assoc, Int32.add_comm 1 c, Int32.add_assoc]
  rfl
theorem z_48 (c : Int32) : c - 48 = wdF 0 c := by rw [wdF, Int32.zero_mul, Int32.zero_add]
theorem sa8 {g u c : Int32} : saF 8 g u c = -1 := (if_neg (by decide)).trans ((if_neg (by decide)).trans ((if_neg (by decide)).trans ((if_neg (by decide)).trans ((if_neg (by decide)).trans ((if_neg (by decide)).trans ((if_neg (by decide)).trans (if_neg (by decide))))))))
theorem sa1 {g u c : Int32} : saF 1 g u c = if c = 61 then 2 else -1 := (if_neg (by decide)).trans (if_pos rfl)
theorem sa2 {g u c : Int32} : saF 2 g u c = sasF c := (if_neg (by decide)).trans ((if_neg (by decide)).trans (if_pos rfl))
theorem sa3 {g u c : Int32} : saF 3 g u c = if c = 43 ∨ c = 45 ∨ c = 42 then 4 else -1 := (if_neg (by decide)).trans ((if_neg (by decide)).trans ((if_neg (by decide)).trans (if_pos rfl)))
theorem stop_8 {gx : Nat → Int32} {n a : Nat} {t f o s g u : Int32} : stopR gx n a (mkR 8 t f o s g u) := fun _ => Or.inl sa8
theorem enc_h1 (f : Nat → Int32) (sg t fi s v a3 : Int32) : rsF f (mkR sg t fi 35 s 1 v) = rsR f 35 (-v) a3 := by
  show resF f fi 35 s 1 v = _
  rw [resF, rsR, if_neg (by decide), if_neg (by decide), if_neg (by decide), if_neg (by decide), if_pos rfl]
theorem enc_h0 (f : Nat → Int32) (sg t fi s v a3 : Int32) : rsF f (mkR sg t fi 35 s 0 v) = rsR f 35 v a3 := by
  show resF f fi 35 s 0 v = _
  rw [resF, rsR, if_neg (by decide), if_neg (by decide), if_neg (by decide), if_pos rfl, if_pos rfl]
theorem enc_p (f : Nat → Int32) (sg t a b g u : Int32) : rsF f (mkR sg t a 43 b g u) = rsR f 43 a b := by
  show resF f a 43 b g u = _
  rw [resF, rsR, if_pos rfl, if_neg (by decide), if_neg (by decide), if_pos rfl]
theorem enc_m (f : Nat → Int32) (sg t a b g u : Int32) : rsF f (mkR sg t a 45 b g u) = rsR f 115 a b := by
  show resF f a 45 b g u = _
  rw [resF, rsR, if_neg (by decide), if_pos rfl, if_neg (by decide), if_neg (by decide), if_neg (by decide), if_neg (by decide), if_pos rfl]
theorem enc_t (f : Nat → Int32) (sg t a b g u : Int32) : rsF f (mkR sg t a 42 b g u) = rsR f 42 a b := by
  show resF f a 42 b g u = _
  rw [resF, rsR, if_neg (by decide), if_neg (by decide), if_pos rfl, if_neg (by decide), if_pos rfl]
theorem enc_1 (f : Nat → Int32) (sg t b g u a3 : Int32) : rsF f (mkR sg t (-1) 45 b g u) = rsR f 45 b a3 := by
  show resF f (-1) 45 b g u = _
  rw [resF, rsR, if_neg (by decide), if_pos rfl, if_neg (by decide), if_neg (by decide), if_neg (by decide), if_pos rfl, valF_m, Int32.zero_sub]
theorem enc_0 (f : Nat → Int32) (sg t a g u a3 : Int32) : rsF f (mkR sg t a 43 (-1) g u) = rsR f 0 a a3 := by
  show resF f a 43 (-1) g u = _
  rw [resF, rsR, if_pos rfl, if_neg (by decide), if_neg (by decide), if_neg (by decide), if_neg (by decide), if_neg (by decide), valF_m, Int32.add_zero]
theorem wd_z : wdF 0 48 = 0 := by decide
theorem stop_c {gx : Nat → Int32} {n a : Nat} {rd : Nat → Int32} {c : Int32} (hc : sgF gx n a = c) (h : rdN rd c) : stopR gx n a rd := fun q => Or.inl (by rw [← sgx (gx := gx) q, hc]; exact h)
theorem dig_b {c : Int32} (h : inF c 48 57) : 48 ≤ c.toInt ∧ c.toInt ≤ 57 := by
  constructor
  · have := h.1; rw [Int32.lt_iff_toInt_lt] at this; have e : (48 : Int32).toInt = 48 := rfl; omega
  · have := h.2; rw [Int32.lt_iff_toInt_lt] at this; have e : (57 : Int32).toInt = 57 := rfl; omega
theorem dig_1 {c : Int32} (h : inF c 48 57) (h8 : ¬ c = 48) : inF c 49 57 := by
  refine ⟨fun q => ?_, h.2⟩
  rw [Int32.lt_iff_toInt_lt, show (49 : Int32).toInt = 49 from rfl] at q
  have := dig_b h
  exact h8 (Int32.toInt_inj.mp (show c.toInt = 48 by omega))
theorem dig_0 {c : Int32} (h : inF c 49 57) : inF c 48 57 ∧ ¬ c = 48 := by
  refine ⟨⟨fun q => h.1 ?_, h.2⟩, c_ne h (by decide)⟩
  rw [Int32.lt_iff_toInt_lt] at q ⊢
  rw [show (48 : Int32).toInt = 48 from rfl] at q
  rw [show (49 : Int32).toInt = 49 from rfl]
  omega
theorem wd_b {c : Int32} (h : inF c 48 57) (h8 : ¬ c = 48) : 1 ≤ (wdF 0 c).toInt ∧ (wdF 0 c).toInt ≤ 32768 := by
  obtain ⟨w1, w2, w3⟩ := wd_int (v := 0) (by decide) h
  rw [show (0 : Int32).toInt = 0 from rfl] at w1
  have := neI h8 (show (48 : Int32).toInt = 48 from rfl)
  omega
set_option maxHeartbeats 4000000 in
set_option maxRecDepth 100000 in
theorem c_X6_readsStep_P (U : jU) (m ys ya yt yn yx yr yd : Nat) (xth xsm xhs xln xat xiw xrm xfb xlr xdm : Int32) (gx gr : Nat → Int32) (n i r : Nat) (hn : n ≤ 60) (hi : i ≤ 60) (hr : r ≤ 15) (hin : i ≤ n) : FnP U yX6_readsStep wsX6_readsStep { frames := 3, cells := 0, slots := 0, locals := 68 } [.ref m] [(m, .inr (6, [.int xth, .ref ys, .ref ya, .ref yt, .int xsm, .ref yn, .int xhs, .ref yx, .int (nI n), .int (nI i), .int xiw, .ref yr, .int (nI r), .int xfb, .int xlr, .ref yd, .int xdm])), (yx, .inl (U.2.2.1 0, 60, .inl gx)), (yr, .inl (U.2.2.1 0, 64, .inl gr))] (γ := jZ4) (sdP gx gr n i r) (fun z => none) (fun z => [(m, .inr (6, [.int xth, .ref ys, .ref ya, .ref yt, .int xsm, .ref yn, .int xhs, .ref yx, .int (nI n), .int (nI z.2.1), .int z.1, .ref yr, .int (nI z.2.2.1), .int xfb, .int xlr, .ref yd, .int xdm])), (yx, .inl (U.2.2.1 0, 60, .inl gx)), (yr, .inl (U.2.2.1 0, 64, .inl z.2.2.2))]) 0 0 := by
  have T0 : thr gx n i i (mkR 0 (-1) (-1) 43 (-1) 0 0) := by rw [← rdS_mk]; exact thr_0 hin
  by_cases v0 : inF (sgF gx n i) 65 70
  rotate_left
  · exact FnP_ofFn (c_X6_readsStep_F1 U m ys ya yt yn yx yr yd xth xsm xhs xln xat xiw xrm xfb xlr xdm gx gr n i r v0 hn hi hr) _ (sdF (a := i) (gr3 _ _ _ _ _).1 T0 (by decide) (stop_c rfl (if_neg v0))) rfl rfl
  have T1 := thr_s T0 (c_ne v0 (by decide)) (c_ne v0 (by decide)) (rT_0 v0)
  by_cases v1 : inF (sgF gx n (i + 1)) 61 61
  rotate_left
  · exact FnP_ofFn (c_X6_readsStep_F2 U m ys ya yt yn yx yr yd xth xsm xhs xln xat xiw xrm xfb xlr xdm gx gr n i r v0 v1 hn hi hr) _ (sdF (a := i + 1) (gr3 _ _ _ _ _).1 T1 (show ¬ ((1 : Int32) = 3 ∨ (1 : Int32) = 7 ∨ (1 : Int32) = 8) by decide) (stop_c rfl (sa1.trans (if_neg (fun q => v1 (by rw [q]; decide)))))) rfl rfl
  have e1 : sgF gx n (i + 1) = 61 := Int32.le_antisymm (Int32.not_lt.mp v1.2) (Int32.not_lt.mp v1.1)
  have T2 := thr_s T1 (c_ne v1 (by decide)) (c_ne v1 (by decide)) (rT_1 e1)
  by_cases v2 : sgF gx n (i + 1 + 1) = 45
  · have T3 := thr_s T2 (by rw [v2]; decide) (by rw [v2]; decide) (by rw [v2]; exact rT_2m)
    have v9 : ¬ sgF gx n (i + 1 + 1) = 35 := by rw [v2]; decide
    by_cases v3 : inF (sgF gx n (i + 1 + 1 + 1)) 65 70
    rotate_left
    · exact FnP_ofFn (c_X6_readsStep_F3 U m ys ya yt yn yx yr yd xth xsm xhs xln xat xiw xrm xfb xlr xdm gx gr n i r v0 v1 v2 v9 v3 hn hi hr) _ (sdF (a := i + 1 + 1 + 1) (gr3 _ _ _ _ _).1 T3 (show ¬ ((4 : Int32) = 3 ∨ (4 : Int32) = 7 ∨ (4 : Int32) = 8) by decide) (stop_c rfl (sa4.trans (if_neg v3)))) rfl rfl
    have T4 := thr_s T3 (c_ne v3 (by decide)) (c_ne v3 (by decide)) (rT_4 v3)
    refine FnP_ofFn (c_X6_readsStep_O1 U m ys ya yt yn yx yr yd xth xsm xhs xln xat xiw xrm xfb xlr xdm gx gr n i r v0 v1 v2 v9 v3 hn hi hr) _ (sdO (a := i + 1 + 1 + 1 + 1) (gr3 _ _ _ _ _).1 (by omega) T4 (show (8 : Int32) = 3 ∨ (8 : Int32) = 7 ∨ (8 : Int32) = 8 by decide) stop_8 ?_) rfl rfl
    rw [(gr3 _ _ _ _ _).2.1, (gr3 _ _ _ _ _).2.2.1, (gr3 _ _ _ _ _).2.2.2, v2]
    exact ⟨rfl, ⟨isReg_let v0, Or.inr (isReg_let v3), fun q => absurd q (by decide)⟩, fun f => enc_1 _ _ _ _ _ _ _⟩
  by_cases v3 : sgF gx n (i + 1 + 1) = 35
  · have T3 := thr_s T2 (by rw [v3]; decide) (by rw [v3]; decide) (by rw [v3]; exact rT_2h)
    by_cases v4 : sgF gx n (i + 1 + 1 + 1) = 45
    · have T4 := thr_s T3 (by rw [v4]; decide) (by rw [v4]; decide) (by rw [v4]; exact rT_5m)
      by_cases v5 : inF (sgF gx n (i + 1 + 1 + 1 + 1)) 49 57
      rotate_left
      · exact FnP_ofFn (c_X6_readsStep_F4 U m ys ya yt yn yx yr yd xth xsm xhs xln xat xiw xrm xfb xlr xdm gx gr n i r v0 v1 v2 v3 v4 v5 hn hi hr) _ (sdF (a := i + 1 + 1 + 1 + 1) (gr3 _ _ _ _ _).1 T4 (show ¬ ((6 : Int32) = 3 ∨ (6 : Int32) = 7 ∨ (6 : Int32) = 8) by decide) (stop_c rfl (sa6.trans (if_neg (fun q => v5 (dig_1 q.1 q.2)))))) rfl rfl
      have d5 := dig_0 v5
      have T5 := thr_s T4 (c_ne d5.1 (by decide)) (c_ne d5.1 (by decide)) (rT_6 d5.1 d5.2)
      have T6 := nl_thr (most := 32768) rfl (by decide) _ _ _ rfl T5 (wd_b d5.1 d5.2)
      have g6 := nl_ge (gx := gx) (n := n) (most := 32768) (n - (i + 1 + 1 + 1 + 1 + 1)) (i + 1 + 1 + 1 + 1 + 1) (wdF 0 (sgF gx n (i + 1 + 1 + 1 + 1)))
      have B := c_X6_readsStep_O2 U m ys ya yt yn yx yr yd xth xsm xhs xln xat xiw xrm xfb xlr xdm gx gr n i r v0 v1 v2 v3 v4 v5 hn hi hr
      rw [one_49, show i + 1 + 1 + 1 + 2 = i + 1 + 1 + 1 + 1 + 1 from rfl] at B
      refine FnP_ofFn B _ (sdO (a := (nlF gx n 32768 (n - (i + 1 + 1 + 1 + 1 + 1)) (i + 1 + 1 + 1 + 1 + 1) (wdF 0 (sgF gx n (i + 1 + 1 + 1 + 1)))).1) (gr3 _ _ _ _ _).1 (by omega) T6.1 (show (7 : Int32) = 3 ∨ (7 : Int32) = 7 ∨ (7 : Int32) = 8 by decide) (fun q => Or.inl (T6.2 q)) ?_) rfl rfl
      rw [(gr3 _ _ _ _ _).2.1, (gr3 _ _ _ _ _).2.2.1, (gr3 _ _ _ _ _).2.2.2, v3]
      exact ⟨rfl, ⟨isReg_let v0, Or.inl rfl, fun q => absurd q (by decide)⟩, fun f => enc_h1 _ _ _ _ _ _ _⟩
    · by_cases v5 : inF (sgF gx n (i + 1 + 1 + 1)) 48 57
      rotate_left
      · exact FnP_ofFn (c_X6_readsStep_F5 U m ys ya yt yn yx yr yd xth xsm xhs xln xat xiw xrm xfb xlr xdm gx gr n i r v0 v1 v2 v3 v4 v5 hn hi hr) _ (sdF (a := i + 1 + 1 + 1) (gr3 _ _ _ _ _).1 T3 (show ¬ ((5 : Int32) = 3 ∨ (5 : Int32) = 7 ∨ (5 : Int32) = 8) by decide) (stop_c rfl (sa5.trans ((if_neg v4).trans ((if_neg (fun q => v5 (by rw [q]; decide))).trans (if_neg v5)))))) rfl rfl
      have B := c_X6_readsStep_O3 U m ys ya yt yn yx yr yd xth xsm xhs xln xat xiw xrm xfb xlr xdm gx gr n i r v0 v1 v2 v3 v4 v5 hn hi hr
      by_cases v6 : sgF gx n (i + 1 + 1 + 1) = 48
      · have T4 := thr_s T3 (by rw [v6]; decide) (by rw [v6]; decide) (by rw [v6]; have h9 := rT_5z (t := sgF gx n i - 65) (f := -1) (o := 35) (s := -1) (g := 0) (u := 0); rw [wd_z] at h9; exact h9)
        rw [v6, show (48 : Int32) - 48 = 0 from rfl, nl_0] at B
        refine FnP_ofFn B _ (sdO (a := i + 1 + 1 + 1 + 1) (gr3 _ _ _ _ _).1 (by omega) T4 (show (8 : Int32) = 3 ∨ (8 : Int32) = 7 ∨ (8 : Int32) = 8 by decide) stop_8 ?_) rfl rfl
        rw [(gr3 _ _ _ _ _).2.1, (gr3 _ _ _ _ _).2.2.1, (gr3 _ _ _ _ _).2.2.2, v3]
        exact ⟨rfl, ⟨isReg_let v0, Or.inl rfl, fun q => absurd q (by decide)⟩, fun f => enc_h0 _ _ _ _ _ _ _⟩
      · have T4 := thr_s T3 (c_ne v5 (by decide)) (c_ne v5 (by decide)) (rT_5d v5 v6)
        have T6 := nl_thr (most := 32767) rfl (by decide) _ _ _ rfl T4 (wd_b v5 v6)
        have g6 := nl_ge (gx := gx) (n := n) (most := 32767) (n - (i + 1 + 1 + 1 + 1)) (i + 1 + 1 + 1 + 1) (wdF 0 (sgF gx n (i + 1 + 1 + 1)))
        rw [z_48] at B
        refine FnP_ofFn B _ (sdO (a := (nlF gx n 32767 (n - (i + 1 + 1 + 1 + 1)) (i + 1 + 1 + 1 + 1) (wdF 0 (sgF gx n (i + 1 + 1 + 1)))).1) (gr3 _ _ _ _ _).1 (by omega) T6.1 (show (7 : Int32) = 3 ∨ (7 : Int32) = 7 ∨ (7 : Int32) = 8 by decide) (fun q => Or.inl (T6.2 q)) ?_) rfl rfl
        rw [(gr3 _ _ _ _ _).2.1, (gr3 _ _ _ _ _).2.2.1, (gr3 _ _ _ _ _).2.2.2, v3]
        exact ⟨rfl, ⟨isReg_let v0, Or.inl rfl, fun q => absurd q (by decide)⟩, fun f => enc_h0 _ _ _ _ _ _ _⟩
  by_cases v4 : inF (sgF gx n (i + 1 + 1)) 65 70
  rotate_left
  · exact FnP_ofFn (c_X6_readsStep_F6 U m ys ya yt yn yx yr yd xth xsm xhs xln xat xiw xrm xfb xlr xdm gx gr n i r v0 v1 v2 v3 v4 hn hi hr) _ (sdF (a := i + 1 + 1) (gr3 _ _ _ _ _).1 T2 (show ¬ ((2 : Int32) = 3 ∨ (2 : Int32) = 7 ∨ (2 : Int32) = 8) by decide) (stop_c rfl (sa2.trans ((if_neg v4).trans ((if_neg v2).trans (if_neg v3)))))) rfl rfl
  have T3 := thr_s T2 (c_ne v4 (by decide)) (c_ne v4 (by decide)) (rT_2L v4)
  by_cases v5 : sgF gx n (i + 1 + 1 + 1) = 43
  · have v6 : ¬ sgF gx n (i + 1 + 1 + 1) = 45 := by rw [v5]; decide
    have T4 := thr_s T3 (by rw [v5]; decide) (by rw [v5]; decide) (rT_3 (Or.inl v5))
    by_cases v8 : inF (sgF gx n (i + 1 + 1 + 1 + 1)) 65 70
    rotate_left
    · exact FnP_ofFn (c_X6_readsStep_F7p U m ys ya yt yn yx yr yd xth xsm xhs xln xat xiw xrm xfb xlr xdm gx gr n i r v0 v1 v2 v3 v4 v5 v6 v8 hn hi hr) _ (sdF (a := i + 1 + 1 + 1 + 1) (gr5 _ _ _ _ _ _ _).1 T4 (show ¬ ((4 : Int32) = 3 ∨ (4 : Int32) = 7 ∨ (4 : Int32) = 8) by decide) (stop_c rfl (sa4.trans (if_neg v8)))) rfl rfl
    have T5 := thr_s T4 (c_ne v8 (by decide)) (c_ne v8 (by decide)) (rT_4 v8)
    refine FnP_ofFn (c_X6_readsStep_O5p U m ys ya yt yn yx yr yd xth xsm xhs xln xat xiw xrm xfb xlr xdm gx gr n i r v0 v1 v2 v3 v4 v5 v6 v8 hn hi hr) _ (sdO (a := i + 1 + 1 + 1 + 1 + 1) (gr5 _ _ _ _ _ _ _).1 (by omega) T5 (show (8 : Int32) = 3 ∨ (8 : Int32) = 7 ∨ (8 : Int32) = 8 by decide) stop_8 ?_) rfl rfl
    rw [(gr5 _ _ _ _ _ _ _).2.1, (gr5 _ _ _ _ _ _ _).2.2.1, (gr5 _ _ _ _ _ _ _).2.2.2.1, (gr5 _ _ _ _ _ _ _).2.2.2.2, v5]
    exact ⟨rfl, ⟨isReg_let v0, Or.inr (isReg_let v4), fun _ => isReg_let v8⟩, fun f => enc_p _ _ _ _ _ _ _⟩
  by_cases v6 : sgF gx n (i + 1 + 1 + 1) = 45
  · have T4 := thr_s T3 (by rw [v6]; decide) (by rw [v6]; decide) (rT_3 (Or.inr (Or.inl v6)))
    by_cases v8 : inF (sgF gx n (i + 1 + 1 + 1 + 1)) 65 70
    rotate_left
    · exact FnP_ofFn (c_X6_readsStep_F7m U m ys ya yt yn yx yr yd xth xsm xhs xln xat xiw xrm xfb xlr xdm gx gr n i r v0 v1 v2 v3 v4 v5 v6 v8 hn hi hr) _ (sdF (a := i + 1 + 1 + 1 + 1) (gr5 _ _ _ _ _ _ _).1 T4 (show ¬ ((4 : Int32) = 3 ∨ (4 : Int32) = 7 ∨ (4 : Int32) = 8) by decide) (stop_c rfl (sa4.trans (if_neg v8)))) rfl rfl
    have T5 := thr_s T4 (c_ne v8 (by decide)) (c_ne v8 (by decide)) (rT_4 v8)
    refine FnP_ofFn (c_X6_readsStep_O5m U m ys ya yt yn yx yr yd xth xsm xhs xln xat xiw xrm xfb xlr xdm gx gr n i r v0 v1 v2 v3 v4 v5 v6 v8 hn hi hr) _ (sdO (a := i + 1 + 1 + 1 + 1 + 1) (gr5 _ _ _ _ _ _ _).1 (by omega) T5 (show (8 : Int32) = 3 ∨ (8 : Int32) = 7 ∨ (8 : Int32) = 8 by decide) stop_8 ?_) rfl rfl
    rw [(gr5 _ _ _ _ _ _ _).2.1, (gr5 _ _ _ _ _ _ _).2.2.1, (gr5 _ _ _ _ _ _ _).2.2.2.1, (gr5 _ _ _ _ _ _ _).2.2.2.2, v6]
    exact ⟨rfl, ⟨isReg_let v0, Or.inr (isReg_let v4), fun _ => isReg_let v8⟩, fun f => enc_m _ _ _ _ _ _ _⟩
  by_cases v7 : sgF gx n (i + 1 + 1 + 1) = 42
  · have T4 := thr_s T3 (by rw [v7]; decide) (by rw [v7]; decide) (rT_3 (Or.inr (Or.inr v7)))
    by_cases v8 : inF (sgF gx n (i + 1 + 1 + 1 + 1)) 65 70
    rotate_left
    · exact FnP_ofFn (c_X6_readsStep_F7t U m ys ya yt yn yx yr yd xth xsm xhs xln xat xiw xrm xfb xlr xdm gx gr n i r v0 v1 v2 v3 v4 v5 v6 v7 v8 hn hi hr) _ (sdF (a := i + 1 + 1 + 1 + 1) (gr5 _ _ _ _ _ _ _).1 T4 (show ¬ ((4 : Int32) = 3 ∨ (4 : Int32) = 7 ∨ (4 : Int32) = 8) by decide) (stop_c rfl (sa4.trans (if_neg v8)))) rfl rfl
    have T5 := thr_s T4 (c_ne v8 (by decide)) (c_ne v8 (by decide)) (rT_4 v8)
    refine FnP_ofFn (c_X6_readsStep_O5t U m ys ya yt yn yx yr yd xth xsm xhs xln xat xiw xrm xfb xlr xdm gx gr n i r v0 v1 v2 v3 v4 v5 v6 v7 v8 hn hi hr) _ (sdO (a := i + 1 + 1 + 1 + 1 + 1) (gr5 _ _ _ _ _ _ _).1 (by omega) T5 (show (8 : Int32) = 3 ∨ (8 : Int32) = 7 ∨ (8 : Int32) = 8 by decide) stop_8 ?_) rfl rfl
    rw [(gr5 _ _ _ _ _ _ _).2.1, (gr5 _ _ _ _ _ _ _).2.2.1, (gr5 _ _ _ _ _ _ _).2.2.2.1, (gr5 _ _ _ _ _ _ _).2.2.2.2, v7]
    exact ⟨rfl, ⟨isReg_let v0, Or.inr (isReg_let v4), fun _ => isReg_let v8⟩, fun f => enc_t _ _ _ _ _ _ _⟩
  refine FnP_ofFn (c_X6_readsStep_O4 U m ys ya yt yn yx yr yd xth xsm xhs xln xat xiw xrm xfb xlr xdm gx gr n i r v0 v1 v2 v3 v4 v5 v6 v7 hn hi hr) _ (sdO (a := i + 1 + 1 + 1) (gr3 _ _ _ _ _).1 (by omega) T3 (show (3 : Int32) = 3 ∨ (3 : Int32) = 7 ∨ (3 : Int32) = 8 by decide) (stop_c rfl (sa3.trans (if_neg (fun q => q.elim v5 (fun q => q.elim v6 v7))))) ?_) rfl rfl
  rw [(gr3 _ _ _ _ _).2.1, (gr3 _ _ _ _ _).2.2.1, (gr3 _ _ _ _ _).2.2.2]
  exact ⟨rfl, ⟨isReg_let v0, Or.inr (isReg_let v4), fun q => absurd q (by decide)⟩, fun f => enc_0 _ _ _ _ _ _ _⟩
