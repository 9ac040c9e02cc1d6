/-! ===== the reader's walk over the characters of one step ===== -/
def mkR (a b c d e f g : Int32) : Nat → Int32 := fun j => match j with
  | 0 => a
  | 1 => b
  | 2 => c
  | 3 => d
  | 4 => e
  | 5 => f
  | _ => g
theorem rdS_mk : rdS = mkR 0 (-1) (-1) 43 (-1) 0 0 := by
  funext j
  match j with
  | 0 | 1 | 2 | 3 | 4 | 5 => rfl
  | _ + 6 => rfl
theorem rT_of {sg t f o s g u c sg' t' f' o' s' g' u' : Int32} (e : saF sg g u c = sg') (hne : ¬ sg' = -1) (e1 : ntT sg t c = t') (e2 : ntF sg f c = f') (e3 : ntO sg o c = o') (e4 : ntS sg s c = s') (e5 : ntN sg g c = g') (e6 : ntU sg u c = u') :
    ¬ rdN (mkR sg t f o s g u) c ∧ rdT (mkR sg t f o s g u) c = mkR sg' t' f' o' s' g' u' := by
  have hn : ¬ rdN (mkR sg t f o s g u) c := fun h => hne (e.symm.trans h)
  refine ⟨hn, funext fun j => ?_⟩
  match j with
  | 0 => show (if rdN (mkR sg t f o s g u) c then _ else saF sg g u c) = sg'; rw [if_neg hn, e]
  | 1 => show (if rdN (mkR sg t f o s g u) c then _ else ntT sg t c) = t'; rw [if_neg hn, e1]
  | 2 => show (if rdN (mkR sg t f o s g u) c then _ else ntF sg f c) = f'; rw [if_neg hn, e2]
  | 3 => show (if rdN (mkR sg t f o s g u) c then _ else ntO sg o c) = o'; rw [if_neg hn, e3]
  | 4 => show (if rdN (mkR sg t f o s g u) c then _ else ntS sg s c) = s'; rw [if_neg hn, e4]
  | 5 => show (if rdN (mkR sg t f o s g u) c then _ else ntN sg g c) = g'; rw [if_neg hn, e5]
  | _ + 6 => show (if rdN (mkR sg t f o s g u) c then _ else ntU sg u c) = u'; rw [if_neg hn, e6]
/-- from `i` on a new step the reader comes to `a` in state `rd`, and so does the run -/
def thr (gx : Nat → Int32) (n i a : Nat) (rd : Nat → Int32) : Prop := i ≤ a ∧ a ≤ n ∧ (∀ k, feF gx n (k + (a - i)) i rdS = feF gx n k a rd) ∧ ∀ w k f o rs ov num, runF gx n w (k + (a - i)) i rdS f o rs ov num = runF gx n w k a rd f o rs ov num
theorem thr_0 {gx : Nat → Int32} {n i : Nat} (h : i ≤ n) : thr gx n i i rdS := ⟨Nat.le_refl _, h, fun k => by rw [Nat.sub_self]; rfl, fun w k f o rs ov num => by rw [Nat.sub_self]; rfl⟩
theorem thr_s {gx : Nat → Int32} {n i a : Nat} {rd rd' : Nat → Int32} (h : thr gx n i a rd) (h0 : ¬ sgF gx n a = 0) (h59 : ¬ sgF gx n a = 59) (hn : ¬ rdN rd (sgF gx n a) ∧ rdT rd (sgF gx n a) = rd') : thr gx n i (a + 1) rd' := by
  have ha : a < n := by
    rcases Nat.lt_or_ge a n with q | q
    · exact q
    · exact absurd (if_neg (by omega)) h0
  have e : sgF gx n a = gx a := if_pos ha
  rw [e] at h59 hn
  obtain ⟨h1, h2, h3, h4⟩ := h
  refine ⟨by omega, ha, fun k => ?_, fun w k f o rs ov num => ?_⟩
  · rw [show k + (a + 1 - i) = (k + 1) + (a - i) by omega, h3, feF, if_neg h59, if_neg hn.1, hn.2]
  · rw [show k + (a + 1 - i) = (k + 1) + (a - i) by omega, h4, runF, if_pos ⟨ha, h59⟩, hn.2]
theorem c_ne {c l h k : Int32} (hc : inF c l h) (hk : k < l ∨ h < k) : ¬ c = k := fun e => by
  rw [e] at hc
  exact hk.elim hc.1 hc.2
theorem rT_0 {c t f o s g u : Int32} (h : inF c 65 70) : ¬ rdN (mkR 0 t f o s g u) c ∧ rdT (mkR 0 t f o s g u) c = mkR 1 (c - 65) f o s g u :=
  rT_of ((if_pos rfl).trans (if_pos h)) (by decide) (if_pos rfl) (if_neg (fun q => absurd q.1 (by decide))) (if_neg (fun q => q.elim (fun r => absurd r (by decide)) (fun r => absurd r.1 (by decide)))) (if_neg (by decide)) (if_neg (fun q => absurd q.1 (by decide))) (if_neg (fun q => absurd q.1 (by decide)))
theorem rT_1 {c t f o s g u : Int32} (h : c = 61) : ¬ rdN (mkR 1 t f o s g u) c ∧ rdT (mkR 1 t f o s g u) c = mkR 2 t f o s g u :=
  rT_of (((if_neg (by decide)).trans (if_pos rfl)).trans (if_pos h)) (by decide) (if_neg (by decide)) (if_neg (fun q => absurd q.1 (by decide))) (if_neg (fun q => q.elim (fun r => absurd r (by decide)) (fun r => absurd r.1 (by decide)))) (if_neg (by decide)) (if_neg (fun q => absurd q.1 (by decide))) (if_neg (fun q => absurd q.1 (by decide)))
theorem rT_2L {c t f o s g u : Int32} (h : inF c 65 70) : ¬ rdN (mkR 2 t f o s g u) c ∧ rdT (mkR 2 t f o s g u) c = mkR 3 t (c - 65) o s g u :=
  rT_of (((if_neg (by decide)).trans ((if_neg (by decide)).trans (if_pos rfl))).trans (if_pos h)) (by decide) (if_neg (by decide)) (if_pos ⟨rfl, h⟩) (if_neg (fun q => q.elim (fun r => absurd r (by decide)) (fun r => r.2 h))) (if_neg (by decide)) (if_neg (fun q => absurd q.1 (by decide))) (if_neg (fun q => absurd q.1 (by decide)))
theorem rT_2m {t f o s g u : Int32} : ¬ rdN (mkR 2 t f o s g u) 45 ∧ rdT (mkR 2 t f o s g u) 45 = mkR 4 t f 45 s g u :=
  rT_of (((if_neg (by decide)).trans ((if_neg (by decide)).trans (if_pos rfl))).trans (by decide)) (by decide) (if_neg (by decide)) (if_neg (by decide)) (if_pos (by decide)) (if_neg (by decide)) (if_neg (fun q => absurd q.1 (by decide))) (if_neg (fun q => absurd q.1 (by decide)))
theorem rT_2h {t f o s g u : Int32} : ¬ rdN (mkR 2 t f o s g u) 35 ∧ rdT (mkR 2 t f o s g u) 35 = mkR 5 t f 35 s g u :=
  rT_of (((if_neg (by decide)).trans ((if_neg (by decide)).trans (if_pos rfl))).trans (by decide)) (by decide) (if_neg (by decide)) (if_neg (by decide)) (if_pos (by decide)) (if_neg (by decide)) (if_neg (fun q => absurd q.1 (by decide))) (if_neg (fun q => absurd q.1 (by decide)))
theorem rT_3 {c t f o s g u : Int32} (h : c = 43 ∨ c = 45 ∨ c = 42) : ¬ rdN (mkR 3 t f o s g u) c ∧ rdT (mkR 3 t f o s g u) c = mkR 4 t f c s g u :=
  rT_of (((if_neg (by decide)).trans ((if_neg (by decide)).trans ((if_neg (by decide)).trans (if_pos rfl)))).trans (if_pos h)) (by decide) (if_neg (by decide)) (if_neg (fun q => absurd q.1 (by decide))) (if_pos (Or.inl rfl)) (if_neg (by decide)) (if_neg (fun q => absurd q.1 (by decide))) (if_neg (fun q => absurd q.1 (by decide)))
theorem sa4 {g u c : Int32} : saF 4 g u c = if isLet c then 8 else -1 := (if_neg (by decide)).trans ((if_neg (by decide)).trans ((if_neg (by decide)).trans ((if_neg (by decide)).trans (if_pos rfl))))
theorem sa5 {g u c : Int32} : saF 5 g u c = sanF c := (if_neg (by decide)).trans ((if_neg (by decide)).trans ((if_neg (by decide)).trans ((if_neg (by decide)).trans ((if_neg (by decide)).trans (if_pos rfl)))))
theorem sa6 {g u c : Int32} : saF 6 g u c = if isDig c ∧ ¬ c = 48 then 7 else -1 := (if_neg (by decide)).trans ((if_neg (by decide)).trans ((if_neg (by decide)).trans ((if_neg (by decide)).trans ((if_neg (by decide)).trans ((if_neg (by decide)).trans (if_pos rfl))))))
theorem sa7 {g u c : Int32} : saF 7 g u c = if isDig c ∧ ¬ gsF g < wdF u c then 7 else -1 := (if_neg (by decide)).trans ((if_neg (by decide)).trans ((if_neg (by decide)).trans ((if_neg (by decide)).trans ((if_neg (by decide)).trans ((if_neg (by decide)).trans ((if_neg (by decide)).trans (if_pos rfl)))))))
theorem rT_4 {c t f o s g u : Int32} (h : inF c 65 70) : ¬ rdN (mkR 4 t f o s g u) c ∧ rdT (mkR 4 t f o s g u) c = mkR 8 t f o (c - 65) g u :=
  rT_of (sa4.trans (if_pos h)) (by decide) (if_neg (by decide)) (if_neg (fun q => absurd q.1 (by decide))) (if_neg (fun q => q.elim (fun r => absurd r (by decide)) (fun r => absurd r.1 (by decide)))) (if_pos rfl) (if_neg (fun q => absurd q.1 (by decide))) (if_neg (fun q => absurd q.1 (by decide)))
theorem rT_5m {t f o s g u : Int32} : ¬ rdN (mkR 5 t f o s g u) 45 ∧ rdT (mkR 5 t f o s g u) 45 = mkR 6 t f o s 1 u :=
  rT_of (sa5.trans (by decide)) (by decide) (if_neg (by decide)) (if_neg (by decide)) (if_neg (by decide)) (if_neg (by decide)) (if_pos (by decide)) (if_neg (by decide))
theorem rT_5z {t f o s g u : Int32} : ¬ rdN (mkR 5 t f o s g u) 48 ∧ rdT (mkR 5 t f o s g u) 48 = mkR 8 t f o s g (wdF u 48) :=
  rT_of (sa5.trans (by decide)) (by decide) (if_neg (by decide)) (if_neg (by decide)) (if_neg (by decide)) (if_neg (by decide)) (if_neg (by decide)) (if_pos (by decide))
theorem rT_5d {c t f o s g u : Int32} (h : inF c 48 57) (h8 : ¬ c = 48) : ¬ rdN (mkR 5 t f o s g u) c ∧ rdT (mkR 5 t f o s g u) c = mkR 7 t f o s g (wdF u c) :=
  have h5 : ¬ c = 45 := c_ne h (by decide)
  rT_of (sa5.trans ((if_neg h5).trans ((if_neg h8).trans (if_pos h)))) (by decide) (if_neg (by decide)) (if_neg (fun q => absurd q.1 (by decide))) (if_neg (fun q => q.elim (fun r => absurd r (by decide)) (fun r => absurd r.1 (by decide)))) (if_neg (by decide)) (if_neg (fun q => h5 q.2)) (if_pos ⟨by decide, h5⟩)
theorem rT_6 {c t f o s g u : Int32} (h : inF c 48 57) (h8 : ¬ c = 48) : ¬ rdN (mkR 6 t f o s g u) c ∧ rdT (mkR 6 t f o s g u) c = mkR 7 t f o s g (wdF u c) :=
  have h5 : ¬ c = 45 := c_ne h (by decide)
  rT_of (sa6.trans (if_pos ⟨h, h8⟩)) (by decide) (if_neg (by decide)) (if_neg (fun q => absurd q.1 (by decide))) (if_neg (fun q => q.elim (fun r => absurd r (by decide)) (fun r => absurd r.1 (by decide)))) (if_neg (by decide)) (if_neg (fun q => h5 q.2)) (if_pos ⟨by decide, h5⟩)
theorem rT_7 {c t f o s g u : Int32} (h : inF c 48 57) (h8 : ¬ gsF g < wdF u c) : ¬ rdN (mkR 7 t f o s g u) c ∧ rdT (mkR 7 t f o s g u) c = mkR 7 t f o s g (wdF u c) :=
  have h5 : ¬ c = 45 := c_ne h (by decide)
  rT_of (sa7.trans (if_pos ⟨h, h8⟩)) (by decide) (if_neg (by decide)) (if_neg (fun q => absurd q.1 (by decide))) (if_neg (fun q => q.elim (fun r => absurd r (by decide)) (fun r => absurd r.1 (by decide)))) (if_neg (by decide)) (if_neg (fun q => h5 q.2)) (if_pos ⟨by decide, h5⟩)
