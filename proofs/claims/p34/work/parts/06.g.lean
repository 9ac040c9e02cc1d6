/-! ===== act as a whole ===== -/
theorem bpd12 (r : Int32) : bpdF r = 1 ∨ bpdF r = 2 := by
  by_cases e : r = 1
  · exact Or.inr (if_pos e)
  · exact Or.inl (if_neg e)
set_option maxHeartbeats 4000000 in
theorem act_all (U : jU) (b a h sa pa ta v m r s0 v0 m0 s1 v1 m1 s2 v2 m2 s3 v3 m3 : Nat) (tk : Int32) {W : Nat} {f x : Nat → Int32} (hI : jInv W f x) (p0 p1 : Int32) : ∃ (fq xq : Nat → Int32) (Wq : Nat), jInv Wq fq xq ∧ ((∀ (hv hg : Nat → Nat → Int32) (n : Nat) (cn : Int32), Fn U yL_act wsL_act { frames := 8, cells := 0, slots := 0, locals := 134 } [.ref b, .int p0, .int p1] (PW U b a h sa pa ta v m r s0 v0 m0 s1 v1 m1 s2 v2 m2 s3 v3 m3 tk f x hv hg n cn) (some (.int (1 : Int32))) (PW U b a h sa pa ta v m r s0 v0 m0 s1 v1 m1 s2 v2 m2 s3 v3 m3 tk fq xq (va_up hv (n % 4) f) (va_up hg (n % 4) (pk (x 0) (x 1) (x 2) (x 3) (x 4) (x 5) (x 6) (x 7) (x 8) (x 9))) (n + 1) (mn4 cn)) 0 0) ∨ (fq = f ∧ xq = x ∧ ∀ (hv hg : Nat → Nat → Int32) (n : Nat) (cn : Int32), Fn U yL_act wsL_act { frames := 8, cells := 0, slots := 0, locals := 134 } [.ref b, .int p0, .int p1] (PW U b a h sa pa ta v m r s0 v0 m0 s1 v1 m1 s2 v2 m2 s3 v3 m3 tk f x hv hg n cn) (some (.int (0 : Int32))) (PW U b a h sa pa ta v m r s0 v0 m0 s1 v1 m1 s2 v2 m2 s3 v3 m3 tk f x hv hg n cn) 0 0)) := by
  obtain ⟨⟨hW, hw, hf⟩, hs⟩ := id hI
  have hJ : jW W (x 0) f := hI.1
  obtain ⟨g1, g2, g3, g4, g5, g6⟩ := half_i W hW.2 hW.1
  obtain ⟨rr, re, rd⟩ := rl_rem W hW.2 hW.1
  have hA := reg_low (p0 >>> (4 &&& 31))
  have hB := reg_low (p0 >>> (7 &&& 31))
  have hP : 0 < 2 ^ W := Nat.pow_pos (by decide)
  have hh : ¬ (2 : Int32) * ((1 : Int32) <<< (((x 0) - (1 : Int32)) &&& 31)) = 0 := fun q => by
    rw [hw, g2] at q
    have := congrArg tn q
    rw [tn_nI (by omega)] at this
    exact absurd this (by show ¬ 2 ^ W = 0; omega)
  obtain ⟨k, hk, ek⟩ := and15 p0
  have nk : ∀ j, j < 16 → ¬ k = j → ¬ (p0 &&& 15) = nI j := fun j hj hne q => by
    rw [ek] at q
    have := congrArg tn q
    rw [tn_nI (by omega), tn_nI (by omega)] at this
    exact hne this
  rcases (show k = 0 ∨ k = 1 ∨ k = 2 ∨ k = 3 ∨ k = 4 ∨ k = 5 ∨ k = 6 ∨ k = 7 ∨ k = 8 ∨ k = 9 ∨ k = 10 ∨ k = 11 ∨ k = 12 ∨ k = 13 ∨ k = 14 ∨ k = 15 by omega) with rfl | rfl | rfl | rfl | rfl | rfl | rfl | rfl | rfl | rfl | rfl | rfl | rfl | rfl | rfl | rfl
  · have q : (p0 &&& 15) = 0 := ek
    obtain ⟨V, hV, eV⟩ := w13_low p1
    have a1 : ¬ ((4 : Int32) + lowF p1 13) < 4 := fun q => by rw [eV] at q; exact absurd ((nI_ltI (b := 4) (by omega) (by omega)).mp q) (by omega)
    have a2 : ((4 : Int32) + lowF p1 13) ≤ 16 := by rw [eV]; exact (nI_leI (b := 16) (by omega) (by omega)).mpr hV.2
    refine ⟨(fun j => wrapF ((4 : Int32) + lowF p1 13) (f j)), (pk ((4 : Int32) + lowF p1 13) (x 1) (x 2) (-1) (x 4) (x 5) (x 6) (x 7) (x 8) (x 9)), V, ?_, Or.inl (fun hv hg n cn => c_L_act_k0 U b a h sa pa ta tk v m f (x 0) (x 1) (x 2) (x 3) (x 4) (x 5) (x 6) (x 7) (x 8) (x 9) r s0 v0 m0 s1 v1 m1 s2 v2 m2 s3 v3 m3 hv hg n cn p0 p1 q hA hB hh a1 a2)⟩
    exact ⟨⟨hV, eV, fun j hj => by show inW V (wrapF _ (f j)); rw [eV]; exact wr_rng hV.1 hV.2 _⟩, Or.inl rfl⟩
  · have q : (p0 &&& 15) = 1 := ek
    have hvv : wrapF (x 0) (lowF p1 ((2 : Int32) * ((1 : Int32) <<< (((x 0) - (1 : Int32)) &&& 31))) - ((1 : Int32) <<< (((x 0) - (1 : Int32)) &&& 31))) = (lowF p1 ((2 : Int32) * ((1 : Int32) <<< (((x 0) - (1 : Int32)) &&& 31))) - ((1 : Int32) <<< (((x 0) - (1 : Int32)) &&& 31))) := by rw [hw]; exact (wv_iff hW _).mpr (set_low hW p1)
    refine ⟨(putF f (lowF (p0 >>> (4 &&& 31)) 6) (wrapF (x 0) (lowF p1 ((2 : Int32) * ((1 : Int32) <<< (((x 0) - (1 : Int32)) &&& 31))) - ((1 : Int32) <<< (((x 0) - (1 : Int32)) &&& 31))))), (pk (x 0) (ovF (x 0) (lowF p1 ((2 : Int32) * ((1 : Int32) <<< (((x 0) - (1 : Int32)) &&& 31))) - ((1 : Int32) <<< (((x 0) - (1 : Int32)) &&& 31))) (x 1)) (x 2) (x 3) (x 4) (x 5) (x 6) (x 7) (x 8) (x 9)), W, ?_, Or.inl (fun hv hg n cn => c_L_act_k1 U b a h sa pa ta tk v m f (x 0) (x 1) (x 2) (x 3) (x 4) (x 5) (x 6) (x 7) (x 8) (x 9) r s0 v0 m0 s1 v1 m1 s2 v2 m2 s3 v3 m3 hv hg n cn p0 p1 q hA hB hh hvv)⟩
    exact ⟨⟨hW, hw, put_in hf (by rw [hw]; exact wr_rng hW.1 hW.2 _)⟩, hs⟩
  · have q : (p0 &&& 15) = 2 := ek
    have hvv : wrapF (x 0) (lowF p1 ((2 : Int32) * ((1 : Int32) <<< (((x 0) - (1 : Int32)) &&& 31))) - ((1 : Int32) <<< (((x 0) - (1 : Int32)) &&& 31))) = (lowF p1 ((2 : Int32) * ((1 : Int32) <<< (((x 0) - (1 : Int32)) &&& 31))) - ((1 : Int32) <<< (((x 0) - (1 : Int32)) &&& 31))) := by rw [hw]; exact (wv_iff hW _).mpr (set_low hW p1)
    refine ⟨(putF f (lowF (p0 >>> (4 &&& 31)) 6) (wrapF (x 0) (lowF p1 ((2 : Int32) * ((1 : Int32) <<< (((x 0) - (1 : Int32)) &&& 31))) - ((1 : Int32) <<< (((x 0) - (1 : Int32)) &&& 31))))), (pk (x 0) (ovF (x 0) (lowF p1 ((2 : Int32) * ((1 : Int32) <<< (((x 0) - (1 : Int32)) &&& 31))) - ((1 : Int32) <<< (((x 0) - (1 : Int32)) &&& 31))) (x 1)) (x 2) (x 3) (x 4) (x 5) (x 6) (x 7) (x 8) (x 9)), W, ?_, Or.inl (fun hv hg n cn => c_L_act_k2 U b a h sa pa ta tk v m f (x 0) (x 1) (x 2) (x 3) (x 4) (x 5) (x 6) (x 7) (x 8) (x 9) r s0 v0 m0 s1 v1 m1 s2 v2 m2 s3 v3 m3 hv hg n cn p0 p1 q hA hB hh hvv)⟩
    exact ⟨⟨hW, hw, put_in hf (by rw [hw]; exact wr_rng hW.1 hW.2 _)⟩, hs⟩
  · have q : (p0 &&& 15) = 3 := ek
    have hvv : wrapF (x 0) (lowF p1 ((2 : Int32) * ((1 : Int32) <<< (((x 0) - (1 : Int32)) &&& 31))) - ((1 : Int32) <<< (((x 0) - (1 : Int32)) &&& 31))) = (lowF p1 ((2 : Int32) * ((1 : Int32) <<< (((x 0) - (1 : Int32)) &&& 31))) - ((1 : Int32) <<< (((x 0) - (1 : Int32)) &&& 31))) := by rw [hw]; exact (wv_iff hW _).mpr (set_low hW p1)
    refine ⟨(putF f (lowF (p0 >>> (4 &&& 31)) 6) (wrapF (x 0) (lowF p1 ((2 : Int32) * ((1 : Int32) <<< (((x 0) - (1 : Int32)) &&& 31))) - ((1 : Int32) <<< (((x 0) - (1 : Int32)) &&& 31))))), (pk (x 0) (ovF (x 0) (lowF p1 ((2 : Int32) * ((1 : Int32) <<< (((x 0) - (1 : Int32)) &&& 31))) - ((1 : Int32) <<< (((x 0) - (1 : Int32)) &&& 31))) (x 1)) (x 2) (x 3) (x 4) (x 5) (x 6) (x 7) (x 8) (x 9)), W, ?_, Or.inl (fun hv hg n cn => c_L_act_k3 U b a h sa pa ta tk v m f (x 0) (x 1) (x 2) (x 3) (x 4) (x 5) (x 6) (x 7) (x 8) (x 9) r s0 v0 m0 s1 v1 m1 s2 v2 m2 s3 v3 m3 hv hg n cn p0 p1 q hA hB hh hvv)⟩
    exact ⟨⟨hW, hw, put_in hf (by rw [hw]; exact wr_rng hW.1 hW.2 _)⟩, hs⟩
  · have q : (p0 &&& 15) = 4 := ek
    have hvv : wrapF (x 0) (lowF p1 ((2 : Int32) * ((1 : Int32) <<< (((x 0) - (1 : Int32)) &&& 31))) - ((1 : Int32) <<< (((x 0) - (1 : Int32)) &&& 31))) = (lowF p1 ((2 : Int32) * ((1 : Int32) <<< (((x 0) - (1 : Int32)) &&& 31))) - ((1 : Int32) <<< (((x 0) - (1 : Int32)) &&& 31))) := by rw [hw]; exact (wv_iff hW _).mpr (set_low hW p1)
    refine ⟨(putF f (lowF (p0 >>> (4 &&& 31)) 6) (wrapF (x 0) (lowF p1 ((2 : Int32) * ((1 : Int32) <<< (((x 0) - (1 : Int32)) &&& 31))) - ((1 : Int32) <<< (((x 0) - (1 : Int32)) &&& 31))))), (pk (x 0) (ovF (x 0) (lowF p1 ((2 : Int32) * ((1 : Int32) <<< (((x 0) - (1 : Int32)) &&& 31))) - ((1 : Int32) <<< (((x 0) - (1 : Int32)) &&& 31))) (x 1)) (x 2) (x 3) (x 4) (x 5) (x 6) (x 7) (x 8) (x 9)), W, ?_, Or.inl (fun hv hg n cn => c_L_act_k4 U b a h sa pa ta tk v m f (x 0) (x 1) (x 2) (x 3) (x 4) (x 5) (x 6) (x 7) (x 8) (x 9) r s0 v0 m0 s1 v1 m1 s2 v2 m2 s3 v3 m3 hv hg n cn p0 p1 q hA hB hh hvv)⟩
    exact ⟨⟨hW, hw, put_in hf (by rw [hw]; exact wr_rng hW.1 hW.2 _)⟩, hs⟩
  · have q : (p0 &&& 15) = 5 := ek
    have hvv : wrapF (x 0) (lowF p1 ((2 : Int32) * ((1 : Int32) <<< (((x 0) - (1 : Int32)) &&& 31))) - ((1 : Int32) <<< (((x 0) - (1 : Int32)) &&& 31))) = (lowF p1 ((2 : Int32) * ((1 : Int32) <<< (((x 0) - (1 : Int32)) &&& 31))) - ((1 : Int32) <<< (((x 0) - (1 : Int32)) &&& 31))) := by rw [hw]; exact (wv_iff hW _).mpr (set_low hW p1)
    refine ⟨(putF f (lowF (p0 >>> (4 &&& 31)) 6) (wrapF (x 0) (lowF p1 ((2 : Int32) * ((1 : Int32) <<< (((x 0) - (1 : Int32)) &&& 31))) - ((1 : Int32) <<< (((x 0) - (1 : Int32)) &&& 31))))), (pk (x 0) (ovF (x 0) (lowF p1 ((2 : Int32) * ((1 : Int32) <<< (((x 0) - (1 : Int32)) &&& 31))) - ((1 : Int32) <<< (((x 0) - (1 : Int32)) &&& 31))) (x 1)) (x 2) (x 3) (x 4) (x 5) (x 6) (x 7) (x 8) (x 9)), W, ?_, Or.inl (fun hv hg n cn => c_L_act_k5 U b a h sa pa ta tk v m f (x 0) (x 1) (x 2) (x 3) (x 4) (x 5) (x 6) (x 7) (x 8) (x 9) r s0 v0 m0 s1 v1 m1 s2 v2 m2 s3 v3 m3 hv hg n cn p0 p1 q hA hB hh hvv)⟩
    exact ⟨⟨hW, hw, put_in hf (by rw [hw]; exact wr_rng hW.1 hW.2 _)⟩, hs⟩
  · have q : (p0 &&& 15) = 6 := ek
    by_cases e1 : rem2 (x 0) = 1
    · refine ⟨f, (pk (x 0) (x 1) (x 2) (dcntF 0 (x 0)) (bpdF 0) (x 0) (valF f (lowF (p0 >>> (4 &&& 31)) 6)) 0 (bitsF (x 0) (valF f (lowF (p0 >>> (7 &&& 31)) 6))) 0), W, ?_, Or.inl (fun hv hg n cn => c_L_act_k6o U b a h sa pa ta tk v m f (x 0) (x 1) (x 2) (x 3) (x 4) (x 5) (x 6) (x 7) (x 8) (x 9) r s0 v0 m0 s1 v1 m1 s2 v2 m2 s3 v3 m3 hv hg n cn p0 p1 q hA hB hh e1)⟩
      obtain ⟨D, hD, hD2, -, -⟩ := dc_W hW 0
      obtain ⟨eb, -⟩ := bits_n hW (valF f (lowF (p0 >>> (7 &&& 31)) 6))
      exact ⟨⟨hW, hw, hf⟩, Or.inr ⟨D, _, (by show dcntF 0 (x 0) = nI D; rw [hw]; exact hD), hD2, (bpd12 0), hw, (by show bitsF (x 0) _ = _; rw [hw]; exact eb), Nat.mod_lt _ hP, Or.inl rfl⟩⟩
    · have e3 : rem2 (x 0) = 0 := by rw [hw] at e1 ⊢; exact rr.resolve_right e1
      rcases and1 p1 with e2 | e2
      · refine ⟨f, (pk (x 0) (x 1) (x 2) (dcntF (p1 &&& 1) (x 0)) (bpdF (p1 &&& 1)) (x 0) (valF f (lowF (p0 >>> (4 &&& 31)) 6)) 0 (bitsF (x 0) (valF f (lowF (p0 >>> (7 &&& 31)) 6))) 0), W, ?_, Or.inl (fun hv hg n cn => c_L_act_k6z U b a h sa pa ta tk v m f (x 0) (x 1) (x 2) (x 3) (x 4) (x 5) (x 6) (x 7) (x 8) (x 9) r s0 v0 m0 s1 v1 m1 s2 v2 m2 s3 v3 m3 hv hg n cn p0 p1 q hA hB hh e1 e2)⟩
        obtain ⟨D, hD, hD2, -, -⟩ := dc_W hW (p1 &&& 1)
        obtain ⟨eb, -⟩ := bits_n hW (valF f (lowF (p0 >>> (7 &&& 31)) 6))
        exact ⟨⟨hW, hw, hf⟩, Or.inr ⟨D, _, (by show dcntF (p1 &&& 1) (x 0) = nI D; rw [hw]; exact hD), hD2, (bpd12 (p1 &&& 1)), hw, (by show bitsF (x 0) _ = _; rw [hw]; exact eb), Nat.mod_lt _ hP, Or.inl rfl⟩⟩
      · have e4 : ¬ (p1 &&& 1) = 0 := fun q => absurd (e2.symm.trans q) (by decide)
        refine ⟨f, (pk (x 0) (x 1) (x 2) (dcntF (p1 &&& 1) (x 0)) (bpdF (p1 &&& 1)) (x 0) (valF f (lowF (p0 >>> (4 &&& 31)) 6)) 0 (bitsF (x 0) (valF f (lowF (p0 >>> (7 &&& 31)) 6))) 0), W, ?_, Or.inl (fun hv hg n cn => c_L_act_k6w U b a h sa pa ta tk v m f (x 0) (x 1) (x 2) (x 3) (x 4) (x 5) (x 6) (x 7) (x 8) (x 9) r s0 v0 m0 s1 v1 m1 s2 v2 m2 s3 v3 m3 hv hg n cn p0 p1 q hA hB hh e1 e2 e3 e4)⟩
        obtain ⟨D, hD, hD2, -, -⟩ := dc_W hW (p1 &&& 1)
        obtain ⟨eb, -⟩ := bits_n hW (valF f (lowF (p0 >>> (7 &&& 31)) 6))
        exact ⟨⟨hW, hw, hf⟩, Or.inr ⟨D, _, (by show dcntF (p1 &&& 1) (x 0) = nI D; rw [hw]; exact hD), hD2, (bpd12 (p1 &&& 1)), hw, (by show bitsF (x 0) _ = _; rw [hw]; exact eb), Nat.mod_lt _ hP, Or.inl rfl⟩⟩
  · have q : (p0 &&& 15) = 7 := ek
    by_cases e1 : rem2 (x 0) = 1
    · refine ⟨f, (pk (x 0) (x 1) (x 2) (dcntF 0 (x 0)) (bpdF 0) (x 0) (valF f (lowF (p0 >>> (4 &&& 31)) 6)) 0 (bitsF (x 0) (valF f (lowF (p0 >>> (7 &&& 31)) 6))) 0), W, ?_, Or.inl (fun hv hg n cn => c_L_act_k7o U b a h sa pa ta tk v m f (x 0) (x 1) (x 2) (x 3) (x 4) (x 5) (x 6) (x 7) (x 8) (x 9) r s0 v0 m0 s1 v1 m1 s2 v2 m2 s3 v3 m3 hv hg n cn p0 p1 q hA hB hh e1)⟩
      obtain ⟨D, hD, hD2, -, -⟩ := dc_W hW 0
      obtain ⟨eb, -⟩ := bits_n hW (valF f (lowF (p0 >>> (7 &&& 31)) 6))
      exact ⟨⟨hW, hw, hf⟩, Or.inr ⟨D, _, (by show dcntF 0 (x 0) = nI D; rw [hw]; exact hD), hD2, (bpd12 0), hw, (by show bitsF (x 0) _ = _; rw [hw]; exact eb), Nat.mod_lt _ hP, Or.inl rfl⟩⟩
    · have e3 : rem2 (x 0) = 0 := by rw [hw] at e1 ⊢; exact rr.resolve_right e1
      rcases and1 p1 with e2 | e2
      · refine ⟨f, (pk (x 0) (x 1) (x 2) (dcntF (p1 &&& 1) (x 0)) (bpdF (p1 &&& 1)) (x 0) (valF f (lowF (p0 >>> (4 &&& 31)) 6)) 0 (bitsF (x 0) (valF f (lowF (p0 >>> (7 &&& 31)) 6))) 0), W, ?_, Or.inl (fun hv hg n cn => c_L_act_k7z U b a h sa pa ta tk v m f (x 0) (x 1) (x 2) (x 3) (x 4) (x 5) (x 6) (x 7) (x 8) (x 9) r s0 v0 m0 s1 v1 m1 s2 v2 m2 s3 v3 m3 hv hg n cn p0 p1 q hA hB hh e1 e2)⟩
        obtain ⟨D, hD, hD2, -, -⟩ := dc_W hW (p1 &&& 1)
        obtain ⟨eb, -⟩ := bits_n hW (valF f (lowF (p0 >>> (7 &&& 31)) 6))
        exact ⟨⟨hW, hw, hf⟩, Or.inr ⟨D, _, (by show dcntF (p1 &&& 1) (x 0) = nI D; rw [hw]; exact hD), hD2, (bpd12 (p1 &&& 1)), hw, (by show bitsF (x 0) _ = _; rw [hw]; exact eb), Nat.mod_lt _ hP, Or.inl rfl⟩⟩
      · have e4 : ¬ (p1 &&& 1) = 0 := fun q => absurd (e2.symm.trans q) (by decide)
        refine ⟨f, (pk (x 0) (x 1) (x 2) (dcntF (p1 &&& 1) (x 0)) (bpdF (p1 &&& 1)) (x 0) (valF f (lowF (p0 >>> (4 &&& 31)) 6)) 0 (bitsF (x 0) (valF f (lowF (p0 >>> (7 &&& 31)) 6))) 0), W, ?_, Or.inl (fun hv hg n cn => c_L_act_k7w U b a h sa pa ta tk v m f (x 0) (x 1) (x 2) (x 3) (x 4) (x 5) (x 6) (x 7) (x 8) (x 9) r s0 v0 m0 s1 v1 m1 s2 v2 m2 s3 v3 m3 hv hg n cn p0 p1 q hA hB hh e1 e2 e3 e4)⟩
        obtain ⟨D, hD, hD2, -, -⟩ := dc_W hW (p1 &&& 1)
        obtain ⟨eb, -⟩ := bits_n hW (valF f (lowF (p0 >>> (7 &&& 31)) 6))
        exact ⟨⟨hW, hw, hf⟩, Or.inr ⟨D, _, (by show dcntF (p1 &&& 1) (x 0) = nI D; rw [hw]; exact hD), hD2, (bpd12 (p1 &&& 1)), hw, (by show bitsF (x 0) _ = _; rw [hw]; exact eb), Nat.mod_lt _ hP, Or.inl rfl⟩⟩
  · have q : (p0 &&& 15) = 8 := ek
    by_cases ys1 : 0 < x 3
    · refine ⟨f, (pk (x 0) (x 1) (x 2 + 1) (x 3 - 1) (x 4) (x 5) (x 6) (hiF (x 4) (x 6) (x 7) (x 8) (x 9) >>> (x 4 &&& 31)) (loF (x 4) (x 5) (x 6) (x 7) (x 8) (x 9)) (bitF (x 8) (x 4 - 1))), W, ?_, Or.inl (fun hv hg n cn => c_L_act_k8y U b a h sa pa ta tk v m f (x 0) (x 1) (x 2) (x 3) (x 4) (x 5) (x 6) (x 7) (x 8) (x 9) r s0 v0 m0 s1 v1 m1 s2 v2 m2 s3 v3 m3 hv hg n cn p0 p1 q hA hB hh ys1)⟩
      rcases hs with h3 | ⟨N, l, e3, hN, e4, e5, e8, hl, hx⟩
      · exact absurd ys1 (by rw [h3]; decide)
      · have hN0 := (nm1 hN).2.1 (by rw [← e3]; exact ys1)
        obtain ⟨l2, f1, f2⟩ := lo_i hW e4 hl (x 6) (x 7) (x 9)
        exact ⟨⟨hW, hw, hf⟩, Or.inr ⟨N - 1, l2, (by show x 3 - 1 = _; rw [e3]; exact nI_m1 hN0), by omega, e4, e5, (by show loF (x 4) (x 5) (x 6) (x 7) (x 8) (x 9) = _; rw [e5, e8]; exact f1), f2, b01 _ _⟩⟩
    · exact ⟨f, x, W, hI, Or.inr ⟨rfl, rfl, fun hv hg n cn => c_L_act_k8n U b a h sa pa ta tk v m f (x 0) (x 1) (x 2) (x 3) (x 4) (x 5) (x 6) (x 7) (x 8) (x 9) r s0 v0 m0 s1 v1 m1 s2 v2 m2 s3 v3 m3 hv hg n cn p0 p1 q hA hB hh ys1⟩⟩
  · have q : (p0 &&& 15) = 9 := ek
    by_cases ys1 : 0 < x 3
    · refine ⟨f, (pk (x 0) (x 1) (x 2 + 1) (x 3 - 1) (x 4) (x 5) (x 6) (hiF (x 4) (x 6) (x 7) (x 8) (x 9) >>> (x 4 &&& 31)) (loF (x 4) (x 5) (x 6) (x 7) (x 8) (x 9)) (bitF (x 8) (x 4 - 1))), W, ?_, Or.inl (fun hv hg n cn => c_L_act_k9y U b a h sa pa ta tk v m f (x 0) (x 1) (x 2) (x 3) (x 4) (x 5) (x 6) (x 7) (x 8) (x 9) r s0 v0 m0 s1 v1 m1 s2 v2 m2 s3 v3 m3 hv hg n cn p0 p1 q hA hB hh ys1)⟩
      rcases hs with h3 | ⟨N, l, e3, hN, e4, e5, e8, hl, hx⟩
      · exact absurd ys1 (by rw [h3]; decide)
      · have hN0 := (nm1 hN).2.1 (by rw [← e3]; exact ys1)
        obtain ⟨l2, f1, f2⟩ := lo_i hW e4 hl (x 6) (x 7) (x 9)
        exact ⟨⟨hW, hw, hf⟩, Or.inr ⟨N - 1, l2, (by show x 3 - 1 = _; rw [e3]; exact nI_m1 hN0), by omega, e4, e5, (by show loF (x 4) (x 5) (x 6) (x 7) (x 8) (x 9) = _; rw [e5, e8]; exact f1), f2, b01 _ _⟩⟩
    · exact ⟨f, x, W, hI, Or.inr ⟨rfl, rfl, fun hv hg n cn => c_L_act_k9n U b a h sa pa ta tk v m f (x 0) (x 1) (x 2) (x 3) (x 4) (x 5) (x 6) (x 7) (x 8) (x 9) r s0 v0 m0 s1 v1 m1 s2 v2 m2 s3 v3 m3 hv hg n cn p0 p1 q hA hB hh ys1⟩⟩
  · have q : (p0 &&& 15) = 10 := ek
    by_cases ys1 : 0 < x 3
    · refine ⟨f, (pk (x 0) (x 1) (x 2 + 1) (x 3 - 1) (x 4) (x 5) (x 6) (hiF (x 4) (x 6) (x 7) (x 8) (x 9) >>> (x 4 &&& 31)) (loF (x 4) (x 5) (x 6) (x 7) (x 8) (x 9)) (bitF (x 8) (x 4 - 1))), W, ?_, Or.inl (fun hv hg n cn => c_L_act_k10y U b a h sa pa ta tk v m f (x 0) (x 1) (x 2) (x 3) (x 4) (x 5) (x 6) (x 7) (x 8) (x 9) r s0 v0 m0 s1 v1 m1 s2 v2 m2 s3 v3 m3 hv hg n cn p0 p1 q hA hB hh ys1)⟩
      rcases hs with h3 | ⟨N, l, e3, hN, e4, e5, e8, hl, hx⟩
      · exact absurd ys1 (by rw [h3]; decide)
      · have hN0 := (nm1 hN).2.1 (by rw [← e3]; exact ys1)
        obtain ⟨l2, f1, f2⟩ := lo_i hW e4 hl (x 6) (x 7) (x 9)
        exact ⟨⟨hW, hw, hf⟩, Or.inr ⟨N - 1, l2, (by show x 3 - 1 = _; rw [e3]; exact nI_m1 hN0), by omega, e4, e5, (by show loF (x 4) (x 5) (x 6) (x 7) (x 8) (x 9) = _; rw [e5, e8]; exact f1), f2, b01 _ _⟩⟩
    · exact ⟨f, x, W, hI, Or.inr ⟨rfl, rfl, fun hv hg n cn => c_L_act_k10n U b a h sa pa ta tk v m f (x 0) (x 1) (x 2) (x 3) (x 4) (x 5) (x 6) (x 7) (x 8) (x 9) r s0 v0 m0 s1 v1 m1 s2 v2 m2 s3 v3 m3 hv hg n cn p0 p1 q hA hB hh ys1⟩⟩
  · have q : (p0 &&& 15) = 11 := ek
    by_cases ys1 : 0 < x 3
    · refine ⟨f, (pk (x 0) (x 1) (x 2 + 1) (x 3 - 1) (x 4) (x 5) (x 6) (hiF (x 4) (x 6) (x 7) (x 8) (x 9) >>> (x 4 &&& 31)) (loF (x 4) (x 5) (x 6) (x 7) (x 8) (x 9)) (bitF (x 8) (x 4 - 1))), W, ?_, Or.inl (fun hv hg n cn => c_L_act_k11y U b a h sa pa ta tk v m f (x 0) (x 1) (x 2) (x 3) (x 4) (x 5) (x 6) (x 7) (x 8) (x 9) r s0 v0 m0 s1 v1 m1 s2 v2 m2 s3 v3 m3 hv hg n cn p0 p1 q hA hB hh ys1)⟩
      rcases hs with h3 | ⟨N, l, e3, hN, e4, e5, e8, hl, hx⟩
      · exact absurd ys1 (by rw [h3]; decide)
      · have hN0 := (nm1 hN).2.1 (by rw [← e3]; exact ys1)
        obtain ⟨l2, f1, f2⟩ := lo_i hW e4 hl (x 6) (x 7) (x 9)
        exact ⟨⟨hW, hw, hf⟩, Or.inr ⟨N - 1, l2, (by show x 3 - 1 = _; rw [e3]; exact nI_m1 hN0), by omega, e4, e5, (by show loF (x 4) (x 5) (x 6) (x 7) (x 8) (x 9) = _; rw [e5, e8]; exact f1), f2, b01 _ _⟩⟩
    · exact ⟨f, x, W, hI, Or.inr ⟨rfl, rfl, fun hv hg n cn => c_L_act_k11n U b a h sa pa ta tk v m f (x 0) (x 1) (x 2) (x 3) (x 4) (x 5) (x 6) (x 7) (x 8) (x 9) r s0 v0 m0 s1 v1 m1 s2 v2 m2 s3 v3 m3 hv hg n cn p0 p1 q hA hB hh ys1⟩⟩
  · have q : (p0 &&& 15) = 12 := ek
    rcases hs with h3 | ⟨N, l, e3, hN, e4, e5, e8, hl, hx⟩
    · have ys1 : ¬ 0 ≤ x 3 := by rw [h3]; decide
      exact ⟨f, x, W, hI, Or.inr ⟨rfl, rfl, fun hv hg n cn => c_L_act_k12n U b a h sa pa ta tk v m f (x 0) (x 1) (x 2) (x 3) (x 4) (x 5) (x 6) (x 7) (x 8) (x 9) r s0 v0 m0 s1 v1 m1 s2 v2 m2 s3 v3 m3 hv hg n cn p0 p1 q hA hB hh ys1⟩⟩
    · have ys1 : 0 ≤ nI N := (nm1 hN).2.2.2.2.1
      have ys2 : ¬ nI N = -1 := (nm1 hN).1
      have hn9 : N < 100 := by omega
      refine ⟨f, pk (x 0) (x 1) (x 2 + nI N) 0 (x 4) (x 5) (x 6) (stF (x 4) (x 5) (x 6) (x 7) (x 8) (x 9) N).1 (stF (x 4) (x 5) (x 6) (x 7) (x 8) (x 9) N).2.1 (stF (x 4) (x 5) (x 6) (x 7) (x 8) (x 9) N).2.2, W, ?_, Or.inl (fun hv hg n cn => ?_)⟩
      · obtain ⟨l2, f1, f2, f3⟩ := fin_in hW e4 (x 6) (x 7) hl hx N
        rw [← e5, ← e8] at f1 f3
        exact ⟨⟨hW, hw, hf⟩, Or.inr ⟨0, l2, rfl, by omega, e4, e5, f1, f2, f3⟩⟩
      · have h9 := c_L_act_k12y U b a h sa pa ta tk v m f (x 0) (x 1) (x 2) (nI N) (x 4) (x 5) (x 6) (x 7) (x 8) (x 9) r s0 v0 m0 s1 v1 m1 s2 v2 m2 s3 v3 m3 hv hg n cn N p0 p1 q hA hB hh ys1 ys2 hn9
        have h8 : (PW U b a h sa pa ta v m r s0 v0 m0 s1 v1 m1 s2 v2 m2 s3 v3 m3 tk f x hv hg n cn) = (PW U b a h sa pa ta v m r s0 v0 m0 s1 v1 m1 s2 v2 m2 s3 v3 m3 tk f (fun j => if j = 3 then nI N else x j) hv hg n cn) := by rw [PW, PW, e3]; rfl
        have h7 : (va_up hg (n % 4) (pk (x 0) (x 1) (x 2) (x 3) (x 4) (x 5) (x 6) (x 7) (x 8) (x 9))) = (va_up hg (n % 4) (pk (x 0) (x 1) (x 2) (nI N) (x 4) (x 5) (x 6) (x 7) (x 8) (x 9))) := by rw [e3]
        rw [h8, h7]
        exact h9
  · have q : (p0 &&& 15) = 13 := ek
    rcases hs with h3 | ⟨N, l, e3, hN, e4, e5, e8, hl, hx⟩
    · have ys1 : ¬ 0 ≤ x 3 := by rw [h3]; decide
      exact ⟨f, x, W, hI, Or.inr ⟨rfl, rfl, fun hv hg n cn => c_L_act_k13n U b a h sa pa ta tk v m f (x 0) (x 1) (x 2) (x 3) (x 4) (x 5) (x 6) (x 7) (x 8) (x 9) r s0 v0 m0 s1 v1 m1 s2 v2 m2 s3 v3 m3 hv hg n cn p0 p1 q hA hB hh ys1⟩⟩
    · have ys1 : 0 ≤ nI N := (nm1 hN).2.2.2.2.1
      have ys2 : ¬ nI N = -1 := (nm1 hN).1
      have hn9 : N < 100 := by omega
      refine ⟨f, pk (x 0) (x 1) (x 2 + nI N) 0 (x 4) (x 5) (x 6) (stF (x 4) (x 5) (x 6) (x 7) (x 8) (x 9) N).1 (stF (x 4) (x 5) (x 6) (x 7) (x 8) (x 9) N).2.1 (stF (x 4) (x 5) (x 6) (x 7) (x 8) (x 9) N).2.2, W, ?_, Or.inl (fun hv hg n cn => ?_)⟩
      · obtain ⟨l2, f1, f2, f3⟩ := fin_in hW e4 (x 6) (x 7) hl hx N
        rw [← e5, ← e8] at f1 f3
        exact ⟨⟨hW, hw, hf⟩, Or.inr ⟨0, l2, rfl, by omega, e4, e5, f1, f2, f3⟩⟩
      · have h9 := c_L_act_k13y U b a h sa pa ta tk v m f (x 0) (x 1) (x 2) (nI N) (x 4) (x 5) (x 6) (x 7) (x 8) (x 9) r s0 v0 m0 s1 v1 m1 s2 v2 m2 s3 v3 m3 hv hg n cn N p0 p1 q hA hB hh ys1 ys2 hn9
        have h8 : (PW U b a h sa pa ta v m r s0 v0 m0 s1 v1 m1 s2 v2 m2 s3 v3 m3 tk f x hv hg n cn) = (PW U b a h sa pa ta v m r s0 v0 m0 s1 v1 m1 s2 v2 m2 s3 v3 m3 tk f (fun j => if j = 3 then nI N else x j) hv hg n cn) := by rw [PW, PW, e3]; rfl
        have h7 : (va_up hg (n % 4) (pk (x 0) (x 1) (x 2) (x 3) (x 4) (x 5) (x 6) (x 7) (x 8) (x 9))) = (va_up hg (n % 4) (pk (x 0) (x 1) (x 2) (nI N) (x 4) (x 5) (x 6) (x 7) (x 8) (x 9))) := by rw [e3]
        rw [h8, h7]
        exact h9
  · have g0 : ¬ (p0 &&& 15) = 0 := nk 0 (by decide) (by decide)
    have g1 : ¬ (p0 &&& 15) = 1 := nk 1 (by decide) (by decide)
    have g2 : ¬ (p0 &&& 15) = 2 := nk 2 (by decide) (by decide)
    have g3 : ¬ (p0 &&& 15) = 3 := nk 3 (by decide) (by decide)
    have g4 : ¬ (p0 &&& 15) = 4 := nk 4 (by decide) (by decide)
    have g5 : ¬ (p0 &&& 15) = 5 := nk 5 (by decide) (by decide)
    have g6 : ¬ (p0 &&& 15) = 6 := nk 6 (by decide) (by decide)
    have g7 : ¬ (p0 &&& 15) = 7 := nk 7 (by decide) (by decide)
    have g8 : ¬ (p0 &&& 15) = 8 := nk 8 (by decide) (by decide)
    have g9 : ¬ (p0 &&& 15) = 9 := nk 9 (by decide) (by decide)
    have g10 : ¬ (p0 &&& 15) = 10 := nk 10 (by decide) (by decide)
    have g11 : ¬ (p0 &&& 15) = 11 := nk 11 (by decide) (by decide)
    have g12 : ¬ (p0 &&& 15) = 12 := nk 12 (by decide) (by decide)
    have g13 : ¬ (p0 &&& 15) = 13 := nk 13 (by decide) (by decide)
    by_cases ys1 : x 3 = 0
    · refine ⟨(putF f (lowF (p0 >>> (4 &&& 31)) 6) (wrapF (x 0) (x 7 <<< (x 5 &&& 31) + x 8))), (pk (x 0) (ovF (x 0) (x 7 <<< (x 5 &&& 31) + x 8) (x 1)) (x 2) (x 3) (x 4) (x 5) (x 6) (x 7) (x 8) (x 9)), W, ?_, Or.inl (fun hv hg n cn => c_L_act_kdy U b a h sa pa ta tk v m f (x 0) (x 1) (x 2) (x 3) (x 4) (x 5) (x 6) (x 7) (x 8) (x 9) r s0 v0 m0 s1 v1 m1 s2 v2 m2 s3 v3 m3 hv hg n cn p0 p1 g0 g1 g2 g3 g4 g5 g6 g7 g8 g9 g10 g11 g12 g13 hA hB hh ys1)⟩
      exact ⟨⟨hW, hw, put_in hf (by rw [hw]; exact wr_rng hW.1 hW.2 _)⟩, hs⟩
    · exact ⟨f, x, W, hI, Or.inr ⟨rfl, rfl, fun hv hg n cn => c_L_act_kdn U b a h sa pa ta tk v m f (x 0) (x 1) (x 2) (x 3) (x 4) (x 5) (x 6) (x 7) (x 8) (x 9) r s0 v0 m0 s1 v1 m1 s2 v2 m2 s3 v3 m3 hv hg n cn p0 p1 g0 g1 g2 g3 g4 g5 g6 g7 g8 g9 g10 g11 g12 g13 hA hB hh ys1⟩⟩
  · have g0 : ¬ (p0 &&& 15) = 0 := nk 0 (by decide) (by decide)
    have g1 : ¬ (p0 &&& 15) = 1 := nk 1 (by decide) (by decide)
    have g2 : ¬ (p0 &&& 15) = 2 := nk 2 (by decide) (by decide)
    have g3 : ¬ (p0 &&& 15) = 3 := nk 3 (by decide) (by decide)
    have g4 : ¬ (p0 &&& 15) = 4 := nk 4 (by decide) (by decide)
    have g5 : ¬ (p0 &&& 15) = 5 := nk 5 (by decide) (by decide)
    have g6 : ¬ (p0 &&& 15) = 6 := nk 6 (by decide) (by decide)
    have g7 : ¬ (p0 &&& 15) = 7 := nk 7 (by decide) (by decide)
    have g8 : ¬ (p0 &&& 15) = 8 := nk 8 (by decide) (by decide)
    have g9 : ¬ (p0 &&& 15) = 9 := nk 9 (by decide) (by decide)
    have g10 : ¬ (p0 &&& 15) = 10 := nk 10 (by decide) (by decide)
    have g11 : ¬ (p0 &&& 15) = 11 := nk 11 (by decide) (by decide)
    have g12 : ¬ (p0 &&& 15) = 12 := nk 12 (by decide) (by decide)
    have g13 : ¬ (p0 &&& 15) = 13 := nk 13 (by decide) (by decide)
    by_cases ys1 : x 3 = 0
    · refine ⟨(putF f (lowF (p0 >>> (4 &&& 31)) 6) (wrapF (x 0) (x 7 <<< (x 5 &&& 31) + x 8))), (pk (x 0) (ovF (x 0) (x 7 <<< (x 5 &&& 31) + x 8) (x 1)) (x 2) (x 3) (x 4) (x 5) (x 6) (x 7) (x 8) (x 9)), W, ?_, Or.inl (fun hv hg n cn => c_L_act_kdy U b a h sa pa ta tk v m f (x 0) (x 1) (x 2) (x 3) (x 4) (x 5) (x 6) (x 7) (x 8) (x 9) r s0 v0 m0 s1 v1 m1 s2 v2 m2 s3 v3 m3 hv hg n cn p0 p1 g0 g1 g2 g3 g4 g5 g6 g7 g8 g9 g10 g11 g12 g13 hA hB hh ys1)⟩
      exact ⟨⟨hW, hw, put_in hf (by rw [hw]; exact wr_rng hW.1 hW.2 _)⟩, hs⟩
    · exact ⟨f, x, W, hI, Or.inr ⟨rfl, rfl, fun hv hg n cn => c_L_act_kdn U b a h sa pa ta tk v m f (x 0) (x 1) (x 2) (x 3) (x 4) (x 5) (x 6) (x 7) (x 8) (x 9) r s0 v0 m0 s1 v1 m1 s2 v2 m2 s3 v3 m3 hv hg n cn p0 p1 g0 g1 g2 g3 g4 g5 g6 g7 g8 g9 g10 g11 g12 g13 hA hB hh ys1⟩⟩
