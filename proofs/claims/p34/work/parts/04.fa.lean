/-! ===== words for what the methods answer ===== -/
theorem neI {x k : Int32} {a : Int} (h : ¬ x = k) (hk : k.toInt = a) : x.toInt ≠ a := fun e => h (Int32.toInt_inj.mp (e.trans hk.symm))
abbrev isReg (r : Int32) : Prop := ¬ r < 0 ∧ ¬ 6 ≤ r
abbrev isRec (r : Int32) : Prop := r = 0 ∨ r = 1 ∨ r = 2
def bitF (v p : Int32) : Int32 := (v >>> (p &&& 31)) &&& 1
def bpdF (r : Int32) : Int32 := if r = 1 then 2 else 1
def dcntF (r w : Int32) : Int32 := if r = 1 then w / 2 else w
def digF (v r p : Int32) : Int32 := if r = 0 then bitF (v <<< (1 &&& 31)) p - bitF (v <<< (1 &&& 31)) (p + 1) else if r = 1 then bitF (v <<< (1 &&& 31)) ((2 : Int32) * p) + bitF (v <<< (1 &&& 31)) ((2 : Int32) * p + 1) - (2 : Int32) * bitF (v <<< (1 &&& 31)) ((2 : Int32) * p + 2) else bitF ((3 : Int32) * v) (p + 1) - bitF v (p + 1)
def wrapF (w v : Int32) : Int32 := (v <<< ((32 - w) &&& 31)) >>> ((32 - w) &&& 31)
def valF (f : Nat → Int32) (r : Int32) : Int32 := if isReg r then f r.toNatClampNeg else 0
def bitsF (w v : Int32) : Int32 := v &&& ((1 : Int32) <<< (w &&& 31) - 1)
def ovF (w v o : Int32) : Int32 := if wrapF w v = v then o else o + 1
def putF (f : Nat → Int32) (r x : Int32) : Nat → Int32 := if isReg r then upd f r.toNatClampNeg x else f
def ndF (bp lo ex : Int32) : Int32 := if bp = 1 then ex - bitF lo 0 else ex + bitF lo 0 - (2 : Int32) * bitF lo 1
def hiF (bp mc hi lo ex : Int32) : Int32 := hi + ndF bp lo ex * mc
def loF (bp mw mc hi lo ex : Int32) : Int32 := (lo >>> (bp &&& 31)) ||| ((hiF bp mc hi lo ex &&& ((1 : Int32) <<< (bp &&& 31) - 1)) <<< ((mw - bp) &&& 31))
theorem isReg_in {r : Int32} (h : isReg r) : vp_in r 6 := by
  obtain ⟨h1, h2⟩ := h
  refine vp_in_iff.mpr ⟨?_, ?_⟩
  · rw [Int32.lt_iff_toInt_lt] at h1; have : (0 : Int32).toInt = 0 := rfl; omega
  · rw [Int32.le_iff_toInt_le] at h2; have : (6 : Int32).toInt = 6 := rfl; omega
abbrev isLet (c : Int32) : Prop := ¬ c < 65 ∧ ¬ 70 < c
abbrev isDig (c : Int32) : Prop := ¬ c < 48 ∧ ¬ 57 < c
def mn4 (c : Int32) : Int32 := if 4 < c + 1 then 4 else c + 1
def jr4 (s0 s1 s2 s3 : Nat) : Nat → Option Nat := fun i => match i with
  | 0 => some s0
  | 1 => some s1
  | 2 => some s2
  | _ => some s3
def wdF (nu c : Int32) : Int32 := nu * 10 + (c - 48)
def gsF (ng : Int32) : Int32 := if ng = 0 then 32767 else 32768
def sasF (c : Int32) : Int32 := if isLet c then 3 else if c = 45 then 4 else if c = 35 then 5 else -1
def sanF (c : Int32) : Int32 := if c = 45 then 6 else if c = 48 then 8 else if isDig c then 7 else -1
def saF (sg ng nu c : Int32) : Int32 := if sg = 0 then (if isLet c then 1 else -1) else if sg = 1 then (if c = 61 then 2 else -1) else if sg = 2 then sasF c else if sg = 3 then (if c = 43 ∨ c = 45 ∨ c = 42 then 4 else -1) else if sg = 4 then (if isLet c then 8 else -1) else if sg = 5 then sanF c else if sg = 6 then (if isDig c ∧ ¬ c = 48 then 7 else -1) else if sg = 7 then (if isDig c ∧ ¬ gsF ng < wdF nu c then 7 else -1) else -1
abbrev isNm (sg : Int32) : Prop := sg = 5 ∨ sg = 6 ∨ sg = 7
def ntT (sg tg c : Int32) : Int32 := if sg = 0 then c - 65 else tg
def ntF (sg fi c : Int32) : Int32 := if sg = 2 ∧ isLet c then c - 65 else fi
def ntO (sg op c : Int32) : Int32 := if sg = 3 ∨ (sg = 2 ∧ ¬ isLet c) then c else op
def ntS (sg se c : Int32) : Int32 := if sg = 4 then c - 65 else se
def ntN (sg ng c : Int32) : Int32 := if isNm sg ∧ c = 45 then 1 else ng
def ntU (sg nu c : Int32) : Int32 := if isNm sg ∧ ¬ c = 45 then wdF nu c else nu
def resF (f : Nat → Int32) (fi op se ng nu : Int32) : Int32 := if op = 43 then valF f fi + valF f se else if op = 45 then valF f fi - valF f se else if op = 42 then valF f fi * valF f se else if ng = 0 then nu else -nu
def rdS : Nat → Int32 := fun j => match j with
  | 0 => 0
  | 1 => -1
  | 2 => -1
  | 3 => 43
  | 4 => -1
  | 5 => 0
  | _ => 0
abbrev rdW (rd : Nat → Int32) : Prop := rd 0 = 3 ∨ rd 0 = 7 ∨ rd 0 = 8
abbrev rdN (rd : Nat → Int32) (c : Int32) : Prop := saF (rd 0) (rd 5) (rd 6) c = -1
def rdT (rd : Nat → Int32) (c : Int32) : Nat → Int32 := fun j => match j with
  | 0 => if rdN rd c then rd 0 else saF (rd 0) (rd 5) (rd 6) c
  | 1 => if rdN rd c then rd 1 else ntT (rd 0) (rd 1) c
  | 2 => if rdN rd c then rd 2 else ntF (rd 0) (rd 2) c
  | 3 => if rdN rd c then rd 3 else ntO (rd 0) (rd 3) c
  | 4 => if rdN rd c then rd 4 else ntS (rd 0) (rd 4) c
  | 5 => if rdN rd c then rd 5 else ntN (rd 0) (rd 5) c
  | _ => if rdN rd c then rd 6 else ntU (rd 0) (rd 6) c
def feF (tx : Nat → Int32) (n : Nat) : Nat → Nat → (Nat → Int32) → Int32 × (Nat → Int32)
  | 0, _, rd => (if rdW rd then -1 else nI n, rd)
  | k + 1, i, rd => if tx i = 59 then (if rdW rd then feF tx n k (i + 1) rdS else (nI i, rdS)) else if rdN rd (tx i) then (nI i, rdT rd (tx i)) else feF tx n k (i + 1) (rdT rd (tx i))
def rsF (f rd : Nat → Int32) : Int32 := resF f (rd 2) (rd 3) (rd 4) (rd 5) (rd 6)
def ofF (o o2 ov num : Int32) : Int32 := if ¬ o2 = o ∧ ov = -1 then num else ov
def runF (tx : Nat → Int32) (n : Nat) (w : Int32) : Nat → Nat → (Nat → Int32) → (Nat → Int32) → Int32 → Int32 → Int32 → Int32 → (Nat → Int32) × (Nat → Int32) × Int32 × Int32 × Int32
  | 0, _, rd, f, o, rs, ov, _ => (rd, f, o, rs, ov)
  | k + 1, i, rd, f, o, rs, ov, num => if i < n ∧ ¬ tx i = 59 then runF tx n w k (i + 1) (rdT rd (tx i)) f o rs ov num
    else runF tx n w k (i + 1) rdS (putF f (rd 1) (wrapF w (rsF f rd))) (ovF w (rsF f rd) o) (wrapF w (rsF f rd)) (ofF o (ovF w (rsF f rd) o) ov num) (num + 1)
theorem nI_end {i n : Nat} (h : i ≤ n) (hn : n ≤ 60) (c : nI n ≤ nI i) : i = n := by
  have := (nI_leI (a := n) (b := i) (by omega) (by omega)).mp c
  omega
theorem nI_not {i n : Nat} (h : i ≤ n) (hn : n ≤ 60) (c : ¬ nI n ≤ nI i) : i < n := by
  rcases Nat.lt_or_ge i n with q | q
  · exact q
  · exact absurd (nI_le q (by omega)) c
theorem nI_o1 (i : Nat) : nI i + Int32.ofInt 1 = nI (i + 1) := by
  rw [show Int32.ofInt 1 = (1 : Int32) by decide]; exact nI_1 i
theorem nI_lit (n : Nat) : (OfNat.ofNat n : Int32) = nI n := rfl
theorem nI_gt {i n : Nat} (h : i ≤ n + 1) (hn : n ≤ 60) (c : nI n < nI i) : i = n + 1 := by
  have := (nI_ltI (a := n) (b := i) (by omega) (by omega)).mp c
  omega
theorem nI_ngt {i n : Nat} (hn : n ≤ 60) (hi : i ≤ n + 1) (c : ¬ nI n < nI i) : i ≤ n := by
  rcases Nat.lt_or_ge n i with q | q
  · exact absurd (nI_lt q (by omega)) c
  · exact q
def lsub : List (Option Value) → List (Option Value) → Prop
  | [], [] => True
  | none :: a, _ :: b => lsub a b
  | some v :: a, some w :: b => v = w ∧ lsub a b
  | _, _ => False
theorem lsub_at : ∀ {A B : List (Option Value)}, lsub A B → ∀ (i : Nat) (v : Value), A[i]? = some (some v) → B[i]? = some (some v)
  | [], [], _, i, v, h => by simp at h
  | none :: a, b0 :: b, hs, i, v, h => by
    cases i with
    | zero => simp at h
    | succ i => simpa using lsub_at (A := a) (B := b) hs i v (by simpa using h)
  | some w :: a, some x :: b, hs, i, v, h => by
    cases i with
    | zero =>
      obtain ⟨h1, -⟩ := hs
      subst h1
      simpa using h
    | succ i => simpa using lsub_at (A := a) (B := b) hs.2 i v (by simpa using h)
theorem J_weakL {U : jU} {k : jK} {cells slots : Nat} {ws : va_W} {L : List (Option Value)} {pc : Nat} {st : List Value} (L' : List (Option Value)) (h : lsub L' L) (kk : J U k cells slots ws L' pc st) : J U k cells slots ws L pc st := by
  intro H locs ls hP hD hS hl hc
  refine kk H locs ls hP hD hS ⟨hl.1, hl.2.1, fun q hq => ?_⟩ trivial
  · obtain ⟨j, h1, h2⟩ := (jL_mem q L' 0).mp hq
    exact hl.2.2 q ((jL_mem q L 0).mpr ⟨j, h1, lsub_at h j q.2 h2⟩)
def pk (w o t sl bp mw mc hi lo ex : Int32) : Nat → Int32 := fun j => match j with
  | 0 => w
  | 1 => o
  | 2 => t
  | 3 => sl
  | 4 => bp
  | 5 => mw
  | 6 => mc
  | 7 => hi
  | 8 => lo
  | _ => ex
def rem2 (w : Int32) : Int32 := w - w / 2 * 2
def prodF (hi mw lo : Int32) : Int32 := hi <<< (mw &&& 31) + lo
def ush (x k : Int32) : Int32 := (x.toUInt32 >>> (k.toUInt32 &&& Int32.toUInt32 31)).toInt32
def bc1 (x : Int32) : Int32 := x - (ush x 1 &&& 1431655765)
def bc2 (x : Int32) : Int32 := (bc1 x &&& 858993459) + (ush (bc1 x) 2 &&& 858993459)
def bc3 (x : Int32) : Int32 := (bc2 x + ush (bc2 x) 4) &&& 252645135
def bc4 (x : Int32) : Int32 := bc3 x + ush (bc3 x) 8
def bc5 (x : Int32) : Int32 := bc4 x + ush (bc4 x) 16
def bcF (x : Int32) : Int32 := bc5 x &&& 63
def cbF (x y : Int32) : Int32 := (x ^^^ y ^^^ (x + y)) >>> (1 &&& 31)
def rwF (v r : Int32) : Nat → Int32
  | 0 => 0
  | k + 1 => if digF v r (nI k) = 0 then rwF v r k else rwF v r k + 1
def prF (a b r : Int32) : Nat → Int32
  | 0 => 0
  | k + 1 => prF a b r k + (digF b r (nI k) * a) <<< ((nI k * bpdF r) &&& 31)
def pbF (a b : Int32) : Nat → Int32
  | 0 => 0
  | k + 1 => pbF a b k + (bitF b (nI k) * a) <<< (nI k &&& 31)
/-- the run of carries up to a place, and the longest -/
def lrF (x : Int32) : Nat → Int32 × Int32
  | 0 => (0, 0)
  | k + 1 => (if bitF x (nI k) = 1 then (lrF x k).1 + 1 else 0, if (lrF x k).2 < (if bitF x (nI k) = 1 then (lrF x k).1 + 1 else 0) then (if bitF x (nI k) = 1 then (lrF x k).1 + 1 else 0) else (lrF x k).2)
/-- a multiplication's high part, low part, extra bit after so many steps -/
def stF (bp mw mc hi lo ex : Int32) : Nat → Int32 × Int32 × Int32
  | 0 => (hi, lo, ex)
  | k + 1 => (hiF bp mc (stF bp mw mc hi lo ex k).1 (stF bp mw mc hi lo ex k).2.1 (stF bp mw mc hi lo ex k).2.2 >>> (bp &&& 31), loF bp mw mc (stF bp mw mc hi lo ex k).1 (stF bp mw mc hi lo ex k).2.1 (stF bp mw mc hi lo ex k).2.2, bitF (stF bp mw mc hi lo ex k).2.1 (bp - 1))
/-- how many of the digits were not 0 -/
def snF (bp mw mc hi lo ex : Int32) : Nat → Int32
  | 0 => 0
  | k + 1 => if ndF bp (stF bp mw mc hi lo ex k).2.1 (stF bp mw mc hi lo ex k).2.2 = 0 then snF bp mw mc hi lo ex k else snF bp mw mc hi lo ex k + 1
theorem nI_sub1 {k n : Nat} (h : k < n) : nI (n - k) + Int32.ofInt (-1) = nI (n - (k + 1)) := by
  rw [show n - k = (n - (k + 1)) + 1 by omega, show Int32.ofInt (-1) = (-1 : Int32) by decide]
  exact pk_m1 _
theorem nI_posN {n : Nat} (hn : n < 2 ^ 31) (h : 0 < nI n) : 0 < n := by
  rcases Nat.lt_or_ge 0 n with q | q
  · exact q
  · have : n = 0 := by omega
    subst this
    exact absurd h (by decide)
theorem nI_nposN {n : Nat} (hn : n < 2 ^ 31) (h : nI n ≤ 0) : n = 0 := by
  rcases Nat.lt_or_ge 0 n with q | q
  · exact absurd h (nI_nle q hn)
  · omega
theorem nI_geN {i n : Nat} (hi : i < 2 ^ 31) (hn : n < 2 ^ 31) (h : nI n ≤ nI i) : n ≤ i := (nI_leI hn hi).mp h
theorem nI_ngeN {i n : Nat} (hi : i < 2 ^ 31) (hn : n < 2 ^ 31) (h : ¬ nI n ≤ nI i) : i < n := by
  rcases Nat.lt_or_ge i n with q | q
  · exact q
  · exact absurd ((nI_leI hn hi).mpr q) h
theorem nI_nle0 {n : Nat} (h : ¬ nI n ≤ 0) : 0 < n := by
  rcases Nat.eq_zero_or_pos n with q | q
  · subst q; exact absurd (by decide) h
  · exact q
theorem nI_subS {k n : Nat} (h : k < n) : nI (n - k) - 1 = nI (n - (k + 1)) := by
  rw [show n - k = (n - (k + 1)) + 1 by omega]
  exact nI_pred _
theorem addI0 (x : Int32) : x = x + nI 0 := by rw [nI_0]; simp
theorem addIS (x : Int32) (i : Nat) : x + nI i + 1 = x + nI (i + 1) := by rw [Int32.add_assoc, nI_1]
/-! words for what the reference's methods answer -/
abbrev inF (v l h : Int32) : Prop := ¬ v < l ∧ ¬ h < v
theorem b2i_c {P Q : Prop} [Decidable P] [Decidable Q] (h : P ↔ Q) : b2i P = b2i Q := by
  unfold b2i
  by_cases p : P
  · rw [if_pos p, if_pos (h.mp p)]
  · rw [if_neg p, if_neg (fun q => p (h.mpr q))]
theorem inReg (r : Int32) : inF r 0 5 ↔ isReg r := by
  unfold inF isReg
  simp only [Int32.lt_iff_toInt_lt, Int32.le_iff_toInt_le]
  have h0 : (0 : Int32).toInt = 0 := rfl
  have h5 : (5 : Int32).toInt = 5 := rfl
  have h6 : (6 : Int32).toInt = 6 := rfl
  omega
theorem inRec (r : Int32) : inF r 0 2 ↔ isRec r := by
  unfold inF isRec
  have h0 : (0 : Int32).toInt = 0 := rfl
  have h1 : (1 : Int32).toInt = 1 := rfl
  have h2 : (2 : Int32).toInt = 2 := rfl
  constructor
  · rintro ⟨a, b⟩
    rw [Int32.lt_iff_toInt_lt, h0] at a
    rw [Int32.lt_iff_toInt_lt, h2] at b
    rcases (show r.toInt = 0 ∨ r.toInt = 1 ∨ r.toInt = 2 by omega) with q | q | q
    · exact Or.inl (Int32.toInt_inj.mp (q.trans h0.symm))
    · exact Or.inr (Or.inl (Int32.toInt_inj.mp (q.trans h1.symm)))
    · exact Or.inr (Or.inr (Int32.toInt_inj.mp (q.trans h2.symm)))
  · rintro (q | q | q) <;> subst q <;> decide
def loV (w : Int32) : Int32 := -((1 : Int32) <<< ((w - 1) &&& 31))
def hiV (w : Int32) : Int32 := (1 : Int32) <<< ((w - 1) &&& 31) - 1
abbrev isVal (w v : Int32) : Prop := inF v (loV w) (hiV w)
def mwF (w v : Int32) : Int32 := if bitsF w v < (1 : Int32) <<< ((w - 1) &&& 31) then bitsF w v else bitsF w v - (1 : Int32) <<< (w &&& 31)
def mbF (v k : Int32) : Int32 := if 0 ≤ k then bitF v k else 0
/-- o places on, i of them come from src -/
def cpF (src dst : Nat → Int32) (o i : Nat) : Nat → Int32 := fun j => if o ≤ j ∧ j < o + i then src (j - o) else dst j
theorem cp_0 (src dst : Nat → Int32) (o : Nat) : cpF src dst o 0 = dst := by
  funext j
  unfold cpF
  rw [if_neg (by omega)]
theorem cp_s (src dst : Nat → Int32) (o i : Nat) : upd (cpF src dst o i) (o + i) (src i) = cpF src dst o (i + 1) := by
  funext j
  unfold upd cpF
  by_cases h : j = o + i
  · subst h
    rw [if_pos rfl, if_pos (by omega), show o + i - o = i by omega]
  · rw [if_neg h]
    by_cases h2 : o ≤ j ∧ j < o + i
    · rw [if_pos h2, if_pos (by omega)]
    · rw [if_neg h2, if_neg (by omega)]
theorem cp_s0 (src dst : Nat → Int32) (i : Nat) : upd (cpF src dst 0 i) i (src i) = cpF src dst 0 (i + 1) := by
  have := cp_s src dst 0 i
  rwa [Nat.zero_add] at this
theorem cp_f (src dst : Nat → Int32) (n j : Nat) (h : j < n) : src j = cpF src dst 0 n j := by
  unfold cpF
  rw [if_pos (by omega), Nat.sub_zero]
def shF (gt : Nat → Int32) (i : Nat) : Nat → Int32 := fun j => if j < i then gt (j + 16) else gt j
theorem sh_0 (gt : Nat → Int32) : shF gt 0 = gt := rfl
theorem sh_s (gt : Nat → Int32) (i : Nat) : upd (shF gt i) i (shF gt i (i + 16)) = shF gt (i + 1) := by
  funext j
  unfold upd shF
  by_cases h : j = i
  · subst h
    rw [if_pos rfl, if_neg (by omega), if_pos (by omega)]
  · rw [if_neg h]
    by_cases h2 : j < i
    · rw [if_pos h2, if_pos (by omega)]
    · rw [if_neg h2, if_neg (by omega)]
def spR (v : Int32) : Nat → Int32
  | 0 => v
  | k + 1 => (spR v k - (if spR v k &&& 1 = 0 then 0 else 2 - (spR v k &&& 3))) >>> (1 &&& 31)
def spD (r : Int32) : Int32 := if r &&& 1 = 0 then 0 else 2 - (r &&& 3)
def mdF (v r : Int32) (k : Nat) : Int32 := if r = 2 then spD (spR v k) else if r = 0 then mbF v (nI k - 1) - mbF v (nI k) else mbF v (nI (2 * k) - 1) + mbF v (nI (2 * k)) - (2 : Int32) * mbF v (nI (2 * k + 1))
def smF (r w : Int32) : Int32 := if r = 0 then w else w / 2
def mdg (g : Nat → Int32) : Int32 := if g 8 = 0 then g 11 - (g 10 &&& 1) else g 11 + (g 10 &&& 1) - (g 10 &&& 2)
def mhi (g : Nat → Int32) : Int32 := g 9 + mdg g * g 12
def mex (g : Nat → Int32) : Int32 := (g 10 >>> ((g 8 + 1 - 1) &&& 31)) &&& 1
def mlo (g : Nat → Int32) : Int32 := (g 10 >>> ((g 8 + 1) &&& 31)) ||| ((mhi g &&& ((1 : Int32) <<< ((g 8 + 1) &&& 31) - 1)) <<< ((g 0 - (g 8 + 1)) &&& 31))
def soF (g : Nat → Int32) : Nat → Int32 := upd (upd (upd (upd (upd g 11 (mex g)) 10 (mlo g)) 9 (mhi g >>> ((g 8 + 1) &&& 31))) 7 (g 7 - 1)) 14 (g 14 + 1)
def laF (g : Nat → Int32) (r v : Int32) : Nat → Int32 := upd (upd g 13 (g 13 + (if isVal (g 0) v then 0 else 1))) (1 + r.toNatClampNeg) (mwF (g 0) v)
theorem i1r {r : Int32} (h : isReg r) : ((1 : Int32) + r).toNatClampNeg = 1 + r.toNatClampNeg := by
  obtain ⟨j, hj, e⟩ := vp_in_of (isReg_in h) (by omega)
  subst e
  rw [show (1 : Int32) = nI 1 from rfl, nI_add, nI_clamp (by omega), nI_clamp (by omega)]
theorem i1in {r : Int32} (h : isReg r) : vp_in ((1 : Int32) + r) 16 := by
  obtain ⟨j, hj, e⟩ := vp_in_of (isReg_in h) (by omega)
  subst e
  rw [show (1 : Int32) = nI 1 from rfl, nI_add]
  exact vp_in_nI (by omega) (by omega)
theorem nI_exit {i n : Nat} (h : i ≤ n) (hn : n < 2 ^ 31) (c : nI n ≤ nI i) : i = n := by
  have := (nI_leI (a := n) (b := i) hn (by omega)).mp c
  omega
def swF (g : Nat → Int32) (p : Int32) : Nat → Int32 := fun j => if j = 0 then p else if j < 7 then mwF p (g j) else if j = 7 then -1 else if j < 13 then 0 else g j
