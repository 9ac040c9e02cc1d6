/-! ===== words for what the methods answer ===== -/
theorem neI {x k : Int32} {a : Int} (h : ¬ x = k) (hk : k.toInt = a) : x.toInt ≠ a := fun e => h (Int32.toInt_inj.mp (e.trans hk.symm))
theorem jat2_IA : ∀ w ∈ (vx_atS RX5 40 "java/lang/IllegalArgumentException" jNm).filter (fun w => !goodWord w), w ∈ [Cond.castable "java/lang/IllegalArgumentException" "java/lang/IllegalArgumentException", .declares (Bundle.initS "java/lang/RuntimeException"), .declares (Bundle.initS "java/lang/Exception"), .declares (Bundle.initS "java/lang/Throwable")] := by decide +kernel
theorem jat2_IO : ∀ w ∈ (vx_atS RX5 170 "java/lang/IndexOutOfBoundsException" jNm).filter (fun w => !goodWord w), w ∈ [Cond.castable "java/lang/IndexOutOfBoundsException" "java/lang/IndexOutOfBoundsException", .declares (Bundle.initS "java/lang/RuntimeException"), .declares (Bundle.initS "java/lang/Exception"), .declares (Bundle.initS "java/lang/Throwable")] := by decide +kernel
theorem jat2_IS : ∀ w ∈ (vx_atS RX5 97 "java/lang/IllegalStateException" jNm).filter (fun w => !goodWord w), w ∈ [Cond.castable "java/lang/IllegalStateException" "java/lang/IllegalStateException", .declares (Bundle.initS "java/lang/RuntimeException"), .declares (Bundle.initS "java/lang/Exception"), .declares (Bundle.initS "java/lang/Throwable")] := by decide +kernel
theorem jgood_IA : ∀ w ∈ Cond.classLink RX5 36 "java/lang/IllegalArgumentException" :: Cond.initialized "java/lang/IllegalArgumentException" :: vx_atS RX5 40 "java/lang/IllegalArgumentException" jNm, vx_ot w = true := by decide +kernel
theorem jgood_IO : ∀ w ∈ Cond.classLink RX5 166 "java/lang/IndexOutOfBoundsException" :: Cond.initialized "java/lang/IndexOutOfBoundsException" :: vx_atS RX5 170 "java/lang/IndexOutOfBoundsException" jNm, vx_ot w = true := by decide +kernel
theorem jgood_IS : ∀ w ∈ Cond.classLink RX5 93 "java/lang/IllegalStateException" :: Cond.initialized "java/lang/IllegalStateException" :: vx_atS RX5 97 "java/lang/IllegalStateException" jNm, vx_ot w = true := by decide +kernel
abbrev isReg (r : Int32) : Prop := ¬ r < 0 ∧ ¬ 6 ≤ r
abbrev isRec (r : Int32) : Prop := r = 0 ∨ r = 1 ∨ r = 2
def bitF (v p : Int32) : Int32 := (v >>> (p &&& 31)) &&& 1
def bpdF (r : Int32) : Int32 := if r = 1 then 2 else 1
def dcntF (r w : Int32) : Int32 := if r = 1 then w / 2 else w
def digF (v r p : Int32) : Int32 := if r = 0 then bitF (v <<< (1 &&& 31)) p - bitF (v <<< (1 &&& 31)) (p + 1) else if r = 1 then bitF (v <<< (1 &&& 31)) ((2 : Int32) * p) + bitF (v <<< (1 &&& 31)) ((2 : Int32) * p + 1) - (2 : Int32) * bitF (v <<< (1 &&& 31)) ((2 : Int32) * p + 2) else bitF ((3 : Int32) * v) (p + 1) - bitF v (p + 1)
def wrapF (w v : Int32) : Int32 := (v <<< ((32 - w) &&& 31)) >>> ((32 - w) &&& 31)
def valF (f : Nat → Int32) (r : Int32) : Int32 := if isReg r then f r.toNatClampNeg else 0
def bitsF (w v : Int32) : Int32 := v &&& ((1 : Int32) <<< (w &&& 31) - 1)
def ovF (w v o : Int32) : Int32 := if wrapF w v = v then o else o + 1
def putF (f : Nat → Int32) (r x : Int32) : Nat → Int32 := if isReg r then upd f r.toNatClampNeg x else f
def ndF (bp lo ex : Int32) : Int32 := if bp = 1 then ex - bitF lo 0 else ex + bitF lo 0 - (2 : Int32) * bitF lo 1
def hiF (bp mc hi lo ex : Int32) : Int32 := hi + ndF bp lo ex * mc
def loF (bp mw mc hi lo ex : Int32) : Int32 := (lo >>> (bp &&& 31)) ||| ((hiF bp mc hi lo ex &&& ((1 : Int32) <<< (bp &&& 31) - 1)) <<< ((mw - bp) &&& 31))
theorem isReg_in {r : Int32} (h : isReg r) : vp_in r 6 := by
  obtain ⟨h1, h2⟩ := h
  refine vp_in_iff.mpr ⟨?_, ?_⟩
  · rw [Int32.lt_iff_toInt_lt] at h1; have : (0 : Int32).toInt = 0 := rfl; omega
  · rw [Int32.le_iff_toInt_le] at h2; have : (6 : Int32).toInt = 6 := rfl; omega
abbrev isLet (c : Int32) : Prop := ¬ c < 65 ∧ ¬ 70 < c
abbrev isDig (c : Int32) : Prop := ¬ c < 48 ∧ ¬ 57 < c
def mn4 (c : Int32) : Int32 := if 4 < c + 1 then 4 else c + 1
def jr4 (s0 s1 s2 s3 : Nat) : Nat → Option Nat := fun i => match i with
  | 0 => some s0
  | 1 => some s1
  | 2 => some s2
  | _ => some s3
def wdF (nu c : Int32) : Int32 := nu * 10 + (c - 48)
def gsF (ng : Int32) : Int32 := if ng = 0 then 32767 else 32768
def sasF (c : Int32) : Int32 := if isLet c then 3 else if c = 45 then 4 else if c = 35 then 5 else -1
def sanF (c : Int32) : Int32 := if c = 45 then 6 else if c = 48 then 8 else if isDig c then 7 else -1
def saF (sg ng nu c : Int32) : Int32 := if sg = 0 then (if isLet c then 1 else -1) else if sg = 1 then (if c = 61 then 2 else -1) else if sg = 2 then sasF c else if sg = 3 then (if c = 43 ∨ c = 45 ∨ c = 42 then 4 else -1) else if sg = 4 then (if isLet c then 8 else -1) else if sg = 5 then sanF c else if sg = 6 then (if isDig c ∧ ¬ c = 48 then 7 else -1) else if sg = 7 then (if isDig c ∧ ¬ gsF ng < wdF nu c then 7 else -1) else -1
abbrev isNm (sg : Int32) : Prop := sg = 5 ∨ sg = 6 ∨ sg = 7
def ntT (sg tg c : Int32) : Int32 := if sg = 0 then c - 65 else tg
def ntF (sg fi c : Int32) : Int32 := if sg = 2 ∧ isLet c then c - 65 else fi
def ntO (sg op c : Int32) : Int32 := if sg = 3 ∨ (sg = 2 ∧ ¬ isLet c) then c else op
def ntS (sg se c : Int32) : Int32 := if sg = 4 then c - 65 else se
def ntN (sg ng c : Int32) : Int32 := if isNm sg ∧ c = 45 then 1 else ng
def ntU (sg nu c : Int32) : Int32 := if isNm sg ∧ ¬ c = 45 then wdF nu c else nu
def resF (f : Nat → Int32) (fi op se ng nu : Int32) : Int32 := if op = 43 then valF f fi + valF f se else if op = 45 then valF f fi - valF f se else if op = 42 then valF f fi * valF f se else if ng = 0 then nu else -nu
