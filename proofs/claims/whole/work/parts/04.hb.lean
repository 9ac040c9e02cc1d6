def recF (gs gt : Nat → Int32) (c : Nat) : Nat → Int32 := if c = 4 then cpF gs (shF gt 48) 48 16 else cpF gs gt (16 * c) 16
def mfF (g : Nat → Int32) : Nat → (Nat → Int32)
  | 0 => g
  | k + 1 => soF (mfF g k)
def mnF (g : Nat → Int32) : Nat → Int32
  | 0 => 0
  | k + 1 => mnF g k + (if mdg (mfF g k) = 0 then 0 else 1)
def onF (v : Int32) : Nat → Int32
  | 0 => 0
  | k + 1 => onF v k + ((v >>> (nI k &&& 31)) &&& 1)
/-- the reference's adding: the carry out of so many bits, how many carries, the run, the longest -/
def caC (a b : Int32) : Nat → Int32
  | 0 => 0
  | k + 1 => (mbF a (nI k) + mbF b (nI k) + caC a b k) / 2
def caN (a b : Int32) : Nat → Int32
  | 0 => 0
  | k + 1 => caN a b k + caC a b (k + 1)
def caR (a b : Int32) : Nat → Int32
  | 0 => 0
  | k + 1 => if caC a b (k + 1) = 1 then caR a b k + 1 else 0
def caM (a b : Int32) : Nat → Int32
  | 0 => 0
  | k + 1 => if caM a b k < caR a b (k + 1) then caR a b (k + 1) else caM a b k
def mrF (d : Nat → Int32) : Nat → Int32
  | 0 => 0
  | k + 1 => mrF d k + (if d k = 0 then 0 else 1)
def mpF (d : Nat → Int32) (a r : Int32) : Nat → Int32
  | 0 => 0
  | k + 1 => mpF d a r k + (d k * a) <<< ((if r = 1 then 2 * nI k else nI k) &&& 31)
def dgF (v r : Int32) (g : Nat → Int32) (n : Nat) : Nat → Int32 := fun j => if j < n then mdF v r j else g j
theorem dg_0 (v r : Int32) (g : Nat → Int32) : dgF v r g 0 = g := rfl
theorem dg_s (v r : Int32) (g : Nat → Int32) (i : Nat) (x : Int32) (h : x = mdF v r i) : upd (dgF v r g i) i x = dgF v r g (i + 1) := by
  funext j
  unfold upd dgF
  by_cases h2 : j = i
  · subst h2
    rw [if_pos rfl, if_pos (by omega), h]
  · rw [if_neg h2]
    by_cases h3 : j < i
    · rw [if_pos h3, if_pos (by omega)]
    · rw [if_neg h3, if_neg (by omega)]
