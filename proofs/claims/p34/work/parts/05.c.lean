/-! ===== the law's own rules: the script, its end ===== -/
section JLaw
variable {U : jU} {k : jK} {cc : ByteArray} {own : String} {Ts : List Cond} {rm : Room} {cells slots : Nat} {ws : va_W} {L : List (Option Value)} {pc : Nat} {st : List Value}
def jScr (k : jK) (b N : Nat) (xs : Nat → Int32) : Prop := va_X b N xs k.2.2.2.1 k.2.2.2.2.2.2.2.2.2.2.1 ∧ b < k.2.2.2.2.2.2.2.2.2.2.1.size ∧ ¬ k.2.2.2.2.2.2.2.2.2.1 b
theorem J_sld (C : Cx U k cc own Ts rm) {b N : Nat} {xs : Nat → Int32} (S : jScr k b N xs) {i v : Int32} (hin : vp_in i N) (hv : xs i.toNatClampNeg = v) (hdg : decode cc pc = .ok (.iaload, 1)) (kk : J U k cells slots ws L (pc + 1) (.int v :: st)) : J U k cells slots ws L pc (.int i :: .ref b :: st) :=
  fun H locs ls hP hD hS hl hc => va_sld C.1.1 C.1.2.1 S.1 S.2.1 S.2.2 hS hin hdg (by rw [hv]; exact kk H locs ls hP hD hS hl hc)
theorem J_slen (C : Cx U k cc own Ts rm) {b N : Nat} {xs : Nat → Int32} (S : jScr k b N xs) {v : Int32} (hv : Int32.ofNat N = v) (hdg : decode cc pc = .ok (.arraylength, 1)) (kk : J U k cells slots ws L (pc + 1) (.int v :: st)) : J U k cells slots ws L pc (.ref b :: st) :=
  fun H locs ls hP hD hS hl hc => va_slen C.1.1 C.1.2.1 S.1 S.2.1 S.2.2 hS hdg (by rw [hv]; exact kk H locs ls hP hD hS hl hc)
end JLaw
