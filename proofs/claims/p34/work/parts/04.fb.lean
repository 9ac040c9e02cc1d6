set_option maxHeartbeats 4000000 in
set_option maxRecDepth 100000 in
theorem c_X5_bit (U : jU) (p0 p1 : Int32)  : Fn U yX5_bit wsX5_bit { frames := 0, cells := 0, slots := 0, locals := 0 } [.int p0, .int p1] [] (some (.int (bitF p0 p1))) [] 0 0 := by
  refine Fn_of (cc := cX5_bit) (maxL := 2) (ret := (some .int)) [some (.int p0), some (.int p1)] (by decide +kernel) rfl (jcat rfl) (Nat.le_of_ble_eq_true rfl) rfl (fun k C R hin hnL => ?_)
  have hN : ∀ i, i < 2 → i < k.2.2.2.2.2.2.2.2.2.2.2.1 := fun i h => by rw [hnL]; exact h
  refine J_iload_n C dX5_bit_0 rfl rfl ?_
  refine J_iload_n C dX5_bit_1 rfl rfl ?_
  refine J_ishr C (v := p0 >>> (p1 &&& 31)) dX5_bit_2 rfl ?_
  refine J_iconst C (v := (1 : Int32)) dX5_bit_3 (by decide) ?_
  refine J_iand C (v := (p0 >>> (p1 &&& 31)) &&& (1 : Int32)) dX5_bit_4 rfl ?_
  exact J_iret C R dX5_bit_5 (Nat.le_of_ble_eq_true rfl) (Nat.le_of_ble_eq_true rfl) rfl rfl
set_option maxHeartbeats 4000000 in
set_option maxRecDepth 100000 in
theorem c_X5_bitsPerDigit (U : jU) (p0 : Int32)  : Fn U yX5_bitsPerDigit wsX5_bitsPerDigit { frames := 0, cells := 0, slots := 0, locals := 0 } [.int p0] [] (some (.int (bpdF p0))) [] 0 0 := by
  refine Fn_of (cc := cX5_bitsPerDigit) (maxL := 1) (ret := (some .int)) [some (.int p0)] (by decide +kernel) rfl (jcat rfl) (Nat.le_of_ble_eq_true rfl) rfl (fun k C R hin hnL => ?_)
  have hN : ∀ i, i < 1 → i < k.2.2.2.2.2.2.2.2.2.2.2.1 := fun i h => by rw [hnL]; exact h
  refine J_iload_n C dX5_bitsPerDigit_0 rfl rfl ?_
  refine J_iconst C (v := (1 : Int32)) dX5_bitsPerDigit_1 (by decide) ?_
  refine J_icmp_ne C 9 dX5_bitsPerDigit_2 (by decide) (fun c_2_1 => ?_) (fun c_2_1 => ?_)
  · refine J_iconst C (v := (1 : Int32)) dX5_bitsPerDigit_9 (by decide) ?_
    exact J_iret C R dX5_bitsPerDigit_10 (Nat.le_of_ble_eq_true rfl) (Nat.le_of_ble_eq_true rfl) (by simp [bpdF, c_2_1]) rfl
  · refine J_iconst C (v := (2 : Int32)) dX5_bitsPerDigit_5 (by decide) ?_
    refine J_goto C 10 dX5_bitsPerDigit_6 (by decide) ?_
    exact J_iret C R dX5_bitsPerDigit_10 (Nat.le_of_ble_eq_true rfl) (Nat.le_of_ble_eq_true rfl) (by simp [bpdF, c_2_1]) rfl
set_option maxHeartbeats 4000000 in
set_option maxRecDepth 100000 in
theorem c_X5_digitCount (U : jU) (p0 p1 : Int32)  : Fn U yX5_digitCount wsX5_digitCount { frames := 0, cells := 0, slots := 0, locals := 0 } [.int p0, .int p1] [] (some (.int (dcntF p0 p1))) [] 0 0 := by
  refine Fn_of (cc := cX5_digitCount) (maxL := 2) (ret := (some .int)) [some (.int p0), some (.int p1)] (by decide +kernel) rfl (jcat rfl) (Nat.le_of_ble_eq_true rfl) rfl (fun k C R hin hnL => ?_)
  have hN : ∀ i, i < 2 → i < k.2.2.2.2.2.2.2.2.2.2.2.1 := fun i h => by rw [hnL]; exact h
  refine J_iload_n C dX5_digitCount_0 rfl rfl ?_
  refine J_iconst C (v := (1 : Int32)) dX5_digitCount_1 (by decide) ?_
  refine J_icmp_ne C 11 dX5_digitCount_2 (by decide) (fun c_2_1 => ?_) (fun c_2_1 => ?_)
  · refine J_iload_n C dX5_digitCount_11 rfl rfl ?_
    exact J_iret C R dX5_digitCount_12 (Nat.le_of_ble_eq_true rfl) (Nat.le_of_ble_eq_true rfl) (by simp [dcntF, c_2_1]) rfl
  · refine J_iload_n C dX5_digitCount_5 rfl rfl ?_
    refine J_iconst C (v := (2 : Int32)) dX5_digitCount_6 (by decide) ?_
    refine J_idiv C (v := p1 / (2 : Int32)) dX5_digitCount_7 (by decide) rfl ?_
    refine J_goto C 12 dX5_digitCount_8 (by decide) ?_
    exact J_iret C R dX5_digitCount_12 (Nat.le_of_ble_eq_true rfl) (Nat.le_of_ble_eq_true rfl) (by simp [dcntF, c_2_1]) rfl
set_option maxHeartbeats 4000000 in
set_option maxRecDepth 100000 in
theorem c_X5_isRegister (U : jU) (p0 : Int32)  : Fn U yX5_isRegister wsX5_isRegister { frames := 0, cells := 0, slots := 0, locals := 0 } [.int p0] [] (some (.int (b2i (isReg p0)))) [] 0 0 := by
  refine Fn_of (cc := cX5_isRegister) (maxL := 1) (ret := (some .boolean)) [some (.int p0)] (by decide +kernel) rfl (jcat rfl) (Nat.le_of_ble_eq_true rfl) rfl (fun k C R hin hnL => ?_)
  have hN : ∀ i, i < 1 → i < k.2.2.2.2.2.2.2.2.2.2.2.1 := fun i h => by rw [hnL]; exact h
  refine J_iload_n C dX5_isRegister_0 rfl rfl ?_
  refine J_if_lt C 14 dX5_isRegister_1 (by decide) (fun c_1_1 => ?_) (fun c_1_1 => ?_)
  · refine J_iconst C (v := (0 : Int32)) dX5_isRegister_14 (by decide) ?_
    exact J_zret C R rfl dX5_isRegister_15 (Nat.le_of_ble_eq_true rfl) (Nat.le_of_ble_eq_true rfl) (congrArg (fun z => some (Value.int z)) (b2i_f (P := isReg p0) (by simp_all [isReg, isRec, isLet, isDig]))) rfl
  · refine J_iload_n C dX5_isRegister_4 rfl rfl ?_
    refine J_bipush C (v := (6 : Int32)) dX5_isRegister_5 (by decide) ?_
    refine J_icmp_ge C 14 dX5_isRegister_7 (by decide) (fun c_7_2 => ?_) (fun c_7_2 => ?_)
    · refine J_iconst C (v := (0 : Int32)) dX5_isRegister_14 (by decide) ?_
      exact J_zret C R rfl dX5_isRegister_15 (Nat.le_of_ble_eq_true rfl) (Nat.le_of_ble_eq_true rfl) (congrArg (fun z => some (Value.int z)) (b2i_f (P := isReg p0) (by simp_all [isReg, isRec, isLet, isDig]))) rfl
    · refine J_iconst C (v := (1 : Int32)) dX5_isRegister_10 (by decide) ?_
      refine J_goto C 15 dX5_isRegister_11 (by decide) ?_
      exact J_zret C R rfl dX5_isRegister_15 (Nat.le_of_ble_eq_true rfl) (Nat.le_of_ble_eq_true rfl) (congrArg (fun z => some (Value.int z)) (b2i_t (P := isReg p0) (by simp_all [isReg, isRec, isLet, isDig]))) rfl
set_option maxHeartbeats 4000000 in
set_option maxRecDepth 100000 in
theorem c_X5_isRecoding (U : jU) (p0 : Int32)  : Fn U yX5_isRecoding wsX5_isRecoding { frames := 0, cells := 0, slots := 0, locals := 0 } [.int p0] [] (some (.int (b2i (isRec p0)))) [] 0 0 := by
  refine Fn_of (cc := cX5_isRecoding) (maxL := 1) (ret := (some .boolean)) [some (.int p0)] (by decide +kernel) rfl (jcat rfl) (Nat.le_of_ble_eq_true rfl) rfl (fun k C R hin hnL => ?_)
  have hN : ∀ i, i < 1 → i < k.2.2.2.2.2.2.2.2.2.2.2.1 := fun i h => by rw [hnL]; exact h
  refine J_iload_n C dX5_isRecoding_0 rfl rfl ?_
  refine J_if_eq C 14 dX5_isRecoding_1 (by decide) (fun c_1_1 => ?_) (fun c_1_1 => ?_)
  · refine J_iconst C (v := (1 : Int32)) dX5_isRecoding_14 (by decide) ?_
    refine J_goto C 19 dX5_isRecoding_15 (by decide) ?_
    exact J_zret C R rfl dX5_isRecoding_19 (Nat.le_of_ble_eq_true rfl) (Nat.le_of_ble_eq_true rfl) (congrArg (fun z => some (Value.int z)) (b2i_t (P := isRec p0) (by simp_all [isReg, isRec, isLet, isDig]))) rfl
  · refine J_iload_n C dX5_isRecoding_4 rfl rfl ?_
    refine J_iconst C (v := (1 : Int32)) dX5_isRecoding_5 (by decide) ?_
    refine J_icmp_eq C 14 dX5_isRecoding_6 (by decide) (fun c_6_2 => ?_) (fun c_6_2 => ?_)
    · refine J_iconst C (v := (1 : Int32)) dX5_isRecoding_14 (by decide) ?_
      refine J_goto C 19 dX5_isRecoding_15 (by decide) ?_
      exact J_zret C R rfl dX5_isRecoding_19 (Nat.le_of_ble_eq_true rfl) (Nat.le_of_ble_eq_true rfl) (congrArg (fun z => some (Value.int z)) (b2i_t (P := isRec p0) (by simp_all [isReg, isRec, isLet, isDig]))) rfl
    · refine J_iload_n C dX5_isRecoding_9 rfl rfl ?_
      refine J_iconst C (v := (2 : Int32)) dX5_isRecoding_10 (by decide) ?_
      refine J_icmp_ne C 18 dX5_isRecoding_11 (by decide) (fun c_11_3 => ?_) (fun c_11_3 => ?_)
      · refine J_iconst C (v := (0 : Int32)) dX5_isRecoding_18 (by decide) ?_
        exact J_zret C R rfl dX5_isRecoding_19 (Nat.le_of_ble_eq_true rfl) (Nat.le_of_ble_eq_true rfl) (congrArg (fun z => some (Value.int z)) (b2i_f (P := isRec p0) (by simp_all [isReg, isRec, isLet, isDig]))) rfl
      · refine J_iconst C (v := (1 : Int32)) dX5_isRecoding_14 (by decide) ?_
        refine J_goto C 19 dX5_isRecoding_15 (by decide) ?_
        exact J_zret C R rfl dX5_isRecoding_19 (Nat.le_of_ble_eq_true rfl) (Nat.le_of_ble_eq_true rfl) (congrArg (fun z => some (Value.int z)) (b2i_t (P := isRec p0) (by simp_all [isReg, isRec, isLet, isDig]))) rfl
set_option maxHeartbeats 4000000 in
set_option maxRecDepth 100000 in
theorem c_X5_digit (U : jU) (p0 p1 p2 : Int32)  : Fn U yX5_digit wsX5_digit { frames := 1, cells := 0, slots := 0, locals := 21 } [.int p0, .int p1, .int p2] [] (some (.int (digF p0 p1 p2))) [] 0 0 := by
  refine Fn_of (cc := cX5_digit) (maxL := 4) (ret := (some .int)) [some (.int p0), some (.int p1), some (.int p2), none] (by decide +kernel) rfl (jcat rfl) (Nat.le_of_ble_eq_true rfl) rfl (fun k C R hin hnL => ?_)
  have hN : ∀ i, i < 4 → i < k.2.2.2.2.2.2.2.2.2.2.2.1 := fun i h => by rw [hnL]; exact h
  refine J_iload_n C dX5_digit_0 rfl rfl ?_
  refine J_iconst C (v := (1 : Int32)) dX5_digit_1 (by decide) ?_
  refine J_ishl C (v := p0 <<< ((1 : Int32) &&& 31)) dX5_digit_2 rfl ?_
  refine J_istore_n C [some (.int p0), some (.int p1), some (.int p2), some (.int (p0 <<< ((1 : Int32) &&& 31)))] dX5_digit_3 rfl (hN 3 (by decide)) rfl rfl ?_
  refine J_iload_n C dX5_digit_4 rfl rfl ?_
  by_cases c_5_1 : p1 = 0
  · refine J_lookup C (27) 32 dX5_digit_5 (by decide) (by rw [c_5_1]; decide) (by decide) ?_
    refine J_iload_n C dX5_digit_32 rfl rfl ?_
    refine J_iload_n C dX5_digit_33 rfl rfl ?_
    refine J_callS C (c_X5_bit U (p0 <<< ((1 : Int32) &&& 31)) p2 ) gX5_digit_X5_bit (n := 2) rfl rfl rfl (by decide +kernel) ⟨Nat.le_of_ble_eq_true rfl, Nat.le_of_ble_eq_true rfl⟩ rfl (rest := []) rfl (Nat.le_of_ble_eq_true rfl) [] [] [] [] (wr := []) rfl rfl rfl rfl (by decide) rfl rfl  dX5_digit_34 ⟨Nat.le_of_ble_eq_true rfl, Nat.le_of_ble_eq_true rfl⟩ [.int (bitF (p0 <<< ((1 : Int32) &&& 31)) p2)] rfl ?_
    refine J_iload_n C dX5_digit_37 rfl rfl ?_
    refine J_iload_n C dX5_digit_38 rfl rfl ?_
    refine J_iconst C (v := (1 : Int32)) dX5_digit_39 (by decide) ?_
    refine J_iadd C (v := p2 + (1 : Int32)) dX5_digit_40 rfl ?_
    refine J_callS C (c_X5_bit U (p0 <<< ((1 : Int32) &&& 31)) (p2 + (1 : Int32)) ) gX5_digit_X5_bit (n := 2) rfl rfl rfl (by decide +kernel) ⟨Nat.le_of_ble_eq_true rfl, Nat.le_of_ble_eq_true rfl⟩ rfl (rest := [.int (bitF (p0 <<< ((1 : Int32) &&& 31)) p2)]) rfl (Nat.le_of_ble_eq_true rfl) [] [] [] [] (wr := []) rfl rfl rfl rfl (by decide) rfl rfl  dX5_digit_41 ⟨Nat.le_of_ble_eq_true rfl, Nat.le_of_ble_eq_true rfl⟩ [.int (bitF (p0 <<< ((1 : Int32) &&& 31)) (p2 + (1 : Int32))), .int (bitF (p0 <<< ((1 : Int32) &&& 31)) p2)] rfl ?_
    refine J_isub C (v := (bitF (p0 <<< ((1 : Int32) &&& 31)) p2) - (bitF (p0 <<< ((1 : Int32) &&& 31)) (p2 + (1 : Int32)))) dX5_digit_44 rfl ?_
    exact J_iret C R dX5_digit_45 (Nat.le_of_ble_eq_true rfl) (Nat.le_of_ble_eq_true rfl) (by simp [digF, c_5_1]) rfl
  by_cases c_5_2 : p1 = 1
  · refine J_lookup C (41) 46 dX5_digit_5 (by decide) (by rw [c_5_2]; decide) (by decide) ?_
    refine J_iload_n C dX5_digit_46 rfl rfl ?_
    refine J_iconst C (v := (2 : Int32)) dX5_digit_47 (by decide) ?_
    refine J_iload_n C dX5_digit_48 rfl rfl ?_
    refine J_imul C (v := (2 : Int32) * p2) dX5_digit_49 rfl ?_
    refine J_callS C (c_X5_bit U (p0 <<< ((1 : Int32) &&& 31)) ((2 : Int32) * p2) ) gX5_digit_X5_bit (n := 2) rfl rfl rfl (by decide +kernel) ⟨Nat.le_of_ble_eq_true rfl, Nat.le_of_ble_eq_true rfl⟩ rfl (rest := []) rfl (Nat.le_of_ble_eq_true rfl) [] [] [] [] (wr := []) rfl rfl rfl rfl (by decide) rfl rfl  dX5_digit_50 ⟨Nat.le_of_ble_eq_true rfl, Nat.le_of_ble_eq_true rfl⟩ [.int (bitF (p0 <<< ((1 : Int32) &&& 31)) ((2 : Int32) * p2))] rfl ?_
    refine J_iload_n C dX5_digit_53 rfl rfl ?_
    refine J_iconst C (v := (2 : Int32)) dX5_digit_54 (by decide) ?_
    refine J_iload_n C dX5_digit_55 rfl rfl ?_
    refine J_imul C (v := (2 : Int32) * p2) dX5_digit_56 rfl ?_
    refine J_iconst C (v := (1 : Int32)) dX5_digit_57 (by decide) ?_
    refine J_iadd C (v := ((2 : Int32) * p2) + (1 : Int32)) dX5_digit_58 rfl ?_
    refine J_callS C (c_X5_bit U (p0 <<< ((1 : Int32) &&& 31)) (((2 : Int32) * p2) + (1 : Int32)) ) gX5_digit_X5_bit (n := 2) rfl rfl rfl (by decide +kernel) ⟨Nat.le_of_ble_eq_true rfl, Nat.le_of_ble_eq_true rfl⟩ rfl (rest := [.int (bitF (p0 <<< ((1 : Int32) &&& 31)) ((2 : Int32) * p2))]) rfl (Nat.le_of_ble_eq_true rfl) [] [] [] [] (wr := []) rfl rfl rfl rfl (by decide) rfl rfl  dX5_digit_59 ⟨Nat.le_of_ble_eq_true rfl, Nat.le_of_ble_eq_true rfl⟩ [.int (bitF (p0 <<< ((1 : Int32) &&& 31)) (((2 : Int32) * p2) + (1 : Int32))), .int (bitF (p0 <<< ((1 : Int32) &&& 31)) ((2 : Int32) * p2))] rfl ?_
    refine J_iadd C (v := (bitF (p0 <<< ((1 : Int32) &&& 31)) ((2 : Int32) * p2)) + (bitF (p0 <<< ((1 : Int32) &&& 31)) (((2 : Int32) * p2) + (1 : Int32)))) dX5_digit_62 rfl ?_
    refine J_iconst C (v := (2 : Int32)) dX5_digit_63 (by decide) ?_
    refine J_iload_n C dX5_digit_64 rfl rfl ?_
    refine J_iconst C (v := (2 : Int32)) dX5_digit_65 (by decide) ?_
    refine J_iload_n C dX5_digit_66 rfl rfl ?_
    refine J_imul C (v := (2 : Int32) * p2) dX5_digit_67 rfl ?_
    refine J_iconst C (v := (2 : Int32)) dX5_digit_68 (by decide) ?_
    refine J_iadd C (v := ((2 : Int32) * p2) + (2 : Int32)) dX5_digit_69 rfl ?_
    refine J_callS C (c_X5_bit U (p0 <<< ((1 : Int32) &&& 31)) (((2 : Int32) * p2) + (2 : Int32)) ) gX5_digit_X5_bit (n := 2) rfl rfl rfl (by decide +kernel) ⟨Nat.le_of_ble_eq_true rfl, Nat.le_of_ble_eq_true rfl⟩ rfl (rest := [.int (2 : Int32), .int ((bitF (p0 <<< ((1 : Int32) &&& 31)) ((2 : Int32) * p2)) + (bitF (p0 <<< ((1 : Int32) &&& 31)) (((2 : Int32) * p2) + (1 : Int32))))]) rfl (Nat.le_of_ble_eq_true rfl) [] [] [] [] (wr := []) rfl rfl rfl rfl (by decide) rfl rfl  dX5_digit_70 ⟨Nat.le_of_ble_eq_true rfl, Nat.le_of_ble_eq_true rfl⟩ [.int (bitF (p0 <<< ((1 : Int32) &&& 31)) (((2 : Int32) * p2) + (2 : Int32))), .int (2 : Int32), .int ((bitF (p0 <<< ((1 : Int32) &&& 31)) ((2 : Int32) * p2)) + (bitF (p0 <<< ((1 : Int32) &&& 31)) (((2 : Int32) * p2) + (1 : Int32))))] rfl ?_
    refine J_imul C (v := (2 : Int32) * (bitF (p0 <<< ((1 : Int32) &&& 31)) (((2 : Int32) * p2) + (2 : Int32)))) dX5_digit_73 rfl ?_
    refine J_isub C (v := ((bitF (p0 <<< ((1 : Int32) &&& 31)) ((2 : Int32) * p2)) + (bitF (p0 <<< ((1 : Int32) &&& 31)) (((2 : Int32) * p2) + (1 : Int32)))) - ((2 : Int32) * (bitF (p0 <<< ((1 : Int32) &&& 31)) (((2 : Int32) * p2) + (2 : Int32))))) dX5_digit_74 rfl ?_
    exact J_iret C R dX5_digit_75 (Nat.le_of_ble_eq_true rfl) (Nat.le_of_ble_eq_true rfl) (by simp [digF, c_5_1, c_5_2]) rfl
  refine J_lookup C (71) 76 dX5_digit_5 (by decide) ((lv_osw c_5_1 rfl).trans ((lv_osw c_5_2 rfl).trans rfl)) (by decide) ?_
  refine J_iconst C (v := (3 : Int32)) dX5_digit_76 (by decide) ?_
  refine J_iload_n C dX5_digit_77 rfl rfl ?_
  refine J_imul C (v := (3 : Int32) * p0) dX5_digit_78 rfl ?_
  refine J_iload_n C dX5_digit_79 rfl rfl ?_
  refine J_iconst C (v := (1 : Int32)) dX5_digit_80 (by decide) ?_
  refine J_iadd C (v := p2 + (1 : Int32)) dX5_digit_81 rfl ?_
  refine J_callS C (c_X5_bit U ((3 : Int32) * p0) (p2 + (1 : Int32)) ) gX5_digit_X5_bit (n := 2) rfl rfl rfl (by decide +kernel) ⟨Nat.le_of_ble_eq_true rfl, Nat.le_of_ble_eq_true rfl⟩ rfl (rest := []) rfl (Nat.le_of_ble_eq_true rfl) [] [] [] [] (wr := []) rfl rfl rfl rfl (by decide) rfl rfl  dX5_digit_82 ⟨Nat.le_of_ble_eq_true rfl, Nat.le_of_ble_eq_true rfl⟩ [.int (bitF ((3 : Int32) * p0) (p2 + (1 : Int32)))] rfl ?_
  refine J_iload_n C dX5_digit_85 rfl rfl ?_
  refine J_iload_n C dX5_digit_86 rfl rfl ?_
  refine J_iconst C (v := (1 : Int32)) dX5_digit_87 (by decide) ?_
  refine J_iadd C (v := p2 + (1 : Int32)) dX5_digit_88 rfl ?_
  refine J_callS C (c_X5_bit U p0 (p2 + (1 : Int32)) ) gX5_digit_X5_bit (n := 2) rfl rfl rfl (by decide +kernel) ⟨Nat.le_of_ble_eq_true rfl, Nat.le_of_ble_eq_true rfl⟩ rfl (rest := [.int (bitF ((3 : Int32) * p0) (p2 + (1 : Int32)))]) rfl (Nat.le_of_ble_eq_true rfl) [] [] [] [] (wr := []) rfl rfl rfl rfl (by decide) rfl rfl  dX5_digit_89 ⟨Nat.le_of_ble_eq_true rfl, Nat.le_of_ble_eq_true rfl⟩ [.int (bitF p0 (p2 + (1 : Int32))), .int (bitF ((3 : Int32) * p0) (p2 + (1 : Int32)))] rfl ?_
  refine J_isub C (v := (bitF ((3 : Int32) * p0) (p2 + (1 : Int32))) - (bitF p0 (p2 + (1 : Int32)))) dX5_digit_92 rfl ?_
  exact J_iret C R dX5_digit_93 (Nat.le_of_ble_eq_true rfl) (Nat.le_of_ble_eq_true rfl) (by simp [digF, c_5_1, c_5_2]) rfl
set_option maxHeartbeats 4000000 in
set_option maxRecDepth 100000 in
theorem c_X5_carryBits (U : jU) (p0 p1 : Int32)  : Fn U yX5_carryBits wsX5_carryBits { frames := 0, cells := 0, slots := 0, locals := 0 } [.int p0, .int p1] [] (some (.int (cbF p0 p1))) [] 0 0 := by
  refine Fn_of (cc := cX5_carryBits) (maxL := 2) (ret := (some .int)) [some (.int p0), some (.int p1)] (by decide +kernel) rfl (jcat rfl) (Nat.le_of_ble_eq_true rfl) rfl (fun k C R hin hnL => ?_)
  have hN : ∀ i, i < 2 → i < k.2.2.2.2.2.2.2.2.2.2.2.1 := fun i h => by rw [hnL]; exact h
  refine J_iload_n C dX5_carryBits_0 rfl rfl ?_
  refine J_iload_n C dX5_carryBits_1 rfl rfl ?_
  refine J_ixor C (v := p0 ^^^ p1) dX5_carryBits_2 rfl ?_
  refine J_iload_n C dX5_carryBits_3 rfl rfl ?_
  refine J_iload_n C dX5_carryBits_4 rfl rfl ?_
  refine J_iadd C (v := p0 + p1) dX5_carryBits_5 rfl ?_
  refine J_ixor C (v := (p0 ^^^ p1) ^^^ (p0 + p1)) dX5_carryBits_6 rfl ?_
  refine J_iconst C (v := (1 : Int32)) dX5_carryBits_7 (by decide) ?_
  refine J_ishr C (v := ((p0 ^^^ p1) ^^^ (p0 + p1)) >>> ((1 : Int32) &&& 31)) dX5_carryBits_8 rfl ?_
  exact J_iret C R dX5_carryBits_9 (Nat.le_of_ble_eq_true rfl) (Nat.le_of_ble_eq_true rfl) rfl rfl
theorem k_X1_init_9 : Cond.fieldLink RX1 9 "BoothOtters$Multiplication" "stepsLeft" "I" ∈ wsX1_init := List.mem_of_getElem? (i := 4) rfl
theorem i_X1_init_X1 : ∀ w ∈ wsX10, w ∈ wsX1_init := fun _ h => List.mem_cons_of_mem _ (List.mem_append_right _ h)
theorem k_X1_init_15 : Cond.fieldLink RX1 15 "BoothOtters$Multiplication" "bitsPerStep" "I" ∈ wsX1_init := List.mem_of_getElem? (i := 5) rfl
theorem k_X1_init_18 : Cond.fieldLink RX1 18 "BoothOtters$Multiplication" "width" "I" ∈ wsX1_init := List.mem_of_getElem? (i := 6) rfl
set_option maxHeartbeats 4000000 in
set_option maxRecDepth 100000 in
theorem c_X1_init (U : jU) (a : Nat) (sl bp mw mc hi lo ex : Int32)  : Fn U yX1_init wsX1_init { frames := 1, cells := 0, slots := 0, locals := 14 } [.ref a] [(a, .inr (1, [.int sl, .int bp, .int mw, .int mc, .int hi, .int lo, .int ex]))] none [(a, .inr (1, [.int (-1 : Int32), .int (1 : Int32), .int (8 : Int32), .int mc, .int hi, .int lo, .int ex]))] 0 0 := by
  refine Fn_of (cc := cX1_init) (maxL := 1) (ret := none) [some (.ref a)] (by decide +kernel) rfl (jcat rfl) (Nat.le_of_ble_eq_true rfl) rfl (fun k C R hin hnL => ?_)
  have hN : ∀ i, i < 1 → i < k.2.2.2.2.2.2.2.2.2.2.2.1 := fun i h => by rw [hnL]; exact h
  refine J_aload_n C dX1_init_0 rfl rfl ?_
  refine J_objInit C (List.mem_of_getElem? (i := 1) rfl) (List.mem_of_getElem? (i := 2) rfl) (List.mem_of_getElem? (i := 3) rfl) (Nat.le_of_ble_eq_true rfl) (Nat.le_of_ble_eq_true rfl) dX1_init_1 ?_
  refine J_aload_n C dX1_init_4 rfl rfl ?_
  refine J_iconst C (v := (-1 : Int32)) dX1_init_5 (by decide) ?_
  refine J_put C tyX1 0 0 [(a, .inr (1, [.int (-1 : Int32), .int bp, .int mw, .int mc, .int hi, .int lo, .int ex]))] rfl rfl i_X1_init_X1 tyX1_ok nmX1 (by decide) k_X1_init_9 rfl rfl rfl rfl (Nat.le_of_ble_eq_true rfl) rfl dX1_init_6 ?_
  refine J_aload_n C dX1_init_9 rfl rfl ?_
  refine J_iconst C (v := (1 : Int32)) dX1_init_10 (by decide) ?_
  refine J_put C tyX1 0 1 [(a, .inr (1, [.int (-1 : Int32), .int (1 : Int32), .int mw, .int mc, .int hi, .int lo, .int ex]))] rfl rfl i_X1_init_X1 tyX1_ok nmX1 (by decide) k_X1_init_15 rfl rfl rfl rfl (Nat.le_of_ble_eq_true rfl) rfl dX1_init_11 ?_
  refine J_aload_n C dX1_init_14 rfl rfl ?_
  refine J_bipush C (v := (8 : Int32)) dX1_init_15 (by decide) ?_
  refine J_put C tyX1 0 2 [(a, .inr (1, [.int (-1 : Int32), .int (1 : Int32), .int (8 : Int32), .int mc, .int hi, .int lo, .int ex]))] rfl rfl i_X1_init_X1 tyX1_ok nmX1 (by decide) k_X1_init_18 rfl rfl rfl rfl (Nat.le_of_ble_eq_true rfl) rfl dX1_init_17 ?_
  exact J_vret C R dX1_init_20 (Nat.le_of_ble_eq_true rfl) (Nat.le_of_ble_eq_true rfl) rfl rfl
theorem k_X1_copyFrom_9 : Cond.fieldLink RX1 9 "BoothOtters$Multiplication" "stepsLeft" "I" ∈ wsX1_copyFrom := List.mem_of_getElem? (i := 1) rfl
theorem i_X1_copyFrom_X1 : ∀ w ∈ wsX10, w ∈ wsX1_copyFrom := fun _ h => List.mem_cons_of_mem _ (List.mem_append_right _ h)
theorem k_X1_copyFrom_15 : Cond.fieldLink RX1 15 "BoothOtters$Multiplication" "bitsPerStep" "I" ∈ wsX1_copyFrom := List.mem_of_getElem? (i := 2) rfl
theorem k_X1_copyFrom_18 : Cond.fieldLink RX1 18 "BoothOtters$Multiplication" "width" "I" ∈ wsX1_copyFrom := List.mem_of_getElem? (i := 3) rfl
theorem k_X1_copyFrom_21 : Cond.fieldLink RX1 21 "BoothOtters$Multiplication" "multiplicand" "I" ∈ wsX1_copyFrom := List.mem_of_getElem? (i := 4) rfl
theorem k_X1_copyFrom_24 : Cond.fieldLink RX1 24 "BoothOtters$Multiplication" "high" "I" ∈ wsX1_copyFrom := List.mem_of_getElem? (i := 5) rfl
theorem k_X1_copyFrom_27 : Cond.fieldLink RX1 27 "BoothOtters$Multiplication" "low" "I" ∈ wsX1_copyFrom := List.mem_of_getElem? (i := 6) rfl
theorem k_X1_copyFrom_30 : Cond.fieldLink RX1 30 "BoothOtters$Multiplication" "extra" "I" ∈ wsX1_copyFrom := List.mem_of_getElem? (i := 7) rfl
set_option maxHeartbeats 4000000 in
set_option maxRecDepth 100000 in
theorem c_X1_copyFrom (U : jU) (a b : Nat) (sl bp mw mc hi lo ex : Int32) (sl2 bp2 mw2 mc2 hi2 lo2 ex2 : Int32)  : Fn U yX1_copyFrom wsX1_copyFrom { frames := 0, cells := 0, slots := 0, locals := 0 } [.ref a, .ref b] [(a, .inr (1, [.int sl, .int bp, .int mw, .int mc, .int hi, .int lo, .int ex])), (b, .inr (1, [.int sl2, .int bp2, .int mw2, .int mc2, .int hi2, .int lo2, .int ex2]))] none [(a, .inr (1, [.int sl2, .int bp2, .int mw2, .int mc2, .int hi2, .int lo2, .int ex2])), (b, .inr (1, [.int sl2, .int bp2, .int mw2, .int mc2, .int hi2, .int lo2, .int ex2]))] 0 0 := by
  refine Fn_of (cc := cX1_copyFrom) (maxL := 2) (ret := none) [some (.ref a), some (.ref b)] (by decide +kernel) rfl (jcat rfl) (Nat.le_of_ble_eq_true rfl) rfl (fun k C R hin hnL => ?_)
  have hN : ∀ i, i < 2 → i < k.2.2.2.2.2.2.2.2.2.2.2.1 := fun i h => by rw [hnL]; exact h
  refine J_aload_n C dX1_copyFrom_0 rfl rfl ?_
  refine J_aload_n C dX1_copyFrom_1 rfl rfl ?_
  refine J_get C 1 0 rfl rfl i_X1_copyFrom_X1 (by decide) k_X1_copyFrom_9 rfl rfl dX1_copyFrom_2 ?_
  refine J_put C tyX1 0 0 [(a, .inr (1, [.int sl2, .int bp, .int mw, .int mc, .int hi, .int lo, .int ex])), (b, .inr (1, [.int sl2, .int bp2, .int mw2, .int mc2, .int hi2, .int lo2, .int ex2]))] rfl rfl i_X1_copyFrom_X1 tyX1_ok nmX1 (by decide) k_X1_copyFrom_9 rfl rfl rfl rfl (Nat.le_of_ble_eq_true rfl) rfl dX1_copyFrom_5 ?_
  refine J_aload_n C dX1_copyFrom_8 rfl rfl ?_
  refine J_aload_n C dX1_copyFrom_9 rfl rfl ?_
  refine J_get C 1 1 rfl rfl i_X1_copyFrom_X1 (by decide) k_X1_copyFrom_15 rfl rfl dX1_copyFrom_10 ?_
  refine J_put C tyX1 0 1 [(a, .inr (1, [.int sl2, .int bp2, .int mw, .int mc, .int hi, .int lo, .int ex])), (b, .inr (1, [.int sl2, .int bp2, .int mw2, .int mc2, .int hi2, .int lo2, .int ex2]))] rfl rfl i_X1_copyFrom_X1 tyX1_ok nmX1 (by decide) k_X1_copyFrom_15 rfl rfl rfl rfl (Nat.le_of_ble_eq_true rfl) rfl dX1_copyFrom_13 ?_
  refine J_aload_n C dX1_copyFrom_16 rfl rfl ?_
  refine J_aload_n C dX1_copyFrom_17 rfl rfl ?_
  refine J_get C 1 2 rfl rfl i_X1_copyFrom_X1 (by decide) k_X1_copyFrom_18 rfl rfl dX1_copyFrom_18 ?_
  refine J_put C tyX1 0 2 [(a, .inr (1, [.int sl2, .int bp2, .int mw2, .int mc, .int hi, .int lo, .int ex])), (b, .inr (1, [.int sl2, .int bp2, .int mw2, .int mc2, .int hi2, .int lo2, .int ex2]))] rfl rfl i_X1_copyFrom_X1 tyX1_ok nmX1 (by decide) k_X1_copyFrom_18 rfl rfl rfl rfl (Nat.le_of_ble_eq_true rfl) rfl dX1_copyFrom_21 ?_
  refine J_aload_n C dX1_copyFrom_24 rfl rfl ?_
  refine J_aload_n C dX1_copyFrom_25 rfl rfl ?_
  refine J_get C 1 3 rfl rfl i_X1_copyFrom_X1 (by decide) k_X1_copyFrom_21 rfl rfl dX1_copyFrom_26 ?_
  refine J_put C tyX1 0 3 [(a, .inr (1, [.int sl2, .int bp2, .int mw2, .int mc2, .int hi, .int lo, .int ex])), (b, .inr (1, [.int sl2, .int bp2, .int mw2, .int mc2, .int hi2, .int lo2, .int ex2]))] rfl rfl i_X1_copyFrom_X1 tyX1_ok nmX1 (by decide) k_X1_copyFrom_21 rfl rfl rfl rfl (Nat.le_of_ble_eq_true rfl) rfl dX1_copyFrom_29 ?_
  refine J_aload_n C dX1_copyFrom_32 rfl rfl ?_
  refine J_aload_n C dX1_copyFrom_33 rfl rfl ?_
  refine J_get C 1 4 rfl rfl i_X1_copyFrom_X1 (by decide) k_X1_copyFrom_24 rfl rfl dX1_copyFrom_34 ?_
  refine J_put C tyX1 0 4 [(a, .inr (1, [.int sl2, .int bp2, .int mw2, .int mc2, .int hi2, .int lo, .int ex])), (b, .inr (1, [.int sl2, .int bp2, .int mw2, .int mc2, .int hi2, .int lo2, .int ex2]))] rfl rfl i_X1_copyFrom_X1 tyX1_ok nmX1 (by decide) k_X1_copyFrom_24 rfl rfl rfl rfl (Nat.le_of_ble_eq_true rfl) rfl dX1_copyFrom_37 ?_
  refine J_aload_n C dX1_copyFrom_40 rfl rfl ?_
  refine J_aload_n C dX1_copyFrom_41 rfl rfl ?_
  refine J_get C 1 5 rfl rfl i_X1_copyFrom_X1 (by decide) k_X1_copyFrom_27 rfl rfl dX1_copyFrom_42 ?_
  refine J_put C tyX1 0 5 [(a, .inr (1, [.int sl2, .int bp2, .int mw2, .int mc2, .int hi2, .int lo2, .int ex])), (b, .inr (1, [.int sl2, .int bp2, .int mw2, .int mc2, .int hi2, .int lo2, .int ex2]))] rfl rfl i_X1_copyFrom_X1 tyX1_ok nmX1 (by decide) k_X1_copyFrom_27 rfl rfl rfl rfl (Nat.le_of_ble_eq_true rfl) rfl dX1_copyFrom_45 ?_
  refine J_aload_n C dX1_copyFrom_48 rfl rfl ?_
  refine J_aload_n C dX1_copyFrom_49 rfl rfl ?_
  refine J_get C 1 6 rfl rfl i_X1_copyFrom_X1 (by decide) k_X1_copyFrom_30 rfl rfl dX1_copyFrom_50 ?_
  refine J_put C tyX1 0 6 [(a, .inr (1, [.int sl2, .int bp2, .int mw2, .int mc2, .int hi2, .int lo2, .int ex2])), (b, .inr (1, [.int sl2, .int bp2, .int mw2, .int mc2, .int hi2, .int lo2, .int ex2]))] rfl rfl i_X1_copyFrom_X1 tyX1_ok nmX1 (by decide) k_X1_copyFrom_30 rfl rfl rfl rfl (Nat.le_of_ble_eq_true rfl) rfl dX1_copyFrom_53 ?_
  exact J_vret C R dX1_copyFrom_56 (Nat.le_of_ble_eq_true rfl) (Nat.le_of_ble_eq_true rfl) rfl rfl
theorem k_X1_giveUp_9 : Cond.fieldLink RX1 9 "BoothOtters$Multiplication" "stepsLeft" "I" ∈ wsX1_giveUp := List.mem_of_getElem? (i := 1) rfl
theorem i_X1_giveUp_X1 : ∀ w ∈ wsX10, w ∈ wsX1_giveUp := fun _ h => List.mem_cons_of_mem _ (List.mem_append_right _ h)
set_option maxHeartbeats 4000000 in
set_option maxRecDepth 100000 in
theorem c_X1_giveUp (U : jU) (a : Nat) (sl bp mw mc hi lo ex : Int32)  : Fn U yX1_giveUp wsX1_giveUp { frames := 0, cells := 0, slots := 0, locals := 0 } [.ref a] [(a, .inr (1, [.int sl, .int bp, .int mw, .int mc, .int hi, .int lo, .int ex]))] none [(a, .inr (1, [.int (-1 : Int32), .int bp, .int mw, .int mc, .int hi, .int lo, .int ex]))] 0 0 := by
  refine Fn_of (cc := cX1_giveUp) (maxL := 1) (ret := none) [some (.ref a)] (by decide +kernel) rfl (jcat rfl) (Nat.le_of_ble_eq_true rfl) rfl (fun k C R hin hnL => ?_)
  have hN : ∀ i, i < 1 → i < k.2.2.2.2.2.2.2.2.2.2.2.1 := fun i h => by rw [hnL]; exact h
  refine J_aload_n C dX1_giveUp_0 rfl rfl ?_
  refine J_iconst C (v := (-1 : Int32)) dX1_giveUp_1 (by decide) ?_
  refine J_put C tyX1 0 0 [(a, .inr (1, [.int (-1 : Int32), .int bp, .int mw, .int mc, .int hi, .int lo, .int ex]))] rfl rfl i_X1_giveUp_X1 tyX1_ok nmX1 (by decide) k_X1_giveUp_9 rfl rfl rfl rfl (Nat.le_of_ble_eq_true rfl) rfl dX1_giveUp_2 ?_
  exact J_vret C R dX1_giveUp_5 (Nat.le_of_ble_eq_true rfl) (Nat.le_of_ble_eq_true rfl) rfl rfl
theorem k_X1_nextDigit_15 : Cond.fieldLink RX1 15 "BoothOtters$Multiplication" "bitsPerStep" "I" ∈ wsX1_nextDigit := List.mem_of_getElem? (i := 1) rfl
theorem i_X1_nextDigit_X1 : ∀ w ∈ wsX10, w ∈ wsX1_nextDigit := fun _ h => List.mem_cons_of_mem _ (List.mem_append_right _ h)
theorem k_X1_nextDigit_30 : Cond.fieldLink RX1 30 "BoothOtters$Multiplication" "extra" "I" ∈ wsX1_nextDigit := List.mem_of_getElem? (i := 2) rfl
theorem k_X1_nextDigit_27 : Cond.fieldLink RX1 27 "BoothOtters$Multiplication" "low" "I" ∈ wsX1_nextDigit := List.mem_of_getElem? (i := 3) rfl
set_option maxHeartbeats 4000000 in
set_option maxRecDepth 100000 in
theorem c_X1_nextDigit (U : jU) (a : Nat) (sl bp mw mc hi lo ex : Int32)  : Fn U yX1_nextDigit wsX1_nextDigit { frames := 1, cells := 0, slots := 0, locals := 21 } [.ref a] [(a, .inr (1, [.int sl, .int bp, .int mw, .int mc, .int hi, .int lo, .int ex]))] (some (.int (ndF bp lo ex))) [(a, .inr (1, [.int sl, .int bp, .int mw, .int mc, .int hi, .int lo, .int ex]))] 0 0 := by
  refine Fn_of (cc := cX1_nextDigit) (maxL := 1) (ret := (some .int)) [some (.ref a)] (by decide +kernel) rfl (jcat rfl) (Nat.le_of_ble_eq_true rfl) rfl (fun k C R hin hnL => ?_)
  have hN : ∀ i, i < 1 → i < k.2.2.2.2.2.2.2.2.2.2.2.1 := fun i h => by rw [hnL]; exact h
  refine J_aload_n C dX1_nextDigit_0 rfl rfl ?_
  refine J_get C 0 1 rfl rfl i_X1_nextDigit_X1 (by decide) k_X1_nextDigit_15 rfl rfl dX1_nextDigit_1 ?_
  refine J_iconst C (v := (1 : Int32)) dX1_nextDigit_4 (by decide) ?_
  refine J_icmp_ne C 22 dX1_nextDigit_5 (by decide) (fun c_5_1 => ?_) (fun c_5_1 => ?_)
  · refine J_aload_n C dX1_nextDigit_22 rfl rfl ?_
    refine J_get C 0 6 rfl rfl i_X1_nextDigit_X1 (by decide) k_X1_nextDigit_30 rfl rfl dX1_nextDigit_23 ?_
    refine J_aload_n C dX1_nextDigit_26 rfl rfl ?_
    refine J_get C 0 5 rfl rfl i_X1_nextDigit_X1 (by decide) k_X1_nextDigit_27 rfl rfl dX1_nextDigit_27 ?_
    refine J_iconst C (v := (0 : Int32)) dX1_nextDigit_30 (by decide) ?_
    refine J_callSN C (c_X5_bit U lo (0 : Int32) ) gX1_nextDigit_X5_bit_n45 (List.mem_of_getElem? (i := 6) rfl) (List.mem_of_getElem? (i := 5) rfl) (List.mem_of_getElem? (i := 4) rfl) (n := 2) rfl rfl rfl (by decide +kernel) ⟨Nat.le_of_ble_eq_true rfl, Nat.le_of_ble_eq_true rfl⟩ rfl (rest := [.int ex]) rfl (Nat.le_of_ble_eq_true rfl) [(a, .inr (1, [.int sl, .int bp, .int mw, .int mc, .int hi, .int lo, .int ex]))] [] [0] [0] (wr := [(a, .inr (1, [.int sl, .int bp, .int mw, .int mc, .int hi, .int lo, .int ex]))]) rfl rfl rfl rfl (by decide) rfl rfl  dX1_nextDigit_31 ⟨Nat.le_of_ble_eq_true rfl, Nat.le_of_ble_eq_true rfl⟩ [.int (bitF lo (0 : Int32)), .int ex] rfl ?_
    refine J_iadd C (v := ex + (bitF lo (0 : Int32))) dX1_nextDigit_34 rfl ?_
    refine J_iconst C (v := (2 : Int32)) dX1_nextDigit_35 (by decide) ?_
    refine J_aload_n C dX1_nextDigit_36 rfl rfl ?_
    refine J_get C 0 5 rfl rfl i_X1_nextDigit_X1 (by decide) k_X1_nextDigit_27 rfl rfl dX1_nextDigit_37 ?_
    refine J_iconst C (v := (1 : Int32)) dX1_nextDigit_40 (by decide) ?_
    refine J_callSN C (c_X5_bit U lo (1 : Int32) ) gX1_nextDigit_X5_bit_n45 (List.mem_of_getElem? (i := 6) rfl) (List.mem_of_getElem? (i := 5) rfl) (List.mem_of_getElem? (i := 4) rfl) (n := 2) rfl rfl rfl (by decide +kernel) ⟨Nat.le_of_ble_eq_true rfl, Nat.le_of_ble_eq_true rfl⟩ rfl (rest := [.int (2 : Int32), .int (ex + (bitF lo (0 : Int32)))]) rfl (Nat.le_of_ble_eq_true rfl) [(a, .inr (1, [.int sl, .int bp, .int mw, .int mc, .int hi, .int lo, .int ex]))] [] [0] [0] (wr := [(a, .inr (1, [.int sl, .int bp, .int mw, .int mc, .int hi, .int lo, .int ex]))]) rfl rfl rfl rfl (by decide) rfl rfl  dX1_nextDigit_41 ⟨Nat.le_of_ble_eq_true rfl, Nat.le_of_ble_eq_true rfl⟩ [.int (bitF lo (1 : Int32)), .int (2 : Int32), .int (ex + (bitF lo (0 : Int32)))] rfl ?_
    refine J_imul C (v := (2 : Int32) * (bitF lo (1 : Int32))) dX1_nextDigit_44 rfl ?_
    refine J_isub C (v := (ex + (bitF lo (0 : Int32))) - ((2 : Int32) * (bitF lo (1 : Int32)))) dX1_nextDigit_45 rfl ?_
    exact J_iret C R dX1_nextDigit_46 (Nat.le_of_ble_eq_true rfl) (Nat.le_of_ble_eq_true rfl) (by simp [ndF, c_5_1]) rfl
  · refine J_aload_n C dX1_nextDigit_8 rfl rfl ?_
    refine J_get C 0 6 rfl rfl i_X1_nextDigit_X1 (by decide) k_X1_nextDigit_30 rfl rfl dX1_nextDigit_9 ?_
    refine J_aload_n C dX1_nextDigit_12 rfl rfl ?_
    refine J_get C 0 5 rfl rfl i_X1_nextDigit_X1 (by decide) k_X1_nextDigit_27 rfl rfl dX1_nextDigit_13 ?_
    refine J_iconst C (v := (0 : Int32)) dX1_nextDigit_16 (by decide) ?_
    refine J_callSN C (c_X5_bit U lo (0 : Int32) ) gX1_nextDigit_X5_bit_n45 (List.mem_of_getElem? (i := 6) rfl) (List.mem_of_getElem? (i := 5) rfl) (List.mem_of_getElem? (i := 4) rfl) (n := 2) rfl rfl rfl (by decide +kernel) ⟨Nat.le_of_ble_eq_true rfl, Nat.le_of_ble_eq_true rfl⟩ rfl (rest := [.int ex]) rfl (Nat.le_of_ble_eq_true rfl) [(a, .inr (1, [.int sl, .int bp, .int mw, .int mc, .int hi, .int lo, .int ex]))] [] [0] [0] (wr := [(a, .inr (1, [.int sl, .int bp, .int mw, .int mc, .int hi, .int lo, .int ex]))]) rfl rfl rfl rfl (by decide) rfl rfl  dX1_nextDigit_17 ⟨Nat.le_of_ble_eq_true rfl, Nat.le_of_ble_eq_true rfl⟩ [.int (bitF lo (0 : Int32)), .int ex] rfl ?_
    refine J_isub C (v := ex - (bitF lo (0 : Int32))) dX1_nextDigit_20 rfl ?_
    exact J_iret C R dX1_nextDigit_21 (Nat.le_of_ble_eq_true rfl) (Nat.le_of_ble_eq_true rfl) (by simp [ndF, c_5_1]) rfl
theorem k_X1_makeStep_24 : Cond.fieldLink RX1 24 "BoothOtters$Multiplication" "high" "I" ∈ wsX1_makeStep := List.mem_of_getElem? (i := 1) rfl
theorem i_X1_makeStep_X1 : ∀ w ∈ wsX10, w ∈ wsX1_makeStep := fun _ h => List.mem_cons_of_mem _ (List.mem_append_right _ h)
theorem k_X1_makeStep_21 : Cond.fieldLink RX1 21 "BoothOtters$Multiplication" "multiplicand" "I" ∈ wsX1_makeStep := List.mem_of_getElem? (i := 2) rfl
theorem k_X1_makeStep_27 : Cond.fieldLink RX1 27 "BoothOtters$Multiplication" "low" "I" ∈ wsX1_makeStep := List.mem_of_getElem? (i := 3) rfl
theorem k_X1_makeStep_15 : Cond.fieldLink RX1 15 "BoothOtters$Multiplication" "bitsPerStep" "I" ∈ wsX1_makeStep := List.mem_of_getElem? (i := 4) rfl
theorem k_X1_makeStep_30 : Cond.fieldLink RX1 30 "BoothOtters$Multiplication" "extra" "I" ∈ wsX1_makeStep := List.mem_of_getElem? (i := 5) rfl
theorem k_X1_makeStep_18 : Cond.fieldLink RX1 18 "BoothOtters$Multiplication" "width" "I" ∈ wsX1_makeStep := List.mem_of_getElem? (i := 6) rfl
theorem k_X1_makeStep_9 : Cond.fieldLink RX1 9 "BoothOtters$Multiplication" "stepsLeft" "I" ∈ wsX1_makeStep := List.mem_of_getElem? (i := 7) rfl
set_option maxHeartbeats 4000000 in
set_option maxRecDepth 100000 in
theorem c_X1_makeStep (U : jU) (a : Nat) (sl bp mw mc hi lo ex : Int32)  : Fn U yX1_makeStep wsX1_makeStep { frames := 2, cells := 0, slots := 0, locals := 41 } [.ref a] [(a, .inr (1, [.int sl, .int bp, .int mw, .int mc, .int hi, .int lo, .int ex]))] (some (.int (ndF bp lo ex))) [(a, .inr (1, [.int (sl - 1), .int bp, .int mw, .int mc, .int (hiF bp mc hi lo ex >>> (bp &&& 31)), .int (loF bp mw mc hi lo ex), .int (bitF lo (bp - 1))]))] 0 0 := by
  refine Fn_of (cc := cX1_makeStep) (maxL := 3) (ret := (some .int)) [some (.ref a), none, none] (by decide +kernel) rfl (jcat rfl) (Nat.le_of_ble_eq_true rfl) rfl (fun k C R hin hnL => ?_)
  have hN : ∀ i, i < 3 → i < k.2.2.2.2.2.2.2.2.2.2.2.1 := fun i h => by rw [hnL]; exact h
  refine J_aload_n C dX1_makeStep_0 rfl rfl ?_
  refine J_callV C (c_X1_nextDigit U a sl bp mw mc hi lo ex ) gX1_makeStep_X1_nextDigit (n := 0) rfl rfl rfl (by decide +kernel) ⟨Nat.le_of_ble_eq_true rfl, Nat.le_of_ble_eq_true rfl⟩ 0 rfl rfl rfl (rest := []) rfl (Nat.le_of_ble_eq_true rfl) [(a, .inr (1, [.int sl, .int bp, .int mw, .int mc, .int hi, .int lo, .int ex]))] [0] [] [0] (wr := []) rfl rfl rfl rfl (by decide) rfl rfl  dX1_makeStep_1 ⟨Nat.le_of_ble_eq_true rfl, Nat.le_of_ble_eq_true rfl⟩ [.int (ndF bp lo ex)] rfl ?_
  refine J_istore_n C [some (.ref a), some (.int (ndF bp lo ex)), none] dX1_makeStep_4 rfl (hN 1 (by decide)) rfl rfl ?_
  refine J_aload_n C dX1_makeStep_5 rfl rfl ?_
  refine J_dup C dX1_makeStep_6 rfl ?_
  refine J_get C 0 4 rfl rfl i_X1_makeStep_X1 (by decide) k_X1_makeStep_24 rfl rfl dX1_makeStep_7 ?_
  refine J_iload_n C dX1_makeStep_10 rfl rfl ?_
  refine J_aload_n C dX1_makeStep_11 rfl rfl ?_
  refine J_get C 0 3 rfl rfl i_X1_makeStep_X1 (by decide) k_X1_makeStep_21 rfl rfl dX1_makeStep_12 ?_
  refine J_imul C (v := (ndF bp lo ex) * mc) dX1_makeStep_15 rfl ?_
  refine J_iadd C (v := hi + ((ndF bp lo ex) * mc)) dX1_makeStep_16 rfl ?_
  refine J_put C tyX1 0 4 [(a, .inr (1, [.int sl, .int bp, .int mw, .int mc, .int (hi + ((ndF bp lo ex) * mc)), .int lo, .int ex]))] rfl rfl i_X1_makeStep_X1 tyX1_ok nmX1 (by decide) k_X1_makeStep_24 rfl rfl rfl rfl (Nat.le_of_ble_eq_true rfl) rfl dX1_makeStep_17 ?_
  refine J_aload_n C dX1_makeStep_20 rfl rfl ?_
  refine J_aload_n C dX1_makeStep_21 rfl rfl ?_
  refine J_get C 0 5 rfl rfl i_X1_makeStep_X1 (by decide) k_X1_makeStep_27 rfl rfl dX1_makeStep_22 ?_
  refine J_aload_n C dX1_makeStep_25 rfl rfl ?_
  refine J_get C 0 1 rfl rfl i_X1_makeStep_X1 (by decide) k_X1_makeStep_15 rfl rfl dX1_makeStep_26 ?_
  refine J_iconst C (v := (1 : Int32)) dX1_makeStep_29 (by decide) ?_
  refine J_isub C (v := bp - (1 : Int32)) dX1_makeStep_30 rfl ?_
  refine J_callSN C (c_X5_bit U lo (bp - (1 : Int32)) ) gX1_makeStep_X5_bit_n45 (List.mem_of_getElem? (i := 6) rfl) (List.mem_of_getElem? (i := 14) rfl) (List.mem_of_getElem? (i := 13) rfl) (n := 2) rfl rfl rfl (by decide +kernel) ⟨Nat.le_of_ble_eq_true rfl, Nat.le_of_ble_eq_true rfl⟩ rfl (rest := [.ref a]) rfl (Nat.le_of_ble_eq_true rfl) [(a, .inr (1, [.int sl, .int bp, .int mw, .int mc, .int (hi + ((ndF bp lo ex) * mc)), .int lo, .int ex]))] [] [0] [0] (wr := [(a, .inr (1, [.int sl, .int bp, .int mw, .int mc, .int (hi + ((ndF bp lo ex) * mc)), .int lo, .int ex]))]) rfl rfl rfl rfl (by decide) rfl rfl  dX1_makeStep_31 ⟨Nat.le_of_ble_eq_true rfl, Nat.le_of_ble_eq_true rfl⟩ [.int (bitF lo (bp - (1 : Int32))), .ref a] rfl ?_
  refine J_put C tyX1 0 6 [(a, .inr (1, [.int sl, .int bp, .int mw, .int mc, .int (hi + ((ndF bp lo ex) * mc)), .int lo, .int (bitF lo (bp - (1 : Int32)))]))] rfl rfl i_X1_makeStep_X1 tyX1_ok nmX1 (by decide) k_X1_makeStep_30 rfl rfl rfl rfl (Nat.le_of_ble_eq_true rfl) rfl dX1_makeStep_34 ?_
  refine J_aload_n C dX1_makeStep_37 rfl rfl ?_
  refine J_get C 0 4 rfl rfl i_X1_makeStep_X1 (by decide) k_X1_makeStep_24 rfl rfl dX1_makeStep_38 ?_
  refine J_iconst C (v := (1 : Int32)) dX1_makeStep_41 (by decide) ?_
  refine J_aload_n C dX1_makeStep_42 rfl rfl ?_
  refine J_get C 0 1 rfl rfl i_X1_makeStep_X1 (by decide) k_X1_makeStep_15 rfl rfl dX1_makeStep_43 ?_
  refine J_ishl C (v := (1 : Int32) <<< (bp &&& 31)) dX1_makeStep_46 rfl ?_
  refine J_iconst C (v := (1 : Int32)) dX1_makeStep_47 (by decide) ?_
  refine J_isub C (v := ((1 : Int32) <<< (bp &&& 31)) - (1 : Int32)) dX1_makeStep_48 rfl ?_
  refine J_iand C (v := (hi + ((ndF bp lo ex) * mc)) &&& (((1 : Int32) <<< (bp &&& 31)) - (1 : Int32))) dX1_makeStep_49 rfl ?_
  refine J_istore_n C [some (.ref a), some (.int (ndF bp lo ex)), some (.int ((hi + ((ndF bp lo ex) * mc)) &&& (((1 : Int32) <<< (bp &&& 31)) - (1 : Int32))))] dX1_makeStep_50 rfl (hN 2 (by decide)) rfl rfl ?_
  refine J_aload_n C dX1_makeStep_51 rfl rfl ?_
  refine J_aload_n C dX1_makeStep_52 rfl rfl ?_
  refine J_get C 0 5 rfl rfl i_X1_makeStep_X1 (by decide) k_X1_makeStep_27 rfl rfl dX1_makeStep_53 ?_
  refine J_aload_n C dX1_makeStep_56 rfl rfl ?_
  refine J_get C 0 1 rfl rfl i_X1_makeStep_X1 (by decide) k_X1_makeStep_15 rfl rfl dX1_makeStep_57 ?_
  refine J_ishr C (v := lo >>> (bp &&& 31)) dX1_makeStep_60 rfl ?_
  refine J_iload_n C dX1_makeStep_61 rfl rfl ?_
  refine J_aload_n C dX1_makeStep_62 rfl rfl ?_
  refine J_get C 0 2 rfl rfl i_X1_makeStep_X1 (by decide) k_X1_makeStep_18 rfl rfl dX1_makeStep_63 ?_
  refine J_aload_n C dX1_makeStep_66 rfl rfl ?_
  refine J_get C 0 1 rfl rfl i_X1_makeStep_X1 (by decide) k_X1_makeStep_15 rfl rfl dX1_makeStep_67 ?_
  refine J_isub C (v := mw - bp) dX1_makeStep_70 rfl ?_
  refine J_ishl C (v := ((hi + ((ndF bp lo ex) * mc)) &&& (((1 : Int32) <<< (bp &&& 31)) - (1 : Int32))) <<< ((mw - bp) &&& 31)) dX1_makeStep_71 rfl ?_
  refine J_ior C (v := (lo >>> (bp &&& 31)) ||| (((hi + ((ndF bp lo ex) * mc)) &&& (((1 : Int32) <<< (bp &&& 31)) - (1 : Int32))) <<< ((mw - bp) &&& 31))) dX1_makeStep_72 rfl ?_
  refine J_put C tyX1 0 5 [(a, .inr (1, [.int sl, .int bp, .int mw, .int mc, .int (hi + ((ndF bp lo ex) * mc)), .int ((lo >>> (bp &&& 31)) ||| (((hi + ((ndF bp lo ex) * mc)) &&& (((1 : Int32) <<< (bp &&& 31)) - (1 : Int32))) <<< ((mw - bp) &&& 31))), .int (bitF lo (bp - (1 : Int32)))]))] rfl rfl i_X1_makeStep_X1 tyX1_ok nmX1 (by decide) k_X1_makeStep_27 rfl rfl rfl rfl (Nat.le_of_ble_eq_true rfl) rfl dX1_makeStep_73 ?_
  refine J_aload_n C dX1_makeStep_76 rfl rfl ?_
  refine J_dup C dX1_makeStep_77 rfl ?_
  refine J_get C 0 4 rfl rfl i_X1_makeStep_X1 (by decide) k_X1_makeStep_24 rfl rfl dX1_makeStep_78 ?_
  refine J_aload_n C dX1_makeStep_81 rfl rfl ?_
  refine J_get C 0 1 rfl rfl i_X1_makeStep_X1 (by decide) k_X1_makeStep_15 rfl rfl dX1_makeStep_82 ?_
  refine J_ishr C (v := (hi + ((ndF bp lo ex) * mc)) >>> (bp &&& 31)) dX1_makeStep_85 rfl ?_
  refine J_put C tyX1 0 4 [(a, .inr (1, [.int sl, .int bp, .int mw, .int mc, .int ((hi + ((ndF bp lo ex) * mc)) >>> (bp &&& 31)), .int ((lo >>> (bp &&& 31)) ||| (((hi + ((ndF bp lo ex) * mc)) &&& (((1 : Int32) <<< (bp &&& 31)) - (1 : Int32))) <<< ((mw - bp) &&& 31))), .int (bitF lo (bp - (1 : Int32)))]))] rfl rfl i_X1_makeStep_X1 tyX1_ok nmX1 (by decide) k_X1_makeStep_24 rfl rfl rfl rfl (Nat.le_of_ble_eq_true rfl) rfl dX1_makeStep_86 ?_
  refine J_aload_n C dX1_makeStep_89 rfl rfl ?_
  refine J_dup C dX1_makeStep_90 rfl ?_
  refine J_get C 0 0 rfl rfl i_X1_makeStep_X1 (by decide) k_X1_makeStep_9 rfl rfl dX1_makeStep_91 ?_
  refine J_iconst C (v := (1 : Int32)) dX1_makeStep_94 (by decide) ?_
  refine J_isub C (v := sl - (1 : Int32)) dX1_makeStep_95 rfl ?_
  refine J_put C tyX1 0 0 [(a, .inr (1, [.int (sl - (1 : Int32)), .int bp, .int mw, .int mc, .int ((hi + ((ndF bp lo ex) * mc)) >>> (bp &&& 31)), .int ((lo >>> (bp &&& 31)) ||| (((hi + ((ndF bp lo ex) * mc)) &&& (((1 : Int32) <<< (bp &&& 31)) - (1 : Int32))) <<< ((mw - bp) &&& 31))), .int (bitF lo (bp - (1 : Int32)))]))] rfl rfl i_X1_makeStep_X1 tyX1_ok nmX1 (by decide) k_X1_makeStep_9 rfl rfl rfl rfl (Nat.le_of_ble_eq_true rfl) rfl dX1_makeStep_96 ?_
  refine J_iload_n C dX1_makeStep_99 rfl rfl ?_
  exact J_iret C R dX1_makeStep_100 (Nat.le_of_ble_eq_true rfl) (Nat.le_of_ble_eq_true rfl) rfl rfl
theorem k_X1_product_24 : Cond.fieldLink RX1 24 "BoothOtters$Multiplication" "high" "I" ∈ wsX1_product := List.mem_of_getElem? (i := 1) rfl
theorem i_X1_product_X1 : ∀ w ∈ wsX10, w ∈ wsX1_product := fun _ h => List.mem_cons_of_mem _ (List.mem_append_right _ h)
theorem k_X1_product_18 : Cond.fieldLink RX1 18 "BoothOtters$Multiplication" "width" "I" ∈ wsX1_product := List.mem_of_getElem? (i := 2) rfl
theorem k_X1_product_27 : Cond.fieldLink RX1 27 "BoothOtters$Multiplication" "low" "I" ∈ wsX1_product := List.mem_of_getElem? (i := 3) rfl
set_option maxHeartbeats 4000000 in
set_option maxRecDepth 100000 in
theorem c_X1_product (U : jU) (a : Nat) (sl bp mw mc hi lo ex : Int32)  : Fn U yX1_product wsX1_product { frames := 0, cells := 0, slots := 0, locals := 0 } [.ref a] [(a, .inr (1, [.int sl, .int bp, .int mw, .int mc, .int hi, .int lo, .int ex]))] (some (.int (hi <<< (mw &&& 31) + lo))) [(a, .inr (1, [.int sl, .int bp, .int mw, .int mc, .int hi, .int lo, .int ex]))] 0 0 := by
  refine Fn_of (cc := cX1_product) (maxL := 1) (ret := (some .int)) [some (.ref a)] (by decide +kernel) rfl (jcat rfl) (Nat.le_of_ble_eq_true rfl) rfl (fun k C R hin hnL => ?_)
  have hN : ∀ i, i < 1 → i < k.2.2.2.2.2.2.2.2.2.2.2.1 := fun i h => by rw [hnL]; exact h
  refine J_aload_n C dX1_product_0 rfl rfl ?_
  refine J_get C 0 4 rfl rfl i_X1_product_X1 (by decide) k_X1_product_24 rfl rfl dX1_product_1 ?_
  refine J_aload_n C dX1_product_4 rfl rfl ?_
  refine J_get C 0 2 rfl rfl i_X1_product_X1 (by decide) k_X1_product_18 rfl rfl dX1_product_5 ?_
  refine J_ishl C (v := hi <<< (mw &&& 31)) dX1_product_8 rfl ?_
  refine J_aload_n C dX1_product_9 rfl rfl ?_
  refine J_get C 0 5 rfl rfl i_X1_product_X1 (by decide) k_X1_product_27 rfl rfl dX1_product_10 ?_
  refine J_iadd C (v := (hi <<< (mw &&& 31)) + lo) dX1_product_13 rfl ?_
  exact J_iret C R dX1_product_14 (Nat.le_of_ble_eq_true rfl) (Nat.le_of_ble_eq_true rfl) rfl rfl
theorem k_X1_start_9 : Cond.fieldLink RX1 9 "BoothOtters$Multiplication" "stepsLeft" "I" ∈ wsX1_start := List.mem_of_getElem? (i := 1) rfl
theorem i_X1_start_X1 : ∀ w ∈ wsX10, w ∈ wsX1_start := fun _ h => List.mem_cons_of_mem _ (List.mem_append_right _ h)
theorem k_X1_start_15 : Cond.fieldLink RX1 15 "BoothOtters$Multiplication" "bitsPerStep" "I" ∈ wsX1_start := List.mem_of_getElem? (i := 2) rfl
theorem k_X1_start_18 : Cond.fieldLink RX1 18 "BoothOtters$Multiplication" "width" "I" ∈ wsX1_start := List.mem_of_getElem? (i := 3) rfl
theorem k_X1_start_21 : Cond.fieldLink RX1 21 "BoothOtters$Multiplication" "multiplicand" "I" ∈ wsX1_start := List.mem_of_getElem? (i := 4) rfl
theorem k_X1_start_24 : Cond.fieldLink RX1 24 "BoothOtters$Multiplication" "high" "I" ∈ wsX1_start := List.mem_of_getElem? (i := 5) rfl
theorem k_X1_start_27 : Cond.fieldLink RX1 27 "BoothOtters$Multiplication" "low" "I" ∈ wsX1_start := List.mem_of_getElem? (i := 6) rfl
theorem k_X1_start_30 : Cond.fieldLink RX1 30 "BoothOtters$Multiplication" "extra" "I" ∈ wsX1_start := List.mem_of_getElem? (i := 7) rfl
set_option maxHeartbeats 4000000 in
set_option maxRecDepth 100000 in
theorem c_X1_start (U : jU) (a : Nat) (sl bp mw mc hi lo ex : Int32) (p0 p1 p2 p3 : Int32)  : Fn U yX1_start wsX1_start { frames := 1, cells := 0, slots := 0, locals := 21 } [.ref a, .int p0, .int p1, .int p2, .int p3] [(a, .inr (1, [.int sl, .int bp, .int mw, .int mc, .int hi, .int lo, .int ex]))] none [(a, .inr (1, [.int (dcntF p2 p3), .int (bpdF p2), .int p3, .int p0, .int (0 : Int32), .int p1, .int (0 : Int32)]))] 0 0 := by
  refine Fn_of (cc := cX1_start) (maxL := 5) (ret := none) [some (.ref a), some (.int p0), some (.int p1), some (.int p2), some (.int p3)] (by decide +kernel) rfl (jcat rfl) (Nat.le_of_ble_eq_true rfl) rfl (fun k C R hin hnL => ?_)
  have hN : ∀ i, i < 5 → i < k.2.2.2.2.2.2.2.2.2.2.2.1 := fun i h => by rw [hnL]; exact h
  refine J_aload_n C dX1_start_0 rfl rfl ?_
  refine J_iload_n C dX1_start_1 rfl rfl ?_
  refine J_iload C dX1_start_2 rfl ?_
  refine J_callSN C (c_X5_digitCount U p2 p3 ) gX1_start_X5_digitCount_n33 (List.mem_of_getElem? (i := 4) rfl) (List.mem_of_getElem? (i := 9) rfl) (List.mem_of_getElem? (i := 8) rfl) (n := 2) rfl rfl rfl (by decide +kernel) ⟨Nat.le_of_ble_eq_true rfl, Nat.le_of_ble_eq_true rfl⟩ rfl (rest := [.ref a]) rfl (Nat.le_of_ble_eq_true rfl) [(a, .inr (1, [.int sl, .int bp, .int mw, .int mc, .int hi, .int lo, .int ex]))] [] [0] [0] (wr := [(a, .inr (1, [.int sl, .int bp, .int mw, .int mc, .int hi, .int lo, .int ex]))]) rfl rfl rfl rfl (by decide) rfl rfl  dX1_start_4 ⟨Nat.le_of_ble_eq_true rfl, Nat.le_of_ble_eq_true rfl⟩ [.int (dcntF p2 p3), .ref a] rfl ?_
  refine J_put C tyX1 0 0 [(a, .inr (1, [.int (dcntF p2 p3), .int bp, .int mw, .int mc, .int hi, .int lo, .int ex]))] rfl rfl i_X1_start_X1 tyX1_ok nmX1 (by decide) k_X1_start_9 rfl rfl rfl rfl (Nat.le_of_ble_eq_true rfl) rfl dX1_start_7 ?_
  refine J_aload_n C dX1_start_10 rfl rfl ?_
  refine J_iload_n C dX1_start_11 rfl rfl ?_
  refine J_callSN C (c_X5_bitsPerDigit U p2 ) gX1_start_X5_bitsPerDigit_n37 (List.mem_of_getElem? (i := 5) rfl) (List.mem_of_getElem? (i := 9) rfl) (List.mem_of_getElem? (i := 11) rfl) (n := 1) rfl rfl rfl (by decide +kernel) ⟨Nat.le_of_ble_eq_true rfl, Nat.le_of_ble_eq_true rfl⟩ rfl (rest := [.ref a]) rfl (Nat.le_of_ble_eq_true rfl) [(a, .inr (1, [.int (dcntF p2 p3), .int bp, .int mw, .int mc, .int hi, .int lo, .int ex]))] [] [0] [0] (wr := [(a, .inr (1, [.int (dcntF p2 p3), .int bp, .int mw, .int mc, .int hi, .int lo, .int ex]))]) rfl rfl rfl rfl (by decide) rfl rfl  dX1_start_12 ⟨Nat.le_of_ble_eq_true rfl, Nat.le_of_ble_eq_true rfl⟩ [.int (bpdF p2), .ref a] rfl ?_
  refine J_put C tyX1 0 1 [(a, .inr (1, [.int (dcntF p2 p3), .int (bpdF p2), .int mw, .int mc, .int hi, .int lo, .int ex]))] rfl rfl i_X1_start_X1 tyX1_ok nmX1 (by decide) k_X1_start_15 rfl rfl rfl rfl (Nat.le_of_ble_eq_true rfl) rfl dX1_start_15 ?_
  refine J_aload_n C dX1_start_18 rfl rfl ?_
  refine J_iload C dX1_start_19 rfl ?_
  refine J_put C tyX1 0 2 [(a, .inr (1, [.int (dcntF p2 p3), .int (bpdF p2), .int p3, .int mc, .int hi, .int lo, .int ex]))] rfl rfl i_X1_start_X1 tyX1_ok nmX1 (by decide) k_X1_start_18 rfl rfl rfl rfl (Nat.le_of_ble_eq_true rfl) rfl dX1_start_21 ?_
  refine J_aload_n C dX1_start_24 rfl rfl ?_
  refine J_iload_n C dX1_start_25 rfl rfl ?_
  refine J_put C tyX1 0 3 [(a, .inr (1, [.int (dcntF p2 p3), .int (bpdF p2), .int p3, .int p0, .int hi, .int lo, .int ex]))] rfl rfl i_X1_start_X1 tyX1_ok nmX1 (by decide) k_X1_start_21 rfl rfl rfl rfl (Nat.le_of_ble_eq_true rfl) rfl dX1_start_26 ?_
  refine J_aload_n C dX1_start_29 rfl rfl ?_
  refine J_iconst C (v := (0 : Int32)) dX1_start_30 (by decide) ?_
  refine J_put C tyX1 0 4 [(a, .inr (1, [.int (dcntF p2 p3), .int (bpdF p2), .int p3, .int p0, .int (0 : Int32), .int lo, .int ex]))] rfl rfl i_X1_start_X1 tyX1_ok nmX1 (by decide) k_X1_start_24 rfl rfl rfl rfl (Nat.le_of_ble_eq_true rfl) rfl dX1_start_31 ?_
  refine J_aload_n C dX1_start_34 rfl rfl ?_
  refine J_iload_n C dX1_start_35 rfl rfl ?_
  refine J_put C tyX1 0 5 [(a, .inr (1, [.int (dcntF p2 p3), .int (bpdF p2), .int p3, .int p0, .int (0 : Int32), .int p1, .int ex]))] rfl rfl i_X1_start_X1 tyX1_ok nmX1 (by decide) k_X1_start_27 rfl rfl rfl rfl (Nat.le_of_ble_eq_true rfl) rfl dX1_start_36 ?_
  refine J_aload_n C dX1_start_39 rfl rfl ?_
  refine J_iconst C (v := (0 : Int32)) dX1_start_40 (by decide) ?_
  refine J_put C tyX1 0 6 [(a, .inr (1, [.int (dcntF p2 p3), .int (bpdF p2), .int p3, .int p0, .int (0 : Int32), .int p1, .int (0 : Int32)]))] rfl rfl i_X1_start_X1 tyX1_ok nmX1 (by decide) k_X1_start_30 rfl rfl rfl rfl (Nat.le_of_ble_eq_true rfl) rfl dX1_start_41 ?_
  exact J_vret C R dX1_start_44 (Nat.le_of_ble_eq_true rfl) (Nat.le_of_ble_eq_true rfl) rfl rfl
