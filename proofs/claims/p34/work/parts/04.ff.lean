set_option maxHeartbeats 4000000 in
set_option maxRecDepth 100000 in
theorem c_X4_isLetter (U : jU) (p0 : Int32)  : Fn U yX4_isLetter wsX4_isLetter { frames := 0, cells := 0, slots := 0, locals := 0 } [.int p0] [] (some (.int (b2i (isLet p0)))) [] 0 0 := by
  refine Fn_of (cc := cX4_isLetter) (maxL := 1) (ret := (some .boolean)) [some (.int p0)] (by decide +kernel) rfl (jcat rfl) (Nat.le_of_ble_eq_true rfl) rfl (fun k C R hin hnL => ?_)
  have hN : ∀ i, i < 1 → i < k.2.2.2.2.2.2.2.2.2.2.2.1 := fun i h => by rw [hnL]; exact h
  refine J_iload_n C dX4_isLetter_0 rfl rfl ?_
  refine J_bipush C (v := (65 : Int32)) dX4_isLetter_1 (by decide) ?_
  refine J_icmp_lt C 16 dX4_isLetter_3 (by decide) (fun c_3_1 => ?_) (fun c_3_1 => ?_)
  · refine J_iconst C (v := (0 : Int32)) dX4_isLetter_16 (by decide) ?_
    exact J_zret C R rfl dX4_isLetter_17 (Nat.le_of_ble_eq_true rfl) (Nat.le_of_ble_eq_true rfl) (congrArg (fun z => some (Value.int z)) (b2i_f (P := isLet p0) (by simp_all [isReg, isRec, isLet, isDig]))) rfl
  · refine J_iload_n C dX4_isLetter_6 rfl rfl ?_
    refine J_bipush C (v := (70 : Int32)) dX4_isLetter_7 (by decide) ?_
    refine J_icmp_gt C 16 dX4_isLetter_9 (by decide) (fun c_9_2 => ?_) (fun c_9_2 => ?_)
    · refine J_iconst C (v := (0 : Int32)) dX4_isLetter_16 (by decide) ?_
      exact J_zret C R rfl dX4_isLetter_17 (Nat.le_of_ble_eq_true rfl) (Nat.le_of_ble_eq_true rfl) (congrArg (fun z => some (Value.int z)) (b2i_f (P := isLet p0) (by simp_all [isReg, isRec, isLet, isDig]))) rfl
    · refine J_iconst C (v := (1 : Int32)) dX4_isLetter_12 (by decide) ?_
      refine J_goto C 17 dX4_isLetter_13 (by decide) ?_
      exact J_zret C R rfl dX4_isLetter_17 (Nat.le_of_ble_eq_true rfl) (Nat.le_of_ble_eq_true rfl) (congrArg (fun z => some (Value.int z)) (b2i_t (P := isLet p0) (by simp_all [isReg, isRec, isLet, isDig]))) rfl
set_option maxHeartbeats 4000000 in
set_option maxRecDepth 100000 in
theorem c_X4_isDigit (U : jU) (p0 : Int32)  : Fn U yX4_isDigit wsX4_isDigit { frames := 0, cells := 0, slots := 0, locals := 0 } [.int p0] [] (some (.int (b2i (isDig p0)))) [] 0 0 := by
  refine Fn_of (cc := cX4_isDigit) (maxL := 1) (ret := (some .boolean)) [some (.int p0)] (by decide +kernel) rfl (jcat rfl) (Nat.le_of_ble_eq_true rfl) rfl (fun k C R hin hnL => ?_)
  have hN : ∀ i, i < 1 → i < k.2.2.2.2.2.2.2.2.2.2.2.1 := fun i h => by rw [hnL]; exact h
  refine J_iload_n C dX4_isDigit_0 rfl rfl ?_
  refine J_bipush C (v := (48 : Int32)) dX4_isDigit_1 (by decide) ?_
  refine J_icmp_lt C 16 dX4_isDigit_3 (by decide) (fun c_3_1 => ?_) (fun c_3_1 => ?_)
  · refine J_iconst C (v := (0 : Int32)) dX4_isDigit_16 (by decide) ?_
    exact J_zret C R rfl dX4_isDigit_17 (Nat.le_of_ble_eq_true rfl) (Nat.le_of_ble_eq_true rfl) (congrArg (fun z => some (Value.int z)) (b2i_f (P := isDig p0) (by simp_all [isReg, isRec, isLet, isDig]))) rfl
  · refine J_iload_n C dX4_isDigit_6 rfl rfl ?_
    refine J_bipush C (v := (57 : Int32)) dX4_isDigit_7 (by decide) ?_
    refine J_icmp_gt C 16 dX4_isDigit_9 (by decide) (fun c_9_2 => ?_) (fun c_9_2 => ?_)
    · refine J_iconst C (v := (0 : Int32)) dX4_isDigit_16 (by decide) ?_
      exact J_zret C R rfl dX4_isDigit_17 (Nat.le_of_ble_eq_true rfl) (Nat.le_of_ble_eq_true rfl) (congrArg (fun z => some (Value.int z)) (b2i_f (P := isDig p0) (by simp_all [isReg, isRec, isLet, isDig]))) rfl
    · refine J_iconst C (v := (1 : Int32)) dX4_isDigit_12 (by decide) ?_
      refine J_goto C 17 dX4_isDigit_13 (by decide) ?_
      exact J_zret C R rfl dX4_isDigit_17 (Nat.le_of_ble_eq_true rfl) (Nat.le_of_ble_eq_true rfl) (congrArg (fun z => some (Value.int z)) (b2i_t (P := isDig p0) (by simp_all [isReg, isRec, isLet, isDig]))) rfl
set_option maxHeartbeats 4000000 in
set_option maxRecDepth 100000 in
theorem c_X4_init (U : jU) (a : Nat) (sg tg fi op se ng nu : Int32)  : Fn U yX4_init wsX4_init { frames := 1, cells := 0, slots := 0, locals := 14 } [.ref a] [(a, .inr (4, [.int sg, .int tg, .int fi, .int op, .int se, .int ng, .int nu]))] none [(a, .inr (4, [.int sg, .int tg, .int fi, .int op, .int se, .int ng, .int nu]))] 0 0 := by
  refine Fn_of (cc := cX4_init) (maxL := 1) (ret := none) [some (.ref a)] (by decide +kernel) rfl (jcat rfl) (Nat.le_of_ble_eq_true rfl) rfl (fun k C R hin hnL => ?_)
  have hN : ∀ i, i < 1 → i < k.2.2.2.2.2.2.2.2.2.2.2.1 := fun i h => by rw [hnL]; exact h
  refine J_aload_n C dX4_init_0 rfl rfl ?_
  refine J_objInit C (List.mem_of_getElem? (i := 1) rfl) (List.mem_of_getElem? (i := 2) rfl) (List.mem_of_getElem? (i := 3) rfl) (Nat.le_of_ble_eq_true rfl) (Nat.le_of_ble_eq_true rfl) dX4_init_1 ?_
  exact J_vret C R dX4_init_4 (Nat.le_of_ble_eq_true rfl) (Nat.le_of_ble_eq_true rfl) rfl rfl
theorem k_X4_start_11 : Cond.fieldLink RX4 11 "BoothOtters$StepReader" "stage" "I" ∈ wsX4_start := List.mem_of_getElem? (i := 1) rfl
theorem i_X4_start_X4 : ∀ w ∈ wsX40, w ∈ wsX4_start := fun _ h => List.mem_cons_of_mem _ (List.mem_append_right _ h)
theorem k_X4_start_15 : Cond.fieldLink RX4 15 "BoothOtters$StepReader" "target" "I" ∈ wsX4_start := List.mem_of_getElem? (i := 2) rfl
theorem k_X4_start_18 : Cond.fieldLink RX4 18 "BoothOtters$StepReader" "first" "I" ∈ wsX4_start := List.mem_of_getElem? (i := 3) rfl
theorem k_X4_start_21 : Cond.fieldLink RX4 21 "BoothOtters$StepReader" "operator" "C" ∈ wsX4_start := List.mem_of_getElem? (i := 4) rfl
theorem k_X4_start_25 : Cond.fieldLink RX4 25 "BoothOtters$StepReader" "second" "I" ∈ wsX4_start := List.mem_of_getElem? (i := 5) rfl
theorem k_X4_start_28 : Cond.fieldLink RX4 28 "BoothOtters$StepReader" "negative" "Z" ∈ wsX4_start := List.mem_of_getElem? (i := 6) rfl
theorem k_X4_start_32 : Cond.fieldLink RX4 32 "BoothOtters$StepReader" "number" "I" ∈ wsX4_start := List.mem_of_getElem? (i := 7) rfl
set_option maxHeartbeats 4000000 in
set_option maxRecDepth 100000 in
theorem c_X4_start (U : jU) (a : Nat) (sg tg fi op se ng nu : Int32)  : Fn U yX4_start wsX4_start { frames := 0, cells := 0, slots := 0, locals := 0 } [.ref a] [(a, .inr (4, [.int sg, .int tg, .int fi, .int op, .int se, .int ng, .int nu]))] none [(a, .inr (4, [.int (0 : Int32), .int (-1 : Int32), .int (-1 : Int32), .int (43 : Int32), .int (-1 : Int32), .int (0 : Int32), .int (0 : Int32)]))] 0 0 := by
  refine Fn_of (cc := cX4_start) (maxL := 1) (ret := none) [some (.ref a)] (by decide +kernel) rfl (jcat rfl) (Nat.le_of_ble_eq_true rfl) rfl (fun k C R hin hnL => ?_)
  have hN : ∀ i, i < 1 → i < k.2.2.2.2.2.2.2.2.2.2.2.1 := fun i h => by rw [hnL]; exact h
  refine J_aload_n C dX4_start_0 rfl rfl ?_
  refine J_iconst C (v := (0 : Int32)) dX4_start_1 (by decide) ?_
  refine J_put C tyX4 0 0 [(a, .inr (4, [.int (0 : Int32), .int tg, .int fi, .int op, .int se, .int ng, .int nu]))] rfl rfl i_X4_start_X4 tyX4_ok nmX4 (by decide) k_X4_start_11 rfl rfl rfl rfl (Nat.le_of_ble_eq_true rfl) rfl dX4_start_2 ?_
  refine J_aload_n C dX4_start_5 rfl rfl ?_
  refine J_iconst C (v := (-1 : Int32)) dX4_start_6 (by decide) ?_
  refine J_put C tyX4 0 1 [(a, .inr (4, [.int (0 : Int32), .int (-1 : Int32), .int fi, .int op, .int se, .int ng, .int nu]))] rfl rfl i_X4_start_X4 tyX4_ok nmX4 (by decide) k_X4_start_15 rfl rfl rfl rfl (Nat.le_of_ble_eq_true rfl) rfl dX4_start_7 ?_
  refine J_aload_n C dX4_start_10 rfl rfl ?_
  refine J_iconst C (v := (-1 : Int32)) dX4_start_11 (by decide) ?_
  refine J_put C tyX4 0 2 [(a, .inr (4, [.int (0 : Int32), .int (-1 : Int32), .int (-1 : Int32), .int op, .int se, .int ng, .int nu]))] rfl rfl i_X4_start_X4 tyX4_ok nmX4 (by decide) k_X4_start_18 rfl rfl rfl rfl (Nat.le_of_ble_eq_true rfl) rfl dX4_start_12 ?_
  refine J_aload_n C dX4_start_15 rfl rfl ?_
  refine J_bipush C (v := (43 : Int32)) dX4_start_16 (by decide) ?_
  refine J_put C tyX4 0 3 [(a, .inr (4, [.int (0 : Int32), .int (-1 : Int32), .int (-1 : Int32), .int (43 : Int32), .int se, .int ng, .int nu]))] rfl rfl i_X4_start_X4 tyX4_ok nmX4 (by decide) k_X4_start_21 rfl rfl rfl rfl (Nat.le_of_ble_eq_true rfl) rfl dX4_start_18 ?_
  refine J_aload_n C dX4_start_21 rfl rfl ?_
  refine J_iconst C (v := (-1 : Int32)) dX4_start_22 (by decide) ?_
  refine J_put C tyX4 0 4 [(a, .inr (4, [.int (0 : Int32), .int (-1 : Int32), .int (-1 : Int32), .int (43 : Int32), .int (-1 : Int32), .int ng, .int nu]))] rfl rfl i_X4_start_X4 tyX4_ok nmX4 (by decide) k_X4_start_25 rfl rfl rfl rfl (Nat.le_of_ble_eq_true rfl) rfl dX4_start_23 ?_
  refine J_aload_n C dX4_start_26 rfl rfl ?_
  refine J_iconst C (v := (0 : Int32)) dX4_start_27 (by decide) ?_
  refine J_put C tyX4 0 5 [(a, .inr (4, [.int (0 : Int32), .int (-1 : Int32), .int (-1 : Int32), .int (43 : Int32), .int (-1 : Int32), .int (0 : Int32), .int nu]))] rfl rfl i_X4_start_X4 tyX4_ok nmX4 (by decide) k_X4_start_28 rfl rfl rfl rfl (Nat.le_of_ble_eq_true rfl) rfl dX4_start_28 ?_
  refine J_aload_n C dX4_start_31 rfl rfl ?_
  refine J_iconst C (v := (0 : Int32)) dX4_start_32 (by decide) ?_
  refine J_put C tyX4 0 6 [(a, .inr (4, [.int (0 : Int32), .int (-1 : Int32), .int (-1 : Int32), .int (43 : Int32), .int (-1 : Int32), .int (0 : Int32), .int (0 : Int32)]))] rfl rfl i_X4_start_X4 tyX4_ok nmX4 (by decide) k_X4_start_32 rfl rfl rfl rfl (Nat.le_of_ble_eq_true rfl) rfl dX4_start_33 ?_
  exact J_vret C R dX4_start_36 (Nat.le_of_ble_eq_true rfl) (Nat.le_of_ble_eq_true rfl) rfl rfl
theorem k_X4_isWhole_11 : Cond.fieldLink RX4 11 "BoothOtters$StepReader" "stage" "I" ∈ wsX4_isWhole := List.mem_of_getElem? (i := 1) rfl
theorem i_X4_isWhole_X4 : ∀ w ∈ wsX40, w ∈ wsX4_isWhole := fun _ h => List.mem_cons_of_mem _ (List.mem_append_right _ h)
set_option maxHeartbeats 4000000 in
set_option maxRecDepth 100000 in
theorem c_X4_isWhole (U : jU) (a : Nat) (sg tg fi op se ng nu : Int32)  : Fn U yX4_isWhole wsX4_isWhole { frames := 0, cells := 0, slots := 0, locals := 0 } [.ref a] [(a, .inr (4, [.int sg, .int tg, .int fi, .int op, .int se, .int ng, .int nu]))] (some (.int (b2i (sg = 3 ∨ sg = 7 ∨ sg = 8)))) [(a, .inr (4, [.int sg, .int tg, .int fi, .int op, .int se, .int ng, .int nu]))] 0 0 := by
  refine Fn_of (cc := cX4_isWhole) (maxL := 1) (ret := (some .boolean)) [some (.ref a)] (by decide +kernel) rfl (jcat rfl) (Nat.le_of_ble_eq_true rfl) rfl (fun k C R hin hnL => ?_)
  have hN : ∀ i, i < 1 → i < k.2.2.2.2.2.2.2.2.2.2.2.1 := fun i h => by rw [hnL]; exact h
  refine J_aload_n C dX4_isWhole_0 rfl rfl ?_
  refine J_get C 0 0 rfl rfl i_X4_isWhole_X4 (by decide) k_X4_isWhole_11 rfl rfl dX4_isWhole_1 ?_
  refine J_iconst C (v := (3 : Int32)) dX4_isWhole_4 (by decide) ?_
  refine J_icmp_eq C 26 dX4_isWhole_5 (by decide) (fun c_5_1 => ?_) (fun c_5_1 => ?_)
  · refine J_iconst C (v := (1 : Int32)) dX4_isWhole_26 (by decide) ?_
    refine J_goto C 31 dX4_isWhole_27 (by decide) ?_
    exact J_zret C R rfl dX4_isWhole_31 (Nat.le_of_ble_eq_true rfl) (Nat.le_of_ble_eq_true rfl) (congrArg (fun z => some (Value.int z)) (b2i_t (P := sg = 3 ∨ sg = 7 ∨ sg = 8) (by simp_all [isReg, isRec, isLet, isDig]))) rfl
  · refine J_aload_n C dX4_isWhole_8 rfl rfl ?_
    refine J_get C 0 0 rfl rfl i_X4_isWhole_X4 (by decide) k_X4_isWhole_11 rfl rfl dX4_isWhole_9 ?_
    refine J_bipush C (v := (7 : Int32)) dX4_isWhole_12 (by decide) ?_
    refine J_icmp_eq C 26 dX4_isWhole_14 (by decide) (fun c_14_2 => ?_) (fun c_14_2 => ?_)
    · refine J_iconst C (v := (1 : Int32)) dX4_isWhole_26 (by decide) ?_
      refine J_goto C 31 dX4_isWhole_27 (by decide) ?_
      exact J_zret C R rfl dX4_isWhole_31 (Nat.le_of_ble_eq_true rfl) (Nat.le_of_ble_eq_true rfl) (congrArg (fun z => some (Value.int z)) (b2i_t (P := sg = 3 ∨ sg = 7 ∨ sg = 8) (by simp_all [isReg, isRec, isLet, isDig]))) rfl
    · refine J_aload_n C dX4_isWhole_17 rfl rfl ?_
      refine J_get C 0 0 rfl rfl i_X4_isWhole_X4 (by decide) k_X4_isWhole_11 rfl rfl dX4_isWhole_18 ?_
      refine J_bipush C (v := (8 : Int32)) dX4_isWhole_21 (by decide) ?_
      refine J_icmp_ne C 30 dX4_isWhole_23 (by decide) (fun c_23_3 => ?_) (fun c_23_3 => ?_)
      · refine J_iconst C (v := (0 : Int32)) dX4_isWhole_30 (by decide) ?_
        exact J_zret C R rfl dX4_isWhole_31 (Nat.le_of_ble_eq_true rfl) (Nat.le_of_ble_eq_true rfl) (congrArg (fun z => some (Value.int z)) (b2i_f (P := sg = 3 ∨ sg = 7 ∨ sg = 8) (by simp_all [isReg, isRec, isLet, isDig]))) rfl
      · refine J_iconst C (v := (1 : Int32)) dX4_isWhole_26 (by decide) ?_
        refine J_goto C 31 dX4_isWhole_27 (by decide) ?_
        exact J_zret C R rfl dX4_isWhole_31 (Nat.le_of_ble_eq_true rfl) (Nat.le_of_ble_eq_true rfl) (congrArg (fun z => some (Value.int z)) (b2i_t (P := sg = 3 ∨ sg = 7 ∨ sg = 8) (by simp_all [isReg, isRec, isLet, isDig]))) rfl
set_option maxHeartbeats 4000000 in
set_option maxRecDepth 100000 in
theorem c_X4_startNext (U : jU) (a : Nat) (sg tg fi op se ng nu : Int32)  : Fn U yX4_startNext wsX4_startNext { frames := 1, cells := 0, slots := 0, locals := 20 } [.ref a] [(a, .inr (4, [.int sg, .int tg, .int fi, .int op, .int se, .int ng, .int nu]))] (some (.int (b2i (sg = 3 ∨ sg = 7 ∨ sg = 8)))) [(a, .inr (4, [.int (0 : Int32), .int (-1 : Int32), .int (-1 : Int32), .int (43 : Int32), .int (-1 : Int32), .int (0 : Int32), .int (0 : Int32)]))] 0 0 := by
  refine Fn_of (cc := cX4_startNext) (maxL := 2) (ret := (some .boolean)) [some (.ref a), none] (by decide +kernel) rfl (jcat rfl) (Nat.le_of_ble_eq_true rfl) rfl (fun k C R hin hnL => ?_)
  have hN : ∀ i, i < 2 → i < k.2.2.2.2.2.2.2.2.2.2.2.1 := fun i h => by rw [hnL]; exact h
  refine J_aload_n C dX4_startNext_0 rfl rfl ?_
  refine J_callV C (c_X4_isWhole U a sg tg fi op se ng nu ) gX4_startNext_X4_isWhole (n := 0) rfl rfl rfl (by decide +kernel) ⟨Nat.le_of_ble_eq_true rfl, Nat.le_of_ble_eq_true rfl⟩ 0 rfl rfl rfl (rest := []) rfl (Nat.le_of_ble_eq_true rfl) [(a, .inr (4, [.int sg, .int tg, .int fi, .int op, .int se, .int ng, .int nu]))] [0] [] [0] (wr := []) rfl rfl rfl rfl (by decide) rfl rfl  dX4_startNext_1 ⟨Nat.le_of_ble_eq_true rfl, Nat.le_of_ble_eq_true rfl⟩ [.int (b2i (sg = 3 ∨ sg = 7 ∨ sg = 8))] rfl ?_
  refine J_istore_n C [some (.ref a), some (.int (b2i (sg = 3 ∨ sg = 7 ∨ sg = 8)))] dX4_startNext_4 rfl (hN 1 (by decide)) rfl rfl ?_
  refine J_aload_n C dX4_startNext_5 rfl rfl ?_
  refine J_callV C (c_X4_start U a sg tg fi op se ng nu ) gX4_startNext_X4_start (n := 0) rfl rfl rfl (by decide +kernel) ⟨Nat.le_of_ble_eq_true rfl, Nat.le_of_ble_eq_true rfl⟩ 0 rfl rfl rfl (rest := []) rfl (Nat.le_of_ble_eq_true rfl) [(a, .inr (4, [.int (0 : Int32), .int (-1 : Int32), .int (-1 : Int32), .int (43 : Int32), .int (-1 : Int32), .int (0 : Int32), .int (0 : Int32)]))] [0] [] [0] (wr := []) rfl rfl rfl rfl (by decide) rfl rfl  dX4_startNext_6 ⟨Nat.le_of_ble_eq_true rfl, Nat.le_of_ble_eq_true rfl⟩ [] rfl ?_
  refine J_iload_n C dX4_startNext_9 rfl rfl ?_
  exact J_zret C R b2i_nar dX4_startNext_10 (Nat.le_of_ble_eq_true rfl) (Nat.le_of_ble_eq_true rfl) rfl rfl
theorem k_X4_withDigit_32 : Cond.fieldLink RX4 32 "BoothOtters$StepReader" "number" "I" ∈ wsX4_withDigit := List.mem_of_getElem? (i := 1) rfl
theorem i_X4_withDigit_X4 : ∀ w ∈ wsX40, w ∈ wsX4_withDigit := fun _ h => List.mem_cons_of_mem _ (List.mem_append_right _ h)
set_option maxHeartbeats 4000000 in
set_option maxRecDepth 100000 in
theorem c_X4_withDigit (U : jU) (a : Nat) (sg tg fi op se ng nu : Int32) (p0 : Int32)  : Fn U yX4_withDigit wsX4_withDigit { frames := 0, cells := 0, slots := 0, locals := 0 } [.ref a, .int p0] [(a, .inr (4, [.int sg, .int tg, .int fi, .int op, .int se, .int ng, .int nu]))] (some (.int (wdF nu p0))) [(a, .inr (4, [.int sg, .int tg, .int fi, .int op, .int se, .int ng, .int nu]))] 0 0 := by
  refine Fn_of (cc := cX4_withDigit) (maxL := 2) (ret := (some .int)) [some (.ref a), some (.int p0)] (by decide +kernel) rfl (jcat rfl) (Nat.le_of_ble_eq_true rfl) rfl (fun k C R hin hnL => ?_)
  have hN : ∀ i, i < 2 → i < k.2.2.2.2.2.2.2.2.2.2.2.1 := fun i h => by rw [hnL]; exact h
  refine J_aload_n C dX4_withDigit_0 rfl rfl ?_
  refine J_get C 0 6 rfl rfl i_X4_withDigit_X4 (by decide) k_X4_withDigit_32 rfl rfl dX4_withDigit_1 ?_
  refine J_bipush C (v := (10 : Int32)) dX4_withDigit_4 (by decide) ?_
  refine J_imul C (v := nu * (10 : Int32)) dX4_withDigit_6 rfl ?_
  refine J_iload_n C dX4_withDigit_7 rfl rfl ?_
  refine J_bipush C (v := (48 : Int32)) dX4_withDigit_8 (by decide) ?_
  refine J_isub C (v := p0 - (48 : Int32)) dX4_withDigit_10 rfl ?_
  refine J_iadd C (v := (nu * (10 : Int32)) + (p0 - (48 : Int32))) dX4_withDigit_11 rfl ?_
  exact J_iret C R dX4_withDigit_12 (Nat.le_of_ble_eq_true rfl) (Nat.le_of_ble_eq_true rfl) rfl rfl
theorem k_X4_greatestSize_28 : Cond.fieldLink RX4 28 "BoothOtters$StepReader" "negative" "Z" ∈ wsX4_greatestSize := List.mem_of_getElem? (i := 1) rfl
theorem i_X4_greatestSize_X4 : ∀ w ∈ wsX40, w ∈ wsX4_greatestSize := fun _ h => List.mem_cons_of_mem _ (List.mem_append_right _ h)
set_option maxHeartbeats 4000000 in
set_option maxRecDepth 100000 in
theorem c_X4_greatestSize (U : jU) (a : Nat) (sg tg fi op se ng nu : Int32)  : Fn U yX4_greatestSize wsX4_greatestSize { frames := 0, cells := 0, slots := 0, locals := 0 } [.ref a] [(a, .inr (4, [.int sg, .int tg, .int fi, .int op, .int se, .int ng, .int nu]))] (some (.int (gsF ng))) [(a, .inr (4, [.int sg, .int tg, .int fi, .int op, .int se, .int ng, .int nu]))] 0 0 := by
  refine Fn_of (cc := cX4_greatestSize) (maxL := 1) (ret := (some .int)) [some (.ref a)] (by decide +kernel) rfl (jcat rfl) (Nat.le_of_ble_eq_true rfl) rfl (fun k C R hin hnL => ?_)
  have hN : ∀ i, i < 1 → i < k.2.2.2.2.2.2.2.2.2.2.2.1 := fun i h => by rw [hnL]; exact h
  refine J_aload_n C dX4_greatestSize_0 rfl rfl ?_
  refine J_get C 0 5 rfl rfl i_X4_greatestSize_X4 (by decide) k_X4_greatestSize_28 rfl rfl dX4_greatestSize_1 ?_
  refine J_if_eq C 12 dX4_greatestSize_4 (by decide) (fun c_4_1 => ?_) (fun c_4_1 => ?_)
  · refine J_sipush C (v := (32767 : Int32)) dX4_greatestSize_12 (by decide) ?_
    exact J_iret C R dX4_greatestSize_15 (Nat.le_of_ble_eq_true rfl) (Nat.le_of_ble_eq_true rfl) (by simp [gsF, c_4_1]) rfl
  · refine J_ldc C (v := (32768 : Int32)) dX4_greatestSize_7 (List.mem_of_getElem? (i := 2) rfl) ?_
    refine J_goto C 15 dX4_greatestSize_9 (by decide) ?_
    exact J_iret C R dX4_greatestSize_15 (Nat.le_of_ble_eq_true rfl) (Nat.le_of_ble_eq_true rfl) (by simp [gsF, c_4_1]) rfl
set_option maxHeartbeats 4000000 in
set_option maxRecDepth 100000 in
theorem c_X4_stageAfterSource (U : jU) (p0 : Int32)  : Fn U yX4_stageAfterSource wsX4_stageAfterSource { frames := 1, cells := 0, slots := 0, locals := 20 } [.int p0] [] (some (.int (sasF p0))) [] 0 0 := by
  refine Fn_of (cc := cX4_stageAfterSource) (maxL := 1) (ret := (some .int)) [some (.int p0)] (by decide +kernel) rfl (jcat rfl) (Nat.le_of_ble_eq_true rfl) rfl (fun k C R hin hnL => ?_)
  have hN : ∀ i, i < 1 → i < k.2.2.2.2.2.2.2.2.2.2.2.1 := fun i h => by rw [hnL]; exact h
  refine J_iload_n C dX4_stageAfterSource_0 rfl rfl ?_
  refine J_callS C (c_X4_isLetter U p0 ) gX4_stageAfterSource_X4_isLetter (n := 1) rfl rfl rfl (by decide +kernel) ⟨Nat.le_of_ble_eq_true rfl, Nat.le_of_ble_eq_true rfl⟩ rfl (rest := []) rfl (Nat.le_of_ble_eq_true rfl) [] [] [] [] (wr := []) rfl rfl rfl rfl (by decide) rfl rfl  dX4_stageAfterSource_1 ⟨Nat.le_of_ble_eq_true rfl, Nat.le_of_ble_eq_true rfl⟩ [.int (b2i (isLet p0))] rfl ?_
  refine J_if_eq_b C 9 dX4_stageAfterSource_4 (by decide) (fun c_4_1 => ?_) (fun c_4_1 => ?_)
  · refine J_iload_n C dX4_stageAfterSource_9 rfl rfl ?_
    refine J_bipush C (v := (45 : Int32)) dX4_stageAfterSource_10 (by decide) ?_
    refine J_icmp_ne C 17 dX4_stageAfterSource_12 (by decide) (fun c_12_2 => ?_) (fun c_12_2 => ?_)
    · refine J_iload_n C dX4_stageAfterSource_17 rfl rfl ?_
      refine J_bipush C (v := (35 : Int32)) dX4_stageAfterSource_18 (by decide) ?_
      refine J_icmp_ne C 27 dX4_stageAfterSource_20 (by decide) (fun c_20_3 => ?_) (fun c_20_3 => ?_)
      · refine J_iconst C (v := (-1 : Int32)) dX4_stageAfterSource_27 (by decide) ?_
        exact J_iret C R dX4_stageAfterSource_28 (Nat.le_of_ble_eq_true rfl) (Nat.le_of_ble_eq_true rfl) (by simp [sasF, c_4_1, c_12_2, c_20_3]) rfl
      · refine J_iconst C (v := (5 : Int32)) dX4_stageAfterSource_23 (by decide) ?_
        refine J_goto C 28 dX4_stageAfterSource_24 (by decide) ?_
        exact J_iret C R dX4_stageAfterSource_28 (Nat.le_of_ble_eq_true rfl) (Nat.le_of_ble_eq_true rfl) (by simp [sasF, c_4_1, c_12_2, c_20_3]) rfl
    · refine J_iconst C (v := (4 : Int32)) dX4_stageAfterSource_15 (by decide) ?_
      exact J_iret C R dX4_stageAfterSource_16 (Nat.le_of_ble_eq_true rfl) (Nat.le_of_ble_eq_true rfl) (by simp [sasF, c_4_1, c_12_2]) rfl
  · refine J_iconst C (v := (3 : Int32)) dX4_stageAfterSource_7 (by decide) ?_
    exact J_iret C R dX4_stageAfterSource_8 (Nat.le_of_ble_eq_true rfl) (Nat.le_of_ble_eq_true rfl) (by simp [sasF, c_4_1]) rfl
set_option maxHeartbeats 4000000 in
set_option maxRecDepth 100000 in
theorem c_X4_stageAfterNumberSign (U : jU) (p0 : Int32)  : Fn U yX4_stageAfterNumberSign wsX4_stageAfterNumberSign { frames := 1, cells := 0, slots := 0, locals := 20 } [.int p0] [] (some (.int (sanF p0))) [] 0 0 := by
  refine Fn_of (cc := cX4_stageAfterNumberSign) (maxL := 1) (ret := (some .int)) [some (.int p0)] (by decide +kernel) rfl (jcat rfl) (Nat.le_of_ble_eq_true rfl) rfl (fun k C R hin hnL => ?_)
  have hN : ∀ i, i < 1 → i < k.2.2.2.2.2.2.2.2.2.2.2.1 := fun i h => by rw [hnL]; exact h
  refine J_iload_n C dX4_stageAfterNumberSign_0 rfl rfl ?_
  refine J_bipush C (v := (45 : Int32)) dX4_stageAfterNumberSign_1 (by decide) ?_
  refine J_icmp_ne C 9 dX4_stageAfterNumberSign_3 (by decide) (fun c_3_1 => ?_) (fun c_3_1 => ?_)
  · refine J_iload_n C dX4_stageAfterNumberSign_9 rfl rfl ?_
    refine J_bipush C (v := (48 : Int32)) dX4_stageAfterNumberSign_10 (by decide) ?_
    refine J_icmp_ne C 18 dX4_stageAfterNumberSign_12 (by decide) (fun c_12_2 => ?_) (fun c_12_2 => ?_)
    · refine J_iload_n C dX4_stageAfterNumberSign_18 rfl rfl ?_
      refine J_callS C (c_X4_isDigit U p0 ) gX4_stageAfterNumberSign_X4_isDigit (n := 1) rfl rfl rfl (by decide +kernel) ⟨Nat.le_of_ble_eq_true rfl, Nat.le_of_ble_eq_true rfl⟩ rfl (rest := []) rfl (Nat.le_of_ble_eq_true rfl) [] [] [] [] (wr := []) rfl rfl rfl rfl (by decide) rfl rfl  dX4_stageAfterNumberSign_19 ⟨Nat.le_of_ble_eq_true rfl, Nat.le_of_ble_eq_true rfl⟩ [.int (b2i (isDig p0))] rfl ?_
      refine J_if_eq_b C 30 dX4_stageAfterNumberSign_22 (by decide) (fun c_22_3 => ?_) (fun c_22_3 => ?_)
      · refine J_iconst C (v := (-1 : Int32)) dX4_stageAfterNumberSign_30 (by decide) ?_
        exact J_iret C R dX4_stageAfterNumberSign_31 (Nat.le_of_ble_eq_true rfl) (Nat.le_of_ble_eq_true rfl) (by simp [sanF, c_3_1, c_12_2, c_22_3]) rfl
      · refine J_bipush C (v := (7 : Int32)) dX4_stageAfterNumberSign_25 (by decide) ?_
        refine J_goto C 31 dX4_stageAfterNumberSign_27 (by decide) ?_
        exact J_iret C R dX4_stageAfterNumberSign_31 (Nat.le_of_ble_eq_true rfl) (Nat.le_of_ble_eq_true rfl) (by simp [sanF, c_3_1, c_12_2, c_22_3]) rfl
    · refine J_bipush C (v := (8 : Int32)) dX4_stageAfterNumberSign_15 (by decide) ?_
      exact J_iret C R dX4_stageAfterNumberSign_17 (Nat.le_of_ble_eq_true rfl) (Nat.le_of_ble_eq_true rfl) (by simp [sanF, c_3_1, c_12_2]) rfl
  · refine J_bipush C (v := (6 : Int32)) dX4_stageAfterNumberSign_6 (by decide) ?_
    exact J_iret C R dX4_stageAfterNumberSign_8 (Nat.le_of_ble_eq_true rfl) (Nat.le_of_ble_eq_true rfl) (by simp [sanF, c_3_1]) rfl
theorem k_X4_stageAfter_11 : Cond.fieldLink RX4 11 "BoothOtters$StepReader" "stage" "I" ∈ wsX4_stageAfter := List.mem_of_getElem? (i := 1) rfl
theorem i_X4_stageAfter_X4 : ∀ w ∈ wsX40, w ∈ wsX4_stageAfter := fun _ h => List.mem_cons_of_mem _ (List.mem_append_right _ h)
set_option maxHeartbeats 4000000 in
set_option maxRecDepth 100000 in
theorem c_X4_stageAfter (U : jU) (a : Nat) (sg tg fi op se ng nu : Int32) (p0 : Int32)  : Fn U yX4_stageAfter wsX4_stageAfter { frames := 2, cells := 0, slots := 0, locals := 40 } [.ref a, .int p0] [(a, .inr (4, [.int sg, .int tg, .int fi, .int op, .int se, .int ng, .int nu]))] (some (.int (saF sg ng nu p0))) [(a, .inr (4, [.int sg, .int tg, .int fi, .int op, .int se, .int ng, .int nu]))] 0 0 := by
  refine Fn_of (cc := cX4_stageAfter) (maxL := 2) (ret := (some .int)) [some (.ref a), some (.int p0)] (by decide +kernel) rfl (jcat rfl) (Nat.le_of_ble_eq_true rfl) rfl (fun k C R hin hnL => ?_)
  have hN : ∀ i, i < 2 → i < k.2.2.2.2.2.2.2.2.2.2.2.1 := fun i h => by rw [hnL]; exact h
  refine J_aload_n C dX4_stageAfter_0 rfl rfl ?_
  refine J_get C 0 0 rfl rfl i_X4_stageAfter_X4 (by decide) k_X4_stageAfter_11 rfl rfl dX4_stageAfter_1 ?_
  by_cases c_4_1 : sg = 0
  · refine J_tableIn C (0 : Int32) (48) 52 dX4_stageAfter_4 c_4_1 (by decide) (by decide) (by decide) (by decide) ?_
    refine J_iload_n C dX4_stageAfter_52 rfl rfl ?_
    refine J_callS C (c_X4_isLetter U p0 ) gX4_stageAfter_X4_isLetter (n := 1) rfl rfl rfl (by decide +kernel) ⟨Nat.le_of_ble_eq_true rfl, Nat.le_of_ble_eq_true rfl⟩ rfl (rest := []) rfl (Nat.le_of_ble_eq_true rfl) [(a, .inr (4, [.int sg, .int tg, .int fi, .int op, .int se, .int ng, .int nu]))] [] [0] [0] (wr := [(a, .inr (4, [.int sg, .int tg, .int fi, .int op, .int se, .int ng, .int nu]))]) rfl rfl rfl rfl (by decide) rfl rfl  dX4_stageAfter_53 ⟨Nat.le_of_ble_eq_true rfl, Nat.le_of_ble_eq_true rfl⟩ [.int (b2i (isLet p0))] rfl ?_
    refine J_if_eq_b C 63 dX4_stageAfter_56 (by decide) (fun c_56_2 => ?_) (fun c_56_2 => ?_)
    · refine J_iconst C (v := (-1 : Int32)) dX4_stageAfter_63 (by decide) ?_
      exact J_iret C R dX4_stageAfter_64 (Nat.le_of_ble_eq_true rfl) (Nat.le_of_ble_eq_true rfl) (by simp [saF, c_4_1, c_56_2]) rfl
    · refine J_iconst C (v := (1 : Int32)) dX4_stageAfter_59 (by decide) ?_
      refine J_goto C 64 dX4_stageAfter_60 (by decide) ?_
      exact J_iret C R dX4_stageAfter_64 (Nat.le_of_ble_eq_true rfl) (Nat.le_of_ble_eq_true rfl) (by simp [saF, c_4_1, c_56_2]) rfl
  by_cases c_4_3 : sg = 1
  · refine J_tableIn C (1 : Int32) (61) 65 dX4_stageAfter_4 c_4_3 (by decide) (by decide) (by decide) (by decide) ?_
    refine J_iload_n C dX4_stageAfter_65 rfl rfl ?_
    refine J_bipush C (v := (61 : Int32)) dX4_stageAfter_66 (by decide) ?_
    refine J_icmp_ne C 75 dX4_stageAfter_68 (by decide) (fun c_68_4 => ?_) (fun c_68_4 => ?_)
    · refine J_iconst C (v := (-1 : Int32)) dX4_stageAfter_75 (by decide) ?_
      exact J_iret C R dX4_stageAfter_76 (Nat.le_of_ble_eq_true rfl) (Nat.le_of_ble_eq_true rfl) (by simp [saF, c_4_1, c_4_3, c_68_4]) rfl
    · refine J_iconst C (v := (2 : Int32)) dX4_stageAfter_71 (by decide) ?_
      refine J_goto C 76 dX4_stageAfter_72 (by decide) ?_
      exact J_iret C R dX4_stageAfter_76 (Nat.le_of_ble_eq_true rfl) (Nat.le_of_ble_eq_true rfl) (by simp [saF, c_4_1, c_4_3, c_68_4]) rfl
  by_cases c_4_5 : sg = 2
  · refine J_tableIn C (2 : Int32) (73) 77 dX4_stageAfter_4 c_4_5 (by decide) (by decide) (by decide) (by decide) ?_
    refine J_iload_n C dX4_stageAfter_77 rfl rfl ?_
    refine J_callS C (c_X4_stageAfterSource U p0 ) gX4_stageAfter_X4_stageAfterSource (n := 1) rfl rfl rfl (by decide +kernel) ⟨Nat.le_of_ble_eq_true rfl, Nat.le_of_ble_eq_true rfl⟩ rfl (rest := []) rfl (Nat.le_of_ble_eq_true rfl) [(a, .inr (4, [.int sg, .int tg, .int fi, .int op, .int se, .int ng, .int nu]))] [] [0] [0] (wr := [(a, .inr (4, [.int sg, .int tg, .int fi, .int op, .int se, .int ng, .int nu]))]) rfl rfl rfl rfl (by decide) rfl rfl  dX4_stageAfter_78 ⟨Nat.le_of_ble_eq_true rfl, Nat.le_of_ble_eq_true rfl⟩ [.int (sasF p0)] rfl ?_
    exact J_iret C R dX4_stageAfter_81 (Nat.le_of_ble_eq_true rfl) (Nat.le_of_ble_eq_true rfl) (by simp [saF, c_4_1, c_4_3, c_4_5]) rfl
  by_cases c_4_6 : sg = 3
  · refine J_tableIn C (3 : Int32) (78) 82 dX4_stageAfter_4 c_4_6 (by decide) (by decide) (by decide) (by decide) ?_
    refine J_iload_n C dX4_stageAfter_82 rfl rfl ?_
    refine J_bipush C (v := (43 : Int32)) dX4_stageAfter_83 (by decide) ?_
    refine J_icmp_eq C 100 dX4_stageAfter_85 (by decide) (fun c_85_7 => ?_) (fun c_85_7 => ?_)
    · refine J_iconst C (v := (4 : Int32)) dX4_stageAfter_100 (by decide) ?_
      refine J_goto C 105 dX4_stageAfter_101 (by decide) ?_
      exact J_iret C R dX4_stageAfter_105 (Nat.le_of_ble_eq_true rfl) (Nat.le_of_ble_eq_true rfl) (by simp [saF, c_4_1, c_4_3, c_4_5, c_4_6, c_85_7]) rfl
    · refine J_iload_n C dX4_stageAfter_88 rfl rfl ?_
      refine J_bipush C (v := (45 : Int32)) dX4_stageAfter_89 (by decide) ?_
      refine J_icmp_eq C 100 dX4_stageAfter_91 (by decide) (fun c_91_8 => ?_) (fun c_91_8 => ?_)
      · refine J_iconst C (v := (4 : Int32)) dX4_stageAfter_100 (by decide) ?_
        refine J_goto C 105 dX4_stageAfter_101 (by decide) ?_
        exact J_iret C R dX4_stageAfter_105 (Nat.le_of_ble_eq_true rfl) (Nat.le_of_ble_eq_true rfl) (by simp [saF, c_4_1, c_4_3, c_4_5, c_4_6, c_85_7, c_91_8]) rfl
      · refine J_iload_n C dX4_stageAfter_94 rfl rfl ?_
        refine J_bipush C (v := (42 : Int32)) dX4_stageAfter_95 (by decide) ?_
        refine J_icmp_ne C 104 dX4_stageAfter_97 (by decide) (fun c_97_9 => ?_) (fun c_97_9 => ?_)
        · refine J_iconst C (v := (-1 : Int32)) dX4_stageAfter_104 (by decide) ?_
          exact J_iret C R dX4_stageAfter_105 (Nat.le_of_ble_eq_true rfl) (Nat.le_of_ble_eq_true rfl) (by simp [saF, c_4_1, c_4_3, c_4_5, c_4_6, c_85_7, c_91_8, c_97_9]) rfl
        · refine J_iconst C (v := (4 : Int32)) dX4_stageAfter_100 (by decide) ?_
          refine J_goto C 105 dX4_stageAfter_101 (by decide) ?_
          exact J_iret C R dX4_stageAfter_105 (Nat.le_of_ble_eq_true rfl) (Nat.le_of_ble_eq_true rfl) (by simp [saF, c_4_1, c_4_3, c_4_5, c_4_6, c_85_7, c_91_8, c_97_9]) rfl
  by_cases c_4_10 : sg = 4
  · refine J_tableIn C (4 : Int32) (102) 106 dX4_stageAfter_4 c_4_10 (by decide) (by decide) (by decide) (by decide) ?_
    refine J_iload_n C dX4_stageAfter_106 rfl rfl ?_
    refine J_callS C (c_X4_isLetter U p0 ) gX4_stageAfter_X4_isLetter (n := 1) rfl rfl rfl (by decide +kernel) ⟨Nat.le_of_ble_eq_true rfl, Nat.le_of_ble_eq_true rfl⟩ rfl (rest := []) rfl (Nat.le_of_ble_eq_true rfl) [(a, .inr (4, [.int sg, .int tg, .int fi, .int op, .int se, .int ng, .int nu]))] [] [0] [0] (wr := [(a, .inr (4, [.int sg, .int tg, .int fi, .int op, .int se, .int ng, .int nu]))]) rfl rfl rfl rfl (by decide) rfl rfl  dX4_stageAfter_107 ⟨Nat.le_of_ble_eq_true rfl, Nat.le_of_ble_eq_true rfl⟩ [.int (b2i (isLet p0))] rfl ?_
    refine J_if_eq_b C 118 dX4_stageAfter_110 (by decide) (fun c_110_11 => ?_) (fun c_110_11 => ?_)
    · refine J_iconst C (v := (-1 : Int32)) dX4_stageAfter_118 (by decide) ?_
      exact J_iret C R dX4_stageAfter_119 (Nat.le_of_ble_eq_true rfl) (Nat.le_of_ble_eq_true rfl) (by simp [saF, c_4_1, c_4_3, c_4_5, c_4_6, c_4_10, c_110_11]) rfl
    · refine J_bipush C (v := (8 : Int32)) dX4_stageAfter_113 (by decide) ?_
      refine J_goto C 119 dX4_stageAfter_115 (by decide) ?_
      exact J_iret C R dX4_stageAfter_119 (Nat.le_of_ble_eq_true rfl) (Nat.le_of_ble_eq_true rfl) (by simp [saF, c_4_1, c_4_3, c_4_5, c_4_6, c_4_10, c_110_11]) rfl
  by_cases c_4_12 : sg = 5
  · refine J_tableIn C (5 : Int32) (116) 120 dX4_stageAfter_4 c_4_12 (by decide) (by decide) (by decide) (by decide) ?_
    refine J_iload_n C dX4_stageAfter_120 rfl rfl ?_
    refine J_callS C (c_X4_stageAfterNumberSign U p0 ) gX4_stageAfter_X4_stageAfterNumberSign (n := 1) rfl rfl rfl (by decide +kernel) ⟨Nat.le_of_ble_eq_true rfl, Nat.le_of_ble_eq_true rfl⟩ rfl (rest := []) rfl (Nat.le_of_ble_eq_true rfl) [(a, .inr (4, [.int sg, .int tg, .int fi, .int op, .int se, .int ng, .int nu]))] [] [0] [0] (wr := [(a, .inr (4, [.int sg, .int tg, .int fi, .int op, .int se, .int ng, .int nu]))]) rfl rfl rfl rfl (by decide) rfl rfl  dX4_stageAfter_121 ⟨Nat.le_of_ble_eq_true rfl, Nat.le_of_ble_eq_true rfl⟩ [.int (sanF p0)] rfl ?_
    exact J_iret C R dX4_stageAfter_124 (Nat.le_of_ble_eq_true rfl) (Nat.le_of_ble_eq_true rfl) (by simp [saF, c_4_1, c_4_3, c_4_5, c_4_6, c_4_10, c_4_12]) rfl
  by_cases c_4_13 : sg = 6
  · refine J_tableIn C (6 : Int32) (121) 125 dX4_stageAfter_4 c_4_13 (by decide) (by decide) (by decide) (by decide) ?_
    refine J_iload_n C dX4_stageAfter_125 rfl rfl ?_
    refine J_callS C (c_X4_isDigit U p0 ) gX4_stageAfter_X4_isDigit (n := 1) rfl rfl rfl (by decide +kernel) ⟨Nat.le_of_ble_eq_true rfl, Nat.le_of_ble_eq_true rfl⟩ rfl (rest := []) rfl (Nat.le_of_ble_eq_true rfl) [(a, .inr (4, [.int sg, .int tg, .int fi, .int op, .int se, .int ng, .int nu]))] [] [0] [0] (wr := [(a, .inr (4, [.int sg, .int tg, .int fi, .int op, .int se, .int ng, .int nu]))]) rfl rfl rfl rfl (by decide) rfl rfl  dX4_stageAfter_126 ⟨Nat.le_of_ble_eq_true rfl, Nat.le_of_ble_eq_true rfl⟩ [.int (b2i (isDig p0))] rfl ?_
    refine J_if_eq_b C 143 dX4_stageAfter_129 (by decide) (fun c_129_14 => ?_) (fun c_129_14 => ?_)
    · refine J_iconst C (v := (-1 : Int32)) dX4_stageAfter_143 (by decide) ?_
      exact J_iret C R dX4_stageAfter_144 (Nat.le_of_ble_eq_true rfl) (Nat.le_of_ble_eq_true rfl) (by simp [saF, c_4_1, c_4_3, c_4_5, c_4_6, c_4_10, c_4_12, c_4_13, c_129_14]) rfl
    · refine J_iload_n C dX4_stageAfter_132 rfl rfl ?_
      refine J_bipush C (v := (48 : Int32)) dX4_stageAfter_133 (by decide) ?_
      refine J_icmp_eq C 143 dX4_stageAfter_135 (by decide) (fun c_135_15 => ?_) (fun c_135_15 => ?_)
      · refine J_iconst C (v := (-1 : Int32)) dX4_stageAfter_143 (by decide) ?_
        exact J_iret C R dX4_stageAfter_144 (Nat.le_of_ble_eq_true rfl) (Nat.le_of_ble_eq_true rfl) (by simp [saF, c_4_1, c_4_3, c_4_5, c_4_6, c_4_10, c_4_12, c_4_13, c_129_14, c_135_15]) rfl
      · refine J_bipush C (v := (7 : Int32)) dX4_stageAfter_138 (by decide) ?_
        refine J_goto C 144 dX4_stageAfter_140 (by decide) ?_
        exact J_iret C R dX4_stageAfter_144 (Nat.le_of_ble_eq_true rfl) (Nat.le_of_ble_eq_true rfl) (by simp [saF, c_4_1, c_4_3, c_4_5, c_4_6, c_4_10, c_4_12, c_4_13, c_129_14, c_135_15]) rfl
  by_cases c_4_16 : sg = 7
  · refine J_tableIn C (7 : Int32) (141) 145 dX4_stageAfter_4 c_4_16 (by decide) (by decide) (by decide) (by decide) ?_
    refine J_iload_n C dX4_stageAfter_145 rfl rfl ?_
    refine J_callS C (c_X4_isDigit U p0 ) gX4_stageAfter_X4_isDigit (n := 1) rfl rfl rfl (by decide +kernel) ⟨Nat.le_of_ble_eq_true rfl, Nat.le_of_ble_eq_true rfl⟩ rfl (rest := []) rfl (Nat.le_of_ble_eq_true rfl) [(a, .inr (4, [.int sg, .int tg, .int fi, .int op, .int se, .int ng, .int nu]))] [] [0] [0] (wr := [(a, .inr (4, [.int sg, .int tg, .int fi, .int op, .int se, .int ng, .int nu]))]) rfl rfl rfl rfl (by decide) rfl rfl  dX4_stageAfter_146 ⟨Nat.le_of_ble_eq_true rfl, Nat.le_of_ble_eq_true rfl⟩ [.int (b2i (isDig p0))] rfl ?_
    refine J_if_eq_b C 169 dX4_stageAfter_149 (by decide) (fun c_149_17 => ?_) (fun c_149_17 => ?_)
    · refine J_iconst C (v := (-1 : Int32)) dX4_stageAfter_169 (by decide) ?_
      exact J_iret C R dX4_stageAfter_170 (Nat.le_of_ble_eq_true rfl) (Nat.le_of_ble_eq_true rfl) (by simp [saF, c_4_1, c_4_3, c_4_5, c_4_6, c_4_10, c_4_12, c_4_13, c_4_16, c_149_17]) rfl
    · refine J_aload_n C dX4_stageAfter_152 rfl rfl ?_
      refine J_iload_n C dX4_stageAfter_153 rfl rfl ?_
      refine J_callV C (c_X4_withDigit U a sg tg fi op se ng nu p0 ) gX4_stageAfter_X4_withDigit (n := 1) rfl rfl rfl (by decide +kernel) ⟨Nat.le_of_ble_eq_true rfl, Nat.le_of_ble_eq_true rfl⟩ 0 rfl rfl rfl (rest := []) rfl (Nat.le_of_ble_eq_true rfl) [(a, .inr (4, [.int sg, .int tg, .int fi, .int op, .int se, .int ng, .int nu]))] [0] [] [0] (wr := []) rfl rfl rfl rfl (by decide) rfl rfl  dX4_stageAfter_154 ⟨Nat.le_of_ble_eq_true rfl, Nat.le_of_ble_eq_true rfl⟩ [.int (wdF nu p0)] rfl ?_
      refine J_aload_n C dX4_stageAfter_157 rfl rfl ?_
      refine J_callV C (c_X4_greatestSize U a sg tg fi op se ng nu ) gX4_stageAfter_X4_greatestSize (n := 0) rfl rfl rfl (by decide +kernel) ⟨Nat.le_of_ble_eq_true rfl, Nat.le_of_ble_eq_true rfl⟩ 0 rfl rfl rfl (rest := [.int (wdF nu p0)]) rfl (Nat.le_of_ble_eq_true rfl) [(a, .inr (4, [.int sg, .int tg, .int fi, .int op, .int se, .int ng, .int nu]))] [0] [] [0] (wr := []) rfl rfl rfl rfl (by decide) rfl rfl  dX4_stageAfter_158 ⟨Nat.le_of_ble_eq_true rfl, Nat.le_of_ble_eq_true rfl⟩ [.int (gsF ng), .int (wdF nu p0)] rfl ?_
      refine J_icmp_gt C 169 dX4_stageAfter_161 (by decide) (fun c_161_18 => ?_) (fun c_161_18 => ?_)
      · refine J_iconst C (v := (-1 : Int32)) dX4_stageAfter_169 (by decide) ?_
        exact J_iret C R dX4_stageAfter_170 (Nat.le_of_ble_eq_true rfl) (Nat.le_of_ble_eq_true rfl) (by simp [saF, c_4_1, c_4_3, c_4_5, c_4_6, c_4_10, c_4_12, c_4_13, c_4_16, c_149_17, c_161_18]) rfl
      · refine J_bipush C (v := (7 : Int32)) dX4_stageAfter_164 (by decide) ?_
        refine J_goto C 170 dX4_stageAfter_166 (by decide) ?_
        exact J_iret C R dX4_stageAfter_170 (Nat.le_of_ble_eq_true rfl) (Nat.le_of_ble_eq_true rfl) (by simp [saF, c_4_1, c_4_3, c_4_5, c_4_6, c_4_10, c_4_12, c_4_13, c_4_16, c_149_17, c_161_18]) rfl
  refine J_tableOut C 171 dX4_stageAfter_4 (by have g0 := neI c_4_1 (show (0 : Int32).toInt = 0 from rfl); have g1 := neI c_4_3 (show (1 : Int32).toInt = 1 from rfl); have g2 := neI c_4_5 (show (2 : Int32).toInt = 2 from rfl); have g3 := neI c_4_6 (show (3 : Int32).toInt = 3 from rfl); have g4 := neI c_4_10 (show (4 : Int32).toInt = 4 from rfl); have g5 := neI c_4_12 (show (5 : Int32).toInt = 5 from rfl); have g6 := neI c_4_13 (show (6 : Int32).toInt = 6 from rfl); have g7 := neI c_4_16 (show (7 : Int32).toInt = 7 from rfl); omega) (by decide) ?_
  refine J_iconst C (v := (-1 : Int32)) dX4_stageAfter_171 (by decide) ?_
  exact J_iret C R dX4_stageAfter_172 (Nat.le_of_ble_eq_true rfl) (Nat.le_of_ble_eq_true rfl) (by simp [saF, c_4_1, c_4_3, c_4_5, c_4_6, c_4_10, c_4_12, c_4_13, c_4_16]) rfl
theorem k_X4_noteSource_21 : Cond.fieldLink RX4 21 "BoothOtters$StepReader" "operator" "C" ∈ wsX4_noteSource := List.mem_of_getElem? (i := 2) rfl
theorem i_X4_noteSource_X4 : ∀ w ∈ wsX40, w ∈ wsX4_noteSource := fun _ h => List.mem_cons_of_mem _ (List.mem_append_right _ h)
theorem k_X4_noteSource_18 : Cond.fieldLink RX4 18 "BoothOtters$StepReader" "first" "I" ∈ wsX4_noteSource := List.mem_of_getElem? (i := 1) rfl
set_option maxHeartbeats 4000000 in
set_option maxRecDepth 100000 in
theorem c_X4_noteSource (U : jU) (a : Nat) (sg tg fi op se ng nu : Int32) (p0 : Int32) (hch : isCh p0) : Fn U yX4_noteSource wsX4_noteSource { frames := 1, cells := 0, slots := 0, locals := 20 } [.ref a, .int p0] [(a, .inr (4, [.int sg, .int tg, .int fi, .int op, .int se, .int ng, .int nu]))] none [(a, .inr (4, [.int sg, .int tg, .int (if isLet p0 then p0 - 65 else fi), .int (if isLet p0 then op else p0), .int se, .int ng, .int nu]))] 0 0 := by
  refine Fn_of (cc := cX4_noteSource) (maxL := 2) (ret := none) [some (.ref a), some (.int p0)] (by decide +kernel) rfl (jcat rfl) (Nat.le_of_ble_eq_true rfl) rfl (fun k C R hin hnL => ?_)
  have hN : ∀ i, i < 2 → i < k.2.2.2.2.2.2.2.2.2.2.2.1 := fun i h => by rw [hnL]; exact h
  refine J_iload_n C dX4_noteSource_0 rfl rfl ?_
  refine J_callS C (c_X4_isLetter U p0 ) gX4_noteSource_X4_isLetter (n := 1) rfl rfl rfl (by decide +kernel) ⟨Nat.le_of_ble_eq_true rfl, Nat.le_of_ble_eq_true rfl⟩ rfl (rest := []) rfl (Nat.le_of_ble_eq_true rfl) [(a, .inr (4, [.int sg, .int tg, .int fi, .int op, .int se, .int ng, .int nu]))] [] [0] [0] (wr := [(a, .inr (4, [.int sg, .int tg, .int fi, .int op, .int se, .int ng, .int nu]))]) rfl rfl rfl rfl (by decide) rfl rfl  dX4_noteSource_1 ⟨Nat.le_of_ble_eq_true rfl, Nat.le_of_ble_eq_true rfl⟩ [.int (b2i (isLet p0))] rfl ?_
  refine J_if_eq_b C 18 dX4_noteSource_4 (by decide) (fun c_4_1 => ?_) (fun c_4_1 => ?_)
  · refine J_aload_n C dX4_noteSource_18 rfl rfl ?_
    refine J_iload_n C dX4_noteSource_19 rfl rfl ?_
    refine J_put C tyX4 0 3 [(a, .inr (4, [.int sg, .int tg, .int fi, .int p0, .int se, .int ng, .int nu]))] rfl rfl i_X4_noteSource_X4 tyX4_ok nmX4 (by decide) k_X4_noteSource_21 rfl rfl hch.1 hch.2.1 (Nat.le_of_ble_eq_true rfl) rfl dX4_noteSource_20 ?_
    exact J_vret C R dX4_noteSource_23 (Nat.le_of_ble_eq_true rfl) (Nat.le_of_ble_eq_true rfl) rfl (by simp [c_4_1])
  · refine J_aload_n C dX4_noteSource_7 rfl rfl ?_
    refine J_iload_n C dX4_noteSource_8 rfl rfl ?_
    refine J_bipush C (v := (65 : Int32)) dX4_noteSource_9 (by decide) ?_
    refine J_isub C (v := p0 - (65 : Int32)) dX4_noteSource_11 rfl ?_
    refine J_put C tyX4 0 2 [(a, .inr (4, [.int sg, .int tg, .int (p0 - (65 : Int32)), .int op, .int se, .int ng, .int nu]))] rfl rfl i_X4_noteSource_X4 tyX4_ok nmX4 (by decide) k_X4_noteSource_18 rfl rfl rfl rfl (Nat.le_of_ble_eq_true rfl) rfl dX4_noteSource_12 ?_
    refine J_goto C 23 dX4_noteSource_15 (by decide) ?_
    exact J_vret C R dX4_noteSource_23 (Nat.le_of_ble_eq_true rfl) (Nat.le_of_ble_eq_true rfl) rfl (by simp [c_4_1])
theorem k_X4_noteNumber_32 : Cond.fieldLink RX4 32 "BoothOtters$StepReader" "number" "I" ∈ wsX4_noteNumber := List.mem_of_getElem? (i := 2) rfl
theorem i_X4_noteNumber_X4 : ∀ w ∈ wsX40, w ∈ wsX4_noteNumber := fun _ h => List.mem_cons_of_mem _ (List.mem_append_right _ h)
theorem k_X4_noteNumber_28 : Cond.fieldLink RX4 28 "BoothOtters$StepReader" "negative" "Z" ∈ wsX4_noteNumber := List.mem_of_getElem? (i := 1) rfl
set_option maxHeartbeats 4000000 in
set_option maxRecDepth 100000 in
theorem c_X4_noteNumber (U : jU) (a : Nat) (sg tg fi op se ng nu : Int32) (p0 : Int32)  : Fn U yX4_noteNumber wsX4_noteNumber { frames := 1, cells := 0, slots := 0, locals := 21 } [.ref a, .int p0] [(a, .inr (4, [.int sg, .int tg, .int fi, .int op, .int se, .int ng, .int nu]))] none [(a, .inr (4, [.int sg, .int tg, .int fi, .int op, .int se, .int (if p0 = 45 then 1 else ng), .int (if p0 = 45 then nu else wdF nu p0)]))] 0 0 := by
  refine Fn_of (cc := cX4_noteNumber) (maxL := 2) (ret := none) [some (.ref a), some (.int p0)] (by decide +kernel) rfl (jcat rfl) (Nat.le_of_ble_eq_true rfl) rfl (fun k C R hin hnL => ?_)
  have hN : ∀ i, i < 2 → i < k.2.2.2.2.2.2.2.2.2.2.2.1 := fun i h => by rw [hnL]; exact h
  refine J_iload_n C dX4_noteNumber_0 rfl rfl ?_
  refine J_bipush C (v := (45 : Int32)) dX4_noteNumber_1 (by decide) ?_
  refine J_icmp_ne C 14 dX4_noteNumber_3 (by decide) (fun c_3_1 => ?_) (fun c_3_1 => ?_)
  · refine J_aload_n C dX4_noteNumber_14 rfl rfl ?_
    refine J_aload_n C dX4_noteNumber_15 rfl rfl ?_
    refine J_iload_n C dX4_noteNumber_16 rfl rfl ?_
    refine J_callV C (c_X4_withDigit U a sg tg fi op se ng nu p0 ) gX4_noteNumber_X4_withDigit (n := 1) rfl rfl rfl (by decide +kernel) ⟨Nat.le_of_ble_eq_true rfl, Nat.le_of_ble_eq_true rfl⟩ 0 rfl rfl rfl (rest := [.ref a]) rfl (Nat.le_of_ble_eq_true rfl) [(a, .inr (4, [.int sg, .int tg, .int fi, .int op, .int se, .int ng, .int nu]))] [0] [] [0] (wr := []) rfl rfl rfl rfl (by decide) rfl rfl  dX4_noteNumber_17 ⟨Nat.le_of_ble_eq_true rfl, Nat.le_of_ble_eq_true rfl⟩ [.int (wdF nu p0), .ref a] rfl ?_
    refine J_put C tyX4 0 6 [(a, .inr (4, [.int sg, .int tg, .int fi, .int op, .int se, .int ng, .int (wdF nu p0)]))] rfl rfl i_X4_noteNumber_X4 tyX4_ok nmX4 (by decide) k_X4_noteNumber_32 rfl rfl rfl rfl (Nat.le_of_ble_eq_true rfl) rfl dX4_noteNumber_20 ?_
    exact J_vret C R dX4_noteNumber_23 (Nat.le_of_ble_eq_true rfl) (Nat.le_of_ble_eq_true rfl) rfl (by simp [c_3_1])
  · refine J_aload_n C dX4_noteNumber_6 rfl rfl ?_
    refine J_iconst C (v := (1 : Int32)) dX4_noteNumber_7 (by decide) ?_
    refine J_put C tyX4 0 5 [(a, .inr (4, [.int sg, .int tg, .int fi, .int op, .int se, .int (1 : Int32), .int nu]))] rfl rfl i_X4_noteNumber_X4 tyX4_ok nmX4 (by decide) k_X4_noteNumber_28 rfl rfl rfl rfl (Nat.le_of_ble_eq_true rfl) rfl dX4_noteNumber_8 ?_
    refine J_goto C 23 dX4_noteNumber_11 (by decide) ?_
    exact J_vret C R dX4_noteNumber_23 (Nat.le_of_ble_eq_true rfl) (Nat.le_of_ble_eq_true rfl) rfl (by simp [c_3_1])
theorem k_X4_note_11 : Cond.fieldLink RX4 11 "BoothOtters$StepReader" "stage" "I" ∈ wsX4_note := List.mem_of_getElem? (i := 1) rfl
theorem i_X4_note_X4 : ∀ w ∈ wsX40, w ∈ wsX4_note := fun _ h => List.mem_cons_of_mem _ (List.mem_append_right _ h)
theorem k_X4_note_15 : Cond.fieldLink RX4 15 "BoothOtters$StepReader" "target" "I" ∈ wsX4_note := List.mem_of_getElem? (i := 2) rfl
theorem k_X4_note_21 : Cond.fieldLink RX4 21 "BoothOtters$StepReader" "operator" "C" ∈ wsX4_note := List.mem_of_getElem? (i := 3) rfl
theorem k_X4_note_25 : Cond.fieldLink RX4 25 "BoothOtters$StepReader" "second" "I" ∈ wsX4_note := List.mem_of_getElem? (i := 4) rfl
set_option maxHeartbeats 4000000 in
set_option maxRecDepth 100000 in
theorem c_X4_note (U : jU) (a : Nat) (sg tg fi op se ng nu : Int32) (p0 : Int32) (hch : isCh p0) : Fn U yX4_note wsX4_note { frames := 2, cells := 0, slots := 0, locals := 42 } [.ref a, .int p0] [(a, .inr (4, [.int sg, .int tg, .int fi, .int op, .int se, .int ng, .int nu]))] none [(a, .inr (4, [.int sg, .int (ntT sg tg p0), .int (ntF sg fi p0), .int (ntO sg op p0), .int (ntS sg se p0), .int (ntN sg ng p0), .int (ntU sg nu p0)]))] 0 0 := by
  refine Fn_of (cc := cX4_note) (maxL := 2) (ret := none) [some (.ref a), some (.int p0)] (by decide +kernel) rfl (jcat rfl) (Nat.le_of_ble_eq_true rfl) rfl (fun k C R hin hnL => ?_)
  have hN : ∀ i, i < 2 → i < k.2.2.2.2.2.2.2.2.2.2.2.1 := fun i h => by rw [hnL]; exact h
  refine J_aload_n C dX4_note_0 rfl rfl ?_
  refine J_get C 0 0 rfl rfl i_X4_note_X4 (by decide) k_X4_note_11 rfl rfl dX4_note_1 ?_
  by_cases c_4_1 : sg = 0
  · refine J_tableIn C (0 : Int32) (48) 52 dX4_note_4 c_4_1 (by decide) (by decide) (by decide) (by decide) ?_
    refine J_aload_n C dX4_note_52 rfl rfl ?_
    refine J_iload_n C dX4_note_53 rfl rfl ?_
    refine J_bipush C (v := (65 : Int32)) dX4_note_54 (by decide) ?_
    refine J_isub C (v := p0 - (65 : Int32)) dX4_note_56 rfl ?_
    refine J_put C tyX4 0 1 [(a, .inr (4, [.int sg, .int (p0 - (65 : Int32)), .int fi, .int op, .int se, .int ng, .int nu]))] rfl rfl i_X4_note_X4 tyX4_ok nmX4 (by decide) k_X4_note_15 rfl rfl rfl rfl (Nat.le_of_ble_eq_true rfl) rfl dX4_note_57 ?_
    refine J_goto C 98 dX4_note_60 (by decide) ?_
    exact J_vret C R dX4_note_98 (Nat.le_of_ble_eq_true rfl) (Nat.le_of_ble_eq_true rfl) rfl (by by_cases h9 : isLet p0 <;> simp [h9, ntT, ntF, ntO, ntS, ntN, ntU, isNm, c_4_1])
  by_cases c_4_2 : sg = 1
  · refine J_tableIn C (1 : Int32) (94) 98 dX4_note_4 c_4_2 (by decide) (by decide) (by decide) (by decide) ?_
    exact J_vret C R dX4_note_98 (Nat.le_of_ble_eq_true rfl) (Nat.le_of_ble_eq_true rfl) rfl (by by_cases h9 : isLet p0 <;> simp [h9, ntT, ntF, ntO, ntS, ntN, ntU, isNm, c_4_1, c_4_2])
  by_cases c_4_3 : sg = 2
  · refine J_tableIn C (2 : Int32) (59) 63 dX4_note_4 c_4_3 (by decide) (by decide) (by decide) (by decide) ?_
    refine J_aload_n C dX4_note_63 rfl rfl ?_
    refine J_iload_n C dX4_note_64 rfl rfl ?_
    refine J_callV C (c_X4_noteSource U a sg tg fi op se ng nu p0 hch) gX4_note_X4_noteSource (n := 1) rfl rfl rfl (by decide +kernel) ⟨Nat.le_of_ble_eq_true rfl, Nat.le_of_ble_eq_true rfl⟩ 0 rfl rfl rfl (rest := []) rfl (Nat.le_of_ble_eq_true rfl) [(a, .inr (4, [.int sg, .int tg, .int (if isLet p0 then p0 - 65 else fi), .int (if isLet p0 then op else p0), .int se, .int ng, .int nu]))] [0] [] [0] (wr := []) rfl rfl rfl rfl (by decide) rfl rfl  dX4_note_65 ⟨Nat.le_of_ble_eq_true rfl, Nat.le_of_ble_eq_true rfl⟩ [] rfl ?_
    refine J_goto C 98 dX4_note_68 (by decide) ?_
    exact J_vret C R dX4_note_98 (Nat.le_of_ble_eq_true rfl) (Nat.le_of_ble_eq_true rfl) rfl (by by_cases h9 : isLet p0 <;> simp [h9, ntT, ntF, ntO, ntS, ntN, ntU, isNm, c_4_1, c_4_2, c_4_3])
  by_cases c_4_4 : sg = 3
  · refine J_tableIn C (3 : Int32) (67) 71 dX4_note_4 c_4_4 (by decide) (by decide) (by decide) (by decide) ?_
    refine J_aload_n C dX4_note_71 rfl rfl ?_
    refine J_iload_n C dX4_note_72 rfl rfl ?_
    refine J_put C tyX4 0 3 [(a, .inr (4, [.int sg, .int tg, .int fi, .int p0, .int se, .int ng, .int nu]))] rfl rfl i_X4_note_X4 tyX4_ok nmX4 (by decide) k_X4_note_21 rfl rfl hch.1 hch.2.1 (Nat.le_of_ble_eq_true rfl) rfl dX4_note_73 ?_
    refine J_goto C 98 dX4_note_76 (by decide) ?_
    exact J_vret C R dX4_note_98 (Nat.le_of_ble_eq_true rfl) (Nat.le_of_ble_eq_true rfl) rfl (by by_cases h9 : isLet p0 <;> simp [h9, ntT, ntF, ntO, ntS, ntN, ntU, isNm, c_4_1, c_4_2, c_4_3, c_4_4])
  by_cases c_4_5 : sg = 4
  · refine J_tableIn C (4 : Int32) (75) 79 dX4_note_4 c_4_5 (by decide) (by decide) (by decide) (by decide) ?_
    refine J_aload_n C dX4_note_79 rfl rfl ?_
    refine J_iload_n C dX4_note_80 rfl rfl ?_
    refine J_bipush C (v := (65 : Int32)) dX4_note_81 (by decide) ?_
    refine J_isub C (v := p0 - (65 : Int32)) dX4_note_83 rfl ?_
    refine J_put C tyX4 0 4 [(a, .inr (4, [.int sg, .int tg, .int fi, .int op, .int (p0 - (65 : Int32)), .int ng, .int nu]))] rfl rfl i_X4_note_X4 tyX4_ok nmX4 (by decide) k_X4_note_25 rfl rfl rfl rfl (Nat.le_of_ble_eq_true rfl) rfl dX4_note_84 ?_
    refine J_goto C 98 dX4_note_87 (by decide) ?_
    exact J_vret C R dX4_note_98 (Nat.le_of_ble_eq_true rfl) (Nat.le_of_ble_eq_true rfl) rfl (by by_cases h9 : isLet p0 <;> simp [h9, ntT, ntF, ntO, ntS, ntN, ntU, isNm, c_4_1, c_4_2, c_4_3, c_4_4, c_4_5])
  by_cases c_4_6 : sg = 5
  · refine J_tableIn C (5 : Int32) (86) 90 dX4_note_4 c_4_6 (by decide) (by decide) (by decide) (by decide) ?_
    refine J_aload_n C dX4_note_90 rfl rfl ?_
    refine J_iload_n C dX4_note_91 rfl rfl ?_
    refine J_callV C (c_X4_noteNumber U a sg tg fi op se ng nu p0 ) gX4_note_X4_noteNumber (n := 1) rfl rfl rfl (by decide +kernel) ⟨Nat.le_of_ble_eq_true rfl, Nat.le_of_ble_eq_true rfl⟩ 0 rfl rfl rfl (rest := []) rfl (Nat.le_of_ble_eq_true rfl) [(a, .inr (4, [.int sg, .int tg, .int fi, .int op, .int se, .int (if p0 = 45 then 1 else ng), .int (if p0 = 45 then nu else wdF nu p0)]))] [0] [] [0] (wr := []) rfl rfl rfl rfl (by decide) rfl rfl  dX4_note_92 ⟨Nat.le_of_ble_eq_true rfl, Nat.le_of_ble_eq_true rfl⟩ [] rfl ?_
    refine J_goto C 98 dX4_note_95 (by decide) ?_
    exact J_vret C R dX4_note_98 (Nat.le_of_ble_eq_true rfl) (Nat.le_of_ble_eq_true rfl) rfl (by by_cases h9 : isLet p0 <;> simp [h9, ntT, ntF, ntO, ntS, ntN, ntU, isNm, c_4_1, c_4_2, c_4_3, c_4_4, c_4_5, c_4_6])
  by_cases c_4_7 : sg = 6
  · refine J_tableIn C (6 : Int32) (86) 90 dX4_note_4 c_4_7 (by decide) (by decide) (by decide) (by decide) ?_
    refine J_aload_n C dX4_note_90 rfl rfl ?_
    refine J_iload_n C dX4_note_91 rfl rfl ?_
    refine J_callV C (c_X4_noteNumber U a sg tg fi op se ng nu p0 ) gX4_note_X4_noteNumber (n := 1) rfl rfl rfl (by decide +kernel) ⟨Nat.le_of_ble_eq_true rfl, Nat.le_of_ble_eq_true rfl⟩ 0 rfl rfl rfl (rest := []) rfl (Nat.le_of_ble_eq_true rfl) [(a, .inr (4, [.int sg, .int tg, .int fi, .int op, .int se, .int (if p0 = 45 then 1 else ng), .int (if p0 = 45 then nu else wdF nu p0)]))] [0] [] [0] (wr := []) rfl rfl rfl rfl (by decide) rfl rfl  dX4_note_92 ⟨Nat.le_of_ble_eq_true rfl, Nat.le_of_ble_eq_true rfl⟩ [] rfl ?_
    refine J_goto C 98 dX4_note_95 (by decide) ?_
    exact J_vret C R dX4_note_98 (Nat.le_of_ble_eq_true rfl) (Nat.le_of_ble_eq_true rfl) rfl (by by_cases h9 : isLet p0 <;> simp [h9, ntT, ntF, ntO, ntS, ntN, ntU, isNm, c_4_1, c_4_2, c_4_3, c_4_4, c_4_5, c_4_6, c_4_7])
  by_cases c_4_8 : sg = 7
  · refine J_tableIn C (7 : Int32) (86) 90 dX4_note_4 c_4_8 (by decide) (by decide) (by decide) (by decide) ?_
    refine J_aload_n C dX4_note_90 rfl rfl ?_
    refine J_iload_n C dX4_note_91 rfl rfl ?_
    refine J_callV C (c_X4_noteNumber U a sg tg fi op se ng nu p0 ) gX4_note_X4_noteNumber (n := 1) rfl rfl rfl (by decide +kernel) ⟨Nat.le_of_ble_eq_true rfl, Nat.le_of_ble_eq_true rfl⟩ 0 rfl rfl rfl (rest := []) rfl (Nat.le_of_ble_eq_true rfl) [(a, .inr (4, [.int sg, .int tg, .int fi, .int op, .int se, .int (if p0 = 45 then 1 else ng), .int (if p0 = 45 then nu else wdF nu p0)]))] [0] [] [0] (wr := []) rfl rfl rfl rfl (by decide) rfl rfl  dX4_note_92 ⟨Nat.le_of_ble_eq_true rfl, Nat.le_of_ble_eq_true rfl⟩ [] rfl ?_
    refine J_goto C 98 dX4_note_95 (by decide) ?_
    exact J_vret C R dX4_note_98 (Nat.le_of_ble_eq_true rfl) (Nat.le_of_ble_eq_true rfl) rfl (by by_cases h9 : isLet p0 <;> simp [h9, ntT, ntF, ntO, ntS, ntN, ntU, isNm, c_4_1, c_4_2, c_4_3, c_4_4, c_4_5, c_4_6, c_4_7, c_4_8])
  refine J_tableOut C 98 dX4_note_4 (by have g0 := neI c_4_1 (show (0 : Int32).toInt = 0 from rfl); have g1 := neI c_4_2 (show (1 : Int32).toInt = 1 from rfl); have g2 := neI c_4_3 (show (2 : Int32).toInt = 2 from rfl); have g3 := neI c_4_4 (show (3 : Int32).toInt = 3 from rfl); have g4 := neI c_4_5 (show (4 : Int32).toInt = 4 from rfl); have g5 := neI c_4_6 (show (5 : Int32).toInt = 5 from rfl); have g6 := neI c_4_7 (show (6 : Int32).toInt = 6 from rfl); have g7 := neI c_4_8 (show (7 : Int32).toInt = 7 from rfl); omega) (by decide) ?_
  exact J_vret C R dX4_note_98 (Nat.le_of_ble_eq_true rfl) (Nat.le_of_ble_eq_true rfl) rfl (by by_cases h9 : isLet p0 <;> simp [h9, ntT, ntF, ntO, ntS, ntN, ntU, isNm, c_4_1, c_4_2, c_4_3, c_4_4, c_4_5, c_4_6, c_4_7, c_4_8])
theorem k_X4_take_11 : Cond.fieldLink RX4 11 "BoothOtters$StepReader" "stage" "I" ∈ wsX4_take := List.mem_of_getElem? (i := 1) rfl
theorem i_X4_take_X4 : ∀ w ∈ wsX40, w ∈ wsX4_take := fun _ h => List.mem_cons_of_mem _ (List.mem_append_right _ h)
set_option maxHeartbeats 4000000 in
set_option maxRecDepth 100000 in
theorem c_X4_take (U : jU) (a : Nat) (sg tg fi op se ng nu : Int32) (p0 : Int32) (hch : isCh p0) : Fn U yX4_take wsX4_take { frames := 3, cells := 0, slots := 0, locals := 63 } [.ref a, .int p0] [(a, .inr (4, [.int sg, .int tg, .int fi, .int op, .int se, .int ng, .int nu]))] (some (.int (b2i (¬ saF sg ng nu p0 = -1)))) [(a, .inr (4, [.int (if saF sg ng nu p0 = -1 then sg else saF sg ng nu p0), .int (if saF sg ng nu p0 = -1 then tg else ntT sg tg p0), .int (if saF sg ng nu p0 = -1 then fi else ntF sg fi p0), .int (if saF sg ng nu p0 = -1 then op else ntO sg op p0), .int (if saF sg ng nu p0 = -1 then se else ntS sg se p0), .int (if saF sg ng nu p0 = -1 then ng else ntN sg ng p0), .int (if saF sg ng nu p0 = -1 then nu else ntU sg nu p0)]))] 0 0 := by
  refine Fn_of (cc := cX4_take) (maxL := 3) (ret := (some .boolean)) [some (.ref a), some (.int p0), none] (by decide +kernel) rfl (jcat rfl) (Nat.le_of_ble_eq_true rfl) rfl (fun k C R hin hnL => ?_)
  have hN : ∀ i, i < 3 → i < k.2.2.2.2.2.2.2.2.2.2.2.1 := fun i h => by rw [hnL]; exact h
  refine J_aload_n C dX4_take_0 rfl rfl ?_
  refine J_iload_n C dX4_take_1 rfl rfl ?_
  refine J_callV C (c_X4_stageAfter U a sg tg fi op se ng nu p0 ) gX4_take_X4_stageAfter (n := 1) rfl rfl rfl (by decide +kernel) ⟨Nat.le_of_ble_eq_true rfl, Nat.le_of_ble_eq_true rfl⟩ 0 rfl rfl rfl (rest := []) rfl (Nat.le_of_ble_eq_true rfl) [(a, .inr (4, [.int sg, .int tg, .int fi, .int op, .int se, .int ng, .int nu]))] [0] [] [0] (wr := []) rfl rfl rfl rfl (by decide) rfl rfl  dX4_take_2 ⟨Nat.le_of_ble_eq_true rfl, Nat.le_of_ble_eq_true rfl⟩ [.int (saF sg ng nu p0)] rfl ?_
  refine J_istore_n C [some (.ref a), some (.int p0), some (.int (saF sg ng nu p0))] dX4_take_5 rfl (hN 2 (by decide)) rfl rfl ?_
  refine J_iload_n C dX4_take_6 rfl rfl ?_
  refine J_iconst C (v := (-1 : Int32)) dX4_take_7 (by decide) ?_
  refine J_icmp_ne C 13 dX4_take_8 (by decide) (fun c_8_1 => ?_) (fun c_8_1 => ?_)
  · refine J_aload_n C dX4_take_13 rfl rfl ?_
    refine J_iload_n C dX4_take_14 rfl rfl ?_
    refine J_callV C (c_X4_note U a sg tg fi op se ng nu p0 hch) gX4_take_X4_note (n := 1) rfl rfl rfl (by decide +kernel) ⟨Nat.le_of_ble_eq_true rfl, Nat.le_of_ble_eq_true rfl⟩ 0 rfl rfl rfl (rest := []) rfl (Nat.le_of_ble_eq_true rfl) [(a, .inr (4, [.int sg, .int (ntT sg tg p0), .int (ntF sg fi p0), .int (ntO sg op p0), .int (ntS sg se p0), .int (ntN sg ng p0), .int (ntU sg nu p0)]))] [0] [] [0] (wr := []) rfl rfl rfl rfl (by decide) rfl rfl  dX4_take_15 ⟨Nat.le_of_ble_eq_true rfl, Nat.le_of_ble_eq_true rfl⟩ [] rfl ?_
    refine J_aload_n C dX4_take_18 rfl rfl ?_
    refine J_iload_n C dX4_take_19 rfl rfl ?_
    refine J_put C tyX4 0 0 [(a, .inr (4, [.int (saF sg ng nu p0), .int (ntT sg tg p0), .int (ntF sg fi p0), .int (ntO sg op p0), .int (ntS sg se p0), .int (ntN sg ng p0), .int (ntU sg nu p0)]))] rfl rfl i_X4_take_X4 tyX4_ok nmX4 (by decide) k_X4_take_11 rfl rfl rfl rfl (Nat.le_of_ble_eq_true rfl) rfl dX4_take_20 ?_
    refine J_iconst C (v := (1 : Int32)) dX4_take_23 (by decide) ?_
    exact J_zret C R rfl dX4_take_24 (Nat.le_of_ble_eq_true rfl) (Nat.le_of_ble_eq_true rfl) (by simp [b2i, c_8_1]) (by simp [c_8_1])
  · refine J_iconst C (v := (0 : Int32)) dX4_take_11 (by decide) ?_
    exact J_zret C R rfl dX4_take_12 (Nat.le_of_ble_eq_true rfl) (Nat.le_of_ble_eq_true rfl) (by simp [b2i, c_8_1]) (by simp [c_8_1])
