set_option maxHeartbeats 4000000 in
set_option maxRecDepth 100000 in
theorem c_X0_record (U : jU) (n : Nat) (h r s0 v0 m0 s1 v1 m1 s2 v2 m2 s3 v3 m3 a v m : Nat) (hv hg : Nat → Nat → Int32) (f : Nat → Int32) (cn w o t sl bp mw mc hi lo ex : Int32) (hn4 : n < 4) : Fn U yX0_record wsX0_record { frames := 2, cells := 0, slots := 0, locals := 43 } [.ref h, .ref a] [(h, .inr (0, [.ref r, .int (nI n), .int cn])), (r, .inl (U.2.2.1 3, 4, .inr (.inr (.inr (.inr (jr4 s0 s1 s2 s3)))))), (s0, .inr (3, [.ref v0, .ref m0, .int (hg 0 0), .int (hg 0 1), .int (hg 0 2)])), (v0, .inl (U.2.2.1 0, 6, .inl (hv 0))), (m0, .inr (1, [.int (hg 0 3), .int (hg 0 4), .int (hg 0 5), .int (hg 0 6), .int (hg 0 7), .int (hg 0 8), .int (hg 0 9)])), (s1, .inr (3, [.ref v1, .ref m1, .int (hg 1 0), .int (hg 1 1), .int (hg 1 2)])), (v1, .inl (U.2.2.1 0, 6, .inl (hv 1))), (m1, .inr (1, [.int (hg 1 3), .int (hg 1 4), .int (hg 1 5), .int (hg 1 6), .int (hg 1 7), .int (hg 1 8), .int (hg 1 9)])), (s2, .inr (3, [.ref v2, .ref m2, .int (hg 2 0), .int (hg 2 1), .int (hg 2 2)])), (v2, .inl (U.2.2.1 0, 6, .inl (hv 2))), (m2, .inr (1, [.int (hg 2 3), .int (hg 2 4), .int (hg 2 5), .int (hg 2 6), .int (hg 2 7), .int (hg 2 8), .int (hg 2 9)])), (s3, .inr (3, [.ref v3, .ref m3, .int (hg 3 0), .int (hg 3 1), .int (hg 3 2)])), (v3, .inl (U.2.2.1 0, 6, .inl (hv 3))), (m3, .inr (1, [.int (hg 3 3), .int (hg 3 4), .int (hg 3 5), .int (hg 3 6), .int (hg 3 7), .int (hg 3 8), .int (hg 3 9)])), (a, .inr (3, [.ref v, .ref m, .int w, .int o, .int t])), (v, .inl (U.2.2.1 0, 6, .inl f)), (m, .inr (1, [.int sl, .int bp, .int mw, .int mc, .int hi, .int lo, .int ex]))] none [(h, .inr (0, [.ref r, .int (nI ((n + 1) % 4)), .int (mn4 cn)])), (r, .inl (U.2.2.1 3, 4, .inr (.inr (.inr (.inr (jr4 s0 s1 s2 s3)))))), (s0, .inr (3, [.ref v0, .ref m0, .int (va_up hg n (pk w o t sl bp mw mc hi lo ex) 0 0), .int (va_up hg n (pk w o t sl bp mw mc hi lo ex) 0 1), .int (va_up hg n (pk w o t sl bp mw mc hi lo ex) 0 2)])), (v0, .inl (U.2.2.1 0, 6, .inl (va_up hv n f 0))), (m0, .inr (1, [.int (va_up hg n (pk w o t sl bp mw mc hi lo ex) 0 3), .int (va_up hg n (pk w o t sl bp mw mc hi lo ex) 0 4), .int (va_up hg n (pk w o t sl bp mw mc hi lo ex) 0 5), .int (va_up hg n (pk w o t sl bp mw mc hi lo ex) 0 6), .int (va_up hg n (pk w o t sl bp mw mc hi lo ex) 0 7), .int (va_up hg n (pk w o t sl bp mw mc hi lo ex) 0 8), .int (va_up hg n (pk w o t sl bp mw mc hi lo ex) 0 9)])), (s1, .inr (3, [.ref v1, .ref m1, .int (va_up hg n (pk w o t sl bp mw mc hi lo ex) 1 0), .int (va_up hg n (pk w o t sl bp mw mc hi lo ex) 1 1), .int (va_up hg n (pk w o t sl bp mw mc hi lo ex) 1 2)])), (v1, .inl (U.2.2.1 0, 6, .inl (va_up hv n f 1))), (m1, .inr (1, [.int (va_up hg n (pk w o t sl bp mw mc hi lo ex) 1 3), .int (va_up hg n (pk w o t sl bp mw mc hi lo ex) 1 4), .int (va_up hg n (pk w o t sl bp mw mc hi lo ex) 1 5), .int (va_up hg n (pk w o t sl bp mw mc hi lo ex) 1 6), .int (va_up hg n (pk w o t sl bp mw mc hi lo ex) 1 7), .int (va_up hg n (pk w o t sl bp mw mc hi lo ex) 1 8), .int (va_up hg n (pk w o t sl bp mw mc hi lo ex) 1 9)])), (s2, .inr (3, [.ref v2, .ref m2, .int (va_up hg n (pk w o t sl bp mw mc hi lo ex) 2 0), .int (va_up hg n (pk w o t sl bp mw mc hi lo ex) 2 1), .int (va_up hg n (pk w o t sl bp mw mc hi lo ex) 2 2)])), (v2, .inl (U.2.2.1 0, 6, .inl (va_up hv n f 2))), (m2, .inr (1, [.int (va_up hg n (pk w o t sl bp mw mc hi lo ex) 2 3), .int (va_up hg n (pk w o t sl bp mw mc hi lo ex) 2 4), .int (va_up hg n (pk w o t sl bp mw mc hi lo ex) 2 5), .int (va_up hg n (pk w o t sl bp mw mc hi lo ex) 2 6), .int (va_up hg n (pk w o t sl bp mw mc hi lo ex) 2 7), .int (va_up hg n (pk w o t sl bp mw mc hi lo ex) 2 8), .int (va_up hg n (pk w o t sl bp mw mc hi lo ex) 2 9)])), (s3, .inr (3, [.ref v3, .ref m3, .int (va_up hg n (pk w o t sl bp mw mc hi lo ex) 3 0), .int (va_up hg n (pk w o t sl bp mw mc hi lo ex) 3 1), .int (va_up hg n (pk w o t sl bp mw mc hi lo ex) 3 2)])), (v3, .inl (U.2.2.1 0, 6, .inl (va_up hv n f 3))), (m3, .inr (1, [.int (va_up hg n (pk w o t sl bp mw mc hi lo ex) 3 3), .int (va_up hg n (pk w o t sl bp mw mc hi lo ex) 3 4), .int (va_up hg n (pk w o t sl bp mw mc hi lo ex) 3 5), .int (va_up hg n (pk w o t sl bp mw mc hi lo ex) 3 6), .int (va_up hg n (pk w o t sl bp mw mc hi lo ex) 3 7), .int (va_up hg n (pk w o t sl bp mw mc hi lo ex) 3 8), .int (va_up hg n (pk w o t sl bp mw mc hi lo ex) 3 9)])), (a, .inr (3, [.ref v, .ref m, .int w, .int o, .int t])), (v, .inl (U.2.2.1 0, 6, .inl f)), (m, .inr (1, [.int sl, .int bp, .int mw, .int mc, .int hi, .int lo, .int ex]))] 0 0 := by
  rcases (show n = 0 ∨ n = 1 ∨ n = 2 ∨ n = 3 by omega) with rfl | rfl | rfl | rfl
  · exact c_X0_record_0 U h r s0 v0 m0 s1 v1 m1 s2 v2 m2 s3 v3 m3 a v m hv hg f cn w o t sl bp mw mc hi lo ex
  · exact c_X0_record_1 U h r s0 v0 m0 s1 v1 m1 s2 v2 m2 s3 v3 m3 a v m hv hg f cn w o t sl bp mw mc hi lo ex
  · exact c_X0_record_2 U h r s0 v0 m0 s1 v1 m1 s2 v2 m2 s3 v3 m3 a v m hv hg f cn w o t sl bp mw mc hi lo ex
  · exact c_X0_record_3 U h r s0 v0 m0 s1 v1 m1 s2 v2 m2 s3 v3 m3 a v m hv hg f cn w o t sl bp mw mc hi lo ex
set_option maxHeartbeats 4000000 in
set_option maxRecDepth 100000 in
theorem c_X0_takeLatestInto (U : jU) (n : Nat) (h r s0 v0 m0 s1 v1 m1 s2 v2 m2 s3 v3 m3 a v m : Nat) (hv hg : Nat → Nat → Int32) (f : Nat → Int32) (cn w o t sl bp mw mc hi lo ex : Int32) (hn4 : n < 4) : Fn U yX0_takeLatestInto wsX0_takeLatestInto { frames := 2, cells := 0, slots := 0, locals := 43 } [.ref h, .ref a] [(h, .inr (0, [.ref r, .int (nI n), .int cn])), (r, .inl (U.2.2.1 3, 4, .inr (.inr (.inr (.inr (jr4 s0 s1 s2 s3)))))), (s0, .inr (3, [.ref v0, .ref m0, .int (hg 0 0), .int (hg 0 1), .int (hg 0 2)])), (v0, .inl (U.2.2.1 0, 6, .inl (hv 0))), (m0, .inr (1, [.int (hg 0 3), .int (hg 0 4), .int (hg 0 5), .int (hg 0 6), .int (hg 0 7), .int (hg 0 8), .int (hg 0 9)])), (s1, .inr (3, [.ref v1, .ref m1, .int (hg 1 0), .int (hg 1 1), .int (hg 1 2)])), (v1, .inl (U.2.2.1 0, 6, .inl (hv 1))), (m1, .inr (1, [.int (hg 1 3), .int (hg 1 4), .int (hg 1 5), .int (hg 1 6), .int (hg 1 7), .int (hg 1 8), .int (hg 1 9)])), (s2, .inr (3, [.ref v2, .ref m2, .int (hg 2 0), .int (hg 2 1), .int (hg 2 2)])), (v2, .inl (U.2.2.1 0, 6, .inl (hv 2))), (m2, .inr (1, [.int (hg 2 3), .int (hg 2 4), .int (hg 2 5), .int (hg 2 6), .int (hg 2 7), .int (hg 2 8), .int (hg 2 9)])), (s3, .inr (3, [.ref v3, .ref m3, .int (hg 3 0), .int (hg 3 1), .int (hg 3 2)])), (v3, .inl (U.2.2.1 0, 6, .inl (hv 3))), (m3, .inr (1, [.int (hg 3 3), .int (hg 3 4), .int (hg 3 5), .int (hg 3 6), .int (hg 3 7), .int (hg 3 8), .int (hg 3 9)])), (a, .inr (3, [.ref v, .ref m, .int w, .int o, .int t])), (v, .inl (U.2.2.1 0, 6, .inl f)), (m, .inr (1, [.int sl, .int bp, .int mw, .int mc, .int hi, .int lo, .int ex]))] none [(h, .inr (0, [.ref r, .int (nI ((n + 3) % 4)), .int (cn - (1 : Int32))])), (r, .inl (U.2.2.1 3, 4, .inr (.inr (.inr (.inr (jr4 s0 s1 s2 s3)))))), (s0, .inr (3, [.ref v0, .ref m0, .int (hg 0 0), .int (hg 0 1), .int (hg 0 2)])), (v0, .inl (U.2.2.1 0, 6, .inl (hv 0))), (m0, .inr (1, [.int (hg 0 3), .int (hg 0 4), .int (hg 0 5), .int (hg 0 6), .int (hg 0 7), .int (hg 0 8), .int (hg 0 9)])), (s1, .inr (3, [.ref v1, .ref m1, .int (hg 1 0), .int (hg 1 1), .int (hg 1 2)])), (v1, .inl (U.2.2.1 0, 6, .inl (hv 1))), (m1, .inr (1, [.int (hg 1 3), .int (hg 1 4), .int (hg 1 5), .int (hg 1 6), .int (hg 1 7), .int (hg 1 8), .int (hg 1 9)])), (s2, .inr (3, [.ref v2, .ref m2, .int (hg 2 0), .int (hg 2 1), .int (hg 2 2)])), (v2, .inl (U.2.2.1 0, 6, .inl (hv 2))), (m2, .inr (1, [.int (hg 2 3), .int (hg 2 4), .int (hg 2 5), .int (hg 2 6), .int (hg 2 7), .int (hg 2 8), .int (hg 2 9)])), (s3, .inr (3, [.ref v3, .ref m3, .int (hg 3 0), .int (hg 3 1), .int (hg 3 2)])), (v3, .inl (U.2.2.1 0, 6, .inl (hv 3))), (m3, .inr (1, [.int (hg 3 3), .int (hg 3 4), .int (hg 3 5), .int (hg 3 6), .int (hg 3 7), .int (hg 3 8), .int (hg 3 9)])), (a, .inr (3, [.ref v, .ref m, .int (hg ((n + 3) % 4) 0), .int (hg ((n + 3) % 4) 1), .int (hg ((n + 3) % 4) 2)])), (v, .inl (U.2.2.1 0, 6, .inl (hv ((n + 3) % 4)))), (m, .inr (1, [.int (hg ((n + 3) % 4) 3), .int (hg ((n + 3) % 4) 4), .int (hg ((n + 3) % 4) 5), .int (hg ((n + 3) % 4) 6), .int (hg ((n + 3) % 4) 7), .int (hg ((n + 3) % 4) 8), .int (hg ((n + 3) % 4) 9)]))] 0 0 := by
  rcases (show n = 0 ∨ n = 1 ∨ n = 2 ∨ n = 3 by omega) with rfl | rfl | rfl | rfl
  · exact c_X0_takeLatestInto_0 U h r s0 v0 m0 s1 v1 m1 s2 v2 m2 s3 v3 m3 a v m hv hg f cn w o t sl bp mw mc hi lo ex
  · exact c_X0_takeLatestInto_1 U h r s0 v0 m0 s1 v1 m1 s2 v2 m2 s3 v3 m3 a v m hv hg f cn w o t sl bp mw mc hi lo ex
  · exact c_X0_takeLatestInto_2 U h r s0 v0 m0 s1 v1 m1 s2 v2 m2 s3 v3 m3 a v m hv hg f cn w o t sl bp mw mc hi lo ex
  · exact c_X0_takeLatestInto_3 U h r s0 v0 m0 s1 v1 m1 s2 v2 m2 s3 v3 m3 a v m hv hg f cn w o t sl bp mw mc hi lo ex
set_option maxHeartbeats 4000000 in
set_option maxRecDepth 100000 in
theorem c_J6_bitCount_0f7a4 (U : jU) (p0 : Int32)  : Fn U yJ6_bitCount_0f7a4 wsJ6_bitCount_0f7a4 { frames := 0, cells := 0, slots := 0, locals := 0 } [.int p0] [] (some (.int (bcF p0))) [] 0 0 := by
  refine Fn_of (cc := cJ6_bitCount_0f7a4) (maxL := 1) (ret := (some .int)) [some (.int p0)] (by decide +kernel) rfl (jcat rfl) (Nat.le_of_ble_eq_true rfl) rfl (fun k C R hin hnL => ?_)
  have hN : ∀ i, i < 1 → i < k.2.2.2.2.2.2.2.2.2.2.2.1 := fun i h => by rw [hnL]; exact h
  refine J_iload_n C dJ6_bitCount_0f7a4_0 rfl rfl ?_
  refine J_iload_n C dJ6_bitCount_0f7a4_1 rfl rfl ?_
  refine J_iconst C (v := (1 : Int32)) dJ6_bitCount_0f7a4_2 (by decide) ?_
  refine J_iushr C (v := ush p0 1) dJ6_bitCount_0f7a4_3 rfl ?_
  refine J_ldcw C (v := (1431655765 : Int32)) dJ6_bitCount_0f7a4_4 (List.mem_of_getElem? (i := 1) rfl) ?_
  refine J_iand C (v := (ush p0 1) &&& (1431655765 : Int32)) dJ6_bitCount_0f7a4_7 rfl ?_
  refine J_isub C (v := bc1 p0) dJ6_bitCount_0f7a4_8 rfl ?_
  refine J_istore_n C [some (.int (bc1 p0))] dJ6_bitCount_0f7a4_9 rfl (hN 0 (by decide)) rfl ?_
  refine J_iload_n C dJ6_bitCount_0f7a4_10 rfl rfl ?_
  refine J_ldcw C (v := (858993459 : Int32)) dJ6_bitCount_0f7a4_11 (List.mem_of_getElem? (i := 2) rfl) ?_
  refine J_iand C (v := (bc1 p0) &&& (858993459 : Int32)) dJ6_bitCount_0f7a4_14 rfl ?_
  refine J_iload_n C dJ6_bitCount_0f7a4_15 rfl rfl ?_
  refine J_iconst C (v := (2 : Int32)) dJ6_bitCount_0f7a4_16 (by decide) ?_
  refine J_iushr C (v := ush (bc1 p0) 2) dJ6_bitCount_0f7a4_17 rfl ?_
  refine J_ldcw C (v := (858993459 : Int32)) dJ6_bitCount_0f7a4_18 (List.mem_of_getElem? (i := 2) rfl) ?_
  refine J_iand C (v := (ush (bc1 p0) 2) &&& (858993459 : Int32)) dJ6_bitCount_0f7a4_21 rfl ?_
  refine J_iadd C (v := bc2 p0) dJ6_bitCount_0f7a4_22 rfl ?_
  refine J_istore_n C [some (.int (bc2 p0))] dJ6_bitCount_0f7a4_23 rfl (hN 0 (by decide)) rfl ?_
  refine J_iload_n C dJ6_bitCount_0f7a4_24 rfl rfl ?_
  refine J_iload_n C dJ6_bitCount_0f7a4_25 rfl rfl ?_
  refine J_iconst C (v := (4 : Int32)) dJ6_bitCount_0f7a4_26 (by decide) ?_
  refine J_iushr C (v := ush (bc2 p0) 4) dJ6_bitCount_0f7a4_27 rfl ?_
  refine J_iadd C (v := (bc2 p0) + (ush (bc2 p0) 4)) dJ6_bitCount_0f7a4_28 rfl ?_
  refine J_ldcw C (v := (252645135 : Int32)) dJ6_bitCount_0f7a4_29 (List.mem_of_getElem? (i := 3) rfl) ?_
  refine J_iand C (v := bc3 p0) dJ6_bitCount_0f7a4_32 rfl ?_
  refine J_istore_n C [some (.int (bc3 p0))] dJ6_bitCount_0f7a4_33 rfl (hN 0 (by decide)) rfl ?_
  refine J_iload_n C dJ6_bitCount_0f7a4_34 rfl rfl ?_
  refine J_iload_n C dJ6_bitCount_0f7a4_35 rfl rfl ?_
  refine J_bipush C (v := (8 : Int32)) dJ6_bitCount_0f7a4_36 (by decide) ?_
  refine J_iushr C (v := ush (bc3 p0) 8) dJ6_bitCount_0f7a4_38 rfl ?_
  refine J_iadd C (v := bc4 p0) dJ6_bitCount_0f7a4_39 rfl ?_
  refine J_istore_n C [some (.int (bc4 p0))] dJ6_bitCount_0f7a4_40 rfl (hN 0 (by decide)) rfl ?_
  refine J_iload_n C dJ6_bitCount_0f7a4_41 rfl rfl ?_
  refine J_iload_n C dJ6_bitCount_0f7a4_42 rfl rfl ?_
  refine J_bipush C (v := (16 : Int32)) dJ6_bitCount_0f7a4_43 (by decide) ?_
  refine J_iushr C (v := ush (bc4 p0) 16) dJ6_bitCount_0f7a4_45 rfl ?_
  refine J_iadd C (v := bc5 p0) dJ6_bitCount_0f7a4_46 rfl ?_
  refine J_istore_n C [some (.int (bc5 p0))] dJ6_bitCount_0f7a4_47 rfl (hN 0 (by decide)) rfl ?_
  refine J_iload_n C dJ6_bitCount_0f7a4_48 rfl rfl ?_
  refine J_bipush C (v := (63 : Int32)) dJ6_bitCount_0f7a4_49 (by decide) ?_
  refine J_iand C (v := (bc5 p0) &&& (63 : Int32)) dJ6_bitCount_0f7a4_51 rfl ?_
  exact J_iret C R dJ6_bitCount_0f7a4_52 (Nat.le_of_ble_eq_true rfl) (Nat.le_of_ble_eq_true rfl) rfl rfl
