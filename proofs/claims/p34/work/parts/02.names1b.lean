theorem dX5_valueOf_0 : decode cX5_valueOf 0 = .ok (.iload_n 1, 1) := by decide +kernel
theorem dX5_valueOf_1 : decode cX5_valueOf 1 = .ok (.invokestatic 55, 3) := by decide +kernel
theorem dX5_valueOf_4 : decode cX5_valueOf 4 = .ok (.aload_n 0, 1) := by decide +kernel
theorem dX5_valueOf_5 : decode cX5_valueOf 5 = .ok (.getfield 10, 3) := by decide +kernel
theorem dX5_valueOf_8 : decode cX5_valueOf 8 = .ok (.iload_n 1, 1) := by decide +kernel
theorem dX5_valueOf_9 : decode cX5_valueOf 9 = .ok (.invokevirtual 64, 3) := by decide +kernel
theorem dX5_valueOf_12 : decode cX5_valueOf 12 = .ok (.ireturn, 1) := by decide +kernel
set_option maxRecDepth 20000 in
theorem ggX5_onesOf_X5_checkRegister : GoodIn wsX5_onesOf wsX5_checkRegister := goodIn_ca (goodIn_r _ [5, 6, 7, 8, 9, 4, 10] rfl (by decide +kernel)) (goodIn_sub (fun _ h => List.mem_cons_of_mem _ (List.mem_append_right _ h)) (by decide +kernel))
set_option maxRecDepth 20000 in
theorem gX5_onesOf_X5_checkRegister : GoodIn wsX5_onesOf (va_wsS RX5 55 yX5_checkRegister wsX5_checkRegister) := goodIn_app (goodIn_of _ (by decide +kernel)) ggX5_onesOf_X5_checkRegister
set_option maxRecDepth 20000 in
theorem ggX5_onesOf_X3_bitsIn : GoodIn wsX5_onesOf wsX3_bitsIn := goodIn_r _ [15, 16, 17, 18, 19, 14, 20, 21, 9, 4, 10, 35, 36, 37, 38, 39] rfl (by decide +kernel)
set_option maxRecDepth 20000 in
theorem gX5_onesOf_X3_bitsIn : GoodIn wsX5_onesOf (wsV RX5 81 RX3 yX3_bitsIn wsX3_bitsIn) := goodIn_app (goodIn_of _ (by decide +kernel)) ggX5_onesOf_X3_bitsIn
set_option maxRecDepth 20000 in
theorem ggX5_onesOf_J6_bitCount_0f7a4 : GoodIn wsX5_onesOf wsJ6_bitCount_0f7a4 := goodIn_r _ [25, 26, 27, 28] rfl (by decide +kernel)
set_option maxRecDepth 20000 in
theorem gX5_onesOf_J6_bitCount_0f7a4 : GoodIn wsX5_onesOf (va_wsS RX5 155 yJ6_bitCount_0f7a4 wsJ6_bitCount_0f7a4) := goodIn_app (goodIn_of _ (by decide +kernel)) ggX5_onesOf_J6_bitCount_0f7a4
theorem dX5_onesOf_0 : decode cX5_onesOf 0 = .ok (.iload_n 1, 1) := by decide +kernel
theorem dX5_onesOf_1 : decode cX5_onesOf 1 = .ok (.invokestatic 55, 3) := by decide +kernel
theorem dX5_onesOf_4 : decode cX5_onesOf 4 = .ok (.aload_n 0, 1) := by decide +kernel
theorem dX5_onesOf_5 : decode cX5_onesOf 5 = .ok (.getfield 10, 3) := by decide +kernel
theorem dX5_onesOf_8 : decode cX5_onesOf 8 = .ok (.iload_n 1, 1) := by decide +kernel
theorem dX5_onesOf_9 : decode cX5_onesOf 9 = .ok (.invokevirtual 81, 3) := by decide +kernel
theorem dX5_onesOf_12 : decode cX5_onesOf 12 = .ok (.invokestatic 155, 3) := by decide +kernel
theorem dX5_onesOf_15 : decode cX5_onesOf 15 = .ok (.ireturn, 1) := by decide +kernel
set_option maxRecDepth 20000 in
theorem ggX5_rowsOf_X5_checkRegister : GoodIn wsX5_rowsOf wsX5_checkRegister := goodIn_ca (goodIn_r _ [6, 7, 8, 9, 10, 5, 11] rfl (by decide +kernel)) (goodIn_sub (fun _ h => List.mem_cons_of_mem _ (List.mem_append_left _ (List.mem_append_left _ (List.mem_append_right _ h)))) (by decide +kernel))
set_option maxRecDepth 20000 in
theorem gX5_rowsOf_X5_checkRegister : GoodIn wsX5_rowsOf (va_wsS RX5 55 yX5_checkRegister wsX5_checkRegister) := goodIn_app (goodIn_of _ (by decide +kernel)) ggX5_rowsOf_X5_checkRegister
set_option maxRecDepth 20000 in
theorem ggX5_rowsOf_X5_checkRecoding : GoodIn wsX5_rowsOf wsX5_checkRecoding := goodIn_ca (goodIn_r _ [14, 15, 16, 17, 18, 5, 19] rfl (by decide +kernel)) (goodIn_sub (fun _ h => List.mem_cons_of_mem _ (List.mem_append_left _ (List.mem_append_right _ h))) (by decide +kernel))
set_option maxRecDepth 20000 in
theorem gX5_rowsOf_X5_checkRecoding : GoodIn wsX5_rowsOf (va_wsS RX5 171 yX5_checkRecoding wsX5_checkRecoding) := goodIn_app (goodIn_of _ (by decide +kernel)) ggX5_rowsOf_X5_checkRecoding
set_option maxRecDepth 20000 in
theorem ggX5_rowsOf_X5_checkRecodingSuitsWidth : GoodIn wsX5_rowsOf wsX5_checkRecodingSuitsWidth := goodIn_ca (goodIn_r _ [23, 24, 25, 1, 2, 41, 42, 43, 44, 45, 46, 47, 48, 49, 50, 51] rfl (by decide +kernel)) (goodIn_sub (fun _ h => List.mem_cons_of_mem _ (List.mem_append_right _ h)) (by decide +kernel))
set_option maxRecDepth 20000 in
theorem gX5_rowsOf_X5_checkRecodingSuitsWidth : GoodIn wsX5_rowsOf (wsV RX5 74 RX5 yX5_checkRecodingSuitsWidth wsX5_checkRecodingSuitsWidth) := goodIn_app (goodIn_of _ (by decide +kernel)) ggX5_rowsOf_X5_checkRecodingSuitsWidth
set_option maxRecDepth 20000 in
theorem ggX5_rowsOf_X5_digitCount : GoodIn wsX5_rowsOf wsX5_digitCount := goodIn_r _ [28] rfl (by decide +kernel)
set_option maxRecDepth 20000 in
theorem gX5_rowsOf_X5_digitCount : GoodIn wsX5_rowsOf (va_wsS RX5 163 yX5_digitCount wsX5_digitCount) := goodIn_app (goodIn_of _ (by decide +kernel)) ggX5_rowsOf_X5_digitCount
set_option maxRecDepth 20000 in
theorem ggX5_rowsOf_X3_valueIn : GoodIn wsX5_rowsOf wsX3_valueIn := goodIn_r _ [33, 34, 10, 5, 11, 47, 48, 49, 50, 51] rfl (by decide +kernel)
set_option maxRecDepth 20000 in
theorem gX5_rowsOf_X3_valueIn : GoodIn wsX5_rowsOf (wsV RX5 64 RX3 yX3_valueIn wsX3_valueIn) := goodIn_app (goodIn_of _ (by decide +kernel)) ggX5_rowsOf_X3_valueIn
set_option maxRecDepth 20000 in
theorem ggX5_rowsOf_X5_digit : GoodIn wsX5_rowsOf wsX5_digit := goodIn_r _ [37, 38, 39, 5, 40] rfl (by decide +kernel)
set_option maxRecDepth 20000 in
theorem gX5_rowsOf_X5_digit : GoodIn wsX5_rowsOf (va_wsS RX5 174 yX5_digit wsX5_digit) := goodIn_app (goodIn_of _ (by decide +kernel)) ggX5_rowsOf_X5_digit
theorem dX5_rowsOf_0 : decode cX5_rowsOf 0 = .ok (.iload_n 1, 1) := by decide +kernel
theorem dX5_rowsOf_1 : decode cX5_rowsOf 1 = .ok (.invokestatic 55, 3) := by decide +kernel
theorem dX5_rowsOf_4 : decode cX5_rowsOf 4 = .ok (.iload_n 2, 1) := by decide +kernel
theorem dX5_rowsOf_5 : decode cX5_rowsOf 5 = .ok (.invokestatic 171, 3) := by decide +kernel
theorem dX5_rowsOf_8 : decode cX5_rowsOf 8 = .ok (.aload_n 0, 1) := by decide +kernel
theorem dX5_rowsOf_9 : decode cX5_rowsOf 9 = .ok (.iload_n 2, 1) := by decide +kernel
theorem dX5_rowsOf_10 : decode cX5_rowsOf 10 = .ok (.invokevirtual 74, 3) := by decide +kernel
theorem dX5_rowsOf_13 : decode cX5_rowsOf 13 = .ok (.iconst 0, 1) := by decide +kernel
theorem dX5_rowsOf_14 : decode cX5_rowsOf 14 = .ok (.istore_n 3, 1) := by decide +kernel
theorem dX5_rowsOf_15 : decode cX5_rowsOf 15 = .ok (.iconst 0, 1) := by decide +kernel
theorem dX5_rowsOf_16 : decode cX5_rowsOf 16 = .ok (.istore 4, 2) := by decide +kernel
theorem dX5_rowsOf_18 : decode cX5_rowsOf 18 = .ok (.iload 4, 2) := by decide +kernel
theorem dX5_rowsOf_20 : decode cX5_rowsOf 20 = .ok (.iload_n 2, 1) := by decide +kernel
theorem dX5_rowsOf_21 : decode cX5_rowsOf 21 = .ok (.aload_n 0, 1) := by decide +kernel
theorem dX5_rowsOf_22 : decode cX5_rowsOf 22 = .ok (.getfield 10, 3) := by decide +kernel
theorem dX5_rowsOf_25 : decode cX5_rowsOf 25 = .ok (.getfield 47, 3) := by decide +kernel
theorem dX5_rowsOf_28 : decode cX5_rowsOf 28 = .ok (.invokestatic 163, 3) := by decide +kernel
theorem dX5_rowsOf_31 : decode cX5_rowsOf 31 = .ok (.if_icmp .ge 29, 3) := by decide +kernel
theorem dX5_rowsOf_34 : decode cX5_rowsOf 34 = .ok (.aload_n 0, 1) := by decide +kernel
theorem dX5_rowsOf_35 : decode cX5_rowsOf 35 = .ok (.getfield 10, 3) := by decide +kernel
theorem dX5_rowsOf_38 : decode cX5_rowsOf 38 = .ok (.iload_n 1, 1) := by decide +kernel
theorem dX5_rowsOf_39 : decode cX5_rowsOf 39 = .ok (.invokevirtual 64, 3) := by decide +kernel
theorem dX5_rowsOf_42 : decode cX5_rowsOf 42 = .ok (.iload_n 2, 1) := by decide +kernel
theorem dX5_rowsOf_43 : decode cX5_rowsOf 43 = .ok (.iload 4, 2) := by decide +kernel
theorem dX5_rowsOf_45 : decode cX5_rowsOf 45 = .ok (.invokestatic 174, 3) := by decide +kernel
theorem dX5_rowsOf_48 : decode cX5_rowsOf 48 = .ok (.ifCond .eq 6, 3) := by decide +kernel
theorem dX5_rowsOf_51 : decode cX5_rowsOf 51 = .ok (.iinc 3 1, 3) := by decide +kernel
theorem dX5_rowsOf_54 : decode cX5_rowsOf 54 = .ok (.iinc 4 1, 3) := by decide +kernel
theorem dX5_rowsOf_57 : decode cX5_rowsOf 57 = .ok (.goto (-39), 3) := by decide +kernel
theorem dX5_rowsOf_60 : decode cX5_rowsOf 60 = .ok (.iload_n 3, 1) := by decide +kernel
theorem dX5_rowsOf_61 : decode cX5_rowsOf 61 = .ok (.ireturn, 1) := by decide +kernel
set_option maxRecDepth 20000 in
theorem ggX5_productByRows_X5_checkRegister : GoodIn wsX5_productByRows wsX5_checkRegister := goodIn_ca (goodIn_r _ [6, 7, 8, 9, 10, 5, 11] rfl (by decide +kernel)) (goodIn_sub (fun _ h => List.mem_cons_of_mem _ (List.mem_append_left _ (List.mem_append_left _ (List.mem_append_right _ h)))) (by decide +kernel))
set_option maxRecDepth 20000 in
theorem gX5_productByRows_X5_checkRegister : GoodIn wsX5_productByRows (va_wsS RX5 55 yX5_checkRegister wsX5_checkRegister) := goodIn_app (goodIn_of _ (by decide +kernel)) ggX5_productByRows_X5_checkRegister
set_option maxRecDepth 20000 in
theorem ggX5_productByRows_X5_checkRecoding : GoodIn wsX5_productByRows wsX5_checkRecoding := goodIn_ca (goodIn_r _ [14, 15, 16, 17, 18, 5, 19] rfl (by decide +kernel)) (goodIn_sub (fun _ h => List.mem_cons_of_mem _ (List.mem_append_left _ (List.mem_append_right _ h))) (by decide +kernel))
set_option maxRecDepth 20000 in
theorem gX5_productByRows_X5_checkRecoding : GoodIn wsX5_productByRows (va_wsS RX5 171 yX5_checkRecoding wsX5_checkRecoding) := goodIn_app (goodIn_of _ (by decide +kernel)) ggX5_productByRows_X5_checkRecoding
set_option maxRecDepth 20000 in
theorem ggX5_productByRows_X5_checkRecodingSuitsWidth : GoodIn wsX5_productByRows wsX5_checkRecodingSuitsWidth := goodIn_ca (goodIn_r _ [23, 24, 25, 1, 2, 44, 45, 46, 47, 48, 49, 50, 51, 52, 53, 54] rfl (by decide +kernel)) (goodIn_sub (fun _ h => List.mem_cons_of_mem _ (List.mem_append_right _ h)) (by decide +kernel))
set_option maxRecDepth 20000 in
theorem gX5_productByRows_X5_checkRecodingSuitsWidth : GoodIn wsX5_productByRows (wsV RX5 74 RX5 yX5_checkRecodingSuitsWidth wsX5_checkRecodingSuitsWidth) := goodIn_app (goodIn_of _ (by decide +kernel)) ggX5_productByRows_X5_checkRecodingSuitsWidth
set_option maxRecDepth 20000 in
theorem ggX5_productByRows_X5_digitCount : GoodIn wsX5_productByRows wsX5_digitCount := goodIn_r _ [28] rfl (by decide +kernel)
set_option maxRecDepth 20000 in
theorem gX5_productByRows_X5_digitCount : GoodIn wsX5_productByRows (va_wsS RX5 163 yX5_digitCount wsX5_digitCount) := goodIn_app (goodIn_of _ (by decide +kernel)) ggX5_productByRows_X5_digitCount
set_option maxRecDepth 20000 in
theorem ggX5_productByRows_X3_valueIn : GoodIn wsX5_productByRows wsX3_valueIn := goodIn_r _ [33, 34, 10, 5, 11, 50, 51, 52, 53, 54] rfl (by decide +kernel)
set_option maxRecDepth 20000 in
theorem gX5_productByRows_X3_valueIn : GoodIn wsX5_productByRows (wsV RX5 64 RX3 yX3_valueIn wsX3_valueIn) := goodIn_app (goodIn_of _ (by decide +kernel)) ggX5_productByRows_X3_valueIn
set_option maxRecDepth 20000 in
theorem ggX5_productByRows_X5_digit : GoodIn wsX5_productByRows wsX5_digit := goodIn_r _ [37, 38, 39, 5, 40] rfl (by decide +kernel)
set_option maxRecDepth 20000 in
theorem gX5_productByRows_X5_digit : GoodIn wsX5_productByRows (va_wsS RX5 174 yX5_digit wsX5_digit) := goodIn_app (goodIn_of _ (by decide +kernel)) ggX5_productByRows_X5_digit
set_option maxRecDepth 20000 in
theorem ggX5_productByRows_X5_bitsPerDigit : GoodIn wsX5_productByRows wsX5_bitsPerDigit := goodIn_r _ [43] rfl (by decide +kernel)
set_option maxRecDepth 20000 in
theorem gX5_productByRows_X5_bitsPerDigit : GoodIn wsX5_productByRows (va_wsS RX5 178 yX5_bitsPerDigit wsX5_bitsPerDigit) := goodIn_app (goodIn_of _ (by decide +kernel)) ggX5_productByRows_X5_bitsPerDigit
theorem dX5_productByRows_0 : decode cX5_productByRows 0 = .ok (.iload_n 1, 1) := by decide +kernel
theorem dX5_productByRows_1 : decode cX5_productByRows 1 = .ok (.invokestatic 55, 3) := by decide +kernel
theorem dX5_productByRows_4 : decode cX5_productByRows 4 = .ok (.iload_n 2, 1) := by decide +kernel
theorem dX5_productByRows_5 : decode cX5_productByRows 5 = .ok (.invokestatic 55, 3) := by decide +kernel
theorem dX5_productByRows_8 : decode cX5_productByRows 8 = .ok (.iload_n 3, 1) := by decide +kernel
theorem dX5_productByRows_9 : decode cX5_productByRows 9 = .ok (.invokestatic 171, 3) := by decide +kernel
theorem dX5_productByRows_12 : decode cX5_productByRows 12 = .ok (.aload_n 0, 1) := by decide +kernel
theorem dX5_productByRows_13 : decode cX5_productByRows 13 = .ok (.iload_n 3, 1) := by decide +kernel
theorem dX5_productByRows_14 : decode cX5_productByRows 14 = .ok (.invokevirtual 74, 3) := by decide +kernel
theorem dX5_productByRows_17 : decode cX5_productByRows 17 = .ok (.iconst 0, 1) := by decide +kernel
theorem dX5_productByRows_18 : decode cX5_productByRows 18 = .ok (.istore 4, 2) := by decide +kernel
theorem dX5_productByRows_20 : decode cX5_productByRows 20 = .ok (.iconst 0, 1) := by decide +kernel
theorem dX5_productByRows_21 : decode cX5_productByRows 21 = .ok (.istore 5, 2) := by decide +kernel
theorem dX5_productByRows_23 : decode cX5_productByRows 23 = .ok (.iload 5, 2) := by decide +kernel
theorem dX5_productByRows_25 : decode cX5_productByRows 25 = .ok (.iload_n 3, 1) := by decide +kernel
theorem dX5_productByRows_26 : decode cX5_productByRows 26 = .ok (.aload_n 0, 1) := by decide +kernel
theorem dX5_productByRows_27 : decode cX5_productByRows 27 = .ok (.getfield 10, 3) := by decide +kernel
theorem dX5_productByRows_30 : decode cX5_productByRows 30 = .ok (.getfield 47, 3) := by decide +kernel
theorem dX5_productByRows_33 : decode cX5_productByRows 33 = .ok (.invokestatic 163, 3) := by decide +kernel
theorem dX5_productByRows_36 : decode cX5_productByRows 36 = .ok (.if_icmp .ge 49, 3) := by decide +kernel
theorem dX5_productByRows_39 : decode cX5_productByRows 39 = .ok (.aload_n 0, 1) := by decide +kernel
theorem dX5_productByRows_40 : decode cX5_productByRows 40 = .ok (.getfield 10, 3) := by decide +kernel
theorem dX5_productByRows_43 : decode cX5_productByRows 43 = .ok (.iload_n 2, 1) := by decide +kernel
theorem dX5_productByRows_44 : decode cX5_productByRows 44 = .ok (.invokevirtual 64, 3) := by decide +kernel
theorem dX5_productByRows_47 : decode cX5_productByRows 47 = .ok (.iload_n 3, 1) := by decide +kernel
theorem dX5_productByRows_48 : decode cX5_productByRows 48 = .ok (.iload 5, 2) := by decide +kernel
theorem dX5_productByRows_50 : decode cX5_productByRows 50 = .ok (.invokestatic 174, 3) := by decide +kernel
theorem dX5_productByRows_53 : decode cX5_productByRows 53 = .ok (.aload_n 0, 1) := by decide +kernel
theorem dX5_productByRows_54 : decode cX5_productByRows 54 = .ok (.getfield 10, 3) := by decide +kernel
theorem dX5_productByRows_57 : decode cX5_productByRows 57 = .ok (.iload_n 1, 1) := by decide +kernel
theorem dX5_productByRows_58 : decode cX5_productByRows 58 = .ok (.invokevirtual 64, 3) := by decide +kernel
theorem dX5_productByRows_61 : decode cX5_productByRows 61 = .ok (.imul, 1) := by decide +kernel
theorem dX5_productByRows_62 : decode cX5_productByRows 62 = .ok (.istore 6, 2) := by decide +kernel
theorem dX5_productByRows_64 : decode cX5_productByRows 64 = .ok (.iload 4, 2) := by decide +kernel
theorem dX5_productByRows_66 : decode cX5_productByRows 66 = .ok (.iload 6, 2) := by decide +kernel
theorem dX5_productByRows_68 : decode cX5_productByRows 68 = .ok (.iload 5, 2) := by decide +kernel
theorem dX5_productByRows_70 : decode cX5_productByRows 70 = .ok (.iload_n 3, 1) := by decide +kernel
theorem dX5_productByRows_71 : decode cX5_productByRows 71 = .ok (.invokestatic 178, 3) := by decide +kernel
theorem dX5_productByRows_74 : decode cX5_productByRows 74 = .ok (.imul, 1) := by decide +kernel
theorem dX5_productByRows_75 : decode cX5_productByRows 75 = .ok (.ishl, 1) := by decide +kernel
theorem dX5_productByRows_76 : decode cX5_productByRows 76 = .ok (.iadd, 1) := by decide +kernel
theorem dX5_productByRows_77 : decode cX5_productByRows 77 = .ok (.istore 4, 2) := by decide +kernel
theorem dX5_productByRows_79 : decode cX5_productByRows 79 = .ok (.iinc 5 1, 3) := by decide +kernel
theorem dX5_productByRows_82 : decode cX5_productByRows 82 = .ok (.goto (-59), 3) := by decide +kernel
theorem dX5_productByRows_85 : decode cX5_productByRows 85 = .ok (.iload 4, 2) := by decide +kernel
theorem dX5_productByRows_87 : decode cX5_productByRows 87 = .ok (.ireturn, 1) := by decide +kernel
set_option maxRecDepth 20000 in
theorem ggX5_productByBits_X5_checkRegister : GoodIn wsX5_productByBits wsX5_checkRegister := goodIn_ca (goodIn_r _ [6, 7, 8, 9, 10, 5, 11] rfl (by decide +kernel)) (goodIn_sub (fun _ h => List.mem_cons_of_mem _ (List.mem_append_right _ h)) (by decide +kernel))
set_option maxRecDepth 20000 in
theorem gX5_productByBits_X5_checkRegister : GoodIn wsX5_productByBits (va_wsS RX5 55 yX5_checkRegister wsX5_checkRegister) := goodIn_app (goodIn_of _ (by decide +kernel)) ggX5_productByBits_X5_checkRegister
set_option maxRecDepth 20000 in
theorem ggX5_productByBits_X3_valueIn : GoodIn wsX5_productByBits wsX3_valueIn := goodIn_r _ [16, 17, 10, 5, 11, 27, 28, 29, 30, 31] rfl (by decide +kernel)
set_option maxRecDepth 20000 in
theorem gX5_productByBits_X3_valueIn : GoodIn wsX5_productByBits (wsV RX5 64 RX3 yX3_valueIn wsX3_valueIn) := goodIn_app (goodIn_of _ (by decide +kernel)) ggX5_productByBits_X3_valueIn
set_option maxRecDepth 20000 in
theorem ggX5_productByBits_X5_bit : GoodIn wsX5_productByBits wsX5_bit := goodIn_r _ [20] rfl (by decide +kernel)
set_option maxRecDepth 20000 in
theorem gX5_productByBits_X5_bit : GoodIn wsX5_productByBits (va_wsS RX5 181 yX5_bit wsX5_bit) := goodIn_app (goodIn_of _ (by decide +kernel)) ggX5_productByBits_X5_bit
theorem dX5_productByBits_0 : decode cX5_productByBits 0 = .ok (.iload_n 1, 1) := by decide +kernel
theorem dX5_productByBits_1 : decode cX5_productByBits 1 = .ok (.invokestatic 55, 3) := by decide +kernel
theorem dX5_productByBits_4 : decode cX5_productByBits 4 = .ok (.iload_n 2, 1) := by decide +kernel
theorem dX5_productByBits_5 : decode cX5_productByBits 5 = .ok (.invokestatic 55, 3) := by decide +kernel
theorem dX5_productByBits_8 : decode cX5_productByBits 8 = .ok (.aload_n 0, 1) := by decide +kernel
theorem dX5_productByBits_9 : decode cX5_productByBits 9 = .ok (.getfield 10, 3) := by decide +kernel
theorem dX5_productByBits_12 : decode cX5_productByBits 12 = .ok (.getfield 47, 3) := by decide +kernel
theorem dX5_productByBits_15 : decode cX5_productByBits 15 = .ok (.iconst 1, 1) := by decide +kernel
theorem dX5_productByBits_16 : decode cX5_productByBits 16 = .ok (.isub, 1) := by decide +kernel
theorem dX5_productByBits_17 : decode cX5_productByBits 17 = .ok (.istore_n 3, 1) := by decide +kernel
theorem dX5_productByBits_18 : decode cX5_productByBits 18 = .ok (.iconst 0, 1) := by decide +kernel
theorem dX5_productByBits_19 : decode cX5_productByBits 19 = .ok (.istore 4, 2) := by decide +kernel
theorem dX5_productByBits_21 : decode cX5_productByBits 21 = .ok (.iconst 0, 1) := by decide +kernel
theorem dX5_productByBits_22 : decode cX5_productByBits 22 = .ok (.istore 5, 2) := by decide +kernel
theorem dX5_productByBits_24 : decode cX5_productByBits 24 = .ok (.iload 5, 2) := by decide +kernel
theorem dX5_productByBits_26 : decode cX5_productByBits 26 = .ok (.iload_n 3, 1) := by decide +kernel
theorem dX5_productByBits_27 : decode cX5_productByBits 27 = .ok (.if_icmp .ge 39, 3) := by decide +kernel
theorem dX5_productByBits_30 : decode cX5_productByBits 30 = .ok (.iload 4, 2) := by decide +kernel
theorem dX5_productByBits_32 : decode cX5_productByBits 32 = .ok (.aload_n 0, 1) := by decide +kernel
theorem dX5_productByBits_33 : decode cX5_productByBits 33 = .ok (.getfield 10, 3) := by decide +kernel
theorem dX5_productByBits_36 : decode cX5_productByBits 36 = .ok (.iload_n 2, 1) := by decide +kernel
theorem dX5_productByBits_37 : decode cX5_productByBits 37 = .ok (.invokevirtual 64, 3) := by decide +kernel
theorem dX5_productByBits_40 : decode cX5_productByBits 40 = .ok (.iload 5, 2) := by decide +kernel
theorem dX5_productByBits_42 : decode cX5_productByBits 42 = .ok (.invokestatic 181, 3) := by decide +kernel
theorem dX5_productByBits_45 : decode cX5_productByBits 45 = .ok (.aload_n 0, 1) := by decide +kernel
theorem dX5_productByBits_46 : decode cX5_productByBits 46 = .ok (.getfield 10, 3) := by decide +kernel
theorem dX5_productByBits_49 : decode cX5_productByBits 49 = .ok (.iload_n 1, 1) := by decide +kernel
theorem dX5_productByBits_50 : decode cX5_productByBits 50 = .ok (.invokevirtual 64, 3) := by decide +kernel
theorem dX5_productByBits_53 : decode cX5_productByBits 53 = .ok (.imul, 1) := by decide +kernel
theorem dX5_productByBits_54 : decode cX5_productByBits 54 = .ok (.iload 5, 2) := by decide +kernel
theorem dX5_productByBits_56 : decode cX5_productByBits 56 = .ok (.ishl, 1) := by decide +kernel
theorem dX5_productByBits_57 : decode cX5_productByBits 57 = .ok (.iadd, 1) := by decide +kernel
theorem dX5_productByBits_58 : decode cX5_productByBits 58 = .ok (.istore 4, 2) := by decide +kernel
theorem dX5_productByBits_60 : decode cX5_productByBits 60 = .ok (.iinc 5 1, 3) := by decide +kernel
theorem dX5_productByBits_63 : decode cX5_productByBits 63 = .ok (.goto (-39), 3) := by decide +kernel
theorem dX5_productByBits_66 : decode cX5_productByBits 66 = .ok (.iload 4, 2) := by decide +kernel
theorem dX5_productByBits_68 : decode cX5_productByBits 68 = .ok (.aload_n 0, 1) := by decide +kernel
theorem dX5_productByBits_69 : decode cX5_productByBits 69 = .ok (.getfield 10, 3) := by decide +kernel
theorem dX5_productByBits_72 : decode cX5_productByBits 72 = .ok (.iload_n 2, 1) := by decide +kernel
theorem dX5_productByBits_73 : decode cX5_productByBits 73 = .ok (.invokevirtual 64, 3) := by decide +kernel
theorem dX5_productByBits_76 : decode cX5_productByBits 76 = .ok (.iload_n 3, 1) := by decide +kernel
theorem dX5_productByBits_77 : decode cX5_productByBits 77 = .ok (.invokestatic 181, 3) := by decide +kernel
theorem dX5_productByBits_80 : decode cX5_productByBits 80 = .ok (.aload_n 0, 1) := by decide +kernel
theorem dX5_productByBits_81 : decode cX5_productByBits 81 = .ok (.getfield 10, 3) := by decide +kernel
theorem dX5_productByBits_84 : decode cX5_productByBits 84 = .ok (.iload_n 1, 1) := by decide +kernel
theorem dX5_productByBits_85 : decode cX5_productByBits 85 = .ok (.invokevirtual 64, 3) := by decide +kernel
theorem dX5_productByBits_88 : decode cX5_productByBits 88 = .ok (.imul, 1) := by decide +kernel
theorem dX5_productByBits_89 : decode cX5_productByBits 89 = .ok (.iload_n 3, 1) := by decide +kernel
theorem dX5_productByBits_90 : decode cX5_productByBits 90 = .ok (.ishl, 1) := by decide +kernel
theorem dX5_productByBits_91 : decode cX5_productByBits 91 = .ok (.isub, 1) := by decide +kernel
theorem dX5_productByBits_92 : decode cX5_productByBits 92 = .ok (.ireturn, 1) := by decide +kernel
set_option maxRecDepth 20000 in
theorem ggX5_fits_X5_checkRegister : GoodIn wsX5_fits wsX5_checkRegister := goodIn_ca (goodIn_r _ [5, 6, 7, 8, 9, 4, 10] rfl (by decide +kernel)) (goodIn_sub (fun _ h => List.mem_cons_of_mem _ (List.mem_append_right _ h)) (by decide +kernel))
set_option maxRecDepth 20000 in
theorem gX5_fits_X5_checkRegister : GoodIn wsX5_fits (va_wsS RX5 55 yX5_checkRegister wsX5_checkRegister) := goodIn_app (goodIn_of _ (by decide +kernel)) ggX5_fits_X5_checkRegister
set_option maxRecDepth 20000 in
theorem ggX5_fits_X3_valueIn : GoodIn wsX5_fits wsX3_valueIn := goodIn_r _ [15, 16, 9, 4, 10, 32, 33, 34, 35, 36] rfl (by decide +kernel)
set_option maxRecDepth 20000 in
theorem gX5_fits_X3_valueIn : GoodIn wsX5_fits (wsV RX5 64 RX3 yX3_valueIn wsX3_valueIn) := goodIn_app (goodIn_of _ (by decide +kernel)) ggX5_fits_X3_valueIn
set_option maxRecDepth 20000 in
theorem ggX5_fits_X3_isValue : GoodIn wsX5_fits wsX3_isValue := goodIn_r _ [20, 21, 22, 23, 14, 24, 25, 32, 33, 34, 35, 36] rfl (by decide +kernel)
set_option maxRecDepth 20000 in
theorem gX5_fits_X3_isValue : GoodIn wsX5_fits (wsV RX5 58 RX3 yX3_isValue wsX3_isValue) := goodIn_app (goodIn_of _ (by decide +kernel)) ggX5_fits_X3_isValue
theorem dX5_fits_0 : decode cX5_fits 0 = .ok (.iload_n 1, 1) := by decide +kernel
theorem dX5_fits_1 : decode cX5_fits 1 = .ok (.invokestatic 55, 3) := by decide +kernel
theorem dX5_fits_4 : decode cX5_fits 4 = .ok (.iload_n 2, 1) := by decide +kernel
theorem dX5_fits_5 : decode cX5_fits 5 = .ok (.invokestatic 55, 3) := by decide +kernel
theorem dX5_fits_8 : decode cX5_fits 8 = .ok (.aload_n 0, 1) := by decide +kernel
theorem dX5_fits_9 : decode cX5_fits 9 = .ok (.getfield 10, 3) := by decide +kernel
theorem dX5_fits_12 : decode cX5_fits 12 = .ok (.aload_n 0, 1) := by decide +kernel
theorem dX5_fits_13 : decode cX5_fits 13 = .ok (.getfield 10, 3) := by decide +kernel
theorem dX5_fits_16 : decode cX5_fits 16 = .ok (.iload_n 1, 1) := by decide +kernel
theorem dX5_fits_17 : decode cX5_fits 17 = .ok (.invokevirtual 64, 3) := by decide +kernel
theorem dX5_fits_20 : decode cX5_fits 20 = .ok (.aload_n 0, 1) := by decide +kernel
theorem dX5_fits_21 : decode cX5_fits 21 = .ok (.getfield 10, 3) := by decide +kernel
theorem dX5_fits_24 : decode cX5_fits 24 = .ok (.iload_n 2, 1) := by decide +kernel
theorem dX5_fits_25 : decode cX5_fits 25 = .ok (.invokevirtual 64, 3) := by decide +kernel
theorem dX5_fits_28 : decode cX5_fits 28 = .ok (.imul, 1) := by decide +kernel
theorem dX5_fits_29 : decode cX5_fits 29 = .ok (.invokevirtual 58, 3) := by decide +kernel
theorem dX5_fits_32 : decode cX5_fits 32 = .ok (.ireturn, 1) := by decide +kernel
theorem dX5_stepsLeft_0 : decode cX5_stepsLeft 0 = .ok (.aload_n 0, 1) := by decide +kernel
theorem dX5_stepsLeft_1 : decode cX5_stepsLeft 1 = .ok (.getfield 10, 3) := by decide +kernel
theorem dX5_stepsLeft_4 : decode cX5_stepsLeft 4 = .ok (.getfield 77, 3) := by decide +kernel
theorem dX5_stepsLeft_7 : decode cX5_stepsLeft 7 = .ok (.getfield 90, 3) := by decide +kernel
theorem dX5_stepsLeft_10 : decode cX5_stepsLeft 10 = .ok (.ireturn, 1) := by decide +kernel
set_option maxRecDepth 20000 in
theorem ggX5_highPart_X5_checkMultiplying : GoodIn wsX5_highPart wsX5_checkMultiplying := goodIn_ca (goodIn_r _ [8, 9, 10, 1, 2, 11, 12, 13, 14, 15, 16, 17, 18, 19, 20, 21, 22, 23, 24, 25, 26, 27, 28, 29] rfl (by decide +kernel)) (goodIn_sub (fun _ h => List.mem_cons_of_mem _ (List.mem_append_right _ h)) (by decide +kernel))
set_option maxRecDepth 20000 in
theorem gX5_highPart_X5_checkMultiplying : GoodIn wsX5_highPart (wsV RX5 102 RX5 yX5_checkMultiplying wsX5_checkMultiplying) := goodIn_app (goodIn_of _ (by decide +kernel)) ggX5_highPart_X5_checkMultiplying
theorem dX5_highPart_0 : decode cX5_highPart 0 = .ok (.aload_n 0, 1) := by decide +kernel
theorem dX5_highPart_1 : decode cX5_highPart 1 = .ok (.invokevirtual 102, 3) := by decide +kernel
theorem dX5_highPart_4 : decode cX5_highPart 4 = .ok (.aload_n 0, 1) := by decide +kernel
theorem dX5_highPart_5 : decode cX5_highPart 5 = .ok (.getfield 10, 3) := by decide +kernel
theorem dX5_highPart_8 : decode cX5_highPart 8 = .ok (.getfield 77, 3) := by decide +kernel
theorem dX5_highPart_11 : decode cX5_highPart 11 = .ok (.getfield 184, 3) := by decide +kernel
theorem dX5_highPart_14 : decode cX5_highPart 14 = .ok (.ireturn, 1) := by decide +kernel
set_option maxRecDepth 20000 in
theorem ggX5_lowPart_X5_checkMultiplying : GoodIn wsX5_lowPart wsX5_checkMultiplying := goodIn_ca (goodIn_r _ [8, 9, 10, 1, 2, 11, 12, 13, 14, 15, 16, 17, 18, 19, 20, 21, 22, 23, 24, 25, 26, 27, 28, 29] rfl (by decide +kernel)) (goodIn_sub (fun _ h => List.mem_cons_of_mem _ (List.mem_append_right _ h)) (by decide +kernel))
set_option maxRecDepth 20000 in
theorem gX5_lowPart_X5_checkMultiplying : GoodIn wsX5_lowPart (wsV RX5 102 RX5 yX5_checkMultiplying wsX5_checkMultiplying) := goodIn_app (goodIn_of _ (by decide +kernel)) ggX5_lowPart_X5_checkMultiplying
theorem dX5_lowPart_0 : decode cX5_lowPart 0 = .ok (.aload_n 0, 1) := by decide +kernel
theorem dX5_lowPart_1 : decode cX5_lowPart 1 = .ok (.invokevirtual 102, 3) := by decide +kernel
theorem dX5_lowPart_4 : decode cX5_lowPart 4 = .ok (.aload_n 0, 1) := by decide +kernel
theorem dX5_lowPart_5 : decode cX5_lowPart 5 = .ok (.getfield 10, 3) := by decide +kernel
theorem dX5_lowPart_8 : decode cX5_lowPart 8 = .ok (.getfield 77, 3) := by decide +kernel
theorem dX5_lowPart_11 : decode cX5_lowPart 11 = .ok (.getfield 187, 3) := by decide +kernel
theorem dX5_lowPart_14 : decode cX5_lowPart 14 = .ok (.ireturn, 1) := by decide +kernel
set_option maxRecDepth 20000 in
theorem ggX5_extraBit_X5_checkMultiplying : GoodIn wsX5_extraBit wsX5_checkMultiplying := goodIn_ca (goodIn_r _ [8, 9, 10, 1, 2, 11, 12, 13, 14, 15, 16, 17, 18, 19, 20, 21, 22, 23, 24, 25, 26, 27, 28, 29] rfl (by decide +kernel)) (goodIn_sub (fun _ h => List.mem_cons_of_mem _ (List.mem_append_right _ h)) (by decide +kernel))
set_option maxRecDepth 20000 in
theorem gX5_extraBit_X5_checkMultiplying : GoodIn wsX5_extraBit (wsV RX5 102 RX5 yX5_checkMultiplying wsX5_checkMultiplying) := goodIn_app (goodIn_of _ (by decide +kernel)) ggX5_extraBit_X5_checkMultiplying
theorem dX5_extraBit_0 : decode cX5_extraBit 0 = .ok (.aload_n 0, 1) := by decide +kernel
theorem dX5_extraBit_1 : decode cX5_extraBit 1 = .ok (.invokevirtual 102, 3) := by decide +kernel
theorem dX5_extraBit_4 : decode cX5_extraBit 4 = .ok (.aload_n 0, 1) := by decide +kernel
theorem dX5_extraBit_5 : decode cX5_extraBit 5 = .ok (.getfield 10, 3) := by decide +kernel
theorem dX5_extraBit_8 : decode cX5_extraBit 8 = .ok (.getfield 77, 3) := by decide +kernel
theorem dX5_extraBit_11 : decode cX5_extraBit 11 = .ok (.getfield 190, 3) := by decide +kernel
theorem dX5_extraBit_14 : decode cX5_extraBit 14 = .ok (.ireturn, 1) := by decide +kernel
set_option maxRecDepth 20000 in
theorem ggX5_carries_X5_checkRegister : GoodIn wsX5_carries wsX5_checkRegister := goodIn_ca (goodIn_r _ [5, 6, 7, 8, 9, 4, 10] rfl (by decide +kernel)) (goodIn_sub (fun _ h => List.mem_cons_of_mem _ (List.mem_append_right _ h)) (by decide +kernel))
set_option maxRecDepth 20000 in
theorem gX5_carries_X5_checkRegister : GoodIn wsX5_carries (va_wsS RX5 55 yX5_checkRegister wsX5_checkRegister) := goodIn_app (goodIn_of _ (by decide +kernel)) ggX5_carries_X5_checkRegister
set_option maxRecDepth 20000 in
theorem ggX5_carries_X3_bitsIn : GoodIn wsX5_carries wsX3_bitsIn := goodIn_r _ [15, 16, 17, 18, 19, 14, 20, 21, 9, 4, 10, 38, 39, 40, 41, 42] rfl (by decide +kernel)
set_option maxRecDepth 20000 in
theorem gX5_carries_X3_bitsIn : GoodIn wsX5_carries (wsV RX5 81 RX3 yX3_bitsIn wsX3_bitsIn) := goodIn_app (goodIn_of _ (by decide +kernel)) ggX5_carries_X3_bitsIn
set_option maxRecDepth 20000 in
theorem ggX5_carries_X5_carryBits : GoodIn wsX5_carries wsX5_carryBits := goodIn_r _ [24] rfl (by decide +kernel)
set_option maxRecDepth 20000 in
theorem gX5_carries_X5_carryBits : GoodIn wsX5_carries (va_wsS RX5 193 yX5_carryBits wsX5_carryBits) := goodIn_app (goodIn_of _ (by decide +kernel)) ggX5_carries_X5_carryBits
set_option maxRecDepth 20000 in
theorem ggX5_carries_J6_bitCount_0f7a4 : GoodIn wsX5_carries wsJ6_bitCount_0f7a4 := goodIn_r _ [28, 29, 30, 31] rfl (by decide +kernel)
set_option maxRecDepth 20000 in
theorem gX5_carries_J6_bitCount_0f7a4 : GoodIn wsX5_carries (va_wsS RX5 155 yJ6_bitCount_0f7a4 wsJ6_bitCount_0f7a4) := goodIn_app (goodIn_of _ (by decide +kernel)) ggX5_carries_J6_bitCount_0f7a4
theorem dX5_carries_0 : decode cX5_carries 0 = .ok (.iload_n 1, 1) := by decide +kernel
theorem dX5_carries_1 : decode cX5_carries 1 = .ok (.invokestatic 55, 3) := by decide +kernel
theorem dX5_carries_4 : decode cX5_carries 4 = .ok (.iload_n 2, 1) := by decide +kernel
theorem dX5_carries_5 : decode cX5_carries 5 = .ok (.invokestatic 55, 3) := by decide +kernel
theorem dX5_carries_8 : decode cX5_carries 8 = .ok (.aload_n 0, 1) := by decide +kernel
theorem dX5_carries_9 : decode cX5_carries 9 = .ok (.getfield 10, 3) := by decide +kernel
theorem dX5_carries_12 : decode cX5_carries 12 = .ok (.iload_n 1, 1) := by decide +kernel
theorem dX5_carries_13 : decode cX5_carries 13 = .ok (.invokevirtual 81, 3) := by decide +kernel
theorem dX5_carries_16 : decode cX5_carries 16 = .ok (.aload_n 0, 1) := by decide +kernel
theorem dX5_carries_17 : decode cX5_carries 17 = .ok (.getfield 10, 3) := by decide +kernel
theorem dX5_carries_20 : decode cX5_carries 20 = .ok (.iload_n 2, 1) := by decide +kernel
theorem dX5_carries_21 : decode cX5_carries 21 = .ok (.invokevirtual 81, 3) := by decide +kernel
theorem dX5_carries_24 : decode cX5_carries 24 = .ok (.invokestatic 193, 3) := by decide +kernel
theorem dX5_carries_27 : decode cX5_carries 27 = .ok (.invokestatic 155, 3) := by decide +kernel
theorem dX5_carries_30 : decode cX5_carries 30 = .ok (.ireturn, 1) := by decide +kernel
set_option maxRecDepth 20000 in
theorem ggX5_longestRun_X5_checkRegister : GoodIn wsX5_longestRun wsX5_checkRegister := goodIn_ca (goodIn_r _ [10, 11, 12, 13, 14, 9, 15] rfl (by decide +kernel)) (goodIn_sub (fun _ h => List.mem_cons_of_mem _ (List.mem_append_right _ h)) (by decide +kernel))
set_option maxRecDepth 20000 in
theorem gX5_longestRun_X5_checkRegister : GoodIn wsX5_longestRun (va_wsS RX5 55 yX5_checkRegister wsX5_checkRegister) := goodIn_app (goodIn_of _ (by decide +kernel)) ggX5_longestRun_X5_checkRegister
set_option maxRecDepth 20000 in
theorem ggX5_longestRun_X3_bitsIn : GoodIn wsX5_longestRun wsX3_bitsIn := goodIn_r _ [20, 21, 22, 23, 24, 19, 25, 26, 14, 9, 15, 39, 40, 41, 42, 43] rfl (by decide +kernel)
set_option maxRecDepth 20000 in
theorem gX5_longestRun_X3_bitsIn : GoodIn wsX5_longestRun (wsV RX5 81 RX3 yX3_bitsIn wsX3_bitsIn) := goodIn_app (goodIn_of _ (by decide +kernel)) ggX5_longestRun_X3_bitsIn
set_option maxRecDepth 20000 in
theorem ggX5_longestRun_X5_carryBits : GoodIn wsX5_longestRun wsX5_carryBits := goodIn_r _ [29] rfl (by decide +kernel)
set_option maxRecDepth 20000 in
theorem gX5_longestRun_X5_carryBits : GoodIn wsX5_longestRun (va_wsS RX5 193 yX5_carryBits wsX5_carryBits) := goodIn_app (goodIn_of _ (by decide +kernel)) ggX5_longestRun_X5_carryBits
set_option maxRecDepth 20000 in
theorem ggX5_longestRun_X5_bit : GoodIn wsX5_longestRun wsX5_bit := goodIn_r _ [32] rfl (by decide +kernel)
set_option maxRecDepth 20000 in
theorem gX5_longestRun_X5_bit : GoodIn wsX5_longestRun (va_wsS RX5 181 yX5_bit wsX5_bit) := goodIn_app (goodIn_of _ (by decide +kernel)) ggX5_longestRun_X5_bit
theorem dX5_longestRun_0 : decode cX5_longestRun 0 = .ok (.iload_n 1, 1) := by decide +kernel
theorem dX5_longestRun_1 : decode cX5_longestRun 1 = .ok (.invokestatic 55, 3) := by decide +kernel
theorem dX5_longestRun_4 : decode cX5_longestRun 4 = .ok (.iload_n 2, 1) := by decide +kernel
theorem dX5_longestRun_5 : decode cX5_longestRun 5 = .ok (.invokestatic 55, 3) := by decide +kernel
theorem dX5_longestRun_8 : decode cX5_longestRun 8 = .ok (.aload_n 0, 1) := by decide +kernel
theorem dX5_longestRun_9 : decode cX5_longestRun 9 = .ok (.getfield 10, 3) := by decide +kernel
theorem dX5_longestRun_12 : decode cX5_longestRun 12 = .ok (.iload_n 1, 1) := by decide +kernel
theorem dX5_longestRun_13 : decode cX5_longestRun 13 = .ok (.invokevirtual 81, 3) := by decide +kernel
theorem dX5_longestRun_16 : decode cX5_longestRun 16 = .ok (.aload_n 0, 1) := by decide +kernel
theorem dX5_longestRun_17 : decode cX5_longestRun 17 = .ok (.getfield 10, 3) := by decide +kernel
theorem dX5_longestRun_20 : decode cX5_longestRun 20 = .ok (.iload_n 2, 1) := by decide +kernel
theorem dX5_longestRun_21 : decode cX5_longestRun 21 = .ok (.invokevirtual 81, 3) := by decide +kernel
theorem dX5_longestRun_24 : decode cX5_longestRun 24 = .ok (.invokestatic 193, 3) := by decide +kernel
theorem dX5_longestRun_27 : decode cX5_longestRun 27 = .ok (.istore_n 3, 1) := by decide +kernel
theorem dX5_longestRun_28 : decode cX5_longestRun 28 = .ok (.iconst 0, 1) := by decide +kernel
theorem dX5_longestRun_29 : decode cX5_longestRun 29 = .ok (.istore 4, 2) := by decide +kernel
theorem dX5_longestRun_31 : decode cX5_longestRun 31 = .ok (.iconst 0, 1) := by decide +kernel
theorem dX5_longestRun_32 : decode cX5_longestRun 32 = .ok (.istore 5, 2) := by decide +kernel
theorem dX5_longestRun_34 : decode cX5_longestRun 34 = .ok (.iconst 0, 1) := by decide +kernel
theorem dX5_longestRun_35 : decode cX5_longestRun 35 = .ok (.istore 6, 2) := by decide +kernel
theorem dX5_longestRun_37 : decode cX5_longestRun 37 = .ok (.iload 6, 2) := by decide +kernel
theorem dX5_longestRun_39 : decode cX5_longestRun 39 = .ok (.aload_n 0, 1) := by decide +kernel
theorem dX5_longestRun_40 : decode cX5_longestRun 40 = .ok (.getfield 10, 3) := by decide +kernel
theorem dX5_longestRun_43 : decode cX5_longestRun 43 = .ok (.getfield 47, 3) := by decide +kernel
theorem dX5_longestRun_46 : decode cX5_longestRun 46 = .ok (.if_icmp .ge 38, 3) := by decide +kernel
theorem dX5_longestRun_49 : decode cX5_longestRun 49 = .ok (.iload_n 3, 1) := by decide +kernel
theorem dX5_longestRun_50 : decode cX5_longestRun 50 = .ok (.iload 6, 2) := by decide +kernel
theorem dX5_longestRun_52 : decode cX5_longestRun 52 = .ok (.invokestatic 181, 3) := by decide +kernel
theorem dX5_longestRun_55 : decode cX5_longestRun 55 = .ok (.iconst 1, 1) := by decide +kernel
theorem dX5_longestRun_56 : decode cX5_longestRun 56 = .ok (.if_icmp .ne 10, 3) := by decide +kernel
theorem dX5_longestRun_59 : decode cX5_longestRun 59 = .ok (.iload 5, 2) := by decide +kernel
theorem dX5_longestRun_61 : decode cX5_longestRun 61 = .ok (.iconst 1, 1) := by decide +kernel
theorem dX5_longestRun_62 : decode cX5_longestRun 62 = .ok (.iadd, 1) := by decide +kernel
theorem dX5_longestRun_63 : decode cX5_longestRun 63 = .ok (.goto 4, 3) := by decide +kernel
theorem dX5_longestRun_66 : decode cX5_longestRun 66 = .ok (.iconst 0, 1) := by decide +kernel
theorem dX5_longestRun_67 : decode cX5_longestRun 67 = .ok (.istore 5, 2) := by decide +kernel
theorem dX5_longestRun_69 : decode cX5_longestRun 69 = .ok (.iload 4, 2) := by decide +kernel
theorem dX5_longestRun_71 : decode cX5_longestRun 71 = .ok (.iload 5, 2) := by decide +kernel
theorem dX5_longestRun_73 : decode cX5_longestRun 73 = .ok (.invokestatic 196, 3) := by decide +kernel
theorem dX5_longestRun_76 : decode cX5_longestRun 76 = .ok (.istore 4, 2) := by decide +kernel
theorem dX5_longestRun_78 : decode cX5_longestRun 78 = .ok (.iinc 6 1, 3) := by decide +kernel
theorem dX5_longestRun_81 : decode cX5_longestRun 81 = .ok (.goto (-44), 3) := by decide +kernel
theorem dX5_longestRun_84 : decode cX5_longestRun 84 = .ok (.iload 4, 2) := by decide +kernel
theorem dX5_longestRun_86 : decode cX5_longestRun 86 = .ok (.ireturn, 1) := by decide +kernel
theorem dX5_overflows_0 : decode cX5_overflows 0 = .ok (.aload_n 0, 1) := by decide +kernel
theorem dX5_overflows_1 : decode cX5_overflows 1 = .ok (.getfield 10, 3) := by decide +kernel
theorem dX5_overflows_4 : decode cX5_overflows 4 = .ok (.getfield 201, 3) := by decide +kernel
theorem dX5_overflows_7 : decode cX5_overflows 7 = .ok (.ireturn, 1) := by decide +kernel
theorem dX5_stepsMade_0 : decode cX5_stepsMade 0 = .ok (.aload_n 0, 1) := by decide +kernel
theorem dX5_stepsMade_1 : decode cX5_stepsMade 1 = .ok (.getfield 10, 3) := by decide +kernel
theorem dX5_stepsMade_4 : decode cX5_stepsMade 4 = .ok (.getfield 204, 3) := by decide +kernel
theorem dX5_stepsMade_7 : decode cX5_stepsMade 7 = .ok (.ireturn, 1) := by decide +kernel
theorem dX5_recordedStates_0 : decode cX5_recordedStates 0 = .ok (.aload_n 0, 1) := by decide +kernel
theorem dX5_recordedStates_1 : decode cX5_recordedStates 1 = .ok (.getfield 19, 3) := by decide +kernel
theorem dX5_recordedStates_4 : decode cX5_recordedStates 4 = .ok (.getfield 141, 3) := by decide +kernel
theorem dX5_recordedStates_7 : decode cX5_recordedStates 7 = .ok (.ireturn, 1) := by decide +kernel
set_option maxRecDepth 20000 in
theorem ggX5_checkRegister_X5_isRegister : GoodIn wsX5_checkRegister wsX5_isRegister := goodIn_r _ [6] rfl (by decide +kernel)
set_option maxRecDepth 20000 in
theorem gX5_checkRegister_X5_isRegister : GoodIn wsX5_checkRegister (va_wsS RX5 207 yX5_isRegister wsX5_isRegister) := goodIn_app (goodIn_of _ (by decide +kernel)) ggX5_checkRegister_X5_isRegister
theorem dX5_checkRegister_0 : decode cX5_checkRegister 0 = .ok (.iload_n 0, 1) := by decide +kernel
theorem dX5_checkRegister_1 : decode cX5_checkRegister 1 = .ok (.invokestatic 207, 3) := by decide +kernel
theorem dX5_checkRegister_4 : decode cX5_checkRegister 4 = .ok (.ifCond .ne 13, 3) := by decide +kernel
theorem dX5_checkRegister_7 : decode cX5_checkRegister 7 = .ok (.new 166, 3) := by decide +kernel
theorem dX5_checkRegister_10 : decode cX5_checkRegister 10 = .ok (.dup, 1) := by decide +kernel
theorem dX5_checkRegister_11 : decode cX5_checkRegister 11 = .ok (.ldc 210, 2) := by decide +kernel
theorem dX5_checkRegister_13 : decode cX5_checkRegister 13 = .ok (.invokespecial 170, 3) := by decide +kernel
theorem dX5_checkRegister_16 : decode cX5_checkRegister 16 = .ok (.athrow, 1) := by decide +kernel
theorem dX5_checkRegister_17 : decode cX5_checkRegister 17 = .ok (.return_, 1) := by decide +kernel
set_option maxRecDepth 20000 in
theorem ggX5_checkRecoding_X5_isRecoding : GoodIn wsX5_checkRecoding wsX5_isRecoding := goodIn_r _ [6] rfl (by decide +kernel)
set_option maxRecDepth 20000 in
theorem gX5_checkRecoding_X5_isRecoding : GoodIn wsX5_checkRecoding (va_wsS RX5 160 yX5_isRecoding wsX5_isRecoding) := goodIn_app (goodIn_of _ (by decide +kernel)) ggX5_checkRecoding_X5_isRecoding
theorem dX5_checkRecoding_0 : decode cX5_checkRecoding 0 = .ok (.iload_n 0, 1) := by decide +kernel
theorem dX5_checkRecoding_1 : decode cX5_checkRecoding 1 = .ok (.invokestatic 160, 3) := by decide +kernel
theorem dX5_checkRecoding_4 : decode cX5_checkRecoding 4 = .ok (.ifCond .ne 13, 3) := by decide +kernel
theorem dX5_checkRecoding_7 : decode cX5_checkRecoding 7 = .ok (.new 36, 3) := by decide +kernel
theorem dX5_checkRecoding_10 : decode cX5_checkRecoding 10 = .ok (.dup, 1) := by decide +kernel
theorem dX5_checkRecoding_11 : decode cX5_checkRecoding 11 = .ok (.ldc 212, 2) := by decide +kernel
theorem dX5_checkRecoding_13 : decode cX5_checkRecoding 13 = .ok (.invokespecial 40, 3) := by decide +kernel
theorem dX5_checkRecoding_16 : decode cX5_checkRecoding 16 = .ok (.athrow, 1) := by decide +kernel
theorem dX5_checkRecoding_17 : decode cX5_checkRecoding 17 = .ok (.return_, 1) := by decide +kernel
theorem dX5_checkRecodingSuitsWidth_0 : decode cX5_checkRecodingSuitsWidth 0 = .ok (.iload_n 1, 1) := by decide +kernel
theorem dX5_checkRecodingSuitsWidth_1 : decode cX5_checkRecodingSuitsWidth 1 = .ok (.iconst 1, 1) := by decide +kernel
theorem dX5_checkRecodingSuitsWidth_2 : decode cX5_checkRecodingSuitsWidth 2 = .ok (.if_icmp .ne 25, 3) := by decide +kernel
theorem dX5_checkRecodingSuitsWidth_5 : decode cX5_checkRecodingSuitsWidth 5 = .ok (.aload_n 0, 1) := by decide +kernel
theorem dX5_checkRecodingSuitsWidth_6 : decode cX5_checkRecodingSuitsWidth 6 = .ok (.getfield 10, 3) := by decide +kernel
theorem dX5_checkRecodingSuitsWidth_9 : decode cX5_checkRecodingSuitsWidth 9 = .ok (.getfield 47, 3) := by decide +kernel
theorem dX5_checkRecodingSuitsWidth_12 : decode cX5_checkRecodingSuitsWidth 12 = .ok (.iconst 2, 1) := by decide +kernel
theorem dX5_checkRecodingSuitsWidth_13 : decode cX5_checkRecodingSuitsWidth 13 = .ok (.irem, 1) := by decide +kernel
theorem dX5_checkRecodingSuitsWidth_14 : decode cX5_checkRecodingSuitsWidth 14 = .ok (.ifCond .eq 13, 3) := by decide +kernel
theorem dX5_checkRecodingSuitsWidth_17 : decode cX5_checkRecodingSuitsWidth 17 = .ok (.new 93, 3) := by decide +kernel
theorem dX5_checkRecodingSuitsWidth_20 : decode cX5_checkRecodingSuitsWidth 20 = .ok (.dup, 1) := by decide +kernel
theorem dX5_checkRecodingSuitsWidth_21 : decode cX5_checkRecodingSuitsWidth 21 = .ok (.ldc 214, 2) := by decide +kernel
theorem dX5_checkRecodingSuitsWidth_23 : decode cX5_checkRecodingSuitsWidth 23 = .ok (.invokespecial 97, 3) := by decide +kernel
theorem dX5_checkRecodingSuitsWidth_26 : decode cX5_checkRecodingSuitsWidth 26 = .ok (.athrow, 1) := by decide +kernel
theorem dX5_checkRecodingSuitsWidth_27 : decode cX5_checkRecodingSuitsWidth 27 = .ok (.return_, 1) := by decide +kernel
theorem dX5_checkMultiplying_0 : decode cX5_checkMultiplying 0 = .ok (.aload_n 0, 1) := by decide +kernel
theorem dX5_checkMultiplying_1 : decode cX5_checkMultiplying 1 = .ok (.getfield 10, 3) := by decide +kernel
theorem dX5_checkMultiplying_4 : decode cX5_checkMultiplying 4 = .ok (.getfield 77, 3) := by decide +kernel
theorem dX5_checkMultiplying_7 : decode cX5_checkMultiplying 7 = .ok (.getfield 90, 3) := by decide +kernel
theorem dX5_checkMultiplying_10 : decode cX5_checkMultiplying 10 = .ok (.iconst (-1), 1) := by decide +kernel
theorem dX5_checkMultiplying_11 : decode cX5_checkMultiplying 11 = .ok (.if_icmp .ne 13, 3) := by decide +kernel
theorem dX5_checkMultiplying_14 : decode cX5_checkMultiplying 14 = .ok (.new 93, 3) := by decide +kernel
theorem dX5_checkMultiplying_17 : decode cX5_checkMultiplying 17 = .ok (.dup, 1) := by decide +kernel
theorem dX5_checkMultiplying_18 : decode cX5_checkMultiplying 18 = .ok (.ldc 216, 2) := by decide +kernel
theorem dX5_checkMultiplying_20 : decode cX5_checkMultiplying 20 = .ok (.invokespecial 97, 3) := by decide +kernel
theorem dX5_checkMultiplying_23 : decode cX5_checkMultiplying 23 = .ok (.athrow, 1) := by decide +kernel
theorem dX5_checkMultiplying_24 : decode cX5_checkMultiplying 24 = .ok (.return_, 1) := by decide +kernel
theorem dX5_isRegister_0 : decode cX5_isRegister 0 = .ok (.iload_n 0, 1) := by decide +kernel
theorem dX5_isRegister_1 : decode cX5_isRegister 1 = .ok (.ifCond .lt 13, 3) := by decide +kernel
theorem dX5_isRegister_4 : decode cX5_isRegister 4 = .ok (.iload_n 0, 1) := by decide +kernel
theorem dX5_isRegister_5 : decode cX5_isRegister 5 = .ok (.bipush 6, 2) := by decide +kernel
theorem dX5_isRegister_7 : decode cX5_isRegister 7 = .ok (.if_icmp .ge 7, 3) := by decide +kernel
theorem dX5_isRegister_10 : decode cX5_isRegister 10 = .ok (.iconst 1, 1) := by decide +kernel
theorem dX5_isRegister_11 : decode cX5_isRegister 11 = .ok (.goto 4, 3) := by decide +kernel
theorem dX5_isRegister_14 : decode cX5_isRegister 14 = .ok (.iconst 0, 1) := by decide +kernel
theorem dX5_isRegister_15 : decode cX5_isRegister 15 = .ok (.ireturn, 1) := by decide +kernel
theorem dX5_isRecoding_0 : decode cX5_isRecoding 0 = .ok (.iload_n 0, 1) := by decide +kernel
theorem dX5_isRecoding_1 : decode cX5_isRecoding 1 = .ok (.ifCond .eq 13, 3) := by decide +kernel
theorem dX5_isRecoding_4 : decode cX5_isRecoding 4 = .ok (.iload_n 0, 1) := by decide +kernel
theorem dX5_isRecoding_5 : decode cX5_isRecoding 5 = .ok (.iconst 1, 1) := by decide +kernel
theorem dX5_isRecoding_6 : decode cX5_isRecoding 6 = .ok (.if_icmp .eq 8, 3) := by decide +kernel
theorem dX5_isRecoding_9 : decode cX5_isRecoding 9 = .ok (.iload_n 0, 1) := by decide +kernel
theorem dX5_isRecoding_10 : decode cX5_isRecoding 10 = .ok (.iconst 2, 1) := by decide +kernel
theorem dX5_isRecoding_11 : decode cX5_isRecoding 11 = .ok (.if_icmp .ne 7, 3) := by decide +kernel
theorem dX5_isRecoding_14 : decode cX5_isRecoding 14 = .ok (.iconst 1, 1) := by decide +kernel
theorem dX5_isRecoding_15 : decode cX5_isRecoding 15 = .ok (.goto 4, 3) := by decide +kernel
theorem dX5_isRecoding_18 : decode cX5_isRecoding 18 = .ok (.iconst 0, 1) := by decide +kernel
theorem dX5_isRecoding_19 : decode cX5_isRecoding 19 = .ok (.ireturn, 1) := by decide +kernel
theorem dX5_bit_0 : decode cX5_bit 0 = .ok (.iload_n 0, 1) := by decide +kernel
theorem dX5_bit_1 : decode cX5_bit 1 = .ok (.iload_n 1, 1) := by decide +kernel
theorem dX5_bit_2 : decode cX5_bit 2 = .ok (.ishr, 1) := by decide +kernel
theorem dX5_bit_3 : decode cX5_bit 3 = .ok (.iconst 1, 1) := by decide +kernel
theorem dX5_bit_4 : decode cX5_bit 4 = .ok (.iand, 1) := by decide +kernel
theorem dX5_bit_5 : decode cX5_bit 5 = .ok (.ireturn, 1) := by decide +kernel
theorem dX5_bitsPerDigit_0 : decode cX5_bitsPerDigit 0 = .ok (.iload_n 0, 1) := by decide +kernel
theorem dX5_bitsPerDigit_1 : decode cX5_bitsPerDigit 1 = .ok (.iconst 1, 1) := by decide +kernel
theorem dX5_bitsPerDigit_2 : decode cX5_bitsPerDigit 2 = .ok (.if_icmp .ne 7, 3) := by decide +kernel
theorem dX5_bitsPerDigit_5 : decode cX5_bitsPerDigit 5 = .ok (.iconst 2, 1) := by decide +kernel
theorem dX5_bitsPerDigit_6 : decode cX5_bitsPerDigit 6 = .ok (.goto 4, 3) := by decide +kernel
theorem dX5_bitsPerDigit_9 : decode cX5_bitsPerDigit 9 = .ok (.iconst 1, 1) := by decide +kernel
theorem dX5_bitsPerDigit_10 : decode cX5_bitsPerDigit 10 = .ok (.ireturn, 1) := by decide +kernel
theorem dX5_digitCount_0 : decode cX5_digitCount 0 = .ok (.iload_n 0, 1) := by decide +kernel
theorem dX5_digitCount_1 : decode cX5_digitCount 1 = .ok (.iconst 1, 1) := by decide +kernel
theorem dX5_digitCount_2 : decode cX5_digitCount 2 = .ok (.if_icmp .ne 9, 3) := by decide +kernel
theorem dX5_digitCount_5 : decode cX5_digitCount 5 = .ok (.iload_n 1, 1) := by decide +kernel
theorem dX5_digitCount_6 : decode cX5_digitCount 6 = .ok (.iconst 2, 1) := by decide +kernel
theorem dX5_digitCount_7 : decode cX5_digitCount 7 = .ok (.idiv, 1) := by decide +kernel
theorem dX5_digitCount_8 : decode cX5_digitCount 8 = .ok (.goto 4, 3) := by decide +kernel
theorem dX5_digitCount_11 : decode cX5_digitCount 11 = .ok (.iload_n 1, 1) := by decide +kernel
theorem dX5_digitCount_12 : decode cX5_digitCount 12 = .ok (.ireturn, 1) := by decide +kernel
set_option maxRecDepth 20000 in
theorem ggX5_digit_X5_bit : GoodIn wsX5_digit wsX5_bit := goodIn_r _ [4] rfl (by decide +kernel)
set_option maxRecDepth 20000 in
theorem gX5_digit_X5_bit : GoodIn wsX5_digit (va_wsS RX5 181 yX5_bit wsX5_bit) := goodIn_app (goodIn_of _ (by decide +kernel)) ggX5_digit_X5_bit
theorem dX5_digit_0 : decode cX5_digit 0 = .ok (.iload_n 0, 1) := by decide +kernel
theorem dX5_digit_1 : decode cX5_digit 1 = .ok (.iconst 1, 1) := by decide +kernel
theorem dX5_digit_2 : decode cX5_digit 2 = .ok (.ishl, 1) := by decide +kernel
theorem dX5_digit_3 : decode cX5_digit 3 = .ok (.istore_n 3, 1) := by decide +kernel
theorem dX5_digit_4 : decode cX5_digit 4 = .ok (.iload_n 1, 1) := by decide +kernel
theorem dX5_digit_5 : decode cX5_digit 5 = .ok (.lookupswitch 71 #[(0, 27), (1, 41)], 27) := by decide +kernel
theorem dX5_digit_32 : decode cX5_digit 32 = .ok (.iload_n 3, 1) := by decide +kernel
theorem dX5_digit_33 : decode cX5_digit 33 = .ok (.iload_n 2, 1) := by decide +kernel
theorem dX5_digit_34 : decode cX5_digit 34 = .ok (.invokestatic 181, 3) := by decide +kernel
theorem dX5_digit_37 : decode cX5_digit 37 = .ok (.iload_n 3, 1) := by decide +kernel
theorem dX5_digit_38 : decode cX5_digit 38 = .ok (.iload_n 2, 1) := by decide +kernel
theorem dX5_digit_39 : decode cX5_digit 39 = .ok (.iconst 1, 1) := by decide +kernel
theorem dX5_digit_40 : decode cX5_digit 40 = .ok (.iadd, 1) := by decide +kernel
theorem dX5_digit_41 : decode cX5_digit 41 = .ok (.invokestatic 181, 3) := by decide +kernel
theorem dX5_digit_44 : decode cX5_digit 44 = .ok (.isub, 1) := by decide +kernel
theorem dX5_digit_45 : decode cX5_digit 45 = .ok (.ireturn, 1) := by decide +kernel
theorem dX5_digit_46 : decode cX5_digit 46 = .ok (.iload_n 3, 1) := by decide +kernel
theorem dX5_digit_47 : decode cX5_digit 47 = .ok (.iconst 2, 1) := by decide +kernel
theorem dX5_digit_48 : decode cX5_digit 48 = .ok (.iload_n 2, 1) := by decide +kernel
theorem dX5_digit_49 : decode cX5_digit 49 = .ok (.imul, 1) := by decide +kernel
theorem dX5_digit_50 : decode cX5_digit 50 = .ok (.invokestatic 181, 3) := by decide +kernel
theorem dX5_digit_53 : decode cX5_digit 53 = .ok (.iload_n 3, 1) := by decide +kernel
theorem dX5_digit_54 : decode cX5_digit 54 = .ok (.iconst 2, 1) := by decide +kernel
theorem dX5_digit_55 : decode cX5_digit 55 = .ok (.iload_n 2, 1) := by decide +kernel
theorem dX5_digit_56 : decode cX5_digit 56 = .ok (.imul, 1) := by decide +kernel
theorem dX5_digit_57 : decode cX5_digit 57 = .ok (.iconst 1, 1) := by decide +kernel
theorem dX5_digit_58 : decode cX5_digit 58 = .ok (.iadd, 1) := by decide +kernel
theorem dX5_digit_59 : decode cX5_digit 59 = .ok (.invokestatic 181, 3) := by decide +kernel
theorem dX5_digit_62 : decode cX5_digit 62 = .ok (.iadd, 1) := by decide +kernel
theorem dX5_digit_63 : decode cX5_digit 63 = .ok (.iconst 2, 1) := by decide +kernel
theorem dX5_digit_64 : decode cX5_digit 64 = .ok (.iload_n 3, 1) := by decide +kernel
theorem dX5_digit_65 : decode cX5_digit 65 = .ok (.iconst 2, 1) := by decide +kernel
theorem dX5_digit_66 : decode cX5_digit 66 = .ok (.iload_n 2, 1) := by decide +kernel
theorem dX5_digit_67 : decode cX5_digit 67 = .ok (.imul, 1) := by decide +kernel
theorem dX5_digit_68 : decode cX5_digit 68 = .ok (.iconst 2, 1) := by decide +kernel
theorem dX5_digit_69 : decode cX5_digit 69 = .ok (.iadd, 1) := by decide +kernel
theorem dX5_digit_70 : decode cX5_digit 70 = .ok (.invokestatic 181, 3) := by decide +kernel
theorem dX5_digit_73 : decode cX5_digit 73 = .ok (.imul, 1) := by decide +kernel
theorem dX5_digit_74 : decode cX5_digit 74 = .ok (.isub, 1) := by decide +kernel
theorem dX5_digit_75 : decode cX5_digit 75 = .ok (.ireturn, 1) := by decide +kernel
theorem dX5_digit_76 : decode cX5_digit 76 = .ok (.iconst 3, 1) := by decide +kernel
theorem dX5_digit_77 : decode cX5_digit 77 = .ok (.iload_n 0, 1) := by decide +kernel
theorem dX5_digit_78 : decode cX5_digit 78 = .ok (.imul, 1) := by decide +kernel
theorem dX5_digit_79 : decode cX5_digit 79 = .ok (.iload_n 2, 1) := by decide +kernel
theorem dX5_digit_80 : decode cX5_digit 80 = .ok (.iconst 1, 1) := by decide +kernel
theorem dX5_digit_81 : decode cX5_digit 81 = .ok (.iadd, 1) := by decide +kernel
theorem dX5_digit_82 : decode cX5_digit 82 = .ok (.invokestatic 181, 3) := by decide +kernel
theorem dX5_digit_85 : decode cX5_digit 85 = .ok (.iload_n 0, 1) := by decide +kernel
theorem dX5_digit_86 : decode cX5_digit 86 = .ok (.iload_n 2, 1) := by decide +kernel
theorem dX5_digit_87 : decode cX5_digit 87 = .ok (.iconst 1, 1) := by decide +kernel
theorem dX5_digit_88 : decode cX5_digit 88 = .ok (.iadd, 1) := by decide +kernel
theorem dX5_digit_89 : decode cX5_digit 89 = .ok (.invokestatic 181, 3) := by decide +kernel
theorem dX5_digit_92 : decode cX5_digit 92 = .ok (.isub, 1) := by decide +kernel
theorem dX5_digit_93 : decode cX5_digit 93 = .ok (.ireturn, 1) := by decide +kernel
theorem dX5_carryBits_0 : decode cX5_carryBits 0 = .ok (.iload_n 0, 1) := by decide +kernel
theorem dX5_carryBits_1 : decode cX5_carryBits 1 = .ok (.iload_n 1, 1) := by decide +kernel
theorem dX5_carryBits_2 : decode cX5_carryBits 2 = .ok (.ixor, 1) := by decide +kernel
theorem dX5_carryBits_3 : decode cX5_carryBits 3 = .ok (.iload_n 0, 1) := by decide +kernel
theorem dX5_carryBits_4 : decode cX5_carryBits 4 = .ok (.iload_n 1, 1) := by decide +kernel
theorem dX5_carryBits_5 : decode cX5_carryBits 5 = .ok (.iadd, 1) := by decide +kernel
theorem dX5_carryBits_6 : decode cX5_carryBits 6 = .ok (.ixor, 1) := by decide +kernel
theorem dX5_carryBits_7 : decode cX5_carryBits 7 = .ok (.iconst 1, 1) := by decide +kernel
theorem dX5_carryBits_8 : decode cX5_carryBits 8 = .ok (.ishr, 1) := by decide +kernel
theorem dX5_carryBits_9 : decode cX5_carryBits 9 = .ok (.ireturn, 1) := by decide +kernel
theorem dJ6_bitCount_0f7a4_0 : decode cJ6_bitCount_0f7a4 0 = .ok (.iload_n 0, 1) := by decide +kernel
theorem dJ6_bitCount_0f7a4_1 : decode cJ6_bitCount_0f7a4 1 = .ok (.iload_n 0, 1) := by decide +kernel
theorem dJ6_bitCount_0f7a4_2 : decode cJ6_bitCount_0f7a4 2 = .ok (.iconst 1, 1) := by decide +kernel
theorem dJ6_bitCount_0f7a4_3 : decode cJ6_bitCount_0f7a4 3 = .ok (.iushr, 1) := by decide +kernel
theorem dJ6_bitCount_0f7a4_4 : decode cJ6_bitCount_0f7a4 4 = .ok (.ldc_w 265, 3) := by decide +kernel
theorem dJ6_bitCount_0f7a4_7 : decode cJ6_bitCount_0f7a4 7 = .ok (.iand, 1) := by decide +kernel
theorem dJ6_bitCount_0f7a4_8 : decode cJ6_bitCount_0f7a4 8 = .ok (.isub, 1) := by decide +kernel
theorem dJ6_bitCount_0f7a4_9 : decode cJ6_bitCount_0f7a4 9 = .ok (.istore_n 0, 1) := by decide +kernel
theorem dJ6_bitCount_0f7a4_10 : decode cJ6_bitCount_0f7a4 10 = .ok (.iload_n 0, 1) := by decide +kernel
theorem dJ6_bitCount_0f7a4_11 : decode cJ6_bitCount_0f7a4 11 = .ok (.ldc_w 266, 3) := by decide +kernel
theorem dJ6_bitCount_0f7a4_14 : decode cJ6_bitCount_0f7a4 14 = .ok (.iand, 1) := by decide +kernel
theorem dJ6_bitCount_0f7a4_15 : decode cJ6_bitCount_0f7a4 15 = .ok (.iload_n 0, 1) := by decide +kernel
theorem dJ6_bitCount_0f7a4_16 : decode cJ6_bitCount_0f7a4 16 = .ok (.iconst 2, 1) := by decide +kernel
theorem dJ6_bitCount_0f7a4_17 : decode cJ6_bitCount_0f7a4 17 = .ok (.iushr, 1) := by decide +kernel
theorem dJ6_bitCount_0f7a4_18 : decode cJ6_bitCount_0f7a4 18 = .ok (.ldc_w 266, 3) := by decide +kernel
theorem dJ6_bitCount_0f7a4_21 : decode cJ6_bitCount_0f7a4 21 = .ok (.iand, 1) := by decide +kernel
theorem dJ6_bitCount_0f7a4_22 : decode cJ6_bitCount_0f7a4 22 = .ok (.iadd, 1) := by decide +kernel
theorem dJ6_bitCount_0f7a4_23 : decode cJ6_bitCount_0f7a4 23 = .ok (.istore_n 0, 1) := by decide +kernel
theorem dJ6_bitCount_0f7a4_24 : decode cJ6_bitCount_0f7a4 24 = .ok (.iload_n 0, 1) := by decide +kernel
theorem dJ6_bitCount_0f7a4_25 : decode cJ6_bitCount_0f7a4 25 = .ok (.iload_n 0, 1) := by decide +kernel
theorem dJ6_bitCount_0f7a4_26 : decode cJ6_bitCount_0f7a4 26 = .ok (.iconst 4, 1) := by decide +kernel
theorem dJ6_bitCount_0f7a4_27 : decode cJ6_bitCount_0f7a4 27 = .ok (.iushr, 1) := by decide +kernel
theorem dJ6_bitCount_0f7a4_28 : decode cJ6_bitCount_0f7a4 28 = .ok (.iadd, 1) := by decide +kernel
theorem dJ6_bitCount_0f7a4_29 : decode cJ6_bitCount_0f7a4 29 = .ok (.ldc_w 267, 3) := by decide +kernel
theorem dJ6_bitCount_0f7a4_32 : decode cJ6_bitCount_0f7a4 32 = .ok (.iand, 1) := by decide +kernel
theorem dJ6_bitCount_0f7a4_33 : decode cJ6_bitCount_0f7a4 33 = .ok (.istore_n 0, 1) := by decide +kernel
theorem dJ6_bitCount_0f7a4_34 : decode cJ6_bitCount_0f7a4 34 = .ok (.iload_n 0, 1) := by decide +kernel
theorem dJ6_bitCount_0f7a4_35 : decode cJ6_bitCount_0f7a4 35 = .ok (.iload_n 0, 1) := by decide +kernel
theorem dJ6_bitCount_0f7a4_36 : decode cJ6_bitCount_0f7a4 36 = .ok (.bipush 8, 2) := by decide +kernel
theorem dJ6_bitCount_0f7a4_38 : decode cJ6_bitCount_0f7a4 38 = .ok (.iushr, 1) := by decide +kernel
theorem dJ6_bitCount_0f7a4_39 : decode cJ6_bitCount_0f7a4 39 = .ok (.iadd, 1) := by decide +kernel
theorem dJ6_bitCount_0f7a4_40 : decode cJ6_bitCount_0f7a4 40 = .ok (.istore_n 0, 1) := by decide +kernel
theorem dJ6_bitCount_0f7a4_41 : decode cJ6_bitCount_0f7a4 41 = .ok (.iload_n 0, 1) := by decide +kernel
theorem dJ6_bitCount_0f7a4_42 : decode cJ6_bitCount_0f7a4 42 = .ok (.iload_n 0, 1) := by decide +kernel
theorem dJ6_bitCount_0f7a4_43 : decode cJ6_bitCount_0f7a4 43 = .ok (.bipush 16, 2) := by decide +kernel
theorem dJ6_bitCount_0f7a4_45 : decode cJ6_bitCount_0f7a4 45 = .ok (.iushr, 1) := by decide +kernel
theorem dJ6_bitCount_0f7a4_46 : decode cJ6_bitCount_0f7a4 46 = .ok (.iadd, 1) := by decide +kernel
theorem dJ6_bitCount_0f7a4_47 : decode cJ6_bitCount_0f7a4 47 = .ok (.istore_n 0, 1) := by decide +kernel
theorem dJ6_bitCount_0f7a4_48 : decode cJ6_bitCount_0f7a4 48 = .ok (.iload_n 0, 1) := by decide +kernel
theorem dJ6_bitCount_0f7a4_49 : decode cJ6_bitCount_0f7a4 49 = .ok (.bipush 63, 2) := by decide +kernel
theorem dJ6_bitCount_0f7a4_51 : decode cJ6_bitCount_0f7a4 51 = .ok (.iand, 1) := by decide +kernel
theorem dJ6_bitCount_0f7a4_52 : decode cJ6_bitCount_0f7a4 52 = .ok (.ireturn, 1) := by decide +kernel
theorem dJ9_floorMod_7cf53_0 : decode cJ9_floorMod_7cf53 0 = .ok (.iload_n 0, 1) := by decide +kernel
theorem dJ9_floorMod_7cf53_1 : decode cJ9_floorMod_7cf53 1 = .ok (.iload_n 1, 1) := by decide +kernel
theorem dJ9_floorMod_7cf53_2 : decode cJ9_floorMod_7cf53 2 = .ok (.irem, 1) := by decide +kernel
theorem dJ9_floorMod_7cf53_3 : decode cJ9_floorMod_7cf53 3 = .ok (.istore_n 2, 1) := by decide +kernel
theorem dJ9_floorMod_7cf53_4 : decode cJ9_floorMod_7cf53 4 = .ok (.iload_n 0, 1) := by decide +kernel
theorem dJ9_floorMod_7cf53_5 : decode cJ9_floorMod_7cf53 5 = .ok (.iload_n 1, 1) := by decide +kernel
theorem dJ9_floorMod_7cf53_6 : decode cJ9_floorMod_7cf53 6 = .ok (.ixor, 1) := by decide +kernel
theorem dJ9_floorMod_7cf53_7 : decode cJ9_floorMod_7cf53 7 = .ok (.ifCond .ge 11, 3) := by decide +kernel
theorem dJ9_floorMod_7cf53_10 : decode cJ9_floorMod_7cf53 10 = .ok (.iload_n 2, 1) := by decide +kernel
theorem dJ9_floorMod_7cf53_11 : decode cJ9_floorMod_7cf53 11 = .ok (.ifCond .eq 7, 3) := by decide +kernel
theorem dJ9_floorMod_7cf53_14 : decode cJ9_floorMod_7cf53 14 = .ok (.iload_n 2, 1) := by decide +kernel
theorem dJ9_floorMod_7cf53_15 : decode cJ9_floorMod_7cf53 15 = .ok (.iload_n 1, 1) := by decide +kernel
theorem dJ9_floorMod_7cf53_16 : decode cJ9_floorMod_7cf53 16 = .ok (.iadd, 1) := by decide +kernel
theorem dJ9_floorMod_7cf53_17 : decode cJ9_floorMod_7cf53 17 = .ok (.ireturn, 1) := by decide +kernel
theorem dJ9_floorMod_7cf53_18 : decode cJ9_floorMod_7cf53 18 = .ok (.iload_n 2, 1) := by decide +kernel
theorem dJ9_floorMod_7cf53_19 : decode cJ9_floorMod_7cf53 19 = .ok (.ireturn, 1) := by decide +kernel
theorem dJ9_max_7cf53_0 : decode cJ9_max_7cf53 0 = .ok (.iload_n 0, 1) := by decide +kernel
theorem dJ9_max_7cf53_1 : decode cJ9_max_7cf53 1 = .ok (.iload_n 1, 1) := by decide +kernel
theorem dJ9_max_7cf53_2 : decode cJ9_max_7cf53 2 = .ok (.if_icmp .lt 7, 3) := by decide +kernel
theorem dJ9_max_7cf53_5 : decode cJ9_max_7cf53 5 = .ok (.iload_n 0, 1) := by decide +kernel
theorem dJ9_max_7cf53_6 : decode cJ9_max_7cf53 6 = .ok (.goto 4, 3) := by decide +kernel
theorem dJ9_max_7cf53_9 : decode cJ9_max_7cf53 9 = .ok (.iload_n 1, 1) := by decide +kernel
theorem dJ9_max_7cf53_10 : decode cJ9_max_7cf53 10 = .ok (.ireturn, 1) := by decide +kernel
theorem dJ9_min_7cf53_0 : decode cJ9_min_7cf53 0 = .ok (.iload_n 0, 1) := by decide +kernel
theorem dJ9_min_7cf53_1 : decode cJ9_min_7cf53 1 = .ok (.iload_n 1, 1) := by decide +kernel
theorem dJ9_min_7cf53_2 : decode cJ9_min_7cf53 2 = .ok (.if_icmp .gt 7, 3) := by decide +kernel
theorem dJ9_min_7cf53_5 : decode cJ9_min_7cf53 5 = .ok (.iload_n 0, 1) := by decide +kernel
theorem dJ9_min_7cf53_6 : decode cJ9_min_7cf53 6 = .ok (.goto 4, 3) := by decide +kernel
theorem dJ9_min_7cf53_9 : decode cJ9_min_7cf53 9 = .ok (.iload_n 1, 1) := by decide +kernel
theorem dJ9_min_7cf53_10 : decode cJ9_min_7cf53 10 = .ok (.ireturn, 1) := by decide +kernel
theorem dL_cell_0 : decode cL_cell 0 = .ok (.iload_n 1, 1) := by decide +kernel
theorem dL_cell_1 : decode cL_cell 1 = .ok (.aload_n 0, 1) := by decide +kernel
theorem dL_cell_2 : decode cL_cell 2 = .ok (.arraylength, 1) := by decide +kernel
theorem dL_cell_3 : decode cL_cell 3 = .ok (.if_icmp .ge 9, 3) := by decide +kernel
theorem dL_cell_6 : decode cL_cell 6 = .ok (.aload_n 0, 1) := by decide +kernel
theorem dL_cell_7 : decode cL_cell 7 = .ok (.iload_n 1, 1) := by decide +kernel
theorem dL_cell_8 : decode cL_cell 8 = .ok (.iaload, 1) := by decide +kernel
theorem dL_cell_9 : decode cL_cell 9 = .ok (.goto 15, 3) := by decide +kernel
theorem dL_cell_12 : decode cL_cell 12 = .ok (.sipush 7919, 3) := by decide +kernel
theorem dL_cell_15 : decode cL_cell 15 = .ok (.iload_n 1, 1) := by decide +kernel
theorem dL_cell_16 : decode cL_cell 16 = .ok (.iconst 3, 1) := by decide +kernel
theorem dL_cell_17 : decode cL_cell 17 = .ok (.iadd, 1) := by decide +kernel
theorem dL_cell_18 : decode cL_cell 18 = .ok (.imul, 1) := by decide +kernel
theorem dL_cell_19 : decode cL_cell 19 = .ok (.iload_n 1, 1) := by decide +kernel
theorem dL_cell_20 : decode cL_cell 20 = .ok (.bipush 11, 2) := by decide +kernel
theorem dL_cell_22 : decode cL_cell 22 = .ok (.iadd, 1) := by decide +kernel
theorem dL_cell_23 : decode cL_cell 23 = .ok (.imul, 1) := by decide +kernel
theorem dL_cell_24 : decode cL_cell 24 = .ok (.ireturn, 1) := by decide +kernel
theorem dL_low_0 : decode cL_low 0 = .ok (.iload_n 0, 1) := by decide +kernel
theorem dL_low_1 : decode cL_low 1 = .ok (.ldc 7, 2) := by decide +kernel
theorem dL_low_3 : decode cL_low 3 = .ok (.iand, 1) := by decide +kernel
theorem dL_low_4 : decode cL_low 4 = .ok (.iload_n 1, 1) := by decide +kernel
theorem dL_low_5 : decode cL_low 5 = .ok (.irem, 1) := by decide +kernel
theorem dL_low_6 : decode cL_low 6 = .ok (.ireturn, 1) := by decide +kernel
set_option maxRecDepth 20000 in
theorem ggL_told_X5_width : GoodIn wsL_told wsX5_width := goodIn_r _ [7, 8, 9, 65, 66, 67, 68, 69, 70, 71, 72, 73, 74, 75] rfl (by decide +kernel)
set_option maxRecDepth 20000 in
theorem gL_told_X5_width : GoodIn wsL_told (wsV RL 12 RX5 yX5_width wsX5_width) := goodIn_app (goodIn_of _ (by decide +kernel)) ggL_told_X5_width
set_option maxRecDepth 20000 in
theorem ggL_told_X5_stepsLeft : GoodIn wsL_told wsX5_stepsLeft := goodIn_r _ [13, 8, 14, 15, 65, 66, 67, 68, 69, 70, 71, 72, 73, 74, 75, 76, 77, 78, 79, 80, 81, 82] rfl (by decide +kernel)
set_option maxRecDepth 20000 in
theorem gL_told_X5_stepsLeft : GoodIn wsL_told (wsV RL 18 RX5 yX5_stepsLeft wsX5_stepsLeft) := goodIn_app (goodIn_of _ (by decide +kernel)) ggL_told_X5_stepsLeft
set_option maxRecDepth 20000 in
theorem ggL_told_X5_overflows : GoodIn wsL_told wsX5_overflows := goodIn_r _ [19, 8, 20, 65, 66, 67, 68, 69, 70, 71, 72, 73, 74, 75] rfl (by decide +kernel)
set_option maxRecDepth 20000 in
theorem gL_told_X5_overflows : GoodIn wsL_told (wsV RL 21 RX5 yX5_overflows wsX5_overflows) := goodIn_app (goodIn_of _ (by decide +kernel)) ggL_told_X5_overflows
set_option maxRecDepth 20000 in
theorem ggL_told_X5_valueOf : GoodIn wsL_told wsX5_valueOf := goodIn_ca (goodIn_r _ [24, 8, 25, 26, 6, 27, 28, 29, 30, 31, 32, 33, 34, 35, 36, 37, 38, 65, 66, 67, 68, 69, 70, 71, 72, 73, 74, 75] rfl (by decide +kernel)) (goodIn_sub (fun _ h => List.mem_cons_of_mem _ (List.mem_append_left _ (List.mem_append_right _ h))) (by decide +kernel))
set_option maxRecDepth 20000 in
theorem gL_told_X5_valueOf : GoodIn wsL_told (wsV RL 24 RX5 yX5_valueOf wsX5_valueOf) := goodIn_app (goodIn_of _ (by decide +kernel)) ggL_told_X5_valueOf
set_option maxRecDepth 20000 in
theorem ggL_told_X5_highPart : GoodIn wsL_told wsX5_highPart := goodIn_ca (goodIn_r _ [42, 8, 14, 43, 44, 45, 46, 6, 47, 48, 49, 15, 65, 66, 67, 68, 69, 70, 71, 72, 73, 74, 75, 76, 77, 78, 79, 80, 81, 82] rfl (by decide +kernel)) (goodIn_sub (fun _ h => List.mem_cons_of_mem _ (List.mem_append_right _ h)) (by decide +kernel))
set_option maxRecDepth 20000 in
theorem gL_told_X5_highPart : GoodIn wsL_told (wsV RL 28 RX5 yX5_highPart wsX5_highPart) := goodIn_app (goodIn_of _ (by decide +kernel)) ggL_told_X5_highPart
set_option maxRecDepth 20000 in
theorem ggL_told_X5_lowPart : GoodIn wsL_told wsX5_lowPart := goodIn_ca (goodIn_r _ [53, 8, 14, 54, 44, 45, 46, 6, 47, 48, 49, 15, 65, 66, 67, 68, 69, 70, 71, 72, 73, 74, 75, 76, 77, 78, 79, 80, 81, 82] rfl (by decide +kernel)) (goodIn_sub (fun _ h => List.mem_cons_of_mem _ (List.mem_append_right _ h)) (by decide +kernel))
set_option maxRecDepth 20000 in
theorem gL_told_X5_lowPart : GoodIn wsL_told (wsV RL 31 RX5 yX5_lowPart wsX5_lowPart) := goodIn_app (goodIn_of _ (by decide +kernel)) ggL_told_X5_lowPart
set_option maxRecDepth 20000 in
theorem ggL_told_X5_extraBit : GoodIn wsL_told wsX5_extraBit := goodIn_ca (goodIn_r _ [58, 8, 14, 59, 44, 45, 46, 6, 47, 48, 49, 15, 65, 66, 67, 68, 69, 70, 71, 72, 73, 74, 75, 76, 77, 78, 79, 80, 81, 82] rfl (by decide +kernel)) (goodIn_sub (fun _ h => List.mem_cons_of_mem _ (List.mem_append_right _ h)) (by decide +kernel))
set_option maxRecDepth 20000 in
theorem gL_told_X5_extraBit : GoodIn wsL_told (wsV RL 34 RX5 yX5_extraBit wsX5_extraBit) := goodIn_app (goodIn_of _ (by decide +kernel)) ggL_told_X5_extraBit
set_option maxRecDepth 20000 in
theorem ggL_told_X5_stepsMade : GoodIn wsL_told wsX5_stepsMade := goodIn_r _ [63, 8, 64, 65, 66, 67, 68, 69, 70, 71, 72, 73, 74, 75] rfl (by decide +kernel)
set_option maxRecDepth 20000 in
theorem gL_told_X5_stepsMade : GoodIn wsL_told (wsV RL 37 RX5 yX5_stepsMade wsX5_stepsMade) := goodIn_app (goodIn_of _ (by decide +kernel)) ggL_told_X5_stepsMade
theorem dL_told_0 : decode cL_told 0 = .ok (.ldc2_w 8, 3) := by decide +kernel
theorem dL_told_3 : decode cL_told 3 = .ok (.lstore_n 1, 1) := by decide +kernel
theorem dL_told_4 : decode cL_told 4 = .ok (.ldc2_w 10, 3) := by decide +kernel
theorem dL_told_7 : decode cL_told 7 = .ok (.ldc2_w 10, 3) := by decide +kernel
theorem dL_told_10 : decode cL_told 10 = .ok (.ldc2_w 10, 3) := by decide +kernel
theorem dL_told_13 : decode cL_told 13 = .ok (.lload_n 1, 1) := by decide +kernel
theorem dL_told_14 : decode cL_told 14 = .ok (.lmul, 1) := by decide +kernel
theorem dL_told_15 : decode cL_told 15 = .ok (.aload_n 0, 1) := by decide +kernel
theorem dL_told_16 : decode cL_told 16 = .ok (.invokevirtual 12, 3) := by decide +kernel
theorem dL_told_19 : decode cL_told 19 = .ok (.i2l, 1) := by decide +kernel
theorem dL_told_20 : decode cL_told 20 = .ok (.ladd, 1) := by decide +kernel
theorem dL_told_21 : decode cL_told 21 = .ok (.lmul, 1) := by decide +kernel
theorem dL_told_22 : decode cL_told 22 = .ok (.aload_n 0, 1) := by decide +kernel
theorem dL_told_23 : decode cL_told 23 = .ok (.invokevirtual 18, 3) := by decide +kernel
theorem dL_told_26 : decode cL_told 26 = .ok (.i2l, 1) := by decide +kernel
theorem dL_told_27 : decode cL_told 27 = .ok (.ladd, 1) := by decide +kernel
theorem dL_told_28 : decode cL_told 28 = .ok (.lmul, 1) := by decide +kernel
theorem dL_told_29 : decode cL_told 29 = .ok (.aload_n 0, 1) := by decide +kernel
theorem dL_told_30 : decode cL_told 30 = .ok (.invokevirtual 21, 3) := by decide +kernel
theorem dL_told_33 : decode cL_told 33 = .ok (.i2l, 1) := by decide +kernel
theorem dL_told_34 : decode cL_told 34 = .ok (.ladd, 1) := by decide +kernel
theorem dL_told_35 : decode cL_told 35 = .ok (.lstore_n 1, 1) := by decide +kernel
theorem dL_told_36 : decode cL_told 36 = .ok (.iconst 0, 1) := by decide +kernel
theorem dL_told_37 : decode cL_told 37 = .ok (.istore_n 3, 1) := by decide +kernel
theorem dL_told_38 : decode cL_told 38 = .ok (.iload_n 3, 1) := by decide +kernel
theorem dL_told_39 : decode cL_told 39 = .ok (.bipush 6, 2) := by decide +kernel
theorem dL_told_41 : decode cL_told 41 = .ok (.if_icmp .ge 22, 3) := by decide +kernel
theorem dL_told_44 : decode cL_told 44 = .ok (.ldc2_w 10, 3) := by decide +kernel
theorem dL_told_47 : decode cL_told 47 = .ok (.lload_n 1, 1) := by decide +kernel
theorem dL_told_48 : decode cL_told 48 = .ok (.lmul, 1) := by decide +kernel
theorem dL_told_49 : decode cL_told 49 = .ok (.aload_n 0, 1) := by decide +kernel
theorem dL_told_50 : decode cL_told 50 = .ok (.iload_n 3, 1) := by decide +kernel
theorem dL_told_51 : decode cL_told 51 = .ok (.invokevirtual 24, 3) := by decide +kernel
theorem dL_told_54 : decode cL_told 54 = .ok (.i2l, 1) := by decide +kernel
theorem dL_told_55 : decode cL_told 55 = .ok (.ladd, 1) := by decide +kernel
theorem dL_told_56 : decode cL_told 56 = .ok (.lstore_n 1, 1) := by decide +kernel
theorem dL_told_57 : decode cL_told 57 = .ok (.iinc 3 1, 3) := by decide +kernel
theorem dL_told_60 : decode cL_told 60 = .ok (.goto (-22), 3) := by decide +kernel
theorem dL_told_63 : decode cL_told 63 = .ok (.aload_n 0, 1) := by decide +kernel
theorem dL_told_64 : decode cL_told 64 = .ok (.invokevirtual 18, 3) := by decide +kernel
theorem dL_told_67 : decode cL_told 67 = .ok (.ifCond .lt 35, 3) := by decide +kernel
theorem dL_told_70 : decode cL_told 70 = .ok (.ldc2_w 10, 3) := by decide +kernel
theorem dL_told_73 : decode cL_told 73 = .ok (.ldc2_w 10, 3) := by decide +kernel
theorem dL_told_76 : decode cL_told 76 = .ok (.ldc2_w 10, 3) := by decide +kernel
theorem dL_told_79 : decode cL_told 79 = .ok (.lload_n 1, 1) := by decide +kernel
theorem dL_told_80 : decode cL_told 80 = .ok (.lmul, 1) := by decide +kernel
theorem dL_told_81 : decode cL_told 81 = .ok (.aload_n 0, 1) := by decide +kernel
theorem dL_told_82 : decode cL_told 82 = .ok (.invokevirtual 28, 3) := by decide +kernel
theorem dL_told_85 : decode cL_told 85 = .ok (.i2l, 1) := by decide +kernel
theorem dL_told_86 : decode cL_told 86 = .ok (.ladd, 1) := by decide +kernel
theorem dL_told_87 : decode cL_told 87 = .ok (.lmul, 1) := by decide +kernel
theorem dL_told_88 : decode cL_told 88 = .ok (.aload_n 0, 1) := by decide +kernel
theorem dL_told_89 : decode cL_told 89 = .ok (.invokevirtual 31, 3) := by decide +kernel
theorem dL_told_92 : decode cL_told 92 = .ok (.i2l, 1) := by decide +kernel
theorem dL_told_93 : decode cL_told 93 = .ok (.ladd, 1) := by decide +kernel
theorem dL_told_94 : decode cL_told 94 = .ok (.lmul, 1) := by decide +kernel
theorem dL_told_95 : decode cL_told 95 = .ok (.aload_n 0, 1) := by decide +kernel
theorem dL_told_96 : decode cL_told 96 = .ok (.invokevirtual 34, 3) := by decide +kernel
theorem dL_told_99 : decode cL_told 99 = .ok (.i2l, 1) := by decide +kernel
theorem dL_told_100 : decode cL_told 100 = .ok (.ladd, 1) := by decide +kernel
theorem dL_told_101 : decode cL_told 101 = .ok (.lstore_n 1, 1) := by decide +kernel
theorem dL_told_102 : decode cL_told 102 = .ok (.ldc2_w 10, 3) := by decide +kernel
theorem dL_told_105 : decode cL_told 105 = .ok (.lload_n 1, 1) := by decide +kernel
theorem dL_told_106 : decode cL_told 106 = .ok (.lmul, 1) := by decide +kernel
theorem dL_told_107 : decode cL_told 107 = .ok (.aload_n 0, 1) := by decide +kernel
theorem dL_told_108 : decode cL_told 108 = .ok (.invokevirtual 37, 3) := by decide +kernel
theorem dL_told_111 : decode cL_told 111 = .ok (.i2l, 1) := by decide +kernel
theorem dL_told_112 : decode cL_told 112 = .ok (.ladd, 1) := by decide +kernel
theorem dL_told_113 : decode cL_told 113 = .ok (.lreturn, 1) := by decide +kernel
set_option maxRecDepth 20000 in
theorem ggL_act_L_low : GoodIn wsL_act wsL_low := goodIn_r _ [4, 5] rfl (by decide +kernel)
set_option maxRecDepth 20000 in
theorem gL_act_L_low : GoodIn wsL_act (va_wsS RL 40 yL_low wsL_low) := goodIn_app (goodIn_of _ (by decide +kernel)) ggL_act_L_low
set_option maxRecDepth 20000 in
theorem ggL_act_X5_width : GoodIn wsL_act wsX5_width := goodIn_r _ [10, 11, 12, 161, 162, 163, 164, 165, 166, 167, 168, 169, 170, 171] rfl (by decide +kernel)
set_option maxRecDepth 20000 in
theorem gL_act_X5_width : GoodIn wsL_act (wsV RL 12 RX5 yX5_width wsX5_width) := goodIn_app (goodIn_of _ (by decide +kernel)) ggL_act_X5_width
set_option maxRecDepth 20000 in
theorem ggL_act_X5_setWidth : GoodIn wsL_act wsX5_setWidth := goodIn_ca (goodIn_r _ [16, 17, 18, 19, 11, 12, 20, 21, 22, 23, 24, 25, 26, 27, 28, 29, 30, 31, 32, 33, 34, 35, 36, 37, 38, 39, 40, 41, 42, 43, 44, 45, 46, 47, 48, 49, 50, 51, 52, 53, 54, 55, 56, 57, 58, 59, 60, 61, 62, 63, 64, 65, 66, 67, 68, 69, 70, 71, 72, 73, 161, 162, 163, 164, 165, 166, 167, 168, 169, 170, 171, 172, 173, 174, 175, 176, 177, 178, 179, 180, 181] rfl (by decide +kernel)) (goodIn_sub (fun _ h => List.mem_cons_of_mem _ (List.mem_append_left _ (List.mem_append_left _ (List.mem_append_right _ h)))) (by decide +kernel))
set_option maxRecDepth 20000 in
theorem gL_act_X5_setWidth : GoodIn wsL_act (wsV RL 46 RX5 yX5_setWidth wsX5_setWidth) := goodIn_app (goodIn_of _ (by decide +kernel)) ggL_act_X5_setWidth
set_option maxRecDepth 20000 in
theorem ggL_act_X5_set : GoodIn wsL_act wsX5_set := goodIn_ca (goodIn_ca (goodIn_r _ [77, 17, 18, 11, 19, 78, 79, 9, 80, 81, 82, 83, 84, 85, 86, 87, 88, 43, 89, 66, 67, 68, 69, 47, 20, 21, 22, 23, 24, 25, 26, 27, 28, 29, 30, 31, 32, 33, 34, 35, 36, 37, 38, 39, 40, 41, 42, 44, 45, 46, 48, 49, 50, 51, 52, 53, 54, 55, 56, 57, 58, 59, 60, 61, 90, 91, 92, 93, 94, 95, 96, 97, 161, 162, 163, 164, 165, 166, 167, 168, 169, 170, 171, 172, 173, 174, 175, 176, 177, 178, 179, 180, 181] rfl (by decide +kernel)) (goodIn_sub (fun _ h => List.mem_cons_of_mem _ (List.mem_append_left _ (List.mem_append_left _ (List.mem_append_right _ h)))) (by decide +kernel))) (goodIn_sub (fun _ h => List.mem_cons_of_mem _ (List.mem_append_left _ (List.mem_append_right _ h))) (by decide +kernel))
set_option maxRecDepth 20000 in
theorem gL_act_X5_set : GoodIn wsL_act (wsV RL 49 RX5 yX5_set wsX5_set) := goodIn_app (goodIn_of _ (by decide +kernel)) ggL_act_X5_set
set_option maxRecDepth 20000 in
theorem ggL_act_X5_begin : GoodIn wsL_act wsX5_begin := goodIn_ca (goodIn_ca (goodIn_ca (goodIn_r _ [101, 17, 18, 19, 11, 102, 12, 103, 78, 79, 9, 80, 81, 82, 83, 84, 85, 104, 105, 106, 107, 108, 109, 20, 21, 22, 23, 24, 25, 26, 27, 28, 29, 30, 31, 32, 33, 34, 35, 36, 37, 38, 39, 40, 41, 42, 43, 44, 45, 46, 47, 48, 49, 50, 51, 52, 53, 54, 55, 56, 57, 58, 59, 60, 61, 90, 91, 92, 93, 110, 111, 112, 113, 114, 115, 116, 117, 118, 119, 120, 121, 122, 161, 162, 163, 164, 165, 166, 167, 168, 169, 170, 171, 175, 176, 177, 178, 179, 180, 181, 172, 173, 174] rfl (by decide +kernel)) (goodIn_sub (fun _ h => List.mem_cons_of_mem _ (List.mem_append_left _ (List.mem_append_left _ (List.mem_append_right _ h)))) (by decide +kernel))) (goodIn_sub (fun _ h => List.mem_cons_of_mem _ (List.mem_append_left _ (List.mem_append_right _ h))) (by decide +kernel))) (goodIn_sub (fun _ h => List.mem_cons_of_mem _ (List.mem_append_right _ h)) (by decide +kernel))
set_option maxRecDepth 20000 in
theorem gL_act_X5_begin : GoodIn wsL_act (wsV RL 52 RX5 yX5_begin wsX5_begin) := goodIn_app (goodIn_of _ (by decide +kernel)) ggL_act_X5_begin
set_option maxRecDepth 20000 in
theorem ggL_act_X5_stepsLeft : GoodIn wsL_act wsX5_stepsLeft := goodIn_r _ [126, 11, 102, 103, 161, 162, 163, 164, 165, 166, 167, 168, 169, 170, 171, 175, 176, 177, 178, 179, 180, 181] rfl (by decide +kernel)
set_option maxRecDepth 20000 in
theorem gL_act_X5_stepsLeft : GoodIn wsL_act (wsV RL 18 RX5 yX5_stepsLeft wsX5_stepsLeft) := goodIn_app (goodIn_of _ (by decide +kernel)) ggL_act_X5_stepsLeft
set_option maxRecDepth 20000 in
theorem ggL_act_X5_step : GoodIn wsL_act wsX5_step := goodIn_ca (goodIn_r _ [130, 108, 109, 11, 102, 103, 19, 20, 21, 22, 23, 24, 25, 26, 27, 28, 29, 30, 31, 32, 33, 34, 35, 36, 37, 38, 39, 40, 41, 42, 43, 44, 45, 46, 47, 48, 49, 50, 51, 52, 53, 54, 55, 56, 57, 58, 59, 60, 61, 131, 132, 133, 134, 135, 136, 137, 138, 139, 140, 141, 142, 143, 9, 144, 161, 162, 163, 164, 165, 166, 167, 168, 169, 170, 171, 175, 176, 177, 178, 179, 180, 181, 172, 173, 174] rfl (by decide +kernel)) (goodIn_sub (fun _ h => List.mem_cons_of_mem _ (List.mem_append_right _ h)) (by decide +kernel))
set_option maxRecDepth 20000 in
theorem gL_act_X5_step : GoodIn wsL_act (wsV RL 56 RX5 yX5_step wsX5_step) := goodIn_app (goodIn_of _ (by decide +kernel)) ggL_act_X5_step
set_option maxRecDepth 20000 in
theorem ggL_act_X5_finish : GoodIn wsL_act wsX5_finish := goodIn_ca (goodIn_r _ [148, 19, 11, 102, 103, 149, 150, 151, 9, 152, 108, 109, 20, 21, 22, 23, 24, 25, 26, 27, 28, 29, 30, 31, 32, 33, 34, 35, 36, 37, 38, 39, 40, 41, 42, 43, 44, 45, 46, 47, 48, 49, 50, 51, 52, 53, 54, 55, 56, 57, 58, 59, 60, 61, 131, 132, 133, 134, 135, 136, 137, 138, 139, 140, 141, 142, 143, 144, 161, 162, 163, 164, 165, 166, 167, 168, 169, 170, 171, 175, 176, 177, 178, 179, 180, 181, 172, 173, 174] rfl (by decide +kernel)) (goodIn_sub (fun _ h => List.mem_cons_of_mem _ (List.mem_append_right _ h)) (by decide +kernel))
set_option maxRecDepth 20000 in
theorem gL_act_X5_finish : GoodIn wsL_act (wsV RL 59 RX5 yX5_finish wsX5_finish) := goodIn_app (goodIn_of _ (by decide +kernel)) ggL_act_X5_finish
set_option maxRecDepth 20000 in
theorem ggL_act_X5_store : GoodIn wsL_act wsX5_store := goodIn_ca (goodIn_ca (goodIn_r _ [156, 108, 109, 11, 102, 103, 19, 78, 79, 9, 80, 81, 82, 83, 84, 85, 20, 21, 22, 23, 24, 25, 26, 27, 28, 29, 30, 31, 32, 33, 34, 35, 36, 37, 38, 39, 40, 41, 42, 43, 44, 45, 46, 47, 48, 49, 50, 51, 52, 53, 54, 55, 56, 57, 58, 59, 60, 61, 157, 158, 159, 160, 94, 95, 96, 97, 66, 67, 68, 69, 161, 162, 163, 164, 165, 166, 167, 168, 169, 170, 171, 175, 176, 177, 178, 179, 180, 181, 172, 173, 174] rfl (by decide +kernel)) (goodIn_sub (fun _ h => List.mem_cons_of_mem _ (List.mem_append_right _ h)) (by decide +kernel))) (goodIn_sub (fun _ h => List.mem_cons_of_mem _ (List.mem_append_left _ (List.mem_append_right _ h))) (by decide +kernel))
set_option maxRecDepth 20000 in
theorem gL_act_X5_store : GoodIn wsL_act (wsV RL 62 RX5 yX5_store wsX5_store) := goodIn_app (goodIn_of _ (by decide +kernel)) ggL_act_X5_store
theorem dL_act_0 : decode cL_act 0 = .ok (.iload_n 1, 1) := by decide +kernel
theorem dL_act_1 : decode cL_act 1 = .ok (.iconst 4, 1) := by decide +kernel
theorem dL_act_2 : decode cL_act 2 = .ok (.ishr, 1) := by decide +kernel
theorem dL_act_3 : decode cL_act 3 = .ok (.bipush 6, 2) := by decide +kernel
theorem dL_act_5 : decode cL_act 5 = .ok (.invokestatic 40, 3) := by decide +kernel
theorem dL_act_8 : decode cL_act 8 = .ok (.istore_n 3, 1) := by decide +kernel
theorem dL_act_9 : decode cL_act 9 = .ok (.iload_n 1, 1) := by decide +kernel
theorem dL_act_10 : decode cL_act 10 = .ok (.bipush 7, 2) := by decide +kernel
theorem dL_act_12 : decode cL_act 12 = .ok (.ishr, 1) := by decide +kernel
theorem dL_act_13 : decode cL_act 13 = .ok (.bipush 6, 2) := by decide +kernel
theorem dL_act_15 : decode cL_act 15 = .ok (.invokestatic 40, 3) := by decide +kernel
theorem dL_act_18 : decode cL_act 18 = .ok (.istore 4, 2) := by decide +kernel
theorem dL_act_20 : decode cL_act 20 = .ok (.iconst 1, 1) := by decide +kernel
theorem dL_act_21 : decode cL_act 21 = .ok (.aload_n 0, 1) := by decide +kernel
theorem dL_act_22 : decode cL_act 22 = .ok (.invokevirtual 12, 3) := by decide +kernel
theorem dL_act_25 : decode cL_act 25 = .ok (.iconst 1, 1) := by decide +kernel
theorem dL_act_26 : decode cL_act 26 = .ok (.isub, 1) := by decide +kernel
theorem dL_act_27 : decode cL_act 27 = .ok (.ishl, 1) := by decide +kernel
theorem dL_act_28 : decode cL_act 28 = .ok (.istore 5, 2) := by decide +kernel
theorem dL_act_30 : decode cL_act 30 = .ok (.iload_n 1, 1) := by decide +kernel
theorem dL_act_31 : decode cL_act 31 = .ok (.bipush 15, 2) := by decide +kernel
theorem dL_act_33 : decode cL_act 33 = .ok (.iand, 1) := by decide +kernel
theorem dL_act_34 : decode cL_act 34 = .ok (.tableswitch 163 0 13 #[70, 85, 85, 85, 85, 85, 104, 104, 131, 131, 131, 131, 147, 147], 70) := by decide +kernel
theorem dL_act_104 : decode cL_act 104 = .ok (.aload_n 0, 1) := by decide +kernel
theorem dL_act_105 : decode cL_act 105 = .ok (.iconst 4, 1) := by decide +kernel
theorem dL_act_106 : decode cL_act 106 = .ok (.iload_n 2, 1) := by decide +kernel
theorem dL_act_107 : decode cL_act 107 = .ok (.bipush 13, 2) := by decide +kernel
theorem dL_act_109 : decode cL_act 109 = .ok (.invokestatic 40, 3) := by decide +kernel
theorem dL_act_112 : decode cL_act 112 = .ok (.iadd, 1) := by decide +kernel
theorem dL_act_113 : decode cL_act 113 = .ok (.invokevirtual 46, 3) := by decide +kernel
theorem dL_act_116 : decode cL_act 116 = .ok (.pop, 1) := by decide +kernel
theorem dL_act_117 : decode cL_act 117 = .ok (.iconst 1, 1) := by decide +kernel
theorem dL_act_118 : decode cL_act 118 = .ok (.ireturn, 1) := by decide +kernel
theorem dL_act_119 : decode cL_act 119 = .ok (.aload_n 0, 1) := by decide +kernel
theorem dL_act_120 : decode cL_act 120 = .ok (.iload_n 3, 1) := by decide +kernel
theorem dL_act_121 : decode cL_act 121 = .ok (.iload_n 2, 1) := by decide +kernel
theorem dL_act_122 : decode cL_act 122 = .ok (.iconst 2, 1) := by decide +kernel
theorem dL_act_123 : decode cL_act 123 = .ok (.iload 5, 2) := by decide +kernel
theorem dL_act_125 : decode cL_act 125 = .ok (.imul, 1) := by decide +kernel
theorem dL_act_126 : decode cL_act 126 = .ok (.invokestatic 40, 3) := by decide +kernel
theorem dL_act_129 : decode cL_act 129 = .ok (.iload 5, 2) := by decide +kernel
theorem dL_act_131 : decode cL_act 131 = .ok (.isub, 1) := by decide +kernel
theorem dL_act_132 : decode cL_act 132 = .ok (.invokevirtual 49, 3) := by decide +kernel
theorem dL_act_135 : decode cL_act 135 = .ok (.pop, 1) := by decide +kernel
theorem dL_act_136 : decode cL_act 136 = .ok (.iconst 1, 1) := by decide +kernel
theorem dL_act_137 : decode cL_act 137 = .ok (.ireturn, 1) := by decide +kernel
theorem dL_act_138 : decode cL_act 138 = .ok (.aload_n 0, 1) := by decide +kernel
theorem dL_act_139 : decode cL_act 139 = .ok (.iload_n 3, 1) := by decide +kernel
theorem dL_act_140 : decode cL_act 140 = .ok (.iload 4, 2) := by decide +kernel
theorem dL_act_142 : decode cL_act 142 = .ok (.aload_n 0, 1) := by decide +kernel
theorem dL_act_143 : decode cL_act 143 = .ok (.invokevirtual 12, 3) := by decide +kernel
theorem dL_act_146 : decode cL_act 146 = .ok (.iconst 2, 1) := by decide +kernel
theorem dL_act_147 : decode cL_act 147 = .ok (.irem, 1) := by decide +kernel
theorem dL_act_148 : decode cL_act 148 = .ok (.iconst 1, 1) := by decide +kernel
theorem dL_act_149 : decode cL_act 149 = .ok (.if_icmp .ne 7, 3) := by decide +kernel
theorem dL_act_152 : decode cL_act 152 = .ok (.iconst 0, 1) := by decide +kernel
theorem dL_act_153 : decode cL_act 153 = .ok (.goto 6, 3) := by decide +kernel
theorem dL_act_156 : decode cL_act 156 = .ok (.iload_n 2, 1) := by decide +kernel
theorem dL_act_157 : decode cL_act 157 = .ok (.iconst 1, 1) := by decide +kernel
theorem dL_act_158 : decode cL_act 158 = .ok (.iand, 1) := by decide +kernel
theorem dL_act_159 : decode cL_act 159 = .ok (.invokevirtual 52, 3) := by decide +kernel
theorem dL_act_162 : decode cL_act 162 = .ok (.pop, 1) := by decide +kernel
theorem dL_act_163 : decode cL_act 163 = .ok (.iconst 1, 1) := by decide +kernel
theorem dL_act_164 : decode cL_act 164 = .ok (.ireturn, 1) := by decide +kernel
theorem dL_act_165 : decode cL_act 165 = .ok (.aload_n 0, 1) := by decide +kernel
theorem dL_act_166 : decode cL_act 166 = .ok (.invokevirtual 18, 3) := by decide +kernel
theorem dL_act_169 : decode cL_act 169 = .ok (.ifCond .gt 5, 3) := by decide +kernel
theorem dL_act_172 : decode cL_act 172 = .ok (.iconst 0, 1) := by decide +kernel
theorem dL_act_173 : decode cL_act 173 = .ok (.ireturn, 1) := by decide +kernel
theorem dL_act_174 : decode cL_act 174 = .ok (.aload_n 0, 1) := by decide +kernel
theorem dL_act_175 : decode cL_act 175 = .ok (.invokevirtual 56, 3) := by decide +kernel
theorem dL_act_178 : decode cL_act 178 = .ok (.pop, 1) := by decide +kernel
theorem dL_act_179 : decode cL_act 179 = .ok (.iconst 1, 1) := by decide +kernel
theorem dL_act_180 : decode cL_act 180 = .ok (.ireturn, 1) := by decide +kernel
theorem dL_act_181 : decode cL_act 181 = .ok (.aload_n 0, 1) := by decide +kernel
theorem dL_act_182 : decode cL_act 182 = .ok (.invokevirtual 18, 3) := by decide +kernel
theorem dL_act_185 : decode cL_act 185 = .ok (.ifCond .ge 5, 3) := by decide +kernel
theorem dL_act_188 : decode cL_act 188 = .ok (.iconst 0, 1) := by decide +kernel
theorem dL_act_189 : decode cL_act 189 = .ok (.ireturn, 1) := by decide +kernel
theorem dL_act_190 : decode cL_act 190 = .ok (.aload_n 0, 1) := by decide +kernel
theorem dL_act_191 : decode cL_act 191 = .ok (.invokevirtual 59, 3) := by decide +kernel
theorem dL_act_194 : decode cL_act 194 = .ok (.pop, 1) := by decide +kernel
theorem dL_act_195 : decode cL_act 195 = .ok (.iconst 1, 1) := by decide +kernel
theorem dL_act_196 : decode cL_act 196 = .ok (.ireturn, 1) := by decide +kernel
theorem dL_act_197 : decode cL_act 197 = .ok (.aload_n 0, 1) := by decide +kernel
theorem dL_act_198 : decode cL_act 198 = .ok (.invokevirtual 18, 3) := by decide +kernel
theorem dL_act_201 : decode cL_act 201 = .ok (.ifCond .eq 5, 3) := by decide +kernel
theorem dL_act_204 : decode cL_act 204 = .ok (.iconst 0, 1) := by decide +kernel
theorem dL_act_205 : decode cL_act 205 = .ok (.ireturn, 1) := by decide +kernel
theorem dL_act_206 : decode cL_act 206 = .ok (.aload_n 0, 1) := by decide +kernel
theorem dL_act_207 : decode cL_act 207 = .ok (.iload_n 3, 1) := by decide +kernel
theorem dL_act_208 : decode cL_act 208 = .ok (.invokevirtual 62, 3) := by decide +kernel
theorem dL_act_211 : decode cL_act 211 = .ok (.pop, 1) := by decide +kernel
theorem dL_act_212 : decode cL_act 212 = .ok (.iconst 1, 1) := by decide +kernel
theorem dL_act_213 : decode cL_act 213 = .ok (.ireturn, 1) := by decide +kernel
set_option maxRecDepth 20000 in
theorem ggL_holds_X5_width : GoodIn wsL_holds wsX5_width := goodIn_r _ [5, 6, 7, 128, 129, 130, 131, 132, 133, 134, 135, 136, 137, 138] rfl (by decide +kernel)
set_option maxRecDepth 20000 in
theorem gL_holds_X5_width : GoodIn wsL_holds (wsV RL 12 RX5 yX5_width wsX5_width) := goodIn_app (goodIn_of _ (by decide +kernel)) ggL_holds_X5_width
set_option maxRecDepth 20000 in
theorem ggL_holds_X5_valueOf : GoodIn wsL_holds wsX5_valueOf := goodIn_ca (goodIn_r _ [11, 6, 12, 13, 4, 14, 15, 16, 17, 18, 19, 20, 21, 22, 23, 24, 25, 128, 129, 130, 131, 132, 133, 134, 135, 136, 137, 138] rfl (by decide +kernel)) (goodIn_sub (fun _ h => List.mem_cons_of_mem _ (List.mem_append_left _ (List.mem_append_left _ (List.mem_append_right _ h)))) (by decide +kernel))
set_option maxRecDepth 20000 in
theorem gL_holds_X5_valueOf : GoodIn wsL_holds (wsV RL 24 RX5 yX5_valueOf wsX5_valueOf) := goodIn_app (goodIn_of _ (by decide +kernel)) ggL_holds_X5_valueOf
set_option maxRecDepth 20000 in
theorem ggL_holds_X5_productByBits : GoodIn wsL_holds wsX5_productByBits := goodIn_ca (goodIn_r _ [29, 6, 7, 12, 13, 4, 14, 15, 16, 17, 18, 19, 20, 21, 22, 23, 24, 25, 30, 31, 32, 128, 129, 130, 131, 132, 133, 134, 135, 136, 137, 138] rfl (by decide +kernel)) (goodIn_sub (fun _ h => List.mem_cons_of_mem _ (List.mem_append_left _ (List.mem_append_left _ (List.mem_append_right _ h)))) (by decide +kernel))
set_option maxRecDepth 20000 in
theorem gL_holds_X5_productByBits : GoodIn wsL_holds (wsV RL 65 RX5 yX5_productByBits wsX5_productByBits) := goodIn_app (goodIn_of _ (by decide +kernel)) ggL_holds_X5_productByBits
set_option maxRecDepth 20000 in
theorem ggL_holds_X5_productByRows : GoodIn wsL_holds wsX5_productByRows := goodIn_ca (goodIn_ca (goodIn_ca (goodIn_r _ [36, 6, 7, 12, 13, 4, 14, 15, 16, 17, 18, 19, 37, 38, 39, 40, 41, 42, 43, 44, 45, 46, 47, 48, 49, 50, 51, 52, 53, 20, 21, 22, 23, 24, 25, 54, 55, 56, 30, 31, 32, 57, 58, 59, 128, 129, 130, 131, 132, 133, 134, 135, 136, 137, 138] rfl (by decide +kernel)) (goodIn_sub (fun _ h => List.mem_cons_of_mem _ (List.mem_append_left _ (List.mem_append_left _ (List.mem_append_right _ h)))) (by decide +kernel))) (goodIn_sub (fun _ h => List.mem_cons_of_mem _ (List.mem_append_left _ (List.mem_append_right _ h))) (by decide +kernel))) (goodIn_sub (fun _ h => List.mem_cons_of_mem _ (List.mem_append_right _ h)) (by decide +kernel))
set_option maxRecDepth 20000 in
theorem gL_holds_X5_productByRows : GoodIn wsL_holds (wsV RL 68 RX5 yX5_productByRows wsX5_productByRows) := goodIn_app (goodIn_of _ (by decide +kernel)) ggL_holds_X5_productByRows
set_option maxRecDepth 20000 in
theorem ggL_holds_X5_rowsOf : GoodIn wsL_holds wsX5_rowsOf := goodIn_ca (goodIn_ca (goodIn_ca (goodIn_r _ [63, 6, 7, 12, 13, 4, 14, 15, 16, 17, 18, 19, 37, 38, 39, 40, 41, 42, 43, 44, 45, 46, 47, 48, 49, 50, 51, 52, 53, 20, 21, 22, 23, 24, 25, 54, 55, 56, 30, 31, 32, 128, 129, 130, 131, 132, 133, 134, 135, 136, 137, 138] rfl (by decide +kernel)) (goodIn_sub (fun _ h => List.mem_cons_of_mem _ (List.mem_append_left _ (List.mem_append_left _ (List.mem_append_right _ h)))) (by decide +kernel))) (goodIn_sub (fun _ h => List.mem_cons_of_mem _ (List.mem_append_left _ (List.mem_append_right _ h))) (by decide +kernel))) (goodIn_sub (fun _ h => List.mem_cons_of_mem _ (List.mem_append_right _ h)) (by decide +kernel))
set_option maxRecDepth 20000 in
theorem gL_holds_X5_rowsOf : GoodIn wsL_holds (wsV RL 71 RX5 yX5_rowsOf wsX5_rowsOf) := goodIn_app (goodIn_of _ (by decide +kernel)) ggL_holds_X5_rowsOf
set_option maxRecDepth 20000 in
theorem ggL_holds_X5_fits : GoodIn wsL_holds wsX5_fits := goodIn_ca (goodIn_r _ [67, 6, 12, 13, 4, 14, 15, 16, 17, 18, 19, 20, 21, 22, 23, 24, 25, 68, 69, 70, 71, 72, 73, 74, 75, 76, 128, 129, 130, 131, 132, 133, 134, 135, 136, 137, 138] rfl (by decide +kernel)) (goodIn_sub (fun _ h => List.mem_cons_of_mem _ (List.mem_append_left _ (List.mem_append_left _ (List.mem_append_right _ h)))) (by decide +kernel))
set_option maxRecDepth 20000 in
theorem gL_holds_X5_fits : GoodIn wsL_holds (wsV RL 74 RX5 yX5_fits wsX5_fits) := goodIn_app (goodIn_of _ (by decide +kernel)) ggL_holds_X5_fits
set_option maxRecDepth 20000 in
theorem ggL_holds_X5_carries : GoodIn wsL_holds wsX5_carries := goodIn_ca (goodIn_r _ [80, 6, 12, 13, 4, 14, 15, 16, 17, 18, 19, 81, 82, 83, 23, 84, 76, 85, 21, 22, 24, 25, 86, 87, 88, 89, 90, 91, 92, 93, 94, 95, 128, 129, 130, 131, 132, 133, 134, 135, 136, 137, 138] rfl (by decide +kernel)) (goodIn_sub (fun _ h => List.mem_cons_of_mem _ (List.mem_append_left _ (List.mem_append_left _ (List.mem_append_right _ h)))) (by decide +kernel))
set_option maxRecDepth 20000 in
theorem gL_holds_X5_carries : GoodIn wsL_holds (wsV RL 78 RX5 yX5_carries wsX5_carries) := goodIn_app (goodIn_of _ (by decide +kernel)) ggL_holds_X5_carries
set_option maxRecDepth 20000 in
theorem ggL_holds_X5_longestRun : GoodIn wsL_holds wsX5_longestRun := goodIn_ca (goodIn_r _ [99, 6, 7, 100, 101, 102, 103, 12, 13, 4, 14, 15, 16, 17, 18, 19, 81, 82, 83, 23, 84, 76, 85, 21, 22, 24, 25, 86, 87, 88, 30, 31, 32, 128, 129, 130, 131, 132, 133, 134, 135, 136, 137, 138] rfl (by decide +kernel)) (goodIn_sub (fun _ h => List.mem_cons_of_mem _ (List.mem_append_left _ (List.mem_append_left _ (List.mem_append_right _ h)))) (by decide +kernel))
set_option maxRecDepth 20000 in
theorem gL_holds_X5_longestRun : GoodIn wsL_holds (wsV RL 81 RX5 yX5_longestRun wsX5_longestRun) := goodIn_app (goodIn_of _ (by decide +kernel)) ggL_holds_X5_longestRun
set_option maxRecDepth 20000 in
theorem ggL_holds_X5_onesOf : GoodIn wsL_holds wsX5_onesOf := goodIn_ca (goodIn_r _ [107, 6, 12, 13, 4, 14, 15, 16, 17, 18, 19, 81, 82, 83, 23, 84, 76, 85, 21, 22, 24, 25, 89, 90, 91, 92, 93, 94, 95, 128, 129, 130, 131, 132, 133, 134, 135, 136, 137, 138] rfl (by decide +kernel)) (goodIn_sub (fun _ h => List.mem_cons_of_mem _ (List.mem_append_left _ (List.mem_append_left _ (List.mem_append_right _ h)))) (by decide +kernel))
set_option maxRecDepth 20000 in
theorem gL_holds_X5_onesOf : GoodIn wsL_holds (wsV RL 84 RX5 yX5_onesOf wsX5_onesOf) := goodIn_app (goodIn_of _ (by decide +kernel)) ggL_holds_X5_onesOf
set_option maxRecDepth 20000 in
theorem ggL_holds_X5_stepsLeft : GoodIn wsL_holds wsX5_stepsLeft := goodIn_r _ [111, 6, 112, 113, 128, 129, 130, 131, 132, 133, 134, 135, 136, 137, 138, 139, 140, 141, 142, 143, 144, 145] rfl (by decide +kernel)
set_option maxRecDepth 20000 in
theorem gL_holds_X5_stepsLeft : GoodIn wsL_holds (wsV RL 18 RX5 yX5_stepsLeft wsX5_stepsLeft) := goodIn_app (goodIn_of _ (by decide +kernel)) ggL_holds_X5_stepsLeft
set_option maxRecDepth 20000 in
theorem ggL_holds_X5_lowPart : GoodIn wsL_holds wsX5_lowPart := goodIn_ca (goodIn_r _ [117, 6, 112, 118, 119, 120, 121, 4, 122, 49, 50, 113, 128, 129, 130, 131, 132, 133, 134, 135, 136, 137, 138, 139, 140, 141, 142, 143, 144, 145] rfl (by decide +kernel)) (goodIn_sub (fun _ h => List.mem_cons_of_mem _ (List.mem_append_right _ h)) (by decide +kernel))
set_option maxRecDepth 20000 in
theorem gL_holds_X5_lowPart : GoodIn wsL_holds (wsV RL 31 RX5 yX5_lowPart wsX5_lowPart) := goodIn_app (goodIn_of _ (by decide +kernel)) ggL_holds_X5_lowPart
set_option maxRecDepth 20000 in
theorem ggL_holds_X5_extraBit : GoodIn wsL_holds wsX5_extraBit := goodIn_ca (goodIn_r _ [126, 6, 112, 127, 119, 120, 121, 4, 122, 49, 50, 113, 128, 129, 130, 131, 132, 133, 134, 135, 136, 137, 138, 139, 140, 141, 142, 143, 144, 145] rfl (by decide +kernel)) (goodIn_sub (fun _ h => List.mem_cons_of_mem _ (List.mem_append_right _ h)) (by decide +kernel))
set_option maxRecDepth 20000 in
theorem gL_holds_X5_extraBit : GoodIn wsL_holds (wsV RL 34 RX5 yX5_extraBit wsX5_extraBit) := goodIn_app (goodIn_of _ (by decide +kernel)) ggL_holds_X5_extraBit
theorem dL_holds_0 : decode cL_holds 0 = .ok (.aload_n 0, 1) := by decide +kernel
theorem dL_holds_1 : decode cL_holds 1 = .ok (.invokevirtual 12, 3) := by decide +kernel
theorem dL_holds_4 : decode cL_holds 4 = .ok (.istore_n 3, 1) := by decide +kernel
theorem dL_holds_5 : decode cL_holds 5 = .ok (.aload_n 0, 1) := by decide +kernel
theorem dL_holds_6 : decode cL_holds 6 = .ok (.iload_n 1, 1) := by decide +kernel
theorem dL_holds_7 : decode cL_holds 7 = .ok (.invokevirtual 24, 3) := by decide +kernel
theorem dL_holds_10 : decode cL_holds 10 = .ok (.aload_n 0, 1) := by decide +kernel
theorem dL_holds_11 : decode cL_holds 11 = .ok (.iload_n 2, 1) := by decide +kernel
theorem dL_holds_12 : decode cL_holds 12 = .ok (.invokevirtual 24, 3) := by decide +kernel
theorem dL_holds_15 : decode cL_holds 15 = .ok (.imul, 1) := by decide +kernel
theorem dL_holds_16 : decode cL_holds 16 = .ok (.istore 4, 2) := by decide +kernel
theorem dL_holds_18 : decode cL_holds 18 = .ok (.iconst 1, 1) := by decide +kernel
theorem dL_holds_19 : decode cL_holds 19 = .ok (.iload_n 3, 1) := by decide +kernel
theorem dL_holds_20 : decode cL_holds 20 = .ok (.iconst 1, 1) := by decide +kernel
theorem dL_holds_21 : decode cL_holds 21 = .ok (.isub, 1) := by decide +kernel
theorem dL_holds_22 : decode cL_holds 22 = .ok (.ishl, 1) := by decide +kernel
theorem dL_holds_23 : decode cL_holds 23 = .ok (.istore 5, 2) := by decide +kernel
theorem dL_holds_25 : decode cL_holds 25 = .ok (.aload_n 0, 1) := by decide +kernel
theorem dL_holds_26 : decode cL_holds 26 = .ok (.iload_n 1, 1) := by decide +kernel
theorem dL_holds_27 : decode cL_holds 27 = .ok (.iload_n 2, 1) := by decide +kernel
theorem dL_holds_28 : decode cL_holds 28 = .ok (.invokevirtual 65, 3) := by decide +kernel
theorem dL_holds_31 : decode cL_holds 31 = .ok (.iload 4, 2) := by decide +kernel
theorem dL_holds_33 : decode cL_holds 33 = .ok (.if_icmp .ne 73, 3) := by decide +kernel
theorem dL_holds_36 : decode cL_holds 36 = .ok (.aload_n 0, 1) := by decide +kernel
theorem dL_holds_37 : decode cL_holds 37 = .ok (.iload_n 2, 1) := by decide +kernel
theorem dL_holds_38 : decode cL_holds 38 = .ok (.iload_n 1, 1) := by decide +kernel
theorem dL_holds_39 : decode cL_holds 39 = .ok (.invokevirtual 65, 3) := by decide +kernel
theorem dL_holds_42 : decode cL_holds 42 = .ok (.iload 4, 2) := by decide +kernel
theorem dL_holds_44 : decode cL_holds 44 = .ok (.if_icmp .ne 62, 3) := by decide +kernel
theorem dL_holds_47 : decode cL_holds 47 = .ok (.aload_n 0, 1) := by decide +kernel
theorem dL_holds_48 : decode cL_holds 48 = .ok (.iload_n 1, 1) := by decide +kernel
theorem dL_holds_49 : decode cL_holds 49 = .ok (.iload_n 2, 1) := by decide +kernel
theorem dL_holds_50 : decode cL_holds 50 = .ok (.iconst 0, 1) := by decide +kernel
theorem dL_holds_51 : decode cL_holds 51 = .ok (.invokevirtual 68, 3) := by decide +kernel
theorem dL_holds_54 : decode cL_holds 54 = .ok (.iload 4, 2) := by decide +kernel
theorem dL_holds_56 : decode cL_holds 56 = .ok (.if_icmp .ne 50, 3) := by decide +kernel
theorem dL_holds_59 : decode cL_holds 59 = .ok (.aload_n 0, 1) := by decide +kernel
theorem dL_holds_60 : decode cL_holds 60 = .ok (.iload_n 1, 1) := by decide +kernel
theorem dL_holds_61 : decode cL_holds 61 = .ok (.iload_n 2, 1) := by decide +kernel
theorem dL_holds_62 : decode cL_holds 62 = .ok (.iconst 2, 1) := by decide +kernel
theorem dL_holds_63 : decode cL_holds 63 = .ok (.invokevirtual 68, 3) := by decide +kernel
theorem dL_holds_66 : decode cL_holds 66 = .ok (.iload 4, 2) := by decide +kernel
theorem dL_holds_68 : decode cL_holds 68 = .ok (.if_icmp .ne 38, 3) := by decide +kernel
theorem dL_holds_71 : decode cL_holds 71 = .ok (.iload_n 3, 1) := by decide +kernel
theorem dL_holds_72 : decode cL_holds 72 = .ok (.iconst 2, 1) := by decide +kernel
theorem dL_holds_73 : decode cL_holds 73 = .ok (.irem, 1) := by decide +kernel
theorem dL_holds_74 : decode cL_holds 74 = .ok (.iconst 1, 1) := by decide +kernel
theorem dL_holds_75 : decode cL_holds 75 = .ok (.if_icmp .eq 27, 3) := by decide +kernel
theorem dL_holds_78 : decode cL_holds 78 = .ok (.aload_n 0, 1) := by decide +kernel
theorem dL_holds_79 : decode cL_holds 79 = .ok (.iload_n 1, 1) := by decide +kernel
theorem dL_holds_80 : decode cL_holds 80 = .ok (.iload_n 2, 1) := by decide +kernel
theorem dL_holds_81 : decode cL_holds 81 = .ok (.iconst 1, 1) := by decide +kernel
theorem dL_holds_82 : decode cL_holds 82 = .ok (.invokevirtual 68, 3) := by decide +kernel
theorem dL_holds_85 : decode cL_holds 85 = .ok (.iload 4, 2) := by decide +kernel
theorem dL_holds_87 : decode cL_holds 87 = .ok (.if_icmp .ne 19, 3) := by decide +kernel
theorem dL_holds_90 : decode cL_holds 90 = .ok (.aload_n 0, 1) := by decide +kernel
theorem dL_holds_91 : decode cL_holds 91 = .ok (.iload_n 2, 1) := by decide +kernel
theorem dL_holds_92 : decode cL_holds 92 = .ok (.iconst 1, 1) := by decide +kernel
theorem dL_holds_93 : decode cL_holds 93 = .ok (.invokevirtual 71, 3) := by decide +kernel
theorem dL_holds_96 : decode cL_holds 96 = .ok (.iload_n 3, 1) := by decide +kernel
theorem dL_holds_97 : decode cL_holds 97 = .ok (.iconst 2, 1) := by decide +kernel
theorem dL_holds_98 : decode cL_holds 98 = .ok (.idiv, 1) := by decide +kernel
theorem dL_holds_99 : decode cL_holds 99 = .ok (.if_icmp .gt 7, 3) := by decide +kernel
theorem dL_holds_102 : decode cL_holds 102 = .ok (.iconst 1, 1) := by decide +kernel
theorem dL_holds_103 : decode cL_holds 103 = .ok (.goto 4, 3) := by decide +kernel
theorem dL_holds_106 : decode cL_holds 106 = .ok (.iconst 0, 1) := by decide +kernel
theorem dL_holds_107 : decode cL_holds 107 = .ok (.istore 6, 2) := by decide +kernel
theorem dL_holds_109 : decode cL_holds 109 = .ok (.iload 6, 2) := by decide +kernel
theorem dL_holds_111 : decode cL_holds 111 = .ok (.ifCond .eq 128, 3) := by decide +kernel
theorem dL_holds_114 : decode cL_holds 114 = .ok (.aload_n 0, 1) := by decide +kernel
theorem dL_holds_115 : decode cL_holds 115 = .ok (.iload_n 1, 1) := by decide +kernel
theorem dL_holds_116 : decode cL_holds 116 = .ok (.invokevirtual 24, 3) := by decide +kernel
theorem dL_holds_119 : decode cL_holds 119 = .ok (.iload 5, 2) := by decide +kernel
theorem dL_holds_121 : decode cL_holds 121 = .ok (.ineg, 1) := by decide +kernel
theorem dL_holds_122 : decode cL_holds 122 = .ok (.if_icmp .lt 117, 3) := by decide +kernel
theorem dL_holds_125 : decode cL_holds 125 = .ok (.aload_n 0, 1) := by decide +kernel
theorem dL_holds_126 : decode cL_holds 126 = .ok (.iload_n 1, 1) := by decide +kernel
theorem dL_holds_127 : decode cL_holds 127 = .ok (.invokevirtual 24, 3) := by decide +kernel
theorem dL_holds_130 : decode cL_holds 130 = .ok (.iload 5, 2) := by decide +kernel
theorem dL_holds_132 : decode cL_holds 132 = .ok (.if_icmp .ge 107, 3) := by decide +kernel
theorem dL_holds_135 : decode cL_holds 135 = .ok (.aload_n 0, 1) := by decide +kernel
theorem dL_holds_136 : decode cL_holds 136 = .ok (.iload_n 1, 1) := by decide +kernel
theorem dL_holds_137 : decode cL_holds 137 = .ok (.iload_n 2, 1) := by decide +kernel
theorem dL_holds_138 : decode cL_holds 138 = .ok (.invokevirtual 74, 3) := by decide +kernel
theorem dL_holds_141 : decode cL_holds 141 = .ok (.iload 4, 2) := by decide +kernel
theorem dL_holds_143 : decode cL_holds 143 = .ok (.iload 5, 2) := by decide +kernel
theorem dL_holds_145 : decode cL_holds 145 = .ok (.ineg, 1) := by decide +kernel
theorem dL_holds_146 : decode cL_holds 146 = .ok (.if_icmp .lt 14, 3) := by decide +kernel
theorem dL_holds_149 : decode cL_holds 149 = .ok (.iload 4, 2) := by decide +kernel
theorem dL_holds_151 : decode cL_holds 151 = .ok (.iload 5, 2) := by decide +kernel
theorem dL_holds_153 : decode cL_holds 153 = .ok (.if_icmp .ge 7, 3) := by decide +kernel
theorem dL_holds_156 : decode cL_holds 156 = .ok (.iconst 1, 1) := by decide +kernel
theorem dL_holds_157 : decode cL_holds 157 = .ok (.goto 4, 3) := by decide +kernel
theorem dL_holds_160 : decode cL_holds 160 = .ok (.iconst 0, 1) := by decide +kernel
theorem dL_holds_161 : decode cL_holds 161 = .ok (.if_icmp .ne 78, 3) := by decide +kernel
theorem dL_holds_164 : decode cL_holds 164 = .ok (.aload_n 0, 1) := by decide +kernel
theorem dL_holds_165 : decode cL_holds 165 = .ok (.iload_n 1, 1) := by decide +kernel
theorem dL_holds_166 : decode cL_holds 166 = .ok (.iload_n 2, 1) := by decide +kernel
theorem dL_holds_167 : decode cL_holds 167 = .ok (.invokevirtual 78, 3) := by decide +kernel
theorem dL_holds_170 : decode cL_holds 170 = .ok (.aload_n 0, 1) := by decide +kernel
theorem dL_holds_171 : decode cL_holds 171 = .ok (.iload_n 2, 1) := by decide +kernel
theorem dL_holds_172 : decode cL_holds 172 = .ok (.iload_n 1, 1) := by decide +kernel
theorem dL_holds_173 : decode cL_holds 173 = .ok (.invokevirtual 78, 3) := by decide +kernel
theorem dL_holds_176 : decode cL_holds 176 = .ok (.if_icmp .ne 63, 3) := by decide +kernel
theorem dL_holds_179 : decode cL_holds 179 = .ok (.aload_n 0, 1) := by decide +kernel
theorem dL_holds_180 : decode cL_holds 180 = .ok (.iload_n 1, 1) := by decide +kernel
theorem dL_holds_181 : decode cL_holds 181 = .ok (.iload_n 2, 1) := by decide +kernel
theorem dL_holds_182 : decode cL_holds 182 = .ok (.invokevirtual 81, 3) := by decide +kernel
theorem dL_holds_185 : decode cL_holds 185 = .ok (.aload_n 0, 1) := by decide +kernel
theorem dL_holds_186 : decode cL_holds 186 = .ok (.iload_n 1, 1) := by decide +kernel
theorem dL_holds_187 : decode cL_holds 187 = .ok (.iload_n 2, 1) := by decide +kernel
theorem dL_holds_188 : decode cL_holds 188 = .ok (.invokevirtual 78, 3) := by decide +kernel
theorem dL_holds_191 : decode cL_holds 191 = .ok (.if_icmp .gt 48, 3) := by decide +kernel
theorem dL_holds_194 : decode cL_holds 194 = .ok (.aload_n 0, 1) := by decide +kernel
theorem dL_holds_195 : decode cL_holds 195 = .ok (.iload_n 1, 1) := by decide +kernel
theorem dL_holds_196 : decode cL_holds 196 = .ok (.iload_n 2, 1) := by decide +kernel
theorem dL_holds_197 : decode cL_holds 197 = .ok (.invokevirtual 81, 3) := by decide +kernel
theorem dL_holds_200 : decode cL_holds 200 = .ok (.ifCond .ne 7, 3) := by decide +kernel
theorem dL_holds_203 : decode cL_holds 203 = .ok (.iconst 1, 1) := by decide +kernel
theorem dL_holds_204 : decode cL_holds 204 = .ok (.goto 4, 3) := by decide +kernel
theorem dL_holds_207 : decode cL_holds 207 = .ok (.iconst 0, 1) := by decide +kernel
theorem dL_holds_208 : decode cL_holds 208 = .ok (.aload_n 0, 1) := by decide +kernel
theorem dL_holds_209 : decode cL_holds 209 = .ok (.iload_n 1, 1) := by decide +kernel
theorem dL_holds_210 : decode cL_holds 210 = .ok (.iload_n 2, 1) := by decide +kernel
theorem dL_holds_211 : decode cL_holds 211 = .ok (.invokevirtual 78, 3) := by decide +kernel
theorem dL_holds_214 : decode cL_holds 214 = .ok (.ifCond .ne 7, 3) := by decide +kernel
theorem dL_holds_217 : decode cL_holds 217 = .ok (.iconst 1, 1) := by decide +kernel
theorem dL_holds_218 : decode cL_holds 218 = .ok (.goto 4, 3) := by decide +kernel
theorem dL_holds_221 : decode cL_holds 221 = .ok (.iconst 0, 1) := by decide +kernel
theorem dL_holds_222 : decode cL_holds 222 = .ok (.if_icmp .ne 17, 3) := by decide +kernel
theorem dL_holds_225 : decode cL_holds 225 = .ok (.aload_n 0, 1) := by decide +kernel
theorem dL_holds_226 : decode cL_holds 226 = .ok (.iload_n 1, 1) := by decide +kernel
theorem dL_holds_227 : decode cL_holds 227 = .ok (.iload_n 2, 1) := by decide +kernel
theorem dL_holds_228 : decode cL_holds 228 = .ok (.invokevirtual 78, 3) := by decide +kernel
theorem dL_holds_231 : decode cL_holds 231 = .ok (.iload_n 3, 1) := by decide +kernel
theorem dL_holds_232 : decode cL_holds 232 = .ok (.if_icmp .gt 7, 3) := by decide +kernel
theorem dL_holds_235 : decode cL_holds 235 = .ok (.iconst 1, 1) := by decide +kernel
theorem dL_holds_236 : decode cL_holds 236 = .ok (.goto 4, 3) := by decide +kernel
theorem dL_holds_239 : decode cL_holds 239 = .ok (.iconst 0, 1) := by decide +kernel
theorem dL_holds_240 : decode cL_holds 240 = .ok (.istore 6, 2) := by decide +kernel
theorem dL_holds_242 : decode cL_holds 242 = .ok (.iload 6, 2) := by decide +kernel
theorem dL_holds_244 : decode cL_holds 244 = .ok (.ifCond .eq 38, 3) := by decide +kernel
theorem dL_holds_247 : decode cL_holds 247 = .ok (.aload_n 0, 1) := by decide +kernel
theorem dL_holds_248 : decode cL_holds 248 = .ok (.iload_n 1, 1) := by decide +kernel
theorem dL_holds_249 : decode cL_holds 249 = .ok (.iconst 2, 1) := by decide +kernel
theorem dL_holds_250 : decode cL_holds 250 = .ok (.invokevirtual 71, 3) := by decide +kernel
theorem dL_holds_253 : decode cL_holds 253 = .ok (.aload_n 0, 1) := by decide +kernel
theorem dL_holds_254 : decode cL_holds 254 = .ok (.iload_n 1, 1) := by decide +kernel
theorem dL_holds_255 : decode cL_holds 255 = .ok (.iconst 0, 1) := by decide +kernel
theorem dL_holds_256 : decode cL_holds 256 = .ok (.invokevirtual 71, 3) := by decide +kernel
theorem dL_holds_259 : decode cL_holds 259 = .ok (.if_icmp .gt 23, 3) := by decide +kernel
theorem dL_holds_262 : decode cL_holds 262 = .ok (.aload_n 0, 1) := by decide +kernel
theorem dL_holds_263 : decode cL_holds 263 = .ok (.iload_n 1, 1) := by decide +kernel
theorem dL_holds_264 : decode cL_holds 264 = .ok (.iconst 2, 1) := by decide +kernel
theorem dL_holds_265 : decode cL_holds 265 = .ok (.invokevirtual 71, 3) := by decide +kernel
theorem dL_holds_268 : decode cL_holds 268 = .ok (.aload_n 0, 1) := by decide +kernel
theorem dL_holds_269 : decode cL_holds 269 = .ok (.iload_n 1, 1) := by decide +kernel
theorem dL_holds_270 : decode cL_holds 270 = .ok (.invokevirtual 84, 3) := by decide +kernel
theorem dL_holds_273 : decode cL_holds 273 = .ok (.iconst 1, 1) := by decide +kernel
theorem dL_holds_274 : decode cL_holds 274 = .ok (.iadd, 1) := by decide +kernel
theorem dL_holds_275 : decode cL_holds 275 = .ok (.if_icmp .gt 7, 3) := by decide +kernel
theorem dL_holds_278 : decode cL_holds 278 = .ok (.iconst 1, 1) := by decide +kernel
theorem dL_holds_279 : decode cL_holds 279 = .ok (.goto 4, 3) := by decide +kernel
theorem dL_holds_282 : decode cL_holds 282 = .ok (.iconst 0, 1) := by decide +kernel
theorem dL_holds_283 : decode cL_holds 283 = .ok (.istore 6, 2) := by decide +kernel
theorem dL_holds_285 : decode cL_holds 285 = .ok (.aload_n 0, 1) := by decide +kernel
theorem dL_holds_286 : decode cL_holds 286 = .ok (.invokevirtual 18, 3) := by decide +kernel
theorem dL_holds_289 : decode cL_holds 289 = .ok (.ifCond .lt 48, 3) := by decide +kernel
theorem dL_holds_292 : decode cL_holds 292 = .ok (.iload 6, 2) := by decide +kernel
theorem dL_holds_294 : decode cL_holds 294 = .ok (.ifCond .eq 40, 3) := by decide +kernel
theorem dL_holds_297 : decode cL_holds 297 = .ok (.aload_n 0, 1) := by decide +kernel
theorem dL_holds_298 : decode cL_holds 298 = .ok (.invokevirtual 31, 3) := by decide +kernel
theorem dL_holds_301 : decode cL_holds 301 = .ok (.ifCond .lt 33, 3) := by decide +kernel
theorem dL_holds_304 : decode cL_holds 304 = .ok (.aload_n 0, 1) := by decide +kernel
theorem dL_holds_305 : decode cL_holds 305 = .ok (.invokevirtual 31, 3) := by decide +kernel
theorem dL_holds_308 : decode cL_holds 308 = .ok (.iconst 2, 1) := by decide +kernel
theorem dL_holds_309 : decode cL_holds 309 = .ok (.iload 5, 2) := by decide +kernel
theorem dL_holds_311 : decode cL_holds 311 = .ok (.imul, 1) := by decide +kernel
theorem dL_holds_312 : decode cL_holds 312 = .ok (.if_icmp .ge 22, 3) := by decide +kernel
theorem dL_holds_315 : decode cL_holds 315 = .ok (.aload_n 0, 1) := by decide +kernel
theorem dL_holds_316 : decode cL_holds 316 = .ok (.invokevirtual 34, 3) := by decide +kernel
theorem dL_holds_319 : decode cL_holds 319 = .ok (.ifCond .eq 11, 3) := by decide +kernel
theorem dL_holds_322 : decode cL_holds 322 = .ok (.aload_n 0, 1) := by decide +kernel
theorem dL_holds_323 : decode cL_holds 323 = .ok (.invokevirtual 34, 3) := by decide +kernel
theorem dL_holds_326 : decode cL_holds 326 = .ok (.iconst 1, 1) := by decide +kernel
theorem dL_holds_327 : decode cL_holds 327 = .ok (.if_icmp .ne 7, 3) := by decide +kernel
theorem dL_holds_330 : decode cL_holds 330 = .ok (.iconst 1, 1) := by decide +kernel
theorem dL_holds_331 : decode cL_holds 331 = .ok (.goto 4, 3) := by decide +kernel
theorem dL_holds_334 : decode cL_holds 334 = .ok (.iconst 0, 1) := by decide +kernel
theorem dL_holds_335 : decode cL_holds 335 = .ok (.istore 6, 2) := by decide +kernel
theorem dL_holds_337 : decode cL_holds 337 = .ok (.iload 6, 2) := by decide +kernel
theorem dL_holds_339 : decode cL_holds 339 = .ok (.ifCond .eq 24, 3) := by decide +kernel
theorem dL_holds_342 : decode cL_holds 342 = .ok (.aload_n 0, 1) := by decide +kernel
theorem dL_holds_343 : decode cL_holds 343 = .ok (.invokevirtual 18, 3) := by decide +kernel
theorem dL_holds_346 : decode cL_holds 346 = .ok (.iconst (-1), 1) := by decide +kernel
theorem dL_holds_347 : decode cL_holds 347 = .ok (.if_icmp .lt 16, 3) := by decide +kernel
theorem dL_holds_350 : decode cL_holds 350 = .ok (.aload_n 0, 1) := by decide +kernel
theorem dL_holds_351 : decode cL_holds 351 = .ok (.invokevirtual 18, 3) := by decide +kernel
theorem dL_holds_354 : decode cL_holds 354 = .ok (.bipush 16, 2) := by decide +kernel
theorem dL_holds_356 : decode cL_holds 356 = .ok (.if_icmp .gt 7, 3) := by decide +kernel
theorem dL_holds_359 : decode cL_holds 359 = .ok (.iconst 1, 1) := by decide +kernel
theorem dL_holds_360 : decode cL_holds 360 = .ok (.goto 4, 3) := by decide +kernel
theorem dL_holds_363 : decode cL_holds 363 = .ok (.iconst 0, 1) := by decide +kernel
theorem dL_holds_364 : decode cL_holds 364 = .ok (.ireturn, 1) := by decide +kernel

