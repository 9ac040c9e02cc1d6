theorem dX5_rowsOf_14 : decode cX5_rowsOf 14 = .ok (.istore_n 3, 1) := by decide +kernel
theorem dX5_rowsOf_15 : decode cX5_rowsOf 15 = .ok (.iconst 0, 1) := by decide +kernel
theorem dX5_rowsOf_16 : decode cX5_rowsOf 16 = .ok (.istore 4, 2) := by decide +kernel
theorem dX5_rowsOf_18 : decode cX5_rowsOf 18 = .ok (.iload 4, 2) := by decide +kernel
theorem dX5_rowsOf_20 : decode cX5_rowsOf 20 = .ok (.iload_n 2, 1) := by decide +kernel
theorem dX5_rowsOf_21 : decode cX5_rowsOf 21 = .ok (.aload_n 0, 1) := by decide +kernel
theorem dX5_rowsOf_22 : decode cX5_rowsOf 22 = .ok (.getfield 10, 3) := by decide +kernel
theorem dX5_rowsOf_25 : decode cX5_rowsOf 25 = .ok (.getfield 47, 3) := by decide +kernel
theorem dX5_rowsOf_28 : decode cX5_rowsOf 28 = .ok (.invokestatic 163, 3) := by decide +kernel
theorem dX5_rowsOf_31 : decode cX5_rowsOf 31 = .ok (.if_icmp .ge 29, 3) := by decide +kernel
theorem dX5_rowsOf_34 : decode cX5_rowsOf 34 = .ok (.aload_n 0, 1) := by decide +kernel
theorem dX5_rowsOf_35 : decode cX5_rowsOf 35 = .ok (.getfield 10, 3) := by decide +kernel
theorem dX5_rowsOf_38 : decode cX5_rowsOf 38 = .ok (.iload_n 1, 1) := by decide +kernel
theorem dX5_rowsOf_39 : decode cX5_rowsOf 39 = .ok (.invokevirtual 64, 3) := by decide +kernel
theorem dX5_rowsOf_42 : decode cX5_rowsOf 42 = .ok (.iload_n 2, 1) := by decide +kernel
theorem dX5_rowsOf_43 : decode cX5_rowsOf 43 = .ok (.iload 4, 2) := by decide +kernel
theorem dX5_rowsOf_45 : decode cX5_rowsOf 45 = .ok (.invokestatic 174, 3) := by decide +kernel
theorem dX5_rowsOf_48 : decode cX5_rowsOf 48 = .ok (.ifCond .eq 6, 3) := by decide +kernel
theorem dX5_rowsOf_51 : decode cX5_rowsOf 51 = .ok (.iinc 3 1, 3) := by decide +kernel
theorem dX5_rowsOf_54 : decode cX5_rowsOf 54 = .ok (.iinc 4 1, 3) := by decide +kernel
theorem dX5_rowsOf_57 : decode cX5_rowsOf 57 = .ok (.goto (-39), 3) := by decide +kernel
theorem dX5_rowsOf_60 : decode cX5_rowsOf 60 = .ok (.iload_n 3, 1) := by decide +kernel
theorem dX5_rowsOf_61 : decode cX5_rowsOf 61 = .ok (.ireturn, 1) := by decide +kernel
set_option maxRecDepth 20000 in
theorem ggX5_productByRows_X5_checkRegister : GoodIn wsX5_productByRows wsX5_checkRegister := goodIn_ca (goodIn_r _ [6, 7, 8, 9, 10, 5, 11] rfl (by decide +kernel)) (goodIn_sub (fun _ h => List.mem_cons_of_mem _ (List.mem_append_left _ (List.mem_append_left _ (List.mem_append_right _ h)))) (by decide +kernel))
set_option maxRecDepth 20000 in
theorem gX5_productByRows_X5_checkRegister : GoodIn wsX5_productByRows (va_wsS RX5 55 yX5_checkRegister wsX5_checkRegister) := goodIn_app (goodIn_of _ (by decide +kernel)) ggX5_productByRows_X5_checkRegister
set_option maxRecDepth 20000 in
theorem ggX5_productByRows_X5_checkRecoding : GoodIn wsX5_productByRows wsX5_checkRecoding := goodIn_ca (goodIn_r _ [14, 15, 16, 17, 18, 5, 19] rfl (by decide +kernel)) (goodIn_sub (fun _ h => List.mem_cons_of_mem _ (List.mem_append_left _ (List.mem_append_right _ h))) (by decide +kernel))
set_option maxRecDepth 20000 in
theorem gX5_productByRows_X5_checkRecoding : GoodIn wsX5_productByRows (va_wsS RX5 171 yX5_checkRecoding wsX5_checkRecoding) := goodIn_app (goodIn_of _ (by decide +kernel)) ggX5_productByRows_X5_checkRecoding
set_option maxRecDepth 20000 in
theorem ggX5_productByRows_X5_checkRecodingSuitsWidth : GoodIn wsX5_productByRows wsX5_checkRecodingSuitsWidth := goodIn_ca (goodIn_r _ [23, 24, 25, 1, 2, 44, 45, 46, 47, 48, 49, 50, 51, 52, 53, 54] rfl (by decide +kernel)) (goodIn_sub (fun _ h => List.mem_cons_of_mem _ (List.mem_append_right _ h)) (by decide +kernel))
set_option maxRecDepth 20000 in
theorem gX5_productByRows_X5_checkRecodingSuitsWidth : GoodIn wsX5_productByRows (wsV RX5 74 RX5 yX5_checkRecodingSuitsWidth wsX5_checkRecodingSuitsWidth) := goodIn_app (goodIn_of _ (by decide +kernel)) ggX5_productByRows_X5_checkRecodingSuitsWidth
set_option maxRecDepth 20000 in
theorem ggX5_productByRows_X5_digitCount : GoodIn wsX5_productByRows wsX5_digitCount := goodIn_r _ [28] rfl (by decide +kernel)
set_option maxRecDepth 20000 in
theorem gX5_productByRows_X5_digitCount : GoodIn wsX5_productByRows (va_wsS RX5 163 yX5_digitCount wsX5_digitCount) := goodIn_app (goodIn_of _ (by decide +kernel)) ggX5_productByRows_X5_digitCount
set_option maxRecDepth 20000 in
theorem ggX5_productByRows_X3_valueIn : GoodIn wsX5_productByRows wsX3_valueIn := goodIn_r _ [33, 34, 10, 5, 11, 50, 51, 52, 53, 54] rfl (by decide +kernel)
set_option maxRecDepth 20000 in
theorem gX5_productByRows_X3_valueIn : GoodIn wsX5_productByRows (wsV RX5 64 RX3 yX3_valueIn wsX3_valueIn) := goodIn_app (goodIn_of _ (by decide +kernel)) ggX5_productByRows_X3_valueIn
set_option maxRecDepth 20000 in
theorem ggX5_productByRows_X5_digit : GoodIn wsX5_productByRows wsX5_digit := goodIn_r _ [37, 38, 39, 5, 40] rfl (by decide +kernel)
set_option maxRecDepth 20000 in
theorem gX5_productByRows_X5_digit : GoodIn wsX5_productByRows (va_wsS RX5 174 yX5_digit wsX5_digit) := goodIn_app (goodIn_of _ (by decide +kernel)) ggX5_productByRows_X5_digit
set_option maxRecDepth 20000 in
theorem ggX5_productByRows_X5_bitsPerDigit : GoodIn wsX5_productByRows wsX5_bitsPerDigit := goodIn_r _ [43] rfl (by decide +kernel)
set_option maxRecDepth 20000 in
theorem gX5_productByRows_X5_bitsPerDigit : GoodIn wsX5_productByRows (va_wsS RX5 178 yX5_bitsPerDigit wsX5_bitsPerDigit) := goodIn_app (goodIn_of _ (by decide +kernel)) ggX5_productByRows_X5_bitsPerDigit
theorem dX5_productByRows_0 : decode cX5_productByRows 0 = .ok (.iload_n 1, 1) := by decide +kernel
theorem dX5_productByRows_1 : decode cX5_productByRows 1 = .ok (.invokestatic 55, 3) := by decide +kernel
theorem dX5_productByRows_4 : decode cX5_productByRows 4 = .ok (.iload_n 2, 1) := by decide +kernel
theorem dX5_productByRows_5 : decode cX5_productByRows 5 = .ok (.invokestatic 55, 3) := by decide +kernel
theorem dX5_productByRows_8 : decode cX5_productByRows 8 = .ok (.iload_n 3, 1) := by decide +kernel
theorem dX5_productByRows_9 : decode cX5_productByRows 9 = .ok (.invokestatic 171, 3) := by decide +kernel
theorem dX5_productByRows_12 : decode cX5_productByRows 12 = .ok (.aload_n 0, 1) := by decide +kernel
theorem dX5_productByRows_13 : decode cX5_productByRows 13 = .ok (.iload_n 3, 1) := by decide +kernel
theorem dX5_productByRows_14 : decode cX5_productByRows 14 = .ok (.invokevirtual 74, 3) := by decide +kernel
theorem dX5_productByRows_17 : decode cX5_productByRows 17 = .ok (.iconst 0, 1) := by decide +kernel
theorem dX5_productByRows_18 : decode cX5_productByRows 18 = .ok (.istore 4, 2) := by decide +kernel
theorem dX5_productByRows_20 : decode cX5_productByRows 20 = .ok (.iconst 0, 1) := by decide +kernel
theorem dX5_productByRows_21 : decode cX5_productByRows 21 = .ok (.istore 5, 2) := by decide +kernel
theorem dX5_productByRows_23 : decode cX5_productByRows 23 = .ok (.iload 5, 2) := by decide +kernel
theorem dX5_productByRows_25 : decode cX5_productByRows 25 = .ok (.iload_n 3, 1) := by decide +kernel
theorem dX5_productByRows_26 : decode cX5_productByRows 26 = .ok (.aload_n 0, 1) := by decide +kernel
theorem dX5_productByRows_27 : decode cX5_productByRows 27 = .ok (.getfield 10, 3) := by decide +kernel
theorem dX5_productByRows_30 : decode cX5_productByRows 30 = .ok (.getfield 47, 3) := by decide +kernel
theorem dX5_productByRows_33 : decode cX5_productByRows 33 = .ok (.invokestatic 163, 3) := by decide +kernel
theorem dX5_productByRows_36 : decode cX5_productByRows 36 = .ok (.if_icmp .ge 49, 3) := by decide +kernel
theorem dX5_productByRows_39 : decode cX5_productByRows 39 = .ok (.aload_n 0, 1) := by decide +kernel
theorem dX5_productByRows_40 : decode cX5_productByRows 40 = .ok (.getfield 10, 3) := by decide +kernel
theorem dX5_productByRows_43 : decode cX5_productByRows 43 = .ok (.iload_n 2, 1) := by decide +kernel
theorem dX5_productByRows_44 : decode cX5_productByRows 44 = .ok (.invokevirtual 64, 3) := by decide +kernel
theorem dX5_productByRows_47 : decode cX5_productByRows 47 = .ok (.iload_n 3, 1) := by decide +kernel
theorem dX5_productByRows_48 : decode cX5_productByRows 48 = .ok (.iload 5, 2) := by decide +kernel
theorem dX5_productByRows_50 : decode cX5_productByRows 50 = .ok (.invokestatic 174, 3) := by decide +kernel
theorem dX5_productByRows_53 : decode cX5_productByRows 53 = .ok (.aload_n 0, 1) := by decide +kernel
theorem dX5_productByRows_54 : decode cX5_productByRows 54 = .ok (.getfield 10, 3) := by decide +kernel
theorem dX5_productByRows_57 : decode cX5_productByRows 57 = .ok (.iload_n 1, 1) := by decide +kernel
theorem dX5_productByRows_58 : decode cX5_productByRows 58 = .ok (.invokevirtual 64, 3) := by decide +kernel
theorem dX5_productByRows_61 : decode cX5_productByRows 61 = .ok (.imul, 1) := by decide +kernel
theorem dX5_productByRows_62 : decode cX5_productByRows 62 = .ok (.istore 6, 2) := by decide +kernel
theorem dX5_productByRows_64 : decode cX5_productByRows 64 = .ok (.iload 4, 2) := by decide +kernel
theorem dX5_productByRows_66 : decode cX5_productByRows 66 = .ok (.iload 6, 2) := by decide +kernel
theorem dX5_productByRows_68 : decode cX5_productByRows 68 = .ok (.iload 5, 2) := by decide +kernel
theorem dX5_productByRows_70 : decode cX5_productByRows 70 = .ok (.iload_n 3, 1) := by decide +kernel
theorem dX5_productByRows_71 : decode cX5_productByRows 71 = .ok (.invokestatic 178, 3) := by decide +kernel
theorem dX5_productByRows_74 : decode cX5_productByRows 74 = .ok (.imul, 1) := by decide +kernel
theorem dX5_productByRows_75 : decode cX5_productByRows 75 = .ok (.ishl, 1) := by decide +kernel
theorem dX5_productByRows_76 : decode cX5_productByRows 76 = .ok (.iadd, 1) := by decide +kernel
theorem dX5_productByRows_77 : decode cX5_productByRows 77 = .ok (.istore 4, 2) := by decide +kernel
theorem dX5_productByRows_79 : decode cX5_productByRows 79 = .ok (.iinc 5 1, 3) := by decide +kernel
theorem dX5_productByRows_82 : decode cX5_productByRows 82 = .ok (.goto (-59), 3) := by decide +kernel
theorem dX5_productByRows_85 : decode cX5_productByRows 85 = .ok (.iload 4, 2) := by decide +kernel
theorem dX5_productByRows_87 : decode cX5_productByRows 87 = .ok (.ireturn, 1) := by decide +kernel
set_option maxRecDepth 20000 in
theorem ggX5_productByBits_X5_checkRegister : GoodIn wsX5_productByBits wsX5_checkRegister := goodIn_ca (goodIn_r _ [6, 7, 8, 9, 10, 5, 11] rfl (by decide +kernel)) (goodIn_sub (fun _ h => List.mem_cons_of_mem _ (List.mem_append_right _ h)) (by decide +kernel))
set_option maxRecDepth 20000 in
theorem gX5_productByBits_X5_checkRegister : GoodIn wsX5_productByBits (va_wsS RX5 55 yX5_checkRegister wsX5_checkRegister) := goodIn_app (goodIn_of _ (by decide +kernel)) ggX5_productByBits_X5_checkRegister
set_option maxRecDepth 20000 in
theorem ggX5_productByBits_X3_valueIn : GoodIn wsX5_productByBits wsX3_valueIn := goodIn_r _ [16, 17, 10, 5, 11, 27, 28, 29, 30, 31] rfl (by decide +kernel)
set_option maxRecDepth 20000 in
theorem gX5_productByBits_X3_valueIn : GoodIn wsX5_productByBits (wsV RX5 64 RX3 yX3_valueIn wsX3_valueIn) := goodIn_app (goodIn_of _ (by decide +kernel)) ggX5_productByBits_X3_valueIn
set_option maxRecDepth 20000 in
theorem ggX5_productByBits_X5_bit : GoodIn wsX5_productByBits wsX5_bit := goodIn_r _ [20] rfl (by decide +kernel)
set_option maxRecDepth 20000 in
theorem gX5_productByBits_X5_bit : GoodIn wsX5_productByBits (va_wsS RX5 181 yX5_bit wsX5_bit) := goodIn_app (goodIn_of _ (by decide +kernel)) ggX5_productByBits_X5_bit
theorem dX5_productByBits_0 : decode cX5_productByBits 0 = .ok (.iload_n 1, 1) := by decide +kernel
theorem dX5_productByBits_1 : decode cX5_productByBits 1 = .ok (.invokestatic 55, 3) := by decide +kernel
theorem dX5_productByBits_4 : decode cX5_productByBits 4 = .ok (.iload_n 2, 1) := by decide +kernel
theorem dX5_productByBits_5 : decode cX5_productByBits 5 = .ok (.invokestatic 55, 3) := by decide +kernel
theorem dX5_productByBits_8 : decode cX5_productByBits 8 = .ok (.aload_n 0, 1) := by decide +kernel
theorem dX5_productByBits_9 : decode cX5_productByBits 9 = .ok (.getfield 10, 3) := by decide +kernel
theorem dX5_productByBits_12 : decode cX5_productByBits 12 = .ok (.getfield 47, 3) := by decide +kernel
theorem dX5_productByBits_15 : decode cX5_productByBits 15 = .ok (.iconst 1, 1) := by decide +kernel
theorem dX5_productByBits_16 : decode cX5_productByBits 16 = .ok (.isub, 1) := by decide +kernel
theorem dX5_productByBits_17 : decode cX5_productByBits 17 = .ok (.istore_n 3, 1) := by decide +kernel
theorem dX5_productByBits_18 : decode cX5_productByBits 18 = .ok (.iconst 0, 1) := by decide +kernel
theorem dX5_productByBits_19 : decode cX5_productByBits 19 = .ok (.istore 4, 2) := by decide +kernel
theorem dX5_productByBits_21 : decode cX5_productByBits 21 = .ok (.iconst 0, 1) := by decide +kernel
theorem dX5_productByBits_22 : decode cX5_productByBits 22 = .ok (.istore 5, 2) := by decide +kernel
theorem dX5_productByBits_24 : decode cX5_productByBits 24 = .ok (.iload 5, 2) := by decide +kernel
theorem dX5_productByBits_26 : decode cX5_productByBits 26 = .ok (.iload_n 3, 1) := by decide +kernel
theorem dX5_productByBits_27 : decode cX5_productByBits 27 = .ok (.if_icmp .ge 39, 3) := by decide +kernel
theorem dX5_productByBits_30 : decode cX5_productByBits 30 = .ok (.iload 4, 2) := by decide +kernel
theorem dX5_productByBits_32 : decode cX5_productByBits 32 = .ok (.aload_n 0, 1) := by decide +kernel
theorem dX5_productByBits_33 : decode cX5_productByBits 33 = .ok (.getfield 10, 3) := by decide +kernel
theorem dX5_productByBits_36 : decode cX5_productByBits 36 = .ok (.iload_n 2, 1) := by decide +kernel
theorem dX5_productByBits_37 : decode cX5_productByBits 37 = .ok (.invokevirtual 64, 3) := by decide +kernel
theorem dX5_productByBits_40 : decode cX5_productByBits 40 = .ok (.iload 5, 2) := by decide +kernel
theorem dX5_productByBits_42 : decode cX5_productByBits 42 = .ok (.invokestatic 181, 3) := by decide +kernel
theorem dX5_productByBits_45 : decode cX5_productByBits 45 = .ok (.aload_n 0, 1) := by decide +kernel
theorem dX5_productByBits_46 : decode cX5_productByBits 46 = .ok (.getfield 10, 3) := by decide +kernel
theorem dX5_productByBits_49 : decode cX5_productByBits 49 = .ok (.iload_n 1, 1) := by decide +kernel
theorem dX5_productByBits_50 : decode cX5_productByBits 50 = .ok (.invokevirtual 64, 3) := by decide +kernel
theorem dX5_productByBits_53 : decode cX5_productByBits 53 = .ok (.imul, 1) := by decide +kernel
theorem dX5_productByBits_54 : decode cX5_productByBits 54 = .ok (.iload 5, 2) := by decide +kernel
theorem dX5_productByBits_56 : decode cX5_productByBits 56 = .ok (.ishl, 1) := by decide +kernel
theorem dX5_productByBits_57 : decode cX5_productByBits 57 = .ok (.iadd, 1) := by decide +kernel
theorem dX5_productByBits_58 : decode cX5_productByBits 58 = .ok (.istore 4, 2) := by decide +kernel
theorem dX5_productByBits_60 : decode cX5_productByBits 60 = .ok (.iinc 5 1, 3) := by decide +kernel
theorem dX5_productByBits_63 : decode cX5_productByBits 63 = .ok (.goto (-39), 3) := by decide +kernel
theorem dX5_productByBits_66 : decode cX5_productByBits 66 = .ok (.iload 4, 2) := by decide +kernel
theorem dX5_productByBits_68 : decode cX5_productByBits 68 = .ok (.aload_n 0, 1) := by decide +kernel
theorem dX5_productByBits_69 : decode cX5_productByBits 69 = .ok (.getfield 10, 3) := by decide +kernel
theorem dX5_productByBits_72 : decode cX5_productByBits 72 = .ok (.iload_n 2, 1) := by decide +kernel
theorem dX5_productByBits_73 : decode cX5_productByBits 73 = .ok (.invokevirtual 64, 3) := by decide +kernel
theorem dX5_productByBits_76 : decode cX5_productByBits 76 = .ok (.iload_n 3, 1) := by decide +kernel
theorem dX5_productByBits_77 : decode cX5_productByBits 77 = .ok (.invokestatic 181, 3) := by decide +kernel
theorem dX5_productByBits_80 : decode cX5_productByBits 80 = .ok (.aload_n 0, 1) := by decide +kernel
theorem dX5_productByBits_81 : decode cX5_productByBits 81 = .ok (.getfield 10, 3) := by decide +kernel
theorem dX5_productByBits_84 : decode cX5_productByBits 84 = .ok (.iload_n 1, 1) := by decide +kernel
theorem dX5_productByBits_85 : decode cX5_productByBits 85 = .ok (.invokevirtual 64, 3) := by decide +kernel
theorem dX5_productByBits_88 : decode cX5_productByBits 88 = .ok (.imul, 1) := by decide +kernel
theorem dX5_productByBits_89 : decode cX5_productByBits 89 = .ok (.iload_n 3, 1) := by decide +kernel
theorem dX5_productByBits_90 : decode cX5_productByBits 90 = .ok (.ishl, 1) := by decide +kernel
theorem dX5_productByBits_91 : decode cX5_productByBits 91 = .ok (.isub, 1) := by decide +kernel
theorem dX5_productByBits_92 : decode cX5_productByBits 92 = .ok (.ireturn, 1) := by decide +kernel
set_option maxRecDepth 20000 in
theorem ggX5_fits_X5_checkRegister : GoodIn wsX5_fits wsX5_checkRegister := goodIn_ca (goodIn_r _ [5, 6, 7, 8, 9, 4, 10] rfl (by decide +kernel)) (goodIn_sub (fun _ h => List.mem_cons_of_mem _ (List.mem_append_right _ h)) (by decide +kernel))
set_option maxRecDepth 20000 in
theorem gX5_fits_X5_checkRegister : GoodIn wsX5_fits (va_wsS RX5 55 yX5_checkRegister wsX5_checkRegister) := goodIn_app (goodIn_of _ (by decide +kernel)) ggX5_fits_X5_checkRegister
set_option maxRecDepth 20000 in
theorem ggX5_fits_X3_valueIn : GoodIn wsX5_fits wsX3_valueIn := goodIn_r _ [15, 16, 9, 4, 10, 32, 33, 34, 35, 36] rfl (by decide +kernel)
set_option maxRecDepth 20000 in
theorem gX5_fits_X3_valueIn : GoodIn wsX5_fits (wsV RX5 64 RX3 yX3_valueIn wsX3_valueIn) := goodIn_app (goodIn_of _ (by decide +kernel)) ggX5_fits_X3_valueIn
set_option maxRecDepth 20000 in
theorem ggX5_fits_X3_isValue : GoodIn wsX5_fits wsX3_isValue := goodIn_r _ [20, 21, 22, 23, 14, 24, 25, 32, 33, 34, 35, 36] rfl (by decide +kernel)
set_option maxRecDepth 20000 in
theorem gX5_fits_X3_isValue : GoodIn wsX5_fits (wsV RX5 58 RX3 yX3_isValue wsX3_isValue) := goodIn_app (goodIn_of _ (by decide +kernel)) ggX5_fits_X3_isValue
theorem dX5_fits_0 : decode cX5_fits 0 = .ok (.iload_n 1, 1) := by decide +kernel
theorem dX5_fits_1 : decode cX5_fits 1 = .ok (.invokestatic 55, 3) := by decide +kernel
theorem dX5_fits_4 : decode cX5_fits 4 = .ok (.iload_n 2, 1) := by decide +kernel
theorem dX5_fits_5 : decode cX5_fits 5 = .ok (.invokestatic 55, 3) := by decide +kernel
theorem dX5_fits_8 : decode cX5_fits 8 = .ok (.aload_n 0, 1) := by decide +kernel
theorem dX5_fits_9 : decode cX5_fits 9 = .ok (.getfield 10, 3) := by decide +kernel
theorem dX5_fits_12 : decode cX5_fits 12 = .ok (.aload_n 0, 1) := by decide +kernel
theorem dX5_fits_13 : decode cX5_fits 13 = .ok (.getfield 10, 3) := by decide +kernel
theorem dX5_fits_16 : decode cX5_fits 16 = .ok (.iload_n 1, 1) := by decide +kernel
theorem dX5_fits_17 : decode cX5_fits 17 = .ok (.invokevirtual 64, 3) := by decide +kernel
theorem dX5_fits_20 : decode cX5_fits 20 = .ok (.aload_n 0, 1) := by decide +kernel
theorem dX5_fits_21 : decode cX5_fits 21 = .ok (.getfield 10, 3) := by decide +kernel
theorem dX5_fits_24 : decode cX5_fits 24 = .ok (.iload_n 2, 1) := by decide +kernel
theorem dX5_fits_25 : decode cX5_fits 25 = .ok (.invokevirtual 64, 3) := by decide +kernel
theorem dX5_fits_28 : decode cX5_fits 28 = .ok (.imul, 1) := by decide +kernel
theorem dX5_fits_29 : decode cX5_fits 29 = .ok (.invokevirtual 58, 3) := by decide +kernel
theorem dX5_fits_32 : decode cX5_fits 32 = .ok (.ireturn, 1) := by decide +kernel
theorem dX5_stepsLeft_0 : decode cX5_stepsLeft 0 = .ok (.aload_n 0, 1) := by decide +kernel
theorem dX5_stepsLeft_1 : decode cX5_stepsLeft 1 = .ok (.getfield 10, 3) := by decide +kernel
theorem dX5_stepsLeft_4 : decode cX5_stepsLeft 4 = .ok (.getfield 77, 3) := by decide +kernel
theorem dX5_stepsLeft_7 : decode cX5_stepsLeft 7 = .ok (.getfield 90, 3) := by decide +kernel
theorem dX5_stepsLeft_10 : decode cX5_stepsLeft 10 = .ok (.ireturn, 1) := by decide +kernel
set_option maxRecDepth 20000 in
theorem ggX5_highPart_X5_checkMultiplying : GoodIn wsX5_highPart wsX5_checkMultiplying := goodIn_ca (goodIn_r _ [8, 9, 10, 1, 2, 11, 12, 13, 14, 15, 16, 17, 18, 19, 20, 21, 22, 23, 24, 25, 26, 27, 28, 29] rfl (by decide +kernel)) (goodIn_sub (fun _ h => List.mem_cons_of_mem _ (List.mem_append_right _ h)) (by decide +kernel))
set_option maxRecDepth 20000 in
theorem gX5_highPart_X5_checkMultiplying : GoodIn wsX5_highPart (wsV RX5 102 RX5 yX5_checkMultiplying wsX5_checkMultiplying) := goodIn_app (goodIn_of _ (by decide +kernel)) ggX5_highPart_X5_checkMultiplying
theorem dX5_highPart_0 : decode cX5_highPart 0 = .ok (.aload_n 0, 1) := by decide +kernel
theorem dX5_highPart_1 : decode cX5_highPart 1 = .ok (.invokevirtual 102, 3) := by decide +kernel
theorem dX5_highPart_4 : decode cX5_highPart 4 = .ok (.aload_n 0, 1) := by decide +kernel
theorem dX5_highPart_5 : decode cX5_highPart 5 = .ok (.getfield 10, 3) := by decide +kernel
theorem dX5_highPart_8 : decode cX5_highPart 8 = .ok (.getfield 77, 3) := by decide +kernel
theorem dX5_highPart_11 : decode cX5_highPart 11 = .ok (.getfield 184, 3) := by decide +kernel
theorem dX5_highPart_14 : decode cX5_highPart 14 = .ok (.ireturn, 1) := by decide +kernel
set_option maxRecDepth 20000 in
theorem ggX5_lowPart_X5_checkMultiplying : GoodIn wsX5_lowPart wsX5_checkMultiplying := goodIn_ca (goodIn_r _ [8, 9, 10, 1, 2, 11, 12, 13, 14, 15, 16, 17, 18, 19, 20, 21, 22, 23, 24, 25, 26, 27, 28, 29] rfl (by decide +kernel)) (goodIn_sub (fun _ h => List.mem_cons_of_mem _ (List.mem_append_right _ h)) (by decide +kernel))
set_option maxRecDepth 20000 in
theorem gX5_lowPart_X5_checkMultiplying : GoodIn wsX5_lowPart (wsV RX5 102 RX5 yX5_checkMultiplying wsX5_checkMultiplying) := goodIn_app (goodIn_of _ (by decide +kernel)) ggX5_lowPart_X5_checkMultiplying
theorem dX5_lowPart_0 : decode cX5_lowPart 0 = .ok (.aload_n 0, 1) := by decide +kernel
theorem dX5_lowPart_1 : decode cX5_lowPart 1 = .ok (.invokevirtual 102, 3) := by decide +kernel
theorem dX5_lowPart_4 : decode cX5_lowPart 4 = .ok (.aload_n 0, 1) := by decide +kernel
theorem dX5_lowPart_5 : decode cX5_lowPart 5 = .ok (.getfield 10, 3) := by decide +kernel
theorem dX5_lowPart_8 : decode cX5_lowPart 8 = .ok (.getfield 77, 3) := by decide +kernel
theorem dX5_lowPart_11 : decode cX5_lowPart 11 = .ok (.getfield 187, 3) := by decide +kernel
theorem dX5_lowPart_14 : decode cX5_lowPart 14 = .ok (.ireturn, 1) := by decide +kernel
set_option maxRecDepth 20000 in
theorem ggX5_extraBit_X5_checkMultiplying : GoodIn wsX5_extraBit wsX5_checkMultiplying := goodIn_ca (goodIn_r _ [8, 9, 10, 1, 2, 11, 12, 13, 14, 15, 16, 17, 18, 19, 20, 21, 22, 23, 24, 25, 26, 27, 28, 29] rfl (by decide +kernel)) (goodIn_sub (fun _ h => List.mem_cons_of_mem _ (List.mem_append_right _ h)) (by decide +kernel))
set_option maxRecDepth 20000 in
theorem gX5_extraBit_X5_checkMultiplying : GoodIn wsX5_extraBit (wsV RX5 102 RX5 yX5_checkMultiplying wsX5_checkMultiplying) := goodIn_app (goodIn_of _ (by decide +kernel)) ggX5_extraBit_X5_checkMultiplying
theorem dX5_extraBit_0 : decode cX5_extraBit 0 = .ok (.aload_n 0, 1) := by decide +kernel
theorem dX5_extraBit_1 : decode cX5_extraBit 1 = .ok (.invokevirtual 102, 3) := by decide +kernel
theorem dX5_extraBit_4 : decode cX5_extraBit 4 = .ok (.aload_n 0, 1) := by decide +kernel
theorem dX5_extraBit_5 : decode cX5_extraBit 5 = .ok (.getfield 10, 3) := by decide +kernel
theorem dX5_extraBit_8 : decode cX5_extraBit 8 = .ok (.getfield 77, 3) := by decide +kernel
theorem dX5_extraBit_11 : decode cX5_extraBit 11 = .ok (.getfield 190, 3) := by decide +kernel
theorem dX5_extraBit_14 : decode cX5_extraBit 14 = .ok (.ireturn, 1) := by decide +kernel
set_option maxRecDepth 20000 in
theorem ggX5_carries_X5_checkRegister : GoodIn wsX5_carries wsX5_checkRegister := goodIn_ca (goodIn_r _ [5, 6, 7, 8, 9, 4, 10] rfl (by decide +kernel)) (goodIn_sub (fun _ h => List.mem_cons_of_mem _ (List.mem_append_right _ h)) (by decide +kernel))
set_option maxRecDepth 20000 in
theorem gX5_carries_X5_checkRegister : GoodIn wsX5_carries (va_wsS RX5 55 yX5_checkRegister wsX5_checkRegister) := goodIn_app (goodIn_of _ (by decide +kernel)) ggX5_carries_X5_checkRegister
set_option maxRecDepth 20000 in
theorem ggX5_carries_X3_bitsIn : GoodIn wsX5_carries wsX3_bitsIn := goodIn_r _ [15, 16, 17, 18, 19, 14, 20, 21, 9, 4, 10, 38, 39, 40, 41, 42] rfl (by decide +kernel)
set_option maxRecDepth 20000 in
theorem gX5_carries_X3_bitsIn : GoodIn wsX5_carries (wsV RX5 81 RX3 yX3_bitsIn wsX3_bitsIn) := goodIn_app (goodIn_of _ (by decide +kernel)) ggX5_carries_X3_bitsIn
set_option maxRecDepth 20000 in
theorem ggX5_carries_X5_carryBits : GoodIn wsX5_carries wsX5_carryBits := goodIn_r _ [24] rfl (by decide +kernel)
set_option maxRecDepth 20000 in
theorem gX5_carries_X5_carryBits : GoodIn wsX5_carries (va_wsS RX5 193 yX5_carryBits wsX5_carryBits) := goodIn_app (goodIn_of _ (by decide +kernel)) ggX5_carries_X5_carryBits
set_option maxRecDepth 20000 in
theorem ggX5_carries_J6_bitCount_0f7a4 : GoodIn wsX5_carries wsJ6_bitCount_0f7a4 := goodIn_r _ [28, 29, 30, 31] rfl (by decide +kernel)
set_option maxRecDepth 20000 in
theorem gX5_carries_J6_bitCount_0f7a4 : GoodIn wsX5_carries (va_wsS RX5 155 yJ6_bitCount_0f7a4 wsJ6_bitCount_0f7a4) := goodIn_app (goodIn_of _ (by decide +kernel)) ggX5_carries_J6_bitCount_0f7a4
theorem dX5_carries_0 : decode cX5_carries 0 = .ok (.iload_n 1, 1) := by decide +kernel
theorem dX5_carries_1 : decode cX5_carries 1 = .ok (.invokestatic 55, 3) := by decide +kernel
theorem dX5_carries_4 : decode cX5_carries 4 = .ok (.iload_n 2, 1) := by decide +kernel
theorem dX5_carries_5 : decode cX5_carries 5 = .ok (.invokestatic 55, 3) := by decide +kernel
theorem dX5_carries_8 : decode cX5_carries 8 = .ok (.aload_n 0, 1) := by decide +kernel
theorem dX5_carries_9 : decode cX5_carries 9 = .ok (.getfield 10, 3) := by decide +kernel
theorem dX5_carries_12 : decode cX5_carries 12 = .ok (.iload_n 1, 1) := by decide +kernel
theorem dX5_carries_13 : decode cX5_carries 13 = .ok (.invokevirtual 81, 3) := by decide +kernel
theorem dX5_carries_16 : decode cX5_carries 16 = .ok (.aload_n 0, 1) := by decide +kernel
theorem dX5_carries_17 : decode cX5_carries 17 = .ok (.getfield 10, 3) := by decide +kernel
theorem dX5_carries_20 : decode cX5_carries 20 = .ok (.iload_n 2, 1) := by decide +kernel
theorem dX5_carries_21 : decode cX5_carries 21 = .ok (.invokevirtual 81, 3) := by decide +kernel
theorem dX5_carries_24 : decode cX5_carries 24 = .ok (.invokestatic 193, 3) := by decide +kernel
theorem dX5_carries_27 : decode cX5_carries 27 = .ok (.invokestatic 155, 3) := by decide +kernel
theorem dX5_carries_30 : decode cX5_carries 30 = .ok (.ireturn, 1) := by decide +kernel
set_option maxRecDepth 20000 in
theorem ggX5_longestRun_X5_checkRegister : GoodIn wsX5_longestRun wsX5_checkRegister := goodIn_ca (goodIn_r _ [10, 11, 12, 13, 14, 9, 15] rfl (by decide +kernel)) (goodIn_sub (fun _ h => List.mem_cons_of_mem _ (List.mem_append_right _ h)) (by decide +kernel))
set_option maxRecDepth 20000 in
theorem gX5_longestRun_X5_checkRegister : GoodIn wsX5_longestRun (va_wsS RX5 55 yX5_checkRegister wsX5_checkRegister) := goodIn_app (goodIn_of _ (by decide +kernel)) ggX5_longestRun_X5_checkRegister
set_option maxRecDepth 20000 in
theorem ggX5_longestRun_X3_bitsIn : GoodIn wsX5_longestRun wsX3_bitsIn := goodIn_r _ [20, 21, 22, 23, 24, 19, 25, 26, 14, 9, 15, 39, 40, 41, 42, 43] rfl (by decide +kernel)
set_option maxRecDepth 20000 in
theorem gX5_longestRun_X3_bitsIn : GoodIn wsX5_longestRun (wsV RX5 81 RX3 yX3_bitsIn wsX3_bitsIn) := goodIn_app (goodIn_of _ (by decide +kernel)) ggX5_longestRun_X3_bitsIn
set_option maxRecDepth 20000 in
theorem ggX5_longestRun_X5_carryBits : GoodIn wsX5_longestRun wsX5_carryBits := goodIn_r _ [29] rfl (by decide +kernel)
set_option maxRecDepth 20000 in
theorem gX5_longestRun_X5_carryBits : GoodIn wsX5_longestRun (va_wsS RX5 193 yX5_carryBits wsX5_carryBits) := goodIn_app (goodIn_of _ (by decide +kernel)) ggX5_longestRun_X5_carryBits
set_option maxRecDepth 20000 in
theorem ggX5_longestRun_X5_bit : GoodIn wsX5_longestRun wsX5_bit := goodIn_r _ [32] rfl (by decide +kernel)
set_option maxRecDepth 20000 in
theorem gX5_longestRun_X5_bit : GoodIn wsX5_longestRun (va_wsS RX5 181 yX5_bit wsX5_bit) := goodIn_app (goodIn_of _ (by decide +kernel)) ggX5_longestRun_X5_bit
theorem dX5_longestRun_0 : decode cX5_longestRun 0 = .ok (.iload_n 1, 1) := by decide +kernel
theorem dX5_longestRun_1 : decode cX5_longestRun 1 = .ok (.invokestatic 55, 3) := by decide +kernel
theorem dX5_longestRun_4 : decode cX5_longestRun 4 = .ok (.iload_n 2, 1) := by decide +kernel
theorem dX5_longestRun_5 : decode cX5_longestRun 5 = .ok (.invokestatic 55, 3) := by decide +kernel
theorem dX5_longestRun_8 : decode cX5_longestRun 8 = .ok (.aload_n 0, 1) := by decide +kernel
theorem dX5_longestRun_9 : decode cX5_longestRun 9 = .ok (.getfield 10, 3) := by decide +kernel
theorem dX5_longestRun_12 : decode cX5_longestRun 12 = .ok (.iload_n 1, 1) := by decide +kernel
theorem dX5_longestRun_13 : decode cX5_longestRun 13 = .ok (.invokevirtual 81, 3) := by decide +kernel
theorem dX5_longestRun_16 : decode cX5_longestRun 16 = .ok (.aload_n 0, 1) := by decide +kernel
theorem dX5_longestRun_17 : decode cX5_longestRun 17 = .ok (.getfield 10, 3) := by decide +kernel
theorem dX5_longestRun_20 : decode cX5_longestRun 20 = .ok (.iload_n 2, 1) := by decide +kernel
theorem dX5_longestRun_21 : decode cX5_longestRun 21 = .ok (.invokevirtual 81, 3) := by decide +kernel
theorem dX5_longestRun_24 : decode cX5_longestRun 24 = .ok (.invokestatic 193, 3) := by decide +kernel
theorem dX5_longestRun_27 : decode cX5_longestRun 27 = .ok (.istore_n 3, 1) := by decide +kernel
theorem dX5_longestRun_28 : decode cX5_longestRun 28 = .ok (.iconst 0, 1) := by decide +kernel
theorem dX5_longestRun_29 : decode cX5_longestRun 29 = .ok (.istore 4, 2) := by decide +kernel
theorem dX5_longestRun_31 : decode cX5_longestRun 31 = .ok (.iconst 0, 1) := by decide +kernel
theorem dX5_longestRun_32 : decode cX5_longestRun 32 = .ok (.istore 5, 2) := by decide +kernel
theorem dX5_longestRun_34 : decode cX5_longestRun 34 = .ok (.iconst 0, 1) := by decide +kernel
theorem dX5_longestRun_35 : decode cX5_longestRun 35 = .ok (.istore 6, 2) := by decide +kernel
theorem dX5_longestRun_37 : decode cX5_longestRun 37 = .ok (.iload 6, 2) := by decide +kernel
theorem dX5_longestRun_39 : decode cX5_longestRun 39 = .ok (.aload_n 0, 1) := by decide +kernel
theorem dX5_longestRun_40 : decode cX5_longestRun 40 = .ok (.getfield 10, 3) := by decide +kernel
theorem dX5_longestRun_43 : decode cX5_longestRun 43 = .ok (.getfield 47, 3) := by decide +kernel
theorem dX5_longestRun_46 : decode cX5_longestRun 46 = .ok (.if_icmp .ge 38, 3) := by decide +kernel
theorem dX5_longestRun_49 : decode cX5_longestRun 49 = .ok (.iload_n 3, 1) := by decide +kernel
theorem dX5_longestRun_50 : decode cX5_longestRun 50 = .ok (.iload 6, 2) := by decide +kernel
theorem dX5_longestRun_52 : decode cX5_longestRun 52 = .ok (.invokestatic 181, 3) := by decide +kernel
theorem dX5_longestRun_55 : decode cX5_longestRun 55 = .ok (.iconst 1, 1) := by decide +kernel
theorem dX5_longestRun_56 : decode cX5_longestRun 56 = .ok (.if_icmp .ne 10, 3) := by decide +kernel
theorem dX5_longestRun_59 : decode cX5_longestRun 59 = .ok (.iload 5, 2) := by decide +kernel
theorem dX5_longestRun_61 : decode cX5_longestRun 61 = .ok (.iconst 1, 1) := by decide +kernel
theorem dX5_longestRun_62 : decode cX5_longestRun 62 = .ok (.iadd, 1) := by decide +kernel
theorem dX5_longestRun_63 : decode cX5_longestRun 63 = .ok (.goto 4, 3) := by decide +kernel
theorem dX5_longestRun_66 : decode cX5_longestRun 66 = .ok (.iconst 0, 1) := by decide +kernel
theorem dX5_longestRun_67 : decode cX5_longestRun 67 = .ok (.istore 5, 2) := by decide +kernel
theorem dX5_longestRun_69 : decode cX5_longestRun 69 = .ok (.iload 4, 2) := by decide +kernel
theorem dX5_longestRun_71 : decode cX5_longestRun 71 = .ok (.iload 5, 2) := by decide +kernel
theorem dX5_longestRun_73 : decode cX5_longestRun 73 = .ok (.invokestatic 196, 3) := by decide +kernel
theorem dX5_longestRun_76 : decode cX5_longestRun 76 = .ok (.istore 4, 2) := by decide +kernel
theorem dX5_longestRun_78 : decode cX5_longestRun 78 = .ok (.iinc 6 1, 3) := by decide +kernel
theorem dX5_longestRun_81 : decode cX5_longestRun 81 = .ok (.goto (-44), 3) := by decide +kernel
theorem dX5_longestRun_84 : decode cX5_longestRun 84 = .ok (.iload 4, 2) := by decide +kernel
theorem dX5_longestRun_86 : decode cX5_longestRun 86 = .ok (.ireturn, 1) := by decide +kernel
theorem dX5_overflows_0 : decode cX5_overflows 0 = .ok (.aload_n 0, 1) := by decide +kernel
theorem dX5_overflows_1 : decode cX5_overflows 1 = .ok (.getfield 10, 3) := by decide +kernel
theorem dX5_overflows_4 : decode cX5_overflows 4 = .ok (.getfield 201, 3) := by decide +kernel
theorem dX5_overflows_7 : decode cX5_overflows 7 = .ok (.ireturn, 1) := by decide +kernel
theorem dX5_stepsMade_0 : decode cX5_stepsMade 0 = .ok (.aload_n 0, 1) := by decide +kernel
theorem dX5_stepsMade_1 : decode cX5_stepsMade 1 = .ok (.getfield 10, 3) := by decide +kernel
theorem dX5_stepsMade_4 : decode cX5_stepsMade 4 = .ok (.getfield 204, 3) := by decide +kernel
theorem dX5_stepsMade_7 : decode cX5_stepsMade 7 = .ok (.ireturn, 1) := by decide +kernel
theorem dX5_recordedStates_0 : decode cX5_recordedStates 0 = .ok (.aload_n 0, 1) := by decide +kernel
theorem dX5_recordedStates_1 : decode cX5_recordedStates 1 = .ok (.getfield 19, 3) := by decide +kernel
theorem dX5_recordedStates_4 : decode cX5_recordedStates 4 = .ok (.getfield 141, 3) := by decide +kernel
theorem dX5_recordedStates_7 : decode cX5_recordedStates 7 = .ok (.ireturn, 1) := by decide +kernel
set_option maxRecDepth 20000 in
theorem ggX5_checkRegister_X5_isRegister : GoodIn wsX5_checkRegister wsX5_isRegister := goodIn_r _ [6] rfl (by decide +kernel)
set_option maxRecDepth 20000 in
theorem gX5_checkRegister_X5_isRegister : GoodIn wsX5_checkRegister (va_wsS RX5 207 yX5_isRegister wsX5_isRegister) := goodIn_app (goodIn_of _ (by decide +kernel)) ggX5_checkRegister_X5_isRegister
theorem dX5_checkRegister_0 : decode cX5_checkRegister 0 = .ok (.iload_n 0, 1) := by decide +kernel
theorem dX5_checkRegister_1 : decode cX5_checkRegister 1 = .ok (.invokestatic 207, 3) := by decide +kernel
theorem dX5_checkRegister_4 : decode cX5_checkRegister 4 = .ok (.ifCond .ne 13, 3) := by decide +kernel
theorem dX5_checkRegister_7 : decode cX5_checkRegister 7 = .ok (.new 166, 3) := by decide +kernel
theorem dX5_checkRegister_10 : decode cX5_checkRegister 10 = .ok (.dup, 1) := by decide +kernel
theorem dX5_checkRegister_11 : decode cX5_checkRegister 11 = .ok (.ldc 210, 2) := by decide +kernel
theorem dX5_checkRegister_13 : decode cX5_checkRegister 13 = .ok (.invokespecial 170, 3) := by decide +kernel
theorem dX5_checkRegister_16 : decode cX5_checkRegister 16 = .ok (.athrow, 1) := by decide +kernel
theorem dX5_checkRegister_17 : decode cX5_checkRegister 17 = .ok (.return_, 1) := by decide +kernel
set_option maxRecDepth 20000 in
theorem ggX5_checkRecoding_X5_isRecoding : GoodIn wsX5_checkRecoding wsX5_isRecoding := goodIn_r _ [6] rfl (by decide +kernel)
set_option maxRecDepth 20000 in
theorem gX5_checkRecoding_X5_isRecoding : GoodIn wsX5_checkRecoding (va_wsS RX5 160 yX5_isRecoding wsX5_isRecoding) := goodIn_app (goodIn_of _ (by decide +kernel)) ggX5_checkRecoding_X5_isRecoding
theorem dX5_checkRecoding_0 : decode cX5_checkRecoding 0 = .ok (.iload_n 0, 1) := by decide +kernel
theorem dX5_checkRecoding_1 : decode cX5_checkRecoding 1 = .ok (.invokestatic 160, 3) := by decide +kernel
theorem dX5_checkRecoding_4 : decode cX5_checkRecoding 4 = .ok (.ifCond .ne 13, 3) := by decide +kernel
theorem dX5_checkRecoding_7 : decode cX5_checkRecoding 7 = .ok (.new 36, 3) := by decide +kernel
theorem dX5_checkRecoding_10 : decode cX5_checkRecoding 10 = .ok (.dup, 1) := by decide +kernel
theorem dX5_checkRecoding_11 : decode cX5_checkRecoding 11 = .ok (.ldc 212, 2) := by decide +kernel
theorem dX5_checkRecoding_13 : decode cX5_checkRecoding 13 = .ok (.invokespecial 40, 3) := by decide +kernel
theorem dX5_checkRecoding_16 : decode cX5_checkRecoding 16 = .ok (.athrow, 1) := by decide +kernel
theorem dX5_checkRecoding_17 : decode cX5_checkRecoding 17 = .ok (.return_, 1) := by decide +kernel
theorem dX5_checkRecodingSuitsWidth_0 : decode cX5_checkRecodingSuitsWidth 0 = .ok (.iload_n 1, 1) := by decide +kernel
theorem dX5_checkRecodingSuitsWidth_1 : decode cX5_checkRecodingSuitsWidth 1 = .ok (.iconst 1, 1) := by decide +kernel
theorem dX5_checkRecodingSuitsWidth_2 : decode cX5_checkRecodingSuitsWidth 2 = .ok (.if_icmp .ne 25, 3) := by decide +kernel
theorem dX5_checkRecodingSuitsWidth_5 : decode cX5_checkRecodingSuitsWidth 5 = .ok (.aload_n 0, 1) := by decide +kernel
theorem dX5_checkRecodingSuitsWidth_6 : decode cX5_checkRecodingSuitsWidth 6 = .ok (.getfield 10, 3) := by decide +kernel
theorem dX5_checkRecodingSuitsWidth_9 : decode cX5_checkRecodingSuitsWidth 9 = .ok (.getfield 47, 3) := by decide +kernel
theorem dX5_checkRecodingSuitsWidth_12 : decode cX5_checkRecodingSuitsWidth 12 = .ok (.iconst 2, 1) := by decide +kernel
theorem dX5_checkRecodingSuitsWidth_13 : decode cX5_checkRecodingSuitsWidth 13 = .ok (.irem, 1) := by decide +kernel
theorem dX5_checkRecodingSuitsWidth_14 : decode cX5_checkRecodingSuitsWidth 14 = .ok (.ifCond .eq 13, 3) := by decide +kernel
theorem dX5_checkRecodingSuitsWidth_17 : decode cX5_checkRecodingSuitsWidth 17 = .ok (.new 93, 3) := by decide +kernel
theorem dX5_checkRecodingSuitsWidth_20 : decode cX5_checkRecodingSuitsWidth 20 = .ok (.dup, 1) := by decide +kernel
theorem dX5_checkRecodingSuitsWidth_21 : decode cX5_checkRecodingSuitsWidth 21 = .ok (.ldc 214, 2) := by decide +kernel
theorem dX5_checkRecodingSuitsWidth_23 : decode cX5_checkRecodingSuitsWidth 23 = .ok (.invokespecial 97, 3) := by decide +kernel
theorem dX5_checkRecodingSuitsWidth_26 : decode cX5_checkRecodingSuitsWidth 26 = .ok (.athrow, 1) := by decide +kernel
theorem dX5_checkRecodingSuitsWidth_27 : decode cX5_checkRecodingSuitsWidth 27 = .ok (.return_, 1) := by decide +kernel
theorem dX5_checkMultiplying_0 : decode cX5_checkMultiplying 0 = .ok (.aload_n 0, 1) := by decide +kernel
theorem dX5_checkMultiplying_1 : decode cX5_checkMultiplying 1 = .ok (.getfield 10, 3) := by decide +kernel
theorem dX5_checkMultiplying_4 : decode cX5_checkMultiplying 4 = .ok (.getfield 77, 3) := by decide +kernel
theorem dX5_checkMultiplying_7 : decode cX5_checkMultiplying 7 = .ok (.getfield 90, 3) := by decide +kernel
theorem dX5_checkMultiplying_10 : decode cX5_checkMultiplying 10 = .ok (.iconst (-1), 1) := by decide +kernel
theorem dX5_checkMultiplying_11 : decode cX5_checkMultiplying 11 = .ok (.if_icmp .ne 13, 3) := by decide +kernel
theorem dX5_checkMultiplying_14 : decode cX5_checkMultiplying 14 = .ok (.new 93, 3) := by decide +kernel
theorem dX5_checkMultiplying_17 : decode cX5_checkMultiplying 17 = .ok (.dup, 1) := by decide +kernel
theorem dX5_checkMultiplying_18 : decode cX5_checkMultiplying 18 = .ok (.ldc 216, 2) := by decide +kernel
theorem dX5_checkMultiplying_20 : decode cX5_checkMultiplying 20 = .ok (.invokespecial 97, 3) := by decide +kernel
theorem dX5_checkMultiplying_23 : decode cX5_checkMultiplying 23 = .ok (.athrow, 1) := by decide +kernel
theorem dX5_checkMultiplying_24 : decode cX5_checkMultiplying 24 = .ok (.return_, 1) := by decide +kernel
set_option maxRecDepth 20000 in
theorem ggX5_checkProgram_X2_firstError : GoodIn wsX5_checkProgram wsX2_firstError := goodIn_r _ [8, 9, 10, 11, 12, 13, 14, 15, 16, 17, 18, 19, 20, 21, 22, 23, 24, 25, 26, 27, 28, 29, 30, 31, 32, 33, 34, 35, 36, 37, 38, 39, 40, 41, 42, 43, 44, 45, 46, 47, 48, 49, 50, 51, 52, 53, 54, 55, 56, 57, 58, 59, 60, 61, 62, 63, 64, 65, 66, 67, 68, 69, 70, 71, 72, 73, 74, 81, 82, 83, 84, 85, 86, 87, 88, 89, 90, 91, 92] rfl (by decide +kernel)
set_option maxRecDepth 20000 in
theorem gX5_checkProgram_X2_firstError : GoodIn wsX5_checkProgram (wsV RX5 123 RX2 yX2_firstError wsX2_firstError) := goodIn_app (goodIn_of _ (by decide +kernel)) ggX5_checkProgram_X2_firstError
theorem dX5_checkProgram_0 : decode cX5_checkProgram 0 = .ok (.aload_n 0, 1) := by decide +kernel
theorem dX5_checkProgram_1 : decode cX5_checkProgram 1 = .ok (.getfield 29, 3) := by decide +kernel
theorem dX5_checkProgram_4 : decode cX5_checkProgram 4 = .ok (.invokevirtual 123, 3) := by decide +kernel
theorem dX5_checkProgram_7 : decode cX5_checkProgram 7 = .ok (.iconst (-1), 1) := by decide +kernel
theorem dX5_checkProgram_8 : decode cX5_checkProgram 8 = .ok (.if_icmp .eq 13, 3) := by decide +kernel
theorem dX5_checkProgram_11 : decode cX5_checkProgram 11 = .ok (.new 93, 3) := by decide +kernel
theorem dX5_checkProgram_14 : decode cX5_checkProgram 14 = .ok (.dup, 1) := by decide +kernel
theorem dX5_checkProgram_15 : decode cX5_checkProgram 15 = .ok (.ldc 218, 2) := by decide +kernel
theorem dX5_checkProgram_17 : decode cX5_checkProgram 17 = .ok (.invokespecial 97, 3) := by decide +kernel
theorem dX5_checkProgram_20 : decode cX5_checkProgram 20 = .ok (.athrow, 1) := by decide +kernel
theorem dX5_checkProgram_21 : decode cX5_checkProgram 21 = .ok (.return_, 1) := by decide +kernel
theorem dX5_isRegister_0 : decode cX5_isRegister 0 = .ok (.iload_n 0, 1) := by decide +kernel
theorem dX5_isRegister_1 : decode cX5_isRegister 1 = .ok (.ifCond .lt 13, 3) := by decide +kernel
theorem dX5_isRegister_4 : decode cX5_isRegister 4 = .ok (.iload_n 0, 1) := by decide +kernel
theorem dX5_isRegister_5 : decode cX5_isRegister 5 = .ok (.bipush 6, 2) := by decide +kernel
theorem dX5_isRegister_7 : decode cX5_isRegister 7 = .ok (.if_icmp .ge 7, 3) := by decide +kernel
theorem dX5_isRegister_10 : decode cX5_isRegister 10 = .ok (.iconst 1, 1) := by decide +kernel
theorem dX5_isRegister_11 : decode cX5_isRegister 11 = .ok (.goto 4, 3) := by decide +kernel
theorem dX5_isRegister_14 : decode cX5_isRegister 14 = .ok (.iconst 0, 1) := by decide +kernel
theorem dX5_isRegister_15 : decode cX5_isRegister 15 = .ok (.ireturn, 1) := by decide +kernel
theorem dX5_isRecoding_0 : decode cX5_isRecoding 0 = .ok (.iload_n 0, 1) := by decide +kernel
theorem dX5_isRecoding_1 : decode cX5_isRecoding 1 = .ok (.ifCond .eq 13, 3) := by decide +kernel
theorem dX5_isRecoding_4 : decode cX5_isRecoding 4 = .ok (.iload_n 0, 1) := by decide +kernel
theorem dX5_isRecoding_5 : decode cX5_isRecoding 5 = .ok (.iconst 1, 1) := by decide +kernel
theorem dX5_isRecoding_6 : decode cX5_isRecoding 6 = .ok (.if_icmp .eq 8, 3) := by decide +kernel
theorem dX5_isRecoding_9 : decode cX5_isRecoding 9 = .ok (.iload_n 0, 1) := by decide +kernel
theorem dX5_isRecoding_10 : decode cX5_isRecoding 10 = .ok (.iconst 2, 1) := by decide +kernel
theorem dX5_isRecoding_11 : decode cX5_isRecoding 11 = .ok (.if_icmp .ne 7, 3) := by decide +kernel
theorem dX5_isRecoding_14 : decode cX5_isRecoding 14 = .ok (.iconst 1, 1) := by decide +kernel
theorem dX5_isRecoding_15 : decode cX5_isRecoding 15 = .ok (.goto 4, 3) := by decide +kernel
theorem dX5_isRecoding_18 : decode cX5_isRecoding 18 = .ok (.iconst 0, 1) := by decide +kernel
theorem dX5_isRecoding_19 : decode cX5_isRecoding 19 = .ok (.ireturn, 1) := by decide +kernel
theorem dX5_bit_0 : decode cX5_bit 0 = .ok (.iload_n 0, 1) := by decide +kernel
theorem dX5_bit_1 : decode cX5_bit 1 = .ok (.iload_n 1, 1) := by decide +kernel
theorem dX5_bit_2 : decode cX5_bit 2 = .ok (.ishr, 1) := by decide +kernel
theorem dX5_bit_3 : decode cX5_bit 3 = .ok (.iconst 1, 1) := by decide +kernel
theorem dX5_bit_4 : decode cX5_bit 4 = .ok (.iand, 1) := by decide +kernel
theorem dX5_bit_5 : decode cX5_bit 5 = .ok (.ireturn, 1) := by decide +kernel
theorem dX5_bitsPerDigit_0 : decode cX5_bitsPerDigit 0 = .ok (.iload_n 0, 1) := by decide +kernel
theorem dX5_bitsPerDigit_1 : decode cX5_bitsPerDigit 1 = .ok (.iconst 1, 1) := by decide +kernel
theorem dX5_bitsPerDigit_2 : decode cX5_bitsPerDigit 2 = .ok (.if_icmp .ne 7, 3) := by decide +kernel
theorem dX5_bitsPerDigit_5 : decode cX5_bitsPerDigit 5 = .ok (.iconst 2, 1) := by decide +kernel
theorem dX5_bitsPerDigit_6 : decode cX5_bitsPerDigit 6 = .ok (.goto 4, 3) := by decide +kernel
theorem dX5_bitsPerDigit_9 : decode cX5_bitsPerDigit 9 = .ok (.iconst 1, 1) := by decide +kernel
theorem dX5_bitsPerDigit_10 : decode cX5_bitsPerDigit 10 = .ok (.ireturn, 1) := by decide +kernel
theorem dX5_digitCount_0 : decode cX5_digitCount 0 = .ok (.iload_n 0, 1) := by decide +kernel
theorem dX5_digitCount_1 : decode cX5_digitCount 1 = .ok (.iconst 1, 1) := by decide +kernel
theorem dX5_digitCount_2 : decode cX5_digitCount 2 = .ok (.if_icmp .ne 9, 3) := by decide +kernel
theorem dX5_digitCount_5 : decode cX5_digitCount 5 = .ok (.iload_n 1, 1) := by decide +kernel
theorem dX5_digitCount_6 : decode cX5_digitCount 6 = .ok (.iconst 2, 1) := by decide +kernel
theorem dX5_digitCount_7 : decode cX5_digitCount 7 = .ok (.idiv, 1) := by decide +kernel
theorem dX5_digitCount_8 : decode cX5_digitCount 8 = .ok (.goto 4, 3) := by decide +kernel
theorem dX5_digitCount_11 : decode cX5_digitCount 11 = .ok (.iload_n 1, 1) := by decide +kernel
theorem dX5_digitCount_12 : decode cX5_digitCount 12 = .ok (.ireturn, 1) := by decide +kernel
set_option maxRecDepth 20000 in
theorem ggX5_digit_X5_bit : GoodIn wsX5_digit wsX5_bit := goodIn_r _ [4] rfl (by decide +kernel)
set_option maxRecDepth 20000 in
theorem gX5_digit_X5_bit : GoodIn wsX5_digit (va_wsS RX5 181 yX5_bit wsX5_bit) := goodIn_app (goodIn_of _ (by decide +kernel)) ggX5_digit_X5_bit
theorem dX5_digit_0 : decode cX5_digit 0 = .ok (.iload_n 0, 1) := by decide +kernel
theorem dX5_digit_1 : decode cX5_digit 1 = .ok (.iconst 1, 1) := by decide +kernel
theorem dX5_digit_2 : decode cX5_digit 2 = .ok (.ishl, 1) := by decide +kernel
theorem dX5_digit_3 : decode cX5_digit 3 = .ok (.istore_n 3, 1) := by decide +kernel
theorem dX5_digit_4 : decode cX5_digit 4 = .ok (.iload_n 1, 1) := by decide +kernel
theorem dX5_digit_5 : decode cX5_digit 5 = .ok (.lookupswitch 71 #[(0, 27), (1, 41)], 27) := by decide +kernel
theorem dX5_digit_32 : decode cX5_digit 32 = .ok (.iload_n 3, 1) := by decide +kernel
theorem dX5_digit_33 : decode cX5_digit 33 = .ok (.iload_n 2, 1) := by decide +kernel
theorem dX5_digit_34 : decode cX5_digit 34 = .ok (.invokestatic 181, 3) := by decide +kernel
theorem dX5_digit_37 : decode cX5_digit 37 = .ok (.iload_n 3, 1) := by decide +kernel
theorem dX5_digit_38 : decode cX5_digit 38 = .ok (.iload_n 2, 1) := by decide +kernel
theorem dX5_digit_39 : decode cX5_digit 39 = .ok (.iconst 1, 1) := by decide +kernel
theorem dX5_digit_40 : decode cX5_digit 40 = .ok (.iadd, 1) := by decide +kernel
theorem dX5_digit_41 : decode cX5_digit 41 = .ok (.invokestatic 181, 3) := by decide +kernel
theorem dX5_digit_44 : decode cX5_digit 44 = .ok (.isub, 1) := by decide +kernel
theorem dX5_digit_45 : decode cX5_digit 45 = .ok (.ireturn, 1) := by decide +kernel
theorem dX5_digit_46 : decode cX5_digit 46 = .ok (.iload_n 3, 1) := by decide +kernel
theorem dX5_digit_47 : decode cX5_digit 47 = .ok (.iconst 2, 1) := by decide +kernel
theorem dX5_digit_48 : decode cX5_digit 48 = .ok (.iload_n 2, 1) := by decide +kernel
theorem dX5_digit_49 : decode cX5_digit 49 = .ok (.imul, 1) := by decide +kernel
theorem dX5_digit_50 : decode cX5_digit 50 = .ok (.invokestatic 181, 3) := by decide +kernel
theorem dX5_digit_53 : decode cX5_digit 53 = .ok (.iload_n 3, 1) := by decide +kernel
theorem dX5_digit_54 : decode cX5_digit 54 = .ok (.iconst 2, 1) := by decide +kernel
theorem dX5_digit_55 : decode cX5_digit 55 = .ok (.iload_n 2, 1) := by decide +kernel
theorem dX5_digit_56 : decode cX5_digit 56 = .ok (.imul, 1) := by decide +kernel
theorem dX5_digit_57 : decode cX5_digit 57 = .ok (.iconst 1, 1) := by decide +kernel
theorem dX5_digit_58 : decode cX5_digit 58 = .ok (.iadd, 1) := by decide +kernel
theorem dX5_digit_59 : decode cX5_digit 59 = .ok (.invokestatic 181, 3) := by decide +kernel
theorem dX5_digit_62 : decode cX5_digit 62 = .ok (.iadd, 1) := by decide +kernel
theorem dX5_digit_63 : decode cX5_digit 63 = .ok (.iconst 2, 1) := by decide +kernel
theorem dX5_digit_64 : decode cX5_digit 64 = .ok (.iload_n 3, 1) := by decide +kernel
theorem dX5_digit_65 : decode cX5_digit 65 = .ok (.iconst 2, 1) := by decide +kernel
theorem dX5_digit_66 : decode cX5_digit 66 = .ok (.iload_n 2, 1) := by decide +kernel
theorem dX5_digit_67 : decode cX5_digit 67 = .ok (.imul, 1) := by decide +kernel
theorem dX5_digit_68 : decode cX5_digit 68 = .ok (.iconst 2, 1) := by decide +kernel
theorem dX5_digit_69 : decode cX5_digit 69 = .ok (.iadd, 1) := by decide +kernel
theorem dX5_digit_70 : decode cX5_digit 70 = .ok (.invokestatic 181, 3) := by decide +kernel
theorem dX5_digit_73 : decode cX5_digit 73 = .ok (.imul, 1) := by decide +kernel
theorem dX5_digit_74 : decode cX5_digit 74 = .ok (.isub, 1) := by decide +kernel
theorem dX5_digit_75 : decode cX5_digit 75 = .ok (.ireturn, 1) := by decide +kernel
theorem dX5_digit_76 : decode cX5_digit 76 = .ok (.iconst 3, 1) := by decide +kernel
theorem dX5_digit_77 : decode cX5_digit 77 = .ok (.iload_n 0, 1) := by decide +kernel
theorem dX5_digit_78 : decode cX5_digit 78 = .ok (.imul, 1) := by decide +kernel
theorem dX5_digit_79 : decode cX5_digit 79 = .ok (.iload_n 2, 1) := by decide +kernel
theorem dX5_digit_80 : decode cX5_digit 80 = .ok (.iconst 1, 1) := by decide +kernel
theorem dX5_digit_81 : decode cX5_digit 81 = .ok (.iadd, 1) := by decide +kernel
theorem dX5_digit_82 : decode cX5_digit 82 = .ok (.invokestatic 181, 3) := by decide +kernel
theorem dX5_digit_85 : decode cX5_digit 85 = .ok (.iload_n 0, 1) := by decide +kernel
theorem dX5_digit_86 : decode cX5_digit 86 = .ok (.iload_n 2, 1) := by decide +kernel
theorem dX5_digit_87 : decode cX5_digit 87 = .ok (.iconst 1, 1) := by decide +kernel
theorem dX5_digit_88 : decode cX5_digit 88 = .ok (.iadd, 1) := by decide +kernel
theorem dX5_digit_89 : decode cX5_digit 89 = .ok (.invokestatic 181, 3) := by decide +kernel
theorem dX5_digit_92 : decode cX5_digit 92 = .ok (.isub, 1) := by decide +kernel
theorem dX5_digit_93 : decode cX5_digit 93 = .ok (.ireturn, 1) := by decide +kernel
theorem dX5_carryBits_0 : decode cX5_carryBits 0 = .ok (.iload_n 0, 1) := by decide +kernel
theorem dX5_carryBits_1 : decode cX5_carryBits 1 = .ok (.iload_n 1, 1) := by decide +kernel
theorem dX5_carryBits_2 : decode cX5_carryBits 2 = .ok (.ixor, 1) := by decide +kernel
theorem dX5_carryBits_3 : decode cX5_carryBits 3 = .ok (.iload_n 0, 1) := by decide +kernel
theorem dX5_carryBits_4 : decode cX5_carryBits 4 = .ok (.iload_n 1, 1) := by decide +kernel
theorem dX5_carryBits_5 : decode cX5_carryBits 5 = .ok (.iadd, 1) := by decide +kernel
theorem dX5_carryBits_6 : decode cX5_carryBits 6 = .ok (.ixor, 1) := by decide +kernel
theorem dX5_carryBits_7 : decode cX5_carryBits 7 = .ok (.iconst 1, 1) := by decide +kernel
theorem dX5_carryBits_8 : decode cX5_carryBits 8 = .ok (.ishr, 1) := by decide +kernel
theorem dX5_carryBits_9 : decode cX5_carryBits 9 = .ok (.ireturn, 1) := by decide +kernel
theorem dX6_init_0 : decode cX6_init 0 = .ok (.aload_n 0, 1) := by decide +kernel
theorem dX6_init_1 : decode cX6_init 1 = .ok (.invokespecial 1, 3) := by decide +kernel
theorem dX6_init_4 : decode cX6_init 4 = .ok (.aload_n 0, 1) := by decide +kernel
theorem dX6_init_5 : decode cX6_init 5 = .ok (.bipush 16, 2) := by decide +kernel
theorem dX6_init_7 : decode cX6_init 7 = .ok (.newarray .int, 2) := by decide +kernel
theorem dX6_init_9 : decode cX6_init 9 = .ok (.putfield 7, 3) := by decide +kernel
theorem dX6_init_12 : decode cX6_init 12 = .ok (.aload_n 0, 1) := by decide +kernel
theorem dX6_init_13 : decode cX6_init 13 = .ok (.bipush 16, 2) := by decide +kernel
theorem dX6_init_15 : decode cX6_init 15 = .ok (.newarray .int, 2) := by decide +kernel
theorem dX6_init_17 : decode cX6_init 17 = .ok (.putfield 13, 3) := by decide +kernel
theorem dX6_init_20 : decode cX6_init 20 = .ok (.aload_n 0, 1) := by decide +kernel
theorem dX6_init_21 : decode cX6_init 21 = .ok (.bipush 64, 2) := by decide +kernel
theorem dX6_init_23 : decode cX6_init 23 = .ok (.newarray .int, 2) := by decide +kernel
theorem dX6_init_25 : decode cX6_init 25 = .ok (.putfield 16, 3) := by decide +kernel
theorem dX6_init_28 : decode cX6_init 28 = .ok (.aload_n 0, 1) := by decide +kernel
theorem dX6_init_29 : decode cX6_init 29 = .ok (.bipush 16, 2) := by decide +kernel
theorem dX6_init_31 : decode cX6_init 31 = .ok (.newarray .int, 2) := by decide +kernel
theorem dX6_init_33 : decode cX6_init 33 = .ok (.putfield 19, 3) := by decide +kernel
theorem dX6_init_36 : decode cX6_init 36 = .ok (.aload_n 0, 1) := by decide +kernel
theorem dX6_init_37 : decode cX6_init 37 = .ok (.bipush 60, 2) := by decide +kernel
theorem dX6_init_39 : decode cX6_init 39 = .ok (.newarray .int, 2) := by decide +kernel
theorem dX6_init_41 : decode cX6_init 41 = .ok (.putfield 22, 3) := by decide +kernel
theorem dX6_init_44 : decode cX6_init 44 = .ok (.aload_n 0, 1) := by decide +kernel
theorem dX6_init_45 : decode cX6_init 45 = .ok (.bipush 64, 2) := by decide +kernel
theorem dX6_init_47 : decode cX6_init 47 = .ok (.newarray .int, 2) := by decide +kernel
theorem dX6_init_49 : decode cX6_init 49 = .ok (.putfield 25, 3) := by decide +kernel
theorem dX6_init_52 : decode cX6_init 52 = .ok (.aload_n 0, 1) := by decide +kernel
theorem dX6_init_53 : decode cX6_init 53 = .ok (.bipush 17, 2) := by decide +kernel
theorem dX6_init_55 : decode cX6_init 55 = .ok (.newarray .int, 2) := by decide +kernel
theorem dX6_init_57 : decode cX6_init 57 = .ok (.putfield 28, 3) := by decide +kernel
theorem dX6_init_60 : decode cX6_init 60 = .ok (.aload_n 0, 1) := by decide +kernel
theorem dX6_init_61 : decode cX6_init 61 = .ok (.iconst 0, 1) := by decide +kernel
theorem dX6_init_62 : decode cX6_init 62 = .ok (.putfield 31, 3) := by decide +kernel
theorem dX6_init_65 : decode cX6_init 65 = .ok (.aload_n 0, 1) := by decide +kernel
theorem dX6_init_66 : decode cX6_init 66 = .ok (.getfield 7, 3) := by decide +kernel
theorem dX6_init_69 : decode cX6_init 69 = .ok (.iconst 0, 1) := by decide +kernel
theorem dX6_init_70 : decode cX6_init 70 = .ok (.bipush 8, 2) := by decide +kernel
theorem dX6_init_72 : decode cX6_init 72 = .ok (.iastore, 1) := by decide +kernel
theorem dX6_init_73 : decode cX6_init 73 = .ok (.aload_n 0, 1) := by decide +kernel
theorem dX6_init_74 : decode cX6_init 74 = .ok (.getfield 7, 3) := by decide +kernel
theorem dX6_init_77 : decode cX6_init 77 = .ok (.bipush 7, 2) := by decide +kernel
theorem dX6_init_79 : decode cX6_init 79 = .ok (.iconst (-1), 1) := by decide +kernel
theorem dX6_init_80 : decode cX6_init 80 = .ok (.iastore, 1) := by decide +kernel
theorem dX6_init_81 : decode cX6_init 81 = .ok (.return_, 1) := by decide +kernel
theorem dX6_thrown_0 : decode cX6_thrown 0 = .ok (.aload_n 0, 1) := by decide +kernel
theorem dX6_thrown_1 : decode cX6_thrown 1 = .ok (.getfield 31, 3) := by decide +kernel
theorem dX6_thrown_4 : decode cX6_thrown 4 = .ok (.ireturn, 1) := by decide +kernel
theorem dX6_fails_0 : decode cX6_fails 0 = .ok (.aload_n 0, 1) := by decide +kernel
theorem dX6_fails_1 : decode cX6_fails 1 = .ok (.iload_n 1, 1) := by decide +kernel
theorem dX6_fails_2 : decode cX6_fails 2 = .ok (.putfield 31, 3) := by decide +kernel
theorem dX6_fails_5 : decode cX6_fails 5 = .ok (.iconst 0, 1) := by decide +kernel
theorem dX6_fails_6 : decode cX6_fails 6 = .ok (.ireturn, 1) := by decide +kernel
theorem dX6_in_0 : decode cX6_in 0 = .ok (.iload_n 0, 1) := by decide +kernel
theorem dX6_in_1 : decode cX6_in 1 = .ok (.iload_n 1, 1) := by decide +kernel
theorem dX6_in_2 : decode cX6_in 2 = .ok (.if_icmp .lt 12, 3) := by decide +kernel
theorem dX6_in_5 : decode cX6_in 5 = .ok (.iload_n 0, 1) := by decide +kernel
theorem dX6_in_6 : decode cX6_in 6 = .ok (.iload_n 2, 1) := by decide +kernel
theorem dX6_in_7 : decode cX6_in 7 = .ok (.if_icmp .gt 7, 3) := by decide +kernel
theorem dX6_in_10 : decode cX6_in 10 = .ok (.iconst 1, 1) := by decide +kernel
theorem dX6_in_11 : decode cX6_in 11 = .ok (.goto 4, 3) := by decide +kernel
theorem dX6_in_14 : decode cX6_in 14 = .ok (.iconst 0, 1) := by decide +kernel
theorem dX6_in_15 : decode cX6_in 15 = .ok (.ireturn, 1) := by decide +kernel
set_option maxRecDepth 20000 in
theorem ggX6_isRegister_X6_in : GoodIn wsX6_isRegister wsX6_in := goodIn_r _ [4] rfl (by decide +kernel)
set_option maxRecDepth 20000 in
theorem gX6_isRegister_X6_in : GoodIn wsX6_isRegister (va_wsS RX6 35 yX6_in wsX6_in) := goodIn_app (goodIn_of _ (by decide +kernel)) ggX6_isRegister_X6_in
theorem dX6_isRegister_0 : decode cX6_isRegister 0 = .ok (.iload_n 0, 1) := by decide +kernel
theorem dX6_isRegister_1 : decode cX6_isRegister 1 = .ok (.iconst 0, 1) := by decide +kernel
theorem dX6_isRegister_2 : decode cX6_isRegister 2 = .ok (.iconst 5, 1) := by decide +kernel
theorem dX6_isRegister_3 : decode cX6_isRegister 3 = .ok (.invokestatic 35, 3) := by decide +kernel
theorem dX6_isRegister_6 : decode cX6_isRegister 6 = .ok (.ireturn, 1) := by decide +kernel
set_option maxRecDepth 20000 in
theorem ggX6_areRegisters_X6_isRegister : GoodIn wsX6_areRegisters wsX6_isRegister := goodIn_r _ [4, 5, 6, 3, 7] rfl (by decide +kernel)
set_option maxRecDepth 20000 in
theorem gX6_areRegisters_X6_isRegister : GoodIn wsX6_areRegisters (va_wsS RX6 39 yX6_isRegister wsX6_isRegister) := goodIn_app (goodIn_of _ (by decide +kernel)) ggX6_areRegisters_X6_isRegister
theorem dX6_areRegisters_0 : decode cX6_areRegisters 0 = .ok (.iload_n 0, 1) := by decide +kernel
theorem dX6_areRegisters_1 : decode cX6_areRegisters 1 = .ok (.invokestatic 39, 3) := by decide +kernel
theorem dX6_areRegisters_4 : decode cX6_areRegisters 4 = .ok (.ifCond .eq 14, 3) := by decide +kernel
theorem dX6_areRegisters_7 : decode cX6_areRegisters 7 = .ok (.iload_n 1, 1) := by decide +kernel
theorem dX6_areRegisters_8 : decode cX6_areRegisters 8 = .ok (.invokestatic 39, 3) := by decide +kernel
theorem dX6_areRegisters_11 : decode cX6_areRegisters 11 = .ok (.ifCond .eq 7, 3) := by decide +kernel
theorem dX6_areRegisters_14 : decode cX6_areRegisters 14 = .ok (.iconst 1, 1) := by decide +kernel
theorem dX6_areRegisters_15 : decode cX6_areRegisters 15 = .ok (.goto 4, 3) := by decide +kernel
theorem dX6_areRegisters_18 : decode cX6_areRegisters 18 = .ok (.iconst 0, 1) := by decide +kernel
theorem dX6_areRegisters_19 : decode cX6_areRegisters 19 = .ok (.ireturn, 1) := by decide +kernel
theorem dX6_of_0 : decode cX6_of 0 = .ok (.aload_n 0, 1) := by decide +kernel
theorem dX6_of_1 : decode cX6_of 1 = .ok (.getfield 7, 3) := by decide +kernel
theorem dX6_of_4 : decode cX6_of 4 = .ok (.iconst 1, 1) := by decide +kernel
theorem dX6_of_5 : decode cX6_of 5 = .ok (.iload_n 1, 1) := by decide +kernel
theorem dX6_of_6 : decode cX6_of 6 = .ok (.iadd, 1) := by decide +kernel
theorem dX6_of_7 : decode cX6_of 7 = .ok (.iaload, 1) := by decide +kernel
theorem dX6_of_8 : decode cX6_of 8 = .ok (.ireturn, 1) := by decide +kernel
set_option maxRecDepth 20000 in
theorem ggX6_isValue_X6_in : GoodIn wsX6_isValue wsX6_in := goodIn_r _ [5] rfl (by decide +kernel)
set_option maxRecDepth 20000 in
theorem gX6_isValue_X6_in : GoodIn wsX6_isValue (va_wsS RX6 35 yX6_in wsX6_in) := goodIn_app (goodIn_of _ (by decide +kernel)) ggX6_isValue_X6_in
theorem dX6_isValue_0 : decode cX6_isValue 0 = .ok (.iload_n 1, 1) := by decide +kernel
theorem dX6_isValue_1 : decode cX6_isValue 1 = .ok (.iconst 1, 1) := by decide +kernel
theorem dX6_isValue_2 : decode cX6_isValue 2 = .ok (.aload_n 0, 1) := by decide +kernel
theorem dX6_isValue_3 : decode cX6_isValue 3 = .ok (.getfield 7, 3) := by decide +kernel
theorem dX6_isValue_6 : decode cX6_isValue 6 = .ok (.iconst 0, 1) := by decide +kernel
theorem dX6_isValue_7 : decode cX6_isValue 7 = .ok (.iaload, 1) := by decide +kernel
theorem dX6_isValue_8 : decode cX6_isValue 8 = .ok (.iconst 1, 1) := by decide +kernel
theorem dX6_isValue_9 : decode cX6_isValue 9 = .ok (.isub, 1) := by decide +kernel
theorem dX6_isValue_10 : decode cX6_isValue 10 = .ok (.ishl, 1) := by decide +kernel
theorem dX6_isValue_11 : decode cX6_isValue 11 = .ok (.ineg, 1) := by decide +kernel
theorem dX6_isValue_12 : decode cX6_isValue 12 = .ok (.iconst 1, 1) := by decide +kernel
theorem dX6_isValue_13 : decode cX6_isValue 13 = .ok (.aload_n 0, 1) := by decide +kernel
theorem dX6_isValue_14 : decode cX6_isValue 14 = .ok (.getfield 7, 3) := by decide +kernel
theorem dX6_isValue_17 : decode cX6_isValue 17 = .ok (.iconst 0, 1) := by decide +kernel
theorem dX6_isValue_18 : decode cX6_isValue 18 = .ok (.iaload, 1) := by decide +kernel
theorem dX6_isValue_19 : decode cX6_isValue 19 = .ok (.iconst 1, 1) := by decide +kernel
theorem dX6_isValue_20 : decode cX6_isValue 20 = .ok (.isub, 1) := by decide +kernel
theorem dX6_isValue_21 : decode cX6_isValue 21 = .ok (.ishl, 1) := by decide +kernel
theorem dX6_isValue_22 : decode cX6_isValue 22 = .ok (.iconst 1, 1) := by decide +kernel
theorem dX6_isValue_23 : decode cX6_isValue 23 = .ok (.isub, 1) := by decide +kernel
theorem dX6_isValue_24 : decode cX6_isValue 24 = .ok (.invokestatic 35, 3) := by decide +kernel
theorem dX6_isValue_27 : decode cX6_isValue 27 = .ok (.ireturn, 1) := by decide +kernel
theorem dX6_wrapped_0 : decode cX6_wrapped 0 = .ok (.iload_n 1, 1) := by decide +kernel
theorem dX6_wrapped_1 : decode cX6_wrapped 1 = .ok (.iconst 1, 1) := by decide +kernel
theorem dX6_wrapped_2 : decode cX6_wrapped 2 = .ok (.aload_n 0, 1) := by decide +kernel
theorem dX6_wrapped_3 : decode cX6_wrapped 3 = .ok (.getfield 7, 3) := by decide +kernel
theorem dX6_wrapped_6 : decode cX6_wrapped 6 = .ok (.iconst 0, 1) := by decide +kernel
theorem dX6_wrapped_7 : decode cX6_wrapped 7 = .ok (.iaload, 1) := by decide +kernel
theorem dX6_wrapped_8 : decode cX6_wrapped 8 = .ok (.ishl, 1) := by decide +kernel
theorem dX6_wrapped_9 : decode cX6_wrapped 9 = .ok (.iconst 1, 1) := by decide +kernel
theorem dX6_wrapped_10 : decode cX6_wrapped 10 = .ok (.isub, 1) := by decide +kernel
theorem dX6_wrapped_11 : decode cX6_wrapped 11 = .ok (.iand, 1) := by decide +kernel
theorem dX6_wrapped_12 : decode cX6_wrapped 12 = .ok (.istore_n 2, 1) := by decide +kernel
theorem dX6_wrapped_13 : decode cX6_wrapped 13 = .ok (.iload_n 2, 1) := by decide +kernel
theorem dX6_wrapped_14 : decode cX6_wrapped 14 = .ok (.iconst 1, 1) := by decide +kernel
theorem dX6_wrapped_15 : decode cX6_wrapped 15 = .ok (.aload_n 0, 1) := by decide +kernel
theorem dX6_wrapped_16 : decode cX6_wrapped 16 = .ok (.getfield 7, 3) := by decide +kernel
theorem dX6_wrapped_19 : decode cX6_wrapped 19 = .ok (.iconst 0, 1) := by decide +kernel
theorem dX6_wrapped_20 : decode cX6_wrapped 20 = .ok (.iaload, 1) := by decide +kernel
theorem dX6_wrapped_21 : decode cX6_wrapped 21 = .ok (.iconst 1, 1) := by decide +kernel
theorem dX6_wrapped_22 : decode cX6_wrapped 22 = .ok (.isub, 1) := by decide +kernel
theorem dX6_wrapped_23 : decode cX6_wrapped 23 = .ok (.ishl, 1) := by decide +kernel
theorem dX6_wrapped_24 : decode cX6_wrapped 24 = .ok (.if_icmp .lt 16, 3) := by decide +kernel
theorem dX6_wrapped_27 : decode cX6_wrapped 27 = .ok (.iload_n 2, 1) := by decide +kernel
theorem dX6_wrapped_28 : decode cX6_wrapped 28 = .ok (.iconst 1, 1) := by decide +kernel
theorem dX6_wrapped_29 : decode cX6_wrapped 29 = .ok (.aload_n 0, 1) := by decide +kernel
theorem dX6_wrapped_30 : decode cX6_wrapped 30 = .ok (.getfield 7, 3) := by decide +kernel
theorem dX6_wrapped_33 : decode cX6_wrapped 33 = .ok (.iconst 0, 1) := by decide +kernel
theorem dX6_wrapped_34 : decode cX6_wrapped 34 = .ok (.iaload, 1) := by decide +kernel
theorem dX6_wrapped_35 : decode cX6_wrapped 35 = .ok (.ishl, 1) := by decide +kernel
theorem dX6_wrapped_36 : decode cX6_wrapped 36 = .ok (.isub, 1) := by decide +kernel
theorem dX6_wrapped_37 : decode cX6_wrapped 37 = .ok (.goto 4, 3) := by decide +kernel
theorem dX6_wrapped_40 : decode cX6_wrapped 40 = .ok (.iload_n 2, 1) := by decide +kernel
theorem dX6_wrapped_41 : decode cX6_wrapped 41 = .ok (.ireturn, 1) := by decide +kernel
theorem dX6_bitsOf_0 : decode cX6_bitsOf 0 = .ok (.iload_n 1, 1) := by decide +kernel
theorem dX6_bitsOf_1 : decode cX6_bitsOf 1 = .ok (.iconst 1, 1) := by decide +kernel
theorem dX6_bitsOf_2 : decode cX6_bitsOf 2 = .ok (.aload_n 0, 1) := by decide +kernel
theorem dX6_bitsOf_3 : decode cX6_bitsOf 3 = .ok (.getfield 7, 3) := by decide +kernel
theorem dX6_bitsOf_6 : decode cX6_bitsOf 6 = .ok (.iconst 0, 1) := by decide +kernel
theorem dX6_bitsOf_7 : decode cX6_bitsOf 7 = .ok (.iaload, 1) := by decide +kernel
theorem dX6_bitsOf_8 : decode cX6_bitsOf 8 = .ok (.ishl, 1) := by decide +kernel
theorem dX6_bitsOf_9 : decode cX6_bitsOf 9 = .ok (.iconst 1, 1) := by decide +kernel
theorem dX6_bitsOf_10 : decode cX6_bitsOf 10 = .ok (.isub, 1) := by decide +kernel
theorem dX6_bitsOf_11 : decode cX6_bitsOf 11 = .ok (.iand, 1) := by decide +kernel
theorem dX6_bitsOf_12 : decode cX6_bitsOf 12 = .ok (.ireturn, 1) := by decide +kernel
theorem dX6_records_0 : decode cX6_records 0 = .ok (.aload_n 0, 1) := by decide +kernel
theorem dX6_records_1 : decode cX6_records 1 = .ok (.getfield 43, 3) := by decide +kernel
theorem dX6_records_4 : decode cX6_records 4 = .ok (.iconst 4, 1) := by decide +kernel
theorem dX6_records_5 : decode cX6_records 5 = .ok (.if_icmp .ne 42, 3) := by decide +kernel
theorem dX6_records_8 : decode cX6_records 8 = .ok (.iconst 0, 1) := by decide +kernel
theorem dX6_records_9 : decode cX6_records 9 = .ok (.istore_n 1, 1) := by decide +kernel
theorem dX6_records_10 : decode cX6_records 10 = .ok (.iload_n 1, 1) := by decide +kernel
theorem dX6_records_11 : decode cX6_records 11 = .ok (.bipush 48, 2) := by decide +kernel
theorem dX6_records_13 : decode cX6_records 13 = .ok (.if_icmp .ge 24, 3) := by decide +kernel
theorem dX6_records_16 : decode cX6_records 16 = .ok (.aload_n 0, 1) := by decide +kernel
theorem dX6_records_17 : decode cX6_records 17 = .ok (.getfield 16, 3) := by decide +kernel
theorem dX6_records_20 : decode cX6_records 20 = .ok (.iload_n 1, 1) := by decide +kernel
theorem dX6_records_21 : decode cX6_records 21 = .ok (.aload_n 0, 1) := by decide +kernel
theorem dX6_records_22 : decode cX6_records 22 = .ok (.getfield 16, 3) := by decide +kernel
theorem dX6_records_25 : decode cX6_records 25 = .ok (.iload_n 1, 1) := by decide +kernel
theorem dX6_records_26 : decode cX6_records 26 = .ok (.bipush 16, 2) := by decide +kernel
theorem dX6_records_28 : decode cX6_records 28 = .ok (.iadd, 1) := by decide +kernel
theorem dX6_records_29 : decode cX6_records 29 = .ok (.iaload, 1) := by decide +kernel
theorem dX6_records_30 : decode cX6_records 30 = .ok (.iastore, 1) := by decide +kernel
theorem dX6_records_31 : decode cX6_records 31 = .ok (.iinc 1 1, 3) := by decide +kernel
theorem dX6_records_34 : decode cX6_records 34 = .ok (.goto (-24), 3) := by decide +kernel
theorem dX6_records_37 : decode cX6_records 37 = .ok (.aload_n 0, 1) := by decide +kernel
theorem dX6_records_38 : decode cX6_records 38 = .ok (.dup, 1) := by decide +kernel
theorem dX6_records_39 : decode cX6_records 39 = .ok (.getfield 43, 3) := by decide +kernel
theorem dX6_records_42 : decode cX6_records 42 = .ok (.iconst 1, 1) := by decide +kernel
theorem dX6_records_43 : decode cX6_records 43 = .ok (.isub, 1) := by decide +kernel
theorem dX6_records_44 : decode cX6_records 44 = .ok (.putfield 43, 3) := by decide +kernel
theorem dX6_records_47 : decode cX6_records 47 = .ok (.iconst 0, 1) := by decide +kernel
theorem dX6_records_48 : decode cX6_records 48 = .ok (.istore_n 1, 1) := by decide +kernel
theorem dX6_records_49 : decode cX6_records 49 = .ok (.iload_n 1, 1) := by decide +kernel
theorem dX6_records_50 : decode cX6_records 50 = .ok (.bipush 16, 2) := by decide +kernel
theorem dX6_records_52 : decode cX6_records 52 = .ok (.if_icmp .ge 29, 3) := by decide +kernel
theorem dX6_records_55 : decode cX6_records 55 = .ok (.aload_n 0, 1) := by decide +kernel
theorem dX6_records_56 : decode cX6_records 56 = .ok (.getfield 16, 3) := by decide +kernel
theorem dX6_records_59 : decode cX6_records 59 = .ok (.bipush 16, 2) := by decide +kernel
theorem dX6_records_61 : decode cX6_records 61 = .ok (.aload_n 0, 1) := by decide +kernel
theorem dX6_records_62 : decode cX6_records 62 = .ok (.getfield 43, 3) := by decide +kernel
theorem dX6_records_65 : decode cX6_records 65 = .ok (.imul, 1) := by decide +kernel
theorem dX6_records_66 : decode cX6_records 66 = .ok (.iload_n 1, 1) := by decide +kernel
theorem dX6_records_67 : decode cX6_records 67 = .ok (.iadd, 1) := by decide +kernel
theorem dX6_records_68 : decode cX6_records 68 = .ok (.aload_n 0, 1) := by decide +kernel
theorem dX6_records_69 : decode cX6_records 69 = .ok (.getfield 7, 3) := by decide +kernel
theorem dX6_records_72 : decode cX6_records 72 = .ok (.iload_n 1, 1) := by decide +kernel
theorem dX6_records_73 : decode cX6_records 73 = .ok (.iaload, 1) := by decide +kernel
theorem dX6_records_74 : decode cX6_records 74 = .ok (.iastore, 1) := by decide +kernel
theorem dX6_records_75 : decode cX6_records 75 = .ok (.iinc 1 1, 3) := by decide +kernel
theorem dX6_records_78 : decode cX6_records 78 = .ok (.goto (-29), 3) := by decide +kernel
theorem dX6_records_81 : decode cX6_records 81 = .ok (.aload_n 0, 1) := by decide +kernel
theorem dX6_records_82 : decode cX6_records 82 = .ok (.dup, 1) := by decide +kernel
theorem dX6_records_83 : decode cX6_records 83 = .ok (.getfield 43, 3) := by decide +kernel
theorem dX6_records_86 : decode cX6_records 86 = .ok (.iconst 1, 1) := by decide +kernel
theorem dX6_records_87 : decode cX6_records 87 = .ok (.iadd, 1) := by decide +kernel
theorem dX6_records_88 : decode cX6_records 88 = .ok (.putfield 43, 3) := by decide +kernel
theorem dX6_records_91 : decode cX6_records 91 = .ok (.return_, 1) := by decide +kernel
theorem dX6_putAside_0 : decode cX6_putAside 0 = .ok (.iconst 0, 1) := by decide +kernel
theorem dX6_putAside_1 : decode cX6_putAside 1 = .ok (.istore_n 1, 1) := by decide +kernel
theorem dX6_putAside_2 : decode cX6_putAside 2 = .ok (.iload_n 1, 1) := by decide +kernel
theorem dX6_putAside_3 : decode cX6_putAside 3 = .ok (.bipush 16, 2) := by decide +kernel
theorem dX6_putAside_5 : decode cX6_putAside 5 = .ok (.if_icmp .ge 21, 3) := by decide +kernel
theorem dX6_putAside_8 : decode cX6_putAside 8 = .ok (.aload_n 0, 1) := by decide +kernel
theorem dX6_putAside_9 : decode cX6_putAside 9 = .ok (.getfield 13, 3) := by decide +kernel
theorem dX6_putAside_12 : decode cX6_putAside 12 = .ok (.iload_n 1, 1) := by decide +kernel
theorem dX6_putAside_13 : decode cX6_putAside 13 = .ok (.aload_n 0, 1) := by decide +kernel
theorem dX6_putAside_14 : decode cX6_putAside 14 = .ok (.getfield 7, 3) := by decide +kernel
theorem dX6_putAside_17 : decode cX6_putAside 17 = .ok (.iload_n 1, 1) := by decide +kernel
theorem dX6_putAside_18 : decode cX6_putAside 18 = .ok (.iaload, 1) := by decide +kernel
theorem dX6_putAside_19 : decode cX6_putAside 19 = .ok (.iastore, 1) := by decide +kernel
theorem dX6_putAside_20 : decode cX6_putAside 20 = .ok (.iinc 1 1, 3) := by decide +kernel
theorem dX6_putAside_23 : decode cX6_putAside 23 = .ok (.goto (-21), 3) := by decide +kernel
theorem dX6_putAside_26 : decode cX6_putAside 26 = .ok (.return_, 1) := by decide +kernel
theorem dX6_takeBack_0 : decode cX6_takeBack 0 = .ok (.iconst 0, 1) := by decide +kernel
theorem dX6_takeBack_1 : decode cX6_takeBack 1 = .ok (.istore_n 1, 1) := by decide +kernel
theorem dX6_takeBack_2 : decode cX6_takeBack 2 = .ok (.iload_n 1, 1) := by decide +kernel
theorem dX6_takeBack_3 : decode cX6_takeBack 3 = .ok (.bipush 16, 2) := by decide +kernel
theorem dX6_takeBack_5 : decode cX6_takeBack 5 = .ok (.if_icmp .ge 21, 3) := by decide +kernel
theorem dX6_takeBack_8 : decode cX6_takeBack 8 = .ok (.aload_n 0, 1) := by decide +kernel
theorem dX6_takeBack_9 : decode cX6_takeBack 9 = .ok (.getfield 7, 3) := by decide +kernel
theorem dX6_takeBack_12 : decode cX6_takeBack 12 = .ok (.iload_n 1, 1) := by decide +kernel
theorem dX6_takeBack_13 : decode cX6_takeBack 13 = .ok (.aload_n 0, 1) := by decide +kernel
theorem dX6_takeBack_14 : decode cX6_takeBack 14 = .ok (.getfield 13, 3) := by decide +kernel
theorem dX6_takeBack_17 : decode cX6_takeBack 17 = .ok (.iload_n 1, 1) := by decide +kernel
theorem dX6_takeBack_18 : decode cX6_takeBack 18 = .ok (.iaload, 1) := by decide +kernel
theorem dX6_takeBack_19 : decode cX6_takeBack 19 = .ok (.iastore, 1) := by decide +kernel
theorem dX6_takeBack_20 : decode cX6_takeBack 20 = .ok (.iinc 1 1, 3) := by decide +kernel
theorem dX6_takeBack_23 : decode cX6_takeBack 23 = .ok (.goto (-21), 3) := by decide +kernel
theorem dX6_takeBack_26 : decode cX6_takeBack 26 = .ok (.return_, 1) := by decide +kernel
theorem dX6_bit_0 : decode cX6_bit 0 = .ok (.iload_n 1, 1) := by decide +kernel
theorem dX6_bit_1 : decode cX6_bit 1 = .ok (.ifCond .ge 7, 3) := by decide +kernel
theorem dX6_bit_4 : decode cX6_bit 4 = .ok (.iconst 0, 1) := by decide +kernel
theorem dX6_bit_5 : decode cX6_bit 5 = .ok (.goto 8, 3) := by decide +kernel
theorem dX6_bit_8 : decode cX6_bit 8 = .ok (.iload_n 0, 1) := by decide +kernel
theorem dX6_bit_9 : decode cX6_bit 9 = .ok (.iload_n 1, 1) := by decide +kernel
theorem dX6_bit_10 : decode cX6_bit 10 = .ok (.ishr, 1) := by decide +kernel
theorem dX6_bit_11 : decode cX6_bit 11 = .ok (.iconst 1, 1) := by decide +kernel
theorem dX6_bit_12 : decode cX6_bit 12 = .ok (.iand, 1) := by decide +kernel
theorem dX6_bit_13 : decode cX6_bit 13 = .ok (.ireturn, 1) := by decide +kernel
theorem dX6_tellsSparse_0 : decode cX6_tellsSparse 0 = .ok (.iload_n 1, 1) := by decide +kernel
theorem dX6_tellsSparse_1 : decode cX6_tellsSparse 1 = .ok (.istore_n 2, 1) := by decide +kernel
theorem dX6_tellsSparse_2 : decode cX6_tellsSparse 2 = .ok (.iconst 0, 1) := by decide +kernel
theorem dX6_tellsSparse_3 : decode cX6_tellsSparse 3 = .ok (.istore_n 3, 1) := by decide +kernel
theorem dX6_tellsSparse_4 : decode cX6_tellsSparse 4 = .ok (.iload_n 3, 1) := by decide +kernel
theorem dX6_tellsSparse_5 : decode cX6_tellsSparse 5 = .ok (.aload_n 0, 1) := by decide +kernel
theorem dX6_tellsSparse_6 : decode cX6_tellsSparse 6 = .ok (.getfield 7, 3) := by decide +kernel
theorem dX6_tellsSparse_9 : decode cX6_tellsSparse 9 = .ok (.iconst 0, 1) := by decide +kernel
theorem dX6_tellsSparse_10 : decode cX6_tellsSparse 10 = .ok (.iaload, 1) := by decide +kernel
theorem dX6_tellsSparse_11 : decode cX6_tellsSparse 11 = .ok (.if_icmp .ge 41, 3) := by decide +kernel
theorem dX6_tellsSparse_14 : decode cX6_tellsSparse 14 = .ok (.iload_n 2, 1) := by decide +kernel
theorem dX6_tellsSparse_15 : decode cX6_tellsSparse 15 = .ok (.iconst 1, 1) := by decide +kernel
theorem dX6_tellsSparse_16 : decode cX6_tellsSparse 16 = .ok (.iand, 1) := by decide +kernel
theorem dX6_tellsSparse_17 : decode cX6_tellsSparse 17 = .ok (.ifCond .ne 7, 3) := by decide +kernel
theorem dX6_tellsSparse_20 : decode cX6_tellsSparse 20 = .ok (.iconst 0, 1) := by decide +kernel
theorem dX6_tellsSparse_21 : decode cX6_tellsSparse 21 = .ok (.goto 8, 3) := by decide +kernel
theorem dX6_tellsSparse_24 : decode cX6_tellsSparse 24 = .ok (.iconst 2, 1) := by decide +kernel
theorem dX6_tellsSparse_25 : decode cX6_tellsSparse 25 = .ok (.iload_n 2, 1) := by decide +kernel
theorem dX6_tellsSparse_26 : decode cX6_tellsSparse 26 = .ok (.iconst 3, 1) := by decide +kernel
theorem dX6_tellsSparse_27 : decode cX6_tellsSparse 27 = .ok (.iand, 1) := by decide +kernel
theorem dX6_tellsSparse_28 : decode cX6_tellsSparse 28 = .ok (.isub, 1) := by decide +kernel
theorem dX6_tellsSparse_29 : decode cX6_tellsSparse 29 = .ok (.istore 4, 2) := by decide +kernel
theorem dX6_tellsSparse_31 : decode cX6_tellsSparse 31 = .ok (.aload_n 0, 1) := by decide +kernel
theorem dX6_tellsSparse_32 : decode cX6_tellsSparse 32 = .ok (.getfield 28, 3) := by decide +kernel
theorem dX6_tellsSparse_35 : decode cX6_tellsSparse 35 = .ok (.iload_n 3, 1) := by decide +kernel
theorem dX6_tellsSparse_36 : decode cX6_tellsSparse 36 = .ok (.iload 4, 2) := by decide +kernel
theorem dX6_tellsSparse_38 : decode cX6_tellsSparse 38 = .ok (.iastore, 1) := by decide +kernel
theorem dX6_tellsSparse_39 : decode cX6_tellsSparse 39 = .ok (.iload_n 2, 1) := by decide +kernel
theorem dX6_tellsSparse_40 : decode cX6_tellsSparse 40 = .ok (.iload 4, 2) := by decide +kernel
theorem dX6_tellsSparse_42 : decode cX6_tellsSparse 42 = .ok (.isub, 1) := by decide +kernel
theorem dX6_tellsSparse_43 : decode cX6_tellsSparse 43 = .ok (.iconst 1, 1) := by decide +kernel
theorem dX6_tellsSparse_44 : decode cX6_tellsSparse 44 = .ok (.ishr, 1) := by decide +kernel
theorem dX6_tellsSparse_45 : decode cX6_tellsSparse 45 = .ok (.istore_n 2, 1) := by decide +kernel
theorem dX6_tellsSparse_46 : decode cX6_tellsSparse 46 = .ok (.iinc 3 1, 3) := by decide +kernel
theorem dX6_tellsSparse_49 : decode cX6_tellsSparse 49 = .ok (.goto (-45), 3) := by decide +kernel
theorem dX6_tellsSparse_52 : decode cX6_tellsSparse 52 = .ok (.return_, 1) := by decide +kernel
set_option maxRecDepth 20000 in
theorem ggX6_tellsDigits_X6_tellsSparse : GoodIn wsX6_tellsDigits wsX6_tellsSparse := goodIn_r _ [8, 1, 3, 12, 13, 14, 15, 16, 17, 18, 19, 20, 21, 22, 23, 24, 25, 26, 27, 28] rfl (by decide +kernel)
set_option maxRecDepth 20000 in
theorem gX6_tellsDigits_X6_tellsSparse : GoodIn wsX6_tellsDigits (wsV RX6 49 RX6 yX6_tellsSparse wsX6_tellsSparse) := goodIn_app (goodIn_of _ (by decide +kernel)) ggX6_tellsDigits_X6_tellsSparse
set_option maxRecDepth 20000 in
theorem ggX6_tellsDigits_X6_bit : GoodIn wsX6_tellsDigits wsX6_bit := goodIn_r _ [11] rfl (by decide +kernel)
set_option maxRecDepth 20000 in
theorem gX6_tellsDigits_X6_bit : GoodIn wsX6_tellsDigits (va_wsS RX6 53 yX6_bit wsX6_bit) := goodIn_app (goodIn_of _ (by decide +kernel)) ggX6_tellsDigits_X6_bit
theorem dX6_tellsDigits_0 : decode cX6_tellsDigits 0 = .ok (.aload_n 0, 1) := by decide +kernel
theorem dX6_tellsDigits_1 : decode cX6_tellsDigits 1 = .ok (.iload_n 2, 1) := by decide +kernel
theorem dX6_tellsDigits_2 : decode cX6_tellsDigits 2 = .ok (.iconst 1, 1) := by decide +kernel
theorem dX6_tellsDigits_3 : decode cX6_tellsDigits 3 = .ok (.if_icmp .ne 14, 3) := by decide +kernel
theorem dX6_tellsDigits_6 : decode cX6_tellsDigits 6 = .ok (.aload_n 0, 1) := by decide +kernel
theorem dX6_tellsDigits_7 : decode cX6_tellsDigits 7 = .ok (.getfield 7, 3) := by decide +kernel
theorem dX6_tellsDigits_10 : decode cX6_tellsDigits 10 = .ok (.iconst 0, 1) := by decide +kernel
theorem dX6_tellsDigits_11 : decode cX6_tellsDigits 11 = .ok (.iaload, 1) := by decide +kernel
theorem dX6_tellsDigits_12 : decode cX6_tellsDigits 12 = .ok (.iconst 2, 1) := by decide +kernel
theorem dX6_tellsDigits_13 : decode cX6_tellsDigits 13 = .ok (.idiv, 1) := by decide +kernel
theorem dX6_tellsDigits_14 : decode cX6_tellsDigits 14 = .ok (.goto 9, 3) := by decide +kernel
theorem dX6_tellsDigits_17 : decode cX6_tellsDigits 17 = .ok (.aload_n 0, 1) := by decide +kernel
theorem dX6_tellsDigits_18 : decode cX6_tellsDigits 18 = .ok (.getfield 7, 3) := by decide +kernel
theorem dX6_tellsDigits_21 : decode cX6_tellsDigits 21 = .ok (.iconst 0, 1) := by decide +kernel
theorem dX6_tellsDigits_22 : decode cX6_tellsDigits 22 = .ok (.iaload, 1) := by decide +kernel
theorem dX6_tellsDigits_23 : decode cX6_tellsDigits 23 = .ok (.putfield 46, 3) := by decide +kernel
theorem dX6_tellsDigits_26 : decode cX6_tellsDigits 26 = .ok (.iload_n 2, 1) := by decide +kernel
theorem dX6_tellsDigits_27 : decode cX6_tellsDigits 27 = .ok (.iconst 2, 1) := by decide +kernel
theorem dX6_tellsDigits_28 : decode cX6_tellsDigits 28 = .ok (.if_icmp .ne 8, 3) := by decide +kernel
theorem dX6_tellsDigits_31 : decode cX6_tellsDigits 31 = .ok (.aload_n 0, 1) := by decide +kernel
theorem dX6_tellsDigits_32 : decode cX6_tellsDigits 32 = .ok (.iload_n 1, 1) := by decide +kernel
theorem dX6_tellsDigits_33 : decode cX6_tellsDigits 33 = .ok (.invokevirtual 49, 3) := by decide +kernel
theorem dX6_tellsDigits_36 : decode cX6_tellsDigits 36 = .ok (.iconst 0, 1) := by decide +kernel
theorem dX6_tellsDigits_37 : decode cX6_tellsDigits 37 = .ok (.istore_n 3, 1) := by decide +kernel
theorem dX6_tellsDigits_38 : decode cX6_tellsDigits 38 = .ok (.iload_n 3, 1) := by decide +kernel
theorem dX6_tellsDigits_39 : decode cX6_tellsDigits 39 = .ok (.aload_n 0, 1) := by decide +kernel
theorem dX6_tellsDigits_40 : decode cX6_tellsDigits 40 = .ok (.getfield 46, 3) := by decide +kernel
theorem dX6_tellsDigits_43 : decode cX6_tellsDigits 43 = .ok (.if_icmp .ge 69, 3) := by decide +kernel
theorem dX6_tellsDigits_46 : decode cX6_tellsDigits 46 = .ok (.iload_n 2, 1) := by decide +kernel
theorem dX6_tellsDigits_47 : decode cX6_tellsDigits 47 = .ok (.iconst 2, 1) := by decide +kernel
theorem dX6_tellsDigits_48 : decode cX6_tellsDigits 48 = .ok (.if_icmp .ge 64, 3) := by decide +kernel
theorem dX6_tellsDigits_51 : decode cX6_tellsDigits 51 = .ok (.aload_n 0, 1) := by decide +kernel
theorem dX6_tellsDigits_52 : decode cX6_tellsDigits 52 = .ok (.getfield 28, 3) := by decide +kernel
theorem dX6_tellsDigits_55 : decode cX6_tellsDigits 55 = .ok (.iload_n 3, 1) := by decide +kernel
theorem dX6_tellsDigits_56 : decode cX6_tellsDigits 56 = .ok (.iload_n 2, 1) := by decide +kernel
theorem dX6_tellsDigits_57 : decode cX6_tellsDigits 57 = .ok (.ifCond .ne 19, 3) := by decide +kernel
theorem dX6_tellsDigits_60 : decode cX6_tellsDigits 60 = .ok (.iload_n 1, 1) := by decide +kernel
theorem dX6_tellsDigits_61 : decode cX6_tellsDigits 61 = .ok (.iload_n 3, 1) := by decide +kernel
theorem dX6_tellsDigits_62 : decode cX6_tellsDigits 62 = .ok (.iconst 1, 1) := by decide +kernel
theorem dX6_tellsDigits_63 : decode cX6_tellsDigits 63 = .ok (.isub, 1) := by decide +kernel
theorem dX6_tellsDigits_64 : decode cX6_tellsDigits 64 = .ok (.invokestatic 53, 3) := by decide +kernel
theorem dX6_tellsDigits_67 : decode cX6_tellsDigits 67 = .ok (.iload_n 1, 1) := by decide +kernel
theorem dX6_tellsDigits_68 : decode cX6_tellsDigits 68 = .ok (.iload_n 3, 1) := by decide +kernel
theorem dX6_tellsDigits_69 : decode cX6_tellsDigits 69 = .ok (.invokestatic 53, 3) := by decide +kernel
theorem dX6_tellsDigits_72 : decode cX6_tellsDigits 72 = .ok (.isub, 1) := by decide +kernel
theorem dX6_tellsDigits_73 : decode cX6_tellsDigits 73 = .ok (.goto 32, 3) := by decide +kernel
theorem dX6_tellsDigits_76 : decode cX6_tellsDigits 76 = .ok (.iload_n 1, 1) := by decide +kernel
theorem dX6_tellsDigits_77 : decode cX6_tellsDigits 77 = .ok (.iconst 2, 1) := by decide +kernel
theorem dX6_tellsDigits_78 : decode cX6_tellsDigits 78 = .ok (.iload_n 3, 1) := by decide +kernel
theorem dX6_tellsDigits_79 : decode cX6_tellsDigits 79 = .ok (.imul, 1) := by decide +kernel
theorem dX6_tellsDigits_80 : decode cX6_tellsDigits 80 = .ok (.iconst 1, 1) := by decide +kernel
theorem dX6_tellsDigits_81 : decode cX6_tellsDigits 81 = .ok (.isub, 1) := by decide +kernel
theorem dX6_tellsDigits_82 : decode cX6_tellsDigits 82 = .ok (.invokestatic 53, 3) := by decide +kernel
theorem dX6_tellsDigits_85 : decode cX6_tellsDigits 85 = .ok (.iload_n 1, 1) := by decide +kernel
theorem dX6_tellsDigits_86 : decode cX6_tellsDigits 86 = .ok (.iconst 2, 1) := by decide +kernel
theorem dX6_tellsDigits_87 : decode cX6_tellsDigits 87 = .ok (.iload_n 3, 1) := by decide +kernel
theorem dX6_tellsDigits_88 : decode cX6_tellsDigits 88 = .ok (.imul, 1) := by decide +kernel
theorem dX6_tellsDigits_89 : decode cX6_tellsDigits 89 = .ok (.invokestatic 53, 3) := by decide +kernel
theorem dX6_tellsDigits_92 : decode cX6_tellsDigits 92 = .ok (.iadd, 1) := by decide +kernel
theorem dX6_tellsDigits_93 : decode cX6_tellsDigits 93 = .ok (.iconst 2, 1) := by decide +kernel
theorem dX6_tellsDigits_94 : decode cX6_tellsDigits 94 = .ok (.iload_n 1, 1) := by decide +kernel
theorem dX6_tellsDigits_95 : decode cX6_tellsDigits 95 = .ok (.iconst 2, 1) := by decide +kernel
theorem dX6_tellsDigits_96 : decode cX6_tellsDigits 96 = .ok (.iload_n 3, 1) := by decide +kernel
theorem dX6_tellsDigits_97 : decode cX6_tellsDigits 97 = .ok (.imul, 1) := by decide +kernel
theorem dX6_tellsDigits_98 : decode cX6_tellsDigits 98 = .ok (.iconst 1, 1) := by decide +kernel
theorem dX6_tellsDigits_99 : decode cX6_tellsDigits 99 = .ok (.iadd, 1) := by decide +kernel
theorem dX6_tellsDigits_100 : decode cX6_tellsDigits 100 = .ok (.invokestatic 53, 3) := by decide +kernel
theorem dX6_tellsDigits_103 : decode cX6_tellsDigits 103 = .ok (.imul, 1) := by decide +kernel
theorem dX6_tellsDigits_104 : decode cX6_tellsDigits 104 = .ok (.isub, 1) := by decide +kernel
theorem dX6_tellsDigits_105 : decode cX6_tellsDigits 105 = .ok (.iastore, 1) := by decide +kernel
theorem dX6_tellsDigits_106 : decode cX6_tellsDigits 106 = .ok (.iinc 3 1, 3) := by decide +kernel
theorem dX6_tellsDigits_109 : decode cX6_tellsDigits 109 = .ok (.goto (-71), 3) := by decide +kernel
theorem dX6_tellsDigits_112 : decode cX6_tellsDigits 112 = .ok (.return_, 1) := by decide +kernel
theorem dX6_isOdd_0 : decode cX6_isOdd 0 = .ok (.iload_n 1, 1) := by decide +kernel
theorem dX6_isOdd_1 : decode cX6_isOdd 1 = .ok (.iconst 1, 1) := by decide +kernel
theorem dX6_isOdd_2 : decode cX6_isOdd 2 = .ok (.if_icmp .ne 19, 3) := by decide +kernel
theorem dX6_isOdd_5 : decode cX6_isOdd 5 = .ok (.aload_n 0, 1) := by decide +kernel
theorem dX6_isOdd_6 : decode cX6_isOdd 6 = .ok (.getfield 7, 3) := by decide +kernel
theorem dX6_isOdd_9 : decode cX6_isOdd 9 = .ok (.iconst 0, 1) := by decide +kernel
theorem dX6_isOdd_10 : decode cX6_isOdd 10 = .ok (.iaload, 1) := by decide +kernel
theorem dX6_isOdd_11 : decode cX6_isOdd 11 = .ok (.iconst 2, 1) := by decide +kernel
theorem dX6_isOdd_12 : decode cX6_isOdd 12 = .ok (.irem, 1) := by decide +kernel
theorem dX6_isOdd_13 : decode cX6_isOdd 13 = .ok (.iconst 1, 1) := by decide +kernel
theorem dX6_isOdd_14 : decode cX6_isOdd 14 = .ok (.if_icmp .ne 7, 3) := by decide +kernel
theorem dX6_isOdd_17 : decode cX6_isOdd 17 = .ok (.iconst 1, 1) := by decide +kernel
theorem dX6_isOdd_18 : decode cX6_isOdd 18 = .ok (.goto 4, 3) := by decide +kernel
theorem dX6_isOdd_21 : decode cX6_isOdd 21 = .ok (.iconst 0, 1) := by decide +kernel
theorem dX6_isOdd_22 : decode cX6_isOdd 22 = .ok (.ireturn, 1) := by decide +kernel
set_option maxRecDepth 20000 in
theorem ggX6_isRecoding_X6_in : GoodIn wsX6_isRecoding wsX6_in := goodIn_r _ [4] rfl (by decide +kernel)
set_option maxRecDepth 20000 in
theorem gX6_isRecoding_X6_in : GoodIn wsX6_isRecoding (va_wsS RX6 35 yX6_in wsX6_in) := goodIn_app (goodIn_of _ (by decide +kernel)) ggX6_isRecoding_X6_in
theorem dX6_isRecoding_0 : decode cX6_isRecoding 0 = .ok (.iload_n 0, 1) := by decide +kernel
theorem dX6_isRecoding_1 : decode cX6_isRecoding 1 = .ok (.iconst 0, 1) := by decide +kernel
theorem dX6_isRecoding_2 : decode cX6_isRecoding 2 = .ok (.iconst 2, 1) := by decide +kernel
theorem dX6_isRecoding_3 : decode cX6_isRecoding 3 = .ok (.invokestatic 35, 3) := by decide +kernel
theorem dX6_isRecoding_6 : decode cX6_isRecoding 6 = .ok (.ireturn, 1) := by decide +kernel
theorem dX6_stepMany_0 : decode cX6_stepMany 0 = .ok (.iload_n 1, 1) := by decide +kernel
theorem dX6_stepMany_1 : decode cX6_stepMany 1 = .ok (.ifCond .ne 12, 3) := by decide +kernel
theorem dX6_stepMany_4 : decode cX6_stepMany 4 = .ok (.aload_n 0, 1) := by decide +kernel
theorem dX6_stepMany_5 : decode cX6_stepMany 5 = .ok (.getfield 7, 3) := by decide +kernel
theorem dX6_stepMany_8 : decode cX6_stepMany 8 = .ok (.iconst 0, 1) := by decide +kernel
theorem dX6_stepMany_9 : decode cX6_stepMany 9 = .ok (.iaload, 1) := by decide +kernel
theorem dX6_stepMany_10 : decode cX6_stepMany 10 = .ok (.goto 11, 3) := by decide +kernel
theorem dX6_stepMany_13 : decode cX6_stepMany 13 = .ok (.aload_n 0, 1) := by decide +kernel
theorem dX6_stepMany_14 : decode cX6_stepMany 14 = .ok (.getfield 7, 3) := by decide +kernel
theorem dX6_stepMany_17 : decode cX6_stepMany 17 = .ok (.iconst 0, 1) := by decide +kernel
theorem dX6_stepMany_18 : decode cX6_stepMany 18 = .ok (.iaload, 1) := by decide +kernel
theorem dX6_stepMany_19 : decode cX6_stepMany 19 = .ok (.iconst 2, 1) := by decide +kernel
theorem dX6_stepMany_20 : decode cX6_stepMany 20 = .ok (.idiv, 1) := by decide +kernel
theorem dX6_stepMany_21 : decode cX6_stepMany 21 = .ok (.ireturn, 1) := by decide +kernel
theorem dX6_stepsOnce_0 : decode cX6_stepsOnce 0 = .ok (.aload_n 0, 1) := by decide +kernel
theorem dX6_stepsOnce_1 : decode cX6_stepsOnce 1 = .ok (.getfield 7, 3) := by decide +kernel
theorem dX6_stepsOnce_4 : decode cX6_stepsOnce 4 = .ok (.bipush 10, 2) := by decide +kernel
theorem dX6_stepsOnce_6 : decode cX6_stepsOnce 6 = .ok (.iaload, 1) := by decide +kernel
theorem dX6_stepsOnce_7 : decode cX6_stepsOnce 7 = .ok (.istore_n 1, 1) := by decide +kernel
theorem dX6_stepsOnce_8 : decode cX6_stepsOnce 8 = .ok (.aload_n 0, 1) := by decide +kernel
theorem dX6_stepsOnce_9 : decode cX6_stepsOnce 9 = .ok (.getfield 7, 3) := by decide +kernel
theorem dX6_stepsOnce_12 : decode cX6_stepsOnce 12 = .ok (.bipush 8, 2) := by decide +kernel
theorem dX6_stepsOnce_14 : decode cX6_stepsOnce 14 = .ok (.iaload, 1) := by decide +kernel
theorem dX6_stepsOnce_15 : decode cX6_stepsOnce 15 = .ok (.iconst 1, 1) := by decide +kernel
theorem dX6_stepsOnce_16 : decode cX6_stepsOnce 16 = .ok (.iadd, 1) := by decide +kernel
theorem dX6_stepsOnce_17 : decode cX6_stepsOnce 17 = .ok (.istore_n 2, 1) := by decide +kernel
theorem dX6_stepsOnce_18 : decode cX6_stepsOnce 18 = .ok (.aload_n 0, 1) := by decide +kernel
theorem dX6_stepsOnce_19 : decode cX6_stepsOnce 19 = .ok (.getfield 7, 3) := by decide +kernel
theorem dX6_stepsOnce_22 : decode cX6_stepsOnce 22 = .ok (.bipush 8, 2) := by decide +kernel
theorem dX6_stepsOnce_24 : decode cX6_stepsOnce 24 = .ok (.iaload, 1) := by decide +kernel
theorem dX6_stepsOnce_25 : decode cX6_stepsOnce 25 = .ok (.ifCond .ne 17, 3) := by decide +kernel
theorem dX6_stepsOnce_28 : decode cX6_stepsOnce 28 = .ok (.aload_n 0, 1) := by decide +kernel
theorem dX6_stepsOnce_29 : decode cX6_stepsOnce 29 = .ok (.getfield 7, 3) := by decide +kernel
theorem dX6_stepsOnce_32 : decode cX6_stepsOnce 32 = .ok (.bipush 11, 2) := by decide +kernel
theorem dX6_stepsOnce_34 : decode cX6_stepsOnce 34 = .ok (.iaload, 1) := by decide +kernel
theorem dX6_stepsOnce_35 : decode cX6_stepsOnce 35 = .ok (.iload_n 1, 1) := by decide +kernel
theorem dX6_stepsOnce_36 : decode cX6_stepsOnce 36 = .ok (.iconst 1, 1) := by decide +kernel
theorem dX6_stepsOnce_37 : decode cX6_stepsOnce 37 = .ok (.iand, 1) := by decide +kernel
theorem dX6_stepsOnce_38 : decode cX6_stepsOnce 38 = .ok (.isub, 1) := by decide +kernel
theorem dX6_stepsOnce_39 : decode cX6_stepsOnce 39 = .ok (.goto 18, 3) := by decide +kernel
theorem dX6_stepsOnce_42 : decode cX6_stepsOnce 42 = .ok (.aload_n 0, 1) := by decide +kernel
theorem dX6_stepsOnce_43 : decode cX6_stepsOnce 43 = .ok (.getfield 7, 3) := by decide +kernel
theorem dX6_stepsOnce_46 : decode cX6_stepsOnce 46 = .ok (.bipush 11, 2) := by decide +kernel
theorem dX6_stepsOnce_48 : decode cX6_stepsOnce 48 = .ok (.iaload, 1) := by decide +kernel
theorem dX6_stepsOnce_49 : decode cX6_stepsOnce 49 = .ok (.iload_n 1, 1) := by decide +kernel
theorem dX6_stepsOnce_50 : decode cX6_stepsOnce 50 = .ok (.iconst 1, 1) := by decide +kernel
theorem dX6_stepsOnce_51 : decode cX6_stepsOnce 51 = .ok (.iand, 1) := by decide +kernel
theorem dX6_stepsOnce_52 : decode cX6_stepsOnce 52 = .ok (.iadd, 1) := by decide +kernel
theorem dX6_stepsOnce_53 : decode cX6_stepsOnce 53 = .ok (.iload_n 1, 1) := by decide +kernel
theorem dX6_stepsOnce_54 : decode cX6_stepsOnce 54 = .ok (.iconst 2, 1) := by decide +kernel
theorem dX6_stepsOnce_55 : decode cX6_stepsOnce 55 = .ok (.iand, 1) := by decide +kernel
theorem dX6_stepsOnce_56 : decode cX6_stepsOnce 56 = .ok (.isub, 1) := by decide +kernel
theorem dX6_stepsOnce_57 : decode cX6_stepsOnce 57 = .ok (.istore_n 3, 1) := by decide +kernel
theorem dX6_stepsOnce_58 : decode cX6_stepsOnce 58 = .ok (.aload_n 0, 1) := by decide +kernel
theorem dX6_stepsOnce_59 : decode cX6_stepsOnce 59 = .ok (.getfield 7, 3) := by decide +kernel
theorem dX6_stepsOnce_62 : decode cX6_stepsOnce 62 = .ok (.bipush 9, 2) := by decide +kernel
theorem dX6_stepsOnce_64 : decode cX6_stepsOnce 64 = .ok (.iaload, 1) := by decide +kernel
theorem dX6_stepsOnce_65 : decode cX6_stepsOnce 65 = .ok (.iload_n 3, 1) := by decide +kernel
theorem dX6_stepsOnce_66 : decode cX6_stepsOnce 66 = .ok (.aload_n 0, 1) := by decide +kernel
theorem dX6_stepsOnce_67 : decode cX6_stepsOnce 67 = .ok (.getfield 7, 3) := by decide +kernel
theorem dX6_stepsOnce_70 : decode cX6_stepsOnce 70 = .ok (.bipush 12, 2) := by decide +kernel
theorem dX6_stepsOnce_72 : decode cX6_stepsOnce 72 = .ok (.iaload, 1) := by decide +kernel
theorem dX6_stepsOnce_73 : decode cX6_stepsOnce 73 = .ok (.imul, 1) := by decide +kernel
theorem dX6_stepsOnce_74 : decode cX6_stepsOnce 74 = .ok (.iadd, 1) := by decide +kernel
theorem dX6_stepsOnce_75 : decode cX6_stepsOnce 75 = .ok (.istore 4, 2) := by decide +kernel
theorem dX6_stepsOnce_77 : decode cX6_stepsOnce 77 = .ok (.aload_n 0, 1) := by decide +kernel
theorem dX6_stepsOnce_78 : decode cX6_stepsOnce 78 = .ok (.getfield 7, 3) := by decide +kernel
theorem dX6_stepsOnce_81 : decode cX6_stepsOnce 81 = .ok (.bipush 11, 2) := by decide +kernel
theorem dX6_stepsOnce_83 : decode cX6_stepsOnce 83 = .ok (.iload_n 1, 1) := by decide +kernel
theorem dX6_stepsOnce_84 : decode cX6_stepsOnce 84 = .ok (.iload_n 2, 1) := by decide +kernel
theorem dX6_stepsOnce_85 : decode cX6_stepsOnce 85 = .ok (.iconst 1, 1) := by decide +kernel
theorem dX6_stepsOnce_86 : decode cX6_stepsOnce 86 = .ok (.isub, 1) := by decide +kernel
theorem dX6_stepsOnce_87 : decode cX6_stepsOnce 87 = .ok (.ishr, 1) := by decide +kernel
theorem dX6_stepsOnce_88 : decode cX6_stepsOnce 88 = .ok (.iconst 1, 1) := by decide +kernel
theorem dX6_stepsOnce_89 : decode cX6_stepsOnce 89 = .ok (.iand, 1) := by decide +kernel
theorem dX6_stepsOnce_90 : decode cX6_stepsOnce 90 = .ok (.iastore, 1) := by decide +kernel
theorem dX6_stepsOnce_91 : decode cX6_stepsOnce 91 = .ok (.aload_n 0, 1) := by decide +kernel
theorem dX6_stepsOnce_92 : decode cX6_stepsOnce 92 = .ok (.getfield 7, 3) := by decide +kernel
theorem dX6_stepsOnce_95 : decode cX6_stepsOnce 95 = .ok (.bipush 10, 2) := by decide +kernel
theorem dX6_stepsOnce_97 : decode cX6_stepsOnce 97 = .ok (.iload_n 1, 1) := by decide +kernel
theorem dX6_stepsOnce_98 : decode cX6_stepsOnce 98 = .ok (.iload_n 2, 1) := by decide +kernel
theorem dX6_stepsOnce_99 : decode cX6_stepsOnce 99 = .ok (.ishr, 1) := by decide +kernel
theorem dX6_stepsOnce_100 : decode cX6_stepsOnce 100 = .ok (.iload 4, 2) := by decide +kernel
theorem dX6_stepsOnce_102 : decode cX6_stepsOnce 102 = .ok (.iconst 1, 1) := by decide +kernel
theorem dX6_stepsOnce_103 : decode cX6_stepsOnce 103 = .ok (.iload_n 2, 1) := by decide +kernel
theorem dX6_stepsOnce_104 : decode cX6_stepsOnce 104 = .ok (.ishl, 1) := by decide +kernel
theorem dX6_stepsOnce_105 : decode cX6_stepsOnce 105 = .ok (.iconst 1, 1) := by decide +kernel
theorem dX6_stepsOnce_106 : decode cX6_stepsOnce 106 = .ok (.isub, 1) := by decide +kernel
theorem dX6_stepsOnce_107 : decode cX6_stepsOnce 107 = .ok (.iand, 1) := by decide +kernel
theorem dX6_stepsOnce_108 : decode cX6_stepsOnce 108 = .ok (.aload_n 0, 1) := by decide +kernel
theorem dX6_stepsOnce_109 : decode cX6_stepsOnce 109 = .ok (.getfield 7, 3) := by decide +kernel
theorem dX6_stepsOnce_112 : decode cX6_stepsOnce 112 = .ok (.iconst 0, 1) := by decide +kernel
theorem dX6_stepsOnce_113 : decode cX6_stepsOnce 113 = .ok (.iaload, 1) := by decide +kernel
theorem dX6_stepsOnce_114 : decode cX6_stepsOnce 114 = .ok (.iload_n 2, 1) := by decide +kernel
theorem dX6_stepsOnce_115 : decode cX6_stepsOnce 115 = .ok (.isub, 1) := by decide +kernel
theorem dX6_stepsOnce_116 : decode cX6_stepsOnce 116 = .ok (.ishl, 1) := by decide +kernel
theorem dX6_stepsOnce_117 : decode cX6_stepsOnce 117 = .ok (.ior, 1) := by decide +kernel
theorem dX6_stepsOnce_118 : decode cX6_stepsOnce 118 = .ok (.iastore, 1) := by decide +kernel
theorem dX6_stepsOnce_119 : decode cX6_stepsOnce 119 = .ok (.aload_n 0, 1) := by decide +kernel
theorem dX6_stepsOnce_120 : decode cX6_stepsOnce 120 = .ok (.getfield 7, 3) := by decide +kernel
theorem dX6_stepsOnce_123 : decode cX6_stepsOnce 123 = .ok (.bipush 9, 2) := by decide +kernel
theorem dX6_stepsOnce_125 : decode cX6_stepsOnce 125 = .ok (.iload 4, 2) := by decide +kernel
theorem dX6_stepsOnce_127 : decode cX6_stepsOnce 127 = .ok (.iload_n 2, 1) := by decide +kernel
theorem dX6_stepsOnce_128 : decode cX6_stepsOnce 128 = .ok (.ishr, 1) := by decide +kernel
theorem dX6_stepsOnce_129 : decode cX6_stepsOnce 129 = .ok (.iastore, 1) := by decide +kernel
theorem dX6_stepsOnce_130 : decode cX6_stepsOnce 130 = .ok (.aload_n 0, 1) := by decide +kernel
theorem dX6_stepsOnce_131 : decode cX6_stepsOnce 131 = .ok (.getfield 7, 3) := by decide +kernel
theorem dX6_stepsOnce_134 : decode cX6_stepsOnce 134 = .ok (.bipush 7, 2) := by decide +kernel
theorem dX6_stepsOnce_136 : decode cX6_stepsOnce 136 = .ok (.dup2, 1) := by decide +kernel
theorem dX6_stepsOnce_137 : decode cX6_stepsOnce 137 = .ok (.iaload, 1) := by decide +kernel
theorem dX6_stepsOnce_138 : decode cX6_stepsOnce 138 = .ok (.iconst 1, 1) := by decide +kernel
theorem dX6_stepsOnce_139 : decode cX6_stepsOnce 139 = .ok (.isub, 1) := by decide +kernel
theorem dX6_stepsOnce_140 : decode cX6_stepsOnce 140 = .ok (.iastore, 1) := by decide +kernel
theorem dX6_stepsOnce_141 : decode cX6_stepsOnce 141 = .ok (.aload_n 0, 1) := by decide +kernel
theorem dX6_stepsOnce_142 : decode cX6_stepsOnce 142 = .ok (.getfield 7, 3) := by decide +kernel
theorem dX6_stepsOnce_145 : decode cX6_stepsOnce 145 = .ok (.bipush 14, 2) := by decide +kernel
theorem dX6_stepsOnce_147 : decode cX6_stepsOnce 147 = .ok (.dup2, 1) := by decide +kernel
theorem dX6_stepsOnce_148 : decode cX6_stepsOnce 148 = .ok (.iaload, 1) := by decide +kernel
theorem dX6_stepsOnce_149 : decode cX6_stepsOnce 149 = .ok (.iconst 1, 1) := by decide +kernel
theorem dX6_stepsOnce_150 : decode cX6_stepsOnce 150 = .ok (.iadd, 1) := by decide +kernel
theorem dX6_stepsOnce_151 : decode cX6_stepsOnce 151 = .ok (.iastore, 1) := by decide +kernel
theorem dX6_stepsOnce_152 : decode cX6_stepsOnce 152 = .ok (.iload_n 3, 1) := by decide +kernel
theorem dX6_stepsOnce_153 : decode cX6_stepsOnce 153 = .ok (.ireturn, 1) := by decide +kernel
theorem dX6_product_0 : decode cX6_product 0 = .ok (.aload_n 0, 1) := by decide +kernel
theorem dX6_product_1 : decode cX6_product 1 = .ok (.getfield 7, 3) := by decide +kernel
theorem dX6_product_4 : decode cX6_product 4 = .ok (.bipush 9, 2) := by decide +kernel
theorem dX6_product_6 : decode cX6_product 6 = .ok (.iaload, 1) := by decide +kernel
theorem dX6_product_7 : decode cX6_product 7 = .ok (.aload_n 0, 1) := by decide +kernel
theorem dX6_product_8 : decode cX6_product 8 = .ok (.getfield 7, 3) := by decide +kernel
theorem dX6_product_11 : decode cX6_product 11 = .ok (.iconst 0, 1) := by decide +kernel
theorem dX6_product_12 : decode cX6_product 12 = .ok (.iaload, 1) := by decide +kernel
theorem dX6_product_13 : decode cX6_product 13 = .ok (.ishl, 1) := by decide +kernel
theorem dX6_product_14 : decode cX6_product 14 = .ok (.aload_n 0, 1) := by decide +kernel
theorem dX6_product_15 : decode cX6_product 15 = .ok (.getfield 7, 3) := by decide +kernel
theorem dX6_product_18 : decode cX6_product 18 = .ok (.bipush 10, 2) := by decide +kernel
theorem dX6_product_20 : decode cX6_product 20 = .ok (.iaload, 1) := by decide +kernel
theorem dX6_product_21 : decode cX6_product 21 = .ok (.iadd, 1) := by decide +kernel
theorem dX6_product_22 : decode cX6_product 22 = .ok (.ireturn, 1) := by decide +kernel
set_option maxRecDepth 20000 in
theorem ggX6_lays_X6_isValue : GoodIn wsX6_lays wsX6_isValue := goodIn_r _ [6, 1, 7, 8, 5, 9, 18, 19, 20, 21, 22, 23, 24, 25, 26, 27, 28, 29, 30, 31, 32, 33, 34] rfl (by decide +kernel)
set_option maxRecDepth 20000 in
theorem gX6_lays_X6_isValue : GoodIn wsX6_lays (wsV RX6 57 RX6 yX6_isValue wsX6_isValue) := goodIn_app (goodIn_of _ (by decide +kernel)) ggX6_lays_X6_isValue
set_option maxRecDepth 20000 in
theorem ggX6_lays_X6_wrapped : GoodIn wsX6_lays wsX6_wrapped := goodIn_r _ [13, 1, 18, 19, 20, 21, 22, 23, 24, 25, 26, 27, 28, 29, 30, 31, 32, 33, 34] rfl (by decide +kernel)
set_option maxRecDepth 20000 in
theorem gX6_lays_X6_wrapped : GoodIn wsX6_lays (wsV RX6 60 RX6 yX6_wrapped wsX6_wrapped) := goodIn_app (goodIn_of _ (by decide +kernel)) ggX6_lays_X6_wrapped
set_option maxRecDepth 20000 in
theorem ggX6_lays_X6_of : GoodIn wsX6_lays wsX6_of := goodIn_r _ [17, 1, 18, 19, 20, 21, 22, 23, 24, 25, 26, 27, 28, 29, 30, 31, 32, 33, 34] rfl (by decide +kernel)
set_option maxRecDepth 20000 in
theorem gX6_lays_X6_of : GoodIn wsX6_lays (wsV RX6 64 RX6 yX6_of wsX6_of) := goodIn_app (goodIn_of _ (by decide +kernel)) ggX6_lays_X6_of
theorem dX6_lays_0 : decode cX6_lays 0 = .ok (.aload_n 0, 1) := by decide +kernel
theorem dX6_lays_1 : decode cX6_lays 1 = .ok (.getfield 7, 3) := by decide +kernel
theorem dX6_lays_4 : decode cX6_lays 4 = .ok (.bipush 13, 2) := by decide +kernel
theorem dX6_lays_6 : decode cX6_lays 6 = .ok (.dup2, 1) := by decide +kernel
theorem dX6_lays_7 : decode cX6_lays 7 = .ok (.iaload, 1) := by decide +kernel
theorem dX6_lays_8 : decode cX6_lays 8 = .ok (.aload_n 0, 1) := by decide +kernel
theorem dX6_lays_9 : decode cX6_lays 9 = .ok (.iload_n 2, 1) := by decide +kernel
theorem dX6_lays_10 : decode cX6_lays 10 = .ok (.invokevirtual 57, 3) := by decide +kernel
theorem dX6_lays_13 : decode cX6_lays 13 = .ok (.ifCond .eq 7, 3) := by decide +kernel
theorem dX6_lays_16 : decode cX6_lays 16 = .ok (.iconst 0, 1) := by decide +kernel
theorem dX6_lays_17 : decode cX6_lays 17 = .ok (.goto 4, 3) := by decide +kernel
theorem dX6_lays_20 : decode cX6_lays 20 = .ok (.iconst 1, 1) := by decide +kernel
theorem dX6_lays_21 : decode cX6_lays 21 = .ok (.iadd, 1) := by decide +kernel
theorem dX6_lays_22 : decode cX6_lays 22 = .ok (.iastore, 1) := by decide +kernel
theorem dX6_lays_23 : decode cX6_lays 23 = .ok (.aload_n 0, 1) := by decide +kernel
theorem dX6_lays_24 : decode cX6_lays 24 = .ok (.getfield 7, 3) := by decide +kernel
theorem dX6_lays_27 : decode cX6_lays 27 = .ok (.iconst 1, 1) := by decide +kernel
theorem dX6_lays_28 : decode cX6_lays 28 = .ok (.iload_n 1, 1) := by decide +kernel
theorem dX6_lays_29 : decode cX6_lays 29 = .ok (.iadd, 1) := by decide +kernel
theorem dX6_lays_30 : decode cX6_lays 30 = .ok (.aload_n 0, 1) := by decide +kernel
theorem dX6_lays_31 : decode cX6_lays 31 = .ok (.iload_n 2, 1) := by decide +kernel
theorem dX6_lays_32 : decode cX6_lays 32 = .ok (.invokevirtual 60, 3) := by decide +kernel
theorem dX6_lays_35 : decode cX6_lays 35 = .ok (.iastore, 1) := by decide +kernel
theorem dX6_lays_36 : decode cX6_lays 36 = .ok (.aload_n 0, 1) := by decide +kernel
theorem dX6_lays_37 : decode cX6_lays 37 = .ok (.iload_n 1, 1) := by decide +kernel
theorem dX6_lays_38 : decode cX6_lays 38 = .ok (.invokevirtual 64, 3) := by decide +kernel
theorem dX6_lays_41 : decode cX6_lays 41 = .ok (.ireturn, 1) := by decide +kernel
set_option maxRecDepth 20000 in
theorem ggX6_setWidth_X6_in : GoodIn wsX6_setWidth wsX6_in := goodIn_r _ [6] rfl (by decide +kernel)
set_option maxRecDepth 20000 in
theorem gX6_setWidth_X6_in : GoodIn wsX6_setWidth (va_wsS RX6 35 yX6_in wsX6_in) := goodIn_app (goodIn_of _ (by decide +kernel)) ggX6_setWidth_X6_in
set_option maxRecDepth 20000 in
theorem ggX6_setWidth_X6_fails : GoodIn wsX6_setWidth wsX6_fails := goodIn_r _ [10, 1, 25, 26, 27, 28, 29, 30, 31, 32, 33, 34, 35, 36, 37, 38, 39, 40, 41] rfl (by decide +kernel)
set_option maxRecDepth 20000 in
theorem gX6_setWidth_X6_fails : GoodIn wsX6_setWidth (wsV RX6 67 RX6 yX6_fails wsX6_fails) := goodIn_app (goodIn_of _ (by decide +kernel)) ggX6_setWidth_X6_fails
set_option maxRecDepth 20000 in
theorem ggX6_setWidth_X6_records : GoodIn wsX6_setWidth wsX6_records := goodIn_r _ [14, 15, 16, 2, 25, 26, 27, 28, 29, 30, 31, 32, 33, 34, 35, 36, 37, 38, 39, 40, 41] rfl (by decide +kernel)
set_option maxRecDepth 20000 in
theorem gX6_setWidth_X6_records : GoodIn wsX6_setWidth (wsV RX6 70 RX6 yX6_records wsX6_records) := goodIn_app (goodIn_of _ (by decide +kernel)) ggX6_setWidth_X6_records
set_option maxRecDepth 20000 in
theorem ggX6_setWidth_X6_of : GoodIn wsX6_setWidth wsX6_of := goodIn_r _ [20, 2, 25, 26, 27, 28, 29, 30, 31, 32, 33, 34, 35, 36, 37, 38, 39, 40, 41] rfl (by decide +kernel)
set_option maxRecDepth 20000 in
theorem gX6_setWidth_X6_of : GoodIn wsX6_setWidth (wsV RX6 64 RX6 yX6_of wsX6_of) := goodIn_app (goodIn_of _ (by decide +kernel)) ggX6_setWidth_X6_of
set_option maxRecDepth 20000 in
theorem ggX6_setWidth_X6_wrapped : GoodIn wsX6_setWidth wsX6_wrapped := goodIn_r _ [24, 2, 25, 26, 27, 28, 29, 30, 31, 32, 33, 34, 35, 36, 37, 38, 39, 40, 41] rfl (by decide +kernel)
set_option maxRecDepth 20000 in
theorem gX6_setWidth_X6_wrapped : GoodIn wsX6_setWidth (wsV RX6 60 RX6 yX6_wrapped wsX6_wrapped) := goodIn_app (goodIn_of _ (by decide +kernel)) ggX6_setWidth_X6_wrapped
theorem dX6_setWidth_0 : decode cX6_setWidth 0 = .ok (.aload_n 0, 1) := by decide +kernel
theorem dX6_setWidth_1 : decode cX6_setWidth 1 = .ok (.iconst 0, 1) := by decide +kernel
theorem dX6_setWidth_2 : decode cX6_setWidth 2 = .ok (.putfield 31, 3) := by decide +kernel
theorem dX6_setWidth_5 : decode cX6_setWidth 5 = .ok (.iload_n 1, 1) := by decide +kernel
theorem dX6_setWidth_6 : decode cX6_setWidth 6 = .ok (.iconst 4, 1) := by decide +kernel
theorem dX6_setWidth_7 : decode cX6_setWidth 7 = .ok (.bipush 16, 2) := by decide +kernel
theorem dX6_setWidth_9 : decode cX6_setWidth 9 = .ok (.invokestatic 35, 3) := by decide +kernel
theorem dX6_setWidth_12 : decode cX6_setWidth 12 = .ok (.ifCond .ne 9, 3) := by decide +kernel
theorem dX6_setWidth_15 : decode cX6_setWidth 15 = .ok (.aload_n 0, 1) := by decide +kernel
theorem dX6_setWidth_16 : decode cX6_setWidth 16 = .ok (.iconst 1, 1) := by decide +kernel
theorem dX6_setWidth_17 : decode cX6_setWidth 17 = .ok (.invokevirtual 67, 3) := by decide +kernel
theorem dX6_setWidth_20 : decode cX6_setWidth 20 = .ok (.ireturn, 1) := by decide +kernel
theorem dX6_setWidth_21 : decode cX6_setWidth 21 = .ok (.aload_n 0, 1) := by decide +kernel
theorem dX6_setWidth_22 : decode cX6_setWidth 22 = .ok (.invokevirtual 70, 3) := by decide +kernel
theorem dX6_setWidth_25 : decode cX6_setWidth 25 = .ok (.aload_n 0, 1) := by decide +kernel
theorem dX6_setWidth_26 : decode cX6_setWidth 26 = .ok (.getfield 7, 3) := by decide +kernel
theorem dX6_setWidth_29 : decode cX6_setWidth 29 = .ok (.iconst 0, 1) := by decide +kernel
theorem dX6_setWidth_30 : decode cX6_setWidth 30 = .ok (.iaload, 1) := by decide +kernel
theorem dX6_setWidth_31 : decode cX6_setWidth 31 = .ok (.istore_n 2, 1) := by decide +kernel
theorem dX6_setWidth_32 : decode cX6_setWidth 32 = .ok (.aload_n 0, 1) := by decide +kernel
theorem dX6_setWidth_33 : decode cX6_setWidth 33 = .ok (.getfield 7, 3) := by decide +kernel
theorem dX6_setWidth_36 : decode cX6_setWidth 36 = .ok (.iconst 0, 1) := by decide +kernel
theorem dX6_setWidth_37 : decode cX6_setWidth 37 = .ok (.iload_n 1, 1) := by decide +kernel
theorem dX6_setWidth_38 : decode cX6_setWidth 38 = .ok (.iastore, 1) := by decide +kernel
theorem dX6_setWidth_39 : decode cX6_setWidth 39 = .ok (.iconst 0, 1) := by decide +kernel
theorem dX6_setWidth_40 : decode cX6_setWidth 40 = .ok (.istore_n 3, 1) := by decide +kernel
theorem dX6_setWidth_41 : decode cX6_setWidth 41 = .ok (.iload_n 3, 1) := by decide +kernel
theorem dX6_setWidth_42 : decode cX6_setWidth 42 = .ok (.bipush 6, 2) := by decide +kernel
theorem dX6_setWidth_44 : decode cX6_setWidth 44 = .ok (.if_icmp .ge 26, 3) := by decide +kernel
theorem dX6_setWidth_47 : decode cX6_setWidth 47 = .ok (.aload_n 0, 1) := by decide +kernel
theorem dX6_setWidth_48 : decode cX6_setWidth 48 = .ok (.getfield 7, 3) := by decide +kernel
theorem dX6_setWidth_51 : decode cX6_setWidth 51 = .ok (.iconst 1, 1) := by decide +kernel
theorem dX6_setWidth_52 : decode cX6_setWidth 52 = .ok (.iload_n 3, 1) := by decide +kernel
theorem dX6_setWidth_53 : decode cX6_setWidth 53 = .ok (.iadd, 1) := by decide +kernel
theorem dX6_setWidth_54 : decode cX6_setWidth 54 = .ok (.aload_n 0, 1) := by decide +kernel
theorem dX6_setWidth_55 : decode cX6_setWidth 55 = .ok (.aload_n 0, 1) := by decide +kernel
theorem dX6_setWidth_56 : decode cX6_setWidth 56 = .ok (.iload_n 3, 1) := by decide +kernel
theorem dX6_setWidth_57 : decode cX6_setWidth 57 = .ok (.invokevirtual 64, 3) := by decide +kernel
theorem dX6_setWidth_60 : decode cX6_setWidth 60 = .ok (.invokevirtual 60, 3) := by decide +kernel
theorem dX6_setWidth_63 : decode cX6_setWidth 63 = .ok (.iastore, 1) := by decide +kernel
theorem dX6_setWidth_64 : decode cX6_setWidth 64 = .ok (.iinc 3 1, 3) := by decide +kernel
theorem dX6_setWidth_67 : decode cX6_setWidth 67 = .ok (.goto (-26), 3) := by decide +kernel
theorem dX6_setWidth_70 : decode cX6_setWidth 70 = .ok (.bipush 7, 2) := by decide +kernel
theorem dX6_setWidth_72 : decode cX6_setWidth 72 = .ok (.istore_n 3, 1) := by decide +kernel
theorem dX6_setWidth_73 : decode cX6_setWidth 73 = .ok (.iload_n 3, 1) := by decide +kernel
theorem dX6_setWidth_74 : decode cX6_setWidth 74 = .ok (.bipush 12, 2) := by decide +kernel
theorem dX6_setWidth_76 : decode cX6_setWidth 76 = .ok (.if_icmp .gt 26, 3) := by decide +kernel
theorem dX6_setWidth_79 : decode cX6_setWidth 79 = .ok (.aload_n 0, 1) := by decide +kernel
theorem dX6_setWidth_80 : decode cX6_setWidth 80 = .ok (.getfield 7, 3) := by decide +kernel
theorem dX6_setWidth_83 : decode cX6_setWidth 83 = .ok (.iload_n 3, 1) := by decide +kernel
theorem dX6_setWidth_84 : decode cX6_setWidth 84 = .ok (.iload_n 3, 1) := by decide +kernel
theorem dX6_setWidth_85 : decode cX6_setWidth 85 = .ok (.bipush 7, 2) := by decide +kernel
theorem dX6_setWidth_87 : decode cX6_setWidth 87 = .ok (.if_icmp .ne 7, 3) := by decide +kernel
theorem dX6_setWidth_90 : decode cX6_setWidth 90 = .ok (.iconst (-1), 1) := by decide +kernel
theorem dX6_setWidth_91 : decode cX6_setWidth 91 = .ok (.goto 4, 3) := by decide +kernel
theorem dX6_setWidth_94 : decode cX6_setWidth 94 = .ok (.iconst 0, 1) := by decide +kernel
theorem dX6_setWidth_95 : decode cX6_setWidth 95 = .ok (.iastore, 1) := by decide +kernel
theorem dX6_setWidth_96 : decode cX6_setWidth 96 = .ok (.iinc 3 1, 3) := by decide +kernel
theorem dX6_setWidth_99 : decode cX6_setWidth 99 = .ok (.goto (-26), 3) := by decide +kernel
theorem dX6_setWidth_102 : decode cX6_setWidth 102 = .ok (.iload_n 2, 1) := by decide +kernel
theorem dX6_setWidth_103 : decode cX6_setWidth 103 = .ok (.ireturn, 1) := by decide +kernel
set_option maxRecDepth 20000 in
theorem ggX6_set_X6_isRegister : GoodIn wsX6_set wsX6_isRegister := goodIn_r _ [6, 7, 8, 5, 9] rfl (by decide +kernel)
set_option maxRecDepth 20000 in
theorem gX6_set_X6_isRegister : GoodIn wsX6_set (va_wsS RX6 39 yX6_isRegister wsX6_isRegister) := goodIn_app (goodIn_of _ (by decide +kernel)) ggX6_set_X6_isRegister
set_option maxRecDepth 20000 in
theorem ggX6_set_X6_fails : GoodIn wsX6_set wsX6_fails := goodIn_r _ [13, 1, 28, 29, 30, 31, 32, 33, 34, 35, 36, 37, 38, 39, 40, 41, 42, 43, 44] rfl (by decide +kernel)
set_option maxRecDepth 20000 in
theorem gX6_set_X6_fails : GoodIn wsX6_set (wsV RX6 67 RX6 yX6_fails wsX6_fails) := goodIn_app (goodIn_of _ (by decide +kernel)) ggX6_set_X6_fails
set_option maxRecDepth 20000 in
theorem ggX6_set_X6_isValue : GoodIn wsX6_set wsX6_isValue := goodIn_r _ [17, 2, 7, 8, 5, 9, 28, 29, 30, 31, 32, 33, 34, 35, 36, 37, 38, 39, 40, 41, 42, 43, 44] rfl (by decide +kernel)
set_option maxRecDepth 20000 in
theorem gX6_set_X6_isValue : GoodIn wsX6_set (wsV RX6 57 RX6 yX6_isValue wsX6_isValue) := goodIn_app (goodIn_of _ (by decide +kernel)) ggX6_set_X6_isValue
set_option maxRecDepth 20000 in
theorem ggX6_set_X6_records : GoodIn wsX6_set wsX6_records := goodIn_r _ [21, 22, 23, 2, 28, 29, 30, 31, 32, 33, 34, 35, 36, 37, 38, 39, 40, 41, 42, 43, 44] rfl (by decide +kernel)
set_option maxRecDepth 20000 in
theorem gX6_set_X6_records : GoodIn wsX6_set (wsV RX6 70 RX6 yX6_records wsX6_records) := goodIn_app (goodIn_of _ (by decide +kernel)) ggX6_set_X6_records
set_option maxRecDepth 20000 in
theorem ggX6_set_X6_of : GoodIn wsX6_set wsX6_of := goodIn_r _ [27, 2, 28, 29, 30, 31, 32, 33, 34, 35, 36, 37, 38, 39, 40, 41, 42, 43, 44] rfl (by decide +kernel)
set_option maxRecDepth 20000 in
theorem gX6_set_X6_of : GoodIn wsX6_set (wsV RX6 64 RX6 yX6_of wsX6_of) := goodIn_app (goodIn_of _ (by decide +kernel)) ggX6_set_X6_of
theorem dX6_set_0 : decode cX6_set 0 = .ok (.aload_n 0, 1) := by decide +kernel
theorem dX6_set_1 : decode cX6_set 1 = .ok (.iconst 0, 1) := by decide +kernel
theorem dX6_set_2 : decode cX6_set 2 = .ok (.putfield 31, 3) := by decide +kernel
theorem dX6_set_5 : decode cX6_set 5 = .ok (.iload_n 1, 1) := by decide +kernel
theorem dX6_set_6 : decode cX6_set 6 = .ok (.invokestatic 39, 3) := by decide +kernel
theorem dX6_set_9 : decode cX6_set 9 = .ok (.ifCond .ne 9, 3) := by decide +kernel
theorem dX6_set_12 : decode cX6_set 12 = .ok (.aload_n 0, 1) := by decide +kernel
theorem dX6_set_13 : decode cX6_set 13 = .ok (.iconst 1, 1) := by decide +kernel
theorem dX6_set_14 : decode cX6_set 14 = .ok (.invokevirtual 67, 3) := by decide +kernel
theorem dX6_set_17 : decode cX6_set 17 = .ok (.ireturn, 1) := by decide +kernel
theorem dX6_set_18 : decode cX6_set 18 = .ok (.aload_n 0, 1) := by decide +kernel
theorem dX6_set_19 : decode cX6_set 19 = .ok (.iload_n 2, 1) := by decide +kernel
theorem dX6_set_20 : decode cX6_set 20 = .ok (.invokevirtual 57, 3) := by decide +kernel
theorem dX6_set_23 : decode cX6_set 23 = .ok (.ifCond .ne 9, 3) := by decide +kernel
theorem dX6_set_26 : decode cX6_set 26 = .ok (.aload_n 0, 1) := by decide +kernel
theorem dX6_set_27 : decode cX6_set 27 = .ok (.iconst 2, 1) := by decide +kernel
theorem dX6_set_28 : decode cX6_set 28 = .ok (.invokevirtual 67, 3) := by decide +kernel
theorem dX6_set_31 : decode cX6_set 31 = .ok (.ireturn, 1) := by decide +kernel
theorem dX6_set_32 : decode cX6_set 32 = .ok (.aload_n 0, 1) := by decide +kernel
theorem dX6_set_33 : decode cX6_set 33 = .ok (.invokevirtual 70, 3) := by decide +kernel
theorem dX6_set_36 : decode cX6_set 36 = .ok (.aload_n 0, 1) := by decide +kernel
theorem dX6_set_37 : decode cX6_set 37 = .ok (.iload_n 1, 1) := by decide +kernel
theorem dX6_set_38 : decode cX6_set 38 = .ok (.invokevirtual 64, 3) := by decide +kernel
theorem dX6_set_41 : decode cX6_set 41 = .ok (.istore_n 3, 1) := by decide +kernel
theorem dX6_set_42 : decode cX6_set 42 = .ok (.aload_n 0, 1) := by decide +kernel
theorem dX6_set_43 : decode cX6_set 43 = .ok (.getfield 7, 3) := by decide +kernel
theorem dX6_set_46 : decode cX6_set 46 = .ok (.iconst 1, 1) := by decide +kernel
theorem dX6_set_47 : decode cX6_set 47 = .ok (.iload_n 1, 1) := by decide +kernel
theorem dX6_set_48 : decode cX6_set 48 = .ok (.iadd, 1) := by decide +kernel
theorem dX6_set_49 : decode cX6_set 49 = .ok (.iload_n 2, 1) := by decide +kernel
theorem dX6_set_50 : decode cX6_set 50 = .ok (.iastore, 1) := by decide +kernel
theorem dX6_set_51 : decode cX6_set 51 = .ok (.iload_n 3, 1) := by decide +kernel
theorem dX6_set_52 : decode cX6_set 52 = .ok (.ireturn, 1) := by decide +kernel
set_option maxRecDepth 20000 in
theorem ggX6_begin_X6_areRegisters : GoodIn wsX6_begin wsX6_areRegisters := goodIn_r _ [6, 7, 8, 5, 9, 10, 11, 12] rfl (by decide +kernel)
set_option maxRecDepth 20000 in
theorem gX6_begin_X6_areRegisters : GoodIn wsX6_begin (va_wsS RX6 73 yX6_areRegisters wsX6_areRegisters) := goodIn_app (goodIn_of _ (by decide +kernel)) ggX6_begin_X6_areRegisters
set_option maxRecDepth 20000 in
theorem ggX6_begin_X6_fails : GoodIn wsX6_begin wsX6_fails := goodIn_r _ [16, 1, 39, 40, 41, 42, 43, 44, 45, 46, 47, 48, 49, 50, 51, 52, 53, 54, 55] rfl (by decide +kernel)
set_option maxRecDepth 20000 in
theorem gX6_begin_X6_fails : GoodIn wsX6_begin (wsV RX6 67 RX6 yX6_fails wsX6_fails) := goodIn_app (goodIn_of _ (by decide +kernel)) ggX6_begin_X6_fails
set_option maxRecDepth 20000 in
theorem ggX6_begin_X6_in : GoodIn wsX6_begin wsX6_in := goodIn_r _ [12] rfl (by decide +kernel)
set_option maxRecDepth 20000 in
theorem gX6_begin_X6_in : GoodIn wsX6_begin (va_wsS RX6 35 yX6_in wsX6_in) := goodIn_app (goodIn_of _ (by decide +kernel)) ggX6_begin_X6_in
set_option maxRecDepth 20000 in
theorem ggX6_begin_X6_isOdd : GoodIn wsX6_begin wsX6_isOdd := goodIn_r _ [20, 2, 39, 40, 41, 42, 43, 44, 45, 46, 47, 48, 49, 50, 51, 52, 53, 54, 55] rfl (by decide +kernel)
set_option maxRecDepth 20000 in
theorem gX6_begin_X6_isOdd : GoodIn wsX6_begin (wsV RX6 77 RX6 yX6_isOdd wsX6_isOdd) := goodIn_app (goodIn_of _ (by decide +kernel)) ggX6_begin_X6_isOdd
set_option maxRecDepth 20000 in
theorem ggX6_begin_X6_records : GoodIn wsX6_begin wsX6_records := goodIn_r _ [24, 25, 26, 2, 39, 40, 41, 42, 43, 44, 45, 46, 47, 48, 49, 50, 51, 52, 53, 54, 55] rfl (by decide +kernel)
set_option maxRecDepth 20000 in
theorem gX6_begin_X6_records : GoodIn wsX6_begin (wsV RX6 70 RX6 yX6_records wsX6_records) := goodIn_app (goodIn_of _ (by decide +kernel)) ggX6_begin_X6_records
set_option maxRecDepth 20000 in
theorem ggX6_begin_X6_stepMany : GoodIn wsX6_begin wsX6_stepMany := goodIn_r _ [30, 2, 39, 40, 41, 42, 43, 44, 45, 46, 47, 48, 49, 50, 51, 52, 53, 54, 55] rfl (by decide +kernel)
set_option maxRecDepth 20000 in
theorem gX6_begin_X6_stepMany : GoodIn wsX6_begin (wsV RX6 80 RX6 yX6_stepMany wsX6_stepMany) := goodIn_app (goodIn_of _ (by decide +kernel)) ggX6_begin_X6_stepMany
set_option maxRecDepth 20000 in
theorem ggX6_begin_X6_of : GoodIn wsX6_begin wsX6_of := goodIn_r _ [34, 2, 39, 40, 41, 42, 43, 44, 45, 46, 47, 48, 49, 50, 51, 52, 53, 54, 55] rfl (by decide +kernel)
set_option maxRecDepth 20000 in
theorem gX6_begin_X6_of : GoodIn wsX6_begin (wsV RX6 64 RX6 yX6_of wsX6_of) := goodIn_app (goodIn_of _ (by decide +kernel)) ggX6_begin_X6_of
set_option maxRecDepth 20000 in
theorem ggX6_begin_X6_bitsOf : GoodIn wsX6_begin wsX6_bitsOf := goodIn_r _ [38, 2, 39, 40, 41, 42, 43, 44, 45, 46, 47, 48, 49, 50, 51, 52, 53, 54, 55] rfl (by decide +kernel)
set_option maxRecDepth 20000 in
theorem gX6_begin_X6_bitsOf : GoodIn wsX6_begin (wsV RX6 83 RX6 yX6_bitsOf wsX6_bitsOf) := goodIn_app (goodIn_of _ (by decide +kernel)) ggX6_begin_X6_bitsOf
theorem dX6_begin_0 : decode cX6_begin 0 = .ok (.aload_n 0, 1) := by decide +kernel
theorem dX6_begin_1 : decode cX6_begin 1 = .ok (.iconst 0, 1) := by decide +kernel
theorem dX6_begin_2 : decode cX6_begin 2 = .ok (.putfield 31, 3) := by decide +kernel
theorem dX6_begin_5 : decode cX6_begin 5 = .ok (.iload_n 1, 1) := by decide +kernel
theorem dX6_begin_6 : decode cX6_begin 6 = .ok (.iload_n 2, 1) := by decide +kernel
theorem dX6_begin_7 : decode cX6_begin 7 = .ok (.invokestatic 73, 3) := by decide +kernel
theorem dX6_begin_10 : decode cX6_begin 10 = .ok (.ifCond .ne 9, 3) := by decide +kernel
theorem dX6_begin_13 : decode cX6_begin 13 = .ok (.aload_n 0, 1) := by decide +kernel
theorem dX6_begin_14 : decode cX6_begin 14 = .ok (.iconst 1, 1) := by decide +kernel
theorem dX6_begin_15 : decode cX6_begin 15 = .ok (.invokevirtual 67, 3) := by decide +kernel
theorem dX6_begin_18 : decode cX6_begin 18 = .ok (.ireturn, 1) := by decide +kernel
theorem dX6_begin_19 : decode cX6_begin 19 = .ok (.iload_n 3, 1) := by decide +kernel
theorem dX6_begin_20 : decode cX6_begin 20 = .ok (.iconst 0, 1) := by decide +kernel
theorem dX6_begin_21 : decode cX6_begin 21 = .ok (.iconst 1, 1) := by decide +kernel
theorem dX6_begin_22 : decode cX6_begin 22 = .ok (.invokestatic 35, 3) := by decide +kernel
theorem dX6_begin_25 : decode cX6_begin 25 = .ok (.ifCond .ne 9, 3) := by decide +kernel
theorem dX6_begin_28 : decode cX6_begin 28 = .ok (.aload_n 0, 1) := by decide +kernel
theorem dX6_begin_29 : decode cX6_begin 29 = .ok (.iconst 2, 1) := by decide +kernel
theorem dX6_begin_30 : decode cX6_begin 30 = .ok (.invokevirtual 67, 3) := by decide +kernel
theorem dX6_begin_33 : decode cX6_begin 33 = .ok (.ireturn, 1) := by decide +kernel
theorem dX6_begin_34 : decode cX6_begin 34 = .ok (.aload_n 0, 1) := by decide +kernel
theorem dX6_begin_35 : decode cX6_begin 35 = .ok (.iload_n 3, 1) := by decide +kernel
theorem dX6_begin_36 : decode cX6_begin 36 = .ok (.invokevirtual 77, 3) := by decide +kernel
theorem dX6_begin_39 : decode cX6_begin 39 = .ok (.ifCond .eq 9, 3) := by decide +kernel
theorem dX6_begin_42 : decode cX6_begin 42 = .ok (.aload_n 0, 1) := by decide +kernel
theorem dX6_begin_43 : decode cX6_begin 43 = .ok (.iconst 3, 1) := by decide +kernel
theorem dX6_begin_44 : decode cX6_begin 44 = .ok (.invokevirtual 67, 3) := by decide +kernel
theorem dX6_begin_47 : decode cX6_begin 47 = .ok (.ireturn, 1) := by decide +kernel
theorem dX6_begin_48 : decode cX6_begin 48 = .ok (.aload_n 0, 1) := by decide +kernel
theorem dX6_begin_49 : decode cX6_begin 49 = .ok (.invokevirtual 70, 3) := by decide +kernel
theorem dX6_begin_52 : decode cX6_begin 52 = .ok (.aload_n 0, 1) := by decide +kernel
theorem dX6_begin_53 : decode cX6_begin 53 = .ok (.getfield 7, 3) := by decide +kernel
theorem dX6_begin_56 : decode cX6_begin 56 = .ok (.bipush 7, 2) := by decide +kernel
theorem dX6_begin_58 : decode cX6_begin 58 = .ok (.aload_n 0, 1) := by decide +kernel
theorem dX6_begin_59 : decode cX6_begin 59 = .ok (.iload_n 3, 1) := by decide +kernel
theorem dX6_begin_60 : decode cX6_begin 60 = .ok (.invokevirtual 80, 3) := by decide +kernel
theorem dX6_begin_63 : decode cX6_begin 63 = .ok (.iastore, 1) := by decide +kernel
theorem dX6_begin_64 : decode cX6_begin 64 = .ok (.aload_n 0, 1) := by decide +kernel
theorem dX6_begin_65 : decode cX6_begin 65 = .ok (.getfield 7, 3) := by decide +kernel
theorem dX6_begin_68 : decode cX6_begin 68 = .ok (.bipush 8, 2) := by decide +kernel
theorem dX6_begin_70 : decode cX6_begin 70 = .ok (.iload_n 3, 1) := by decide +kernel
theorem dX6_begin_71 : decode cX6_begin 71 = .ok (.iastore, 1) := by decide +kernel
theorem dX6_begin_72 : decode cX6_begin 72 = .ok (.aload_n 0, 1) := by decide +kernel
theorem dX6_begin_73 : decode cX6_begin 73 = .ok (.getfield 7, 3) := by decide +kernel
theorem dX6_begin_76 : decode cX6_begin 76 = .ok (.bipush 9, 2) := by decide +kernel
theorem dX6_begin_78 : decode cX6_begin 78 = .ok (.iconst 0, 1) := by decide +kernel
theorem dX6_begin_79 : decode cX6_begin 79 = .ok (.iastore, 1) := by decide +kernel
theorem dX6_begin_80 : decode cX6_begin 80 = .ok (.aload_n 0, 1) := by decide +kernel
theorem dX6_begin_81 : decode cX6_begin 81 = .ok (.getfield 7, 3) := by decide +kernel
theorem dX6_begin_84 : decode cX6_begin 84 = .ok (.bipush 10, 2) := by decide +kernel
theorem dX6_begin_86 : decode cX6_begin 86 = .ok (.aload_n 0, 1) := by decide +kernel
theorem dX6_begin_87 : decode cX6_begin 87 = .ok (.aload_n 0, 1) := by decide +kernel
theorem dX6_begin_88 : decode cX6_begin 88 = .ok (.iload_n 2, 1) := by decide +kernel
theorem dX6_begin_89 : decode cX6_begin 89 = .ok (.invokevirtual 64, 3) := by decide +kernel
theorem dX6_begin_92 : decode cX6_begin 92 = .ok (.invokevirtual 83, 3) := by decide +kernel
theorem dX6_begin_95 : decode cX6_begin 95 = .ok (.iastore, 1) := by decide +kernel
theorem dX6_begin_96 : decode cX6_begin 96 = .ok (.aload_n 0, 1) := by decide +kernel
theorem dX6_begin_97 : decode cX6_begin 97 = .ok (.getfield 7, 3) := by decide +kernel
theorem dX6_begin_100 : decode cX6_begin 100 = .ok (.bipush 11, 2) := by decide +kernel
theorem dX6_begin_102 : decode cX6_begin 102 = .ok (.iconst 0, 1) := by decide +kernel
theorem dX6_begin_103 : decode cX6_begin 103 = .ok (.iastore, 1) := by decide +kernel
theorem dX6_begin_104 : decode cX6_begin 104 = .ok (.aload_n 0, 1) := by decide +kernel
theorem dX6_begin_105 : decode cX6_begin 105 = .ok (.getfield 7, 3) := by decide +kernel
theorem dX6_begin_108 : decode cX6_begin 108 = .ok (.bipush 12, 2) := by decide +kernel
theorem dX6_begin_110 : decode cX6_begin 110 = .ok (.aload_n 0, 1) := by decide +kernel
theorem dX6_begin_111 : decode cX6_begin 111 = .ok (.iload_n 1, 1) := by decide +kernel
theorem dX6_begin_112 : decode cX6_begin 112 = .ok (.invokevirtual 64, 3) := by decide +kernel
theorem dX6_begin_115 : decode cX6_begin 115 = .ok (.iastore, 1) := by decide +kernel
theorem dX6_begin_116 : decode cX6_begin 116 = .ok (.aload_n 0, 1) := by decide +kernel
theorem dX6_begin_117 : decode cX6_begin 117 = .ok (.getfield 7, 3) := by decide +kernel
theorem dX6_begin_120 : decode cX6_begin 120 = .ok (.bipush 7, 2) := by decide +kernel
theorem dX6_begin_122 : decode cX6_begin 122 = .ok (.iaload, 1) := by decide +kernel
theorem dX6_begin_123 : decode cX6_begin 123 = .ok (.ireturn, 1) := by decide +kernel
set_option maxRecDepth 20000 in
theorem ggX6_step_X6_fails : GoodIn wsX6_step wsX6_fails := goodIn_r _ [7, 1, 18, 19, 20, 21, 22, 23, 24, 25, 26, 27, 28, 29, 30, 31, 32, 33, 34] rfl (by decide +kernel)
set_option maxRecDepth 20000 in
theorem gX6_step_X6_fails : GoodIn wsX6_step (wsV RX6 67 RX6 yX6_fails wsX6_fails) := goodIn_app (goodIn_of _ (by decide +kernel)) ggX6_step_X6_fails
set_option maxRecDepth 20000 in
theorem ggX6_step_X6_records : GoodIn wsX6_step wsX6_records := goodIn_r _ [11, 12, 13, 2, 18, 19, 20, 21, 22, 23, 24, 25, 26, 27, 28, 29, 30, 31, 32, 33, 34] rfl (by decide +kernel)
set_option maxRecDepth 20000 in
theorem gX6_step_X6_records : GoodIn wsX6_step (wsV RX6 70 RX6 yX6_records wsX6_records) := goodIn_app (goodIn_of _ (by decide +kernel)) ggX6_step_X6_records
set_option maxRecDepth 20000 in
theorem ggX6_step_X6_stepsOnce : GoodIn wsX6_step wsX6_stepsOnce := goodIn_r _ [17, 2, 18, 19, 20, 21, 22, 23, 24, 25, 26, 27, 28, 29, 30, 31, 32, 33, 34] rfl (by decide +kernel)
set_option maxRecDepth 20000 in
theorem gX6_step_X6_stepsOnce : GoodIn wsX6_step (wsV RX6 86 RX6 yX6_stepsOnce wsX6_stepsOnce) := goodIn_app (goodIn_of _ (by decide +kernel)) ggX6_step_X6_stepsOnce
theorem dX6_step_0 : decode cX6_step 0 = .ok (.aload_n 0, 1) := by decide +kernel
theorem dX6_step_1 : decode cX6_step 1 = .ok (.iconst 0, 1) := by decide +kernel
theorem dX6_step_2 : decode cX6_step 2 = .ok (.putfield 31, 3) := by decide +kernel
theorem dX6_step_5 : decode cX6_step 5 = .ok (.aload_n 0, 1) := by decide +kernel
theorem dX6_step_6 : decode cX6_step 6 = .ok (.getfield 7, 3) := by decide +kernel
theorem dX6_step_9 : decode cX6_step 9 = .ok (.bipush 7, 2) := by decide +kernel
theorem dX6_step_11 : decode cX6_step 11 = .ok (.iaload, 1) := by decide +kernel
theorem dX6_step_12 : decode cX6_step 12 = .ok (.ifCond .gt 9, 3) := by decide +kernel
theorem dX6_step_15 : decode cX6_step 15 = .ok (.aload_n 0, 1) := by decide +kernel
theorem dX6_step_16 : decode cX6_step 16 = .ok (.iconst 1, 1) := by decide +kernel
theorem dX6_step_17 : decode cX6_step 17 = .ok (.invokevirtual 67, 3) := by decide +kernel
theorem dX6_step_20 : decode cX6_step 20 = .ok (.ireturn, 1) := by decide +kernel
theorem dX6_step_21 : decode cX6_step 21 = .ok (.aload_n 0, 1) := by decide +kernel
theorem dX6_step_22 : decode cX6_step 22 = .ok (.invokevirtual 70, 3) := by decide +kernel
theorem dX6_step_25 : decode cX6_step 25 = .ok (.aload_n 0, 1) := by decide +kernel
theorem dX6_step_26 : decode cX6_step 26 = .ok (.invokevirtual 86, 3) := by decide +kernel
theorem dX6_step_29 : decode cX6_step 29 = .ok (.ireturn, 1) := by decide +kernel
set_option maxRecDepth 20000 in
theorem ggX6_finish_X6_fails : GoodIn wsX6_finish wsX6_fails := goodIn_r _ [7, 1, 18, 19, 20, 21, 22, 23, 24, 25, 26, 27, 28, 29, 30, 31, 32, 33, 34] rfl (by decide +kernel)
set_option maxRecDepth 20000 in
theorem gX6_finish_X6_fails : GoodIn wsX6_finish (wsV RX6 67 RX6 yX6_fails wsX6_fails) := goodIn_app (goodIn_of _ (by decide +kernel)) ggX6_finish_X6_fails
set_option maxRecDepth 20000 in
theorem ggX6_finish_X6_records : GoodIn wsX6_finish wsX6_records := goodIn_r _ [11, 12, 13, 2, 18, 19, 20, 21, 22, 23, 24, 25, 26, 27, 28, 29, 30, 31, 32, 33, 34] rfl (by decide +kernel)
set_option maxRecDepth 20000 in
theorem gX6_finish_X6_records : GoodIn wsX6_finish (wsV RX6 70 RX6 yX6_records wsX6_records) := goodIn_app (goodIn_of _ (by decide +kernel)) ggX6_finish_X6_records
set_option maxRecDepth 20000 in
theorem ggX6_finish_X6_stepsOnce : GoodIn wsX6_finish wsX6_stepsOnce := goodIn_r _ [17, 2, 18, 19, 20, 21, 22, 23, 24, 25, 26, 27, 28, 29, 30, 31, 32, 33, 34] rfl (by decide +kernel)
set_option maxRecDepth 20000 in
theorem gX6_finish_X6_stepsOnce : GoodIn wsX6_finish (wsV RX6 86 RX6 yX6_stepsOnce wsX6_stepsOnce) := goodIn_app (goodIn_of _ (by decide +kernel)) ggX6_finish_X6_stepsOnce
theorem dX6_finish_0 : decode cX6_finish 0 = .ok (.aload_n 0, 1) := by decide +kernel
theorem dX6_finish_1 : decode cX6_finish 1 = .ok (.iconst 0, 1) := by decide +kernel
theorem dX6_finish_2 : decode cX6_finish 2 = .ok (.putfield 31, 3) := by decide +kernel
theorem dX6_finish_5 : decode cX6_finish 5 = .ok (.aload_n 0, 1) := by decide +kernel
theorem dX6_finish_6 : decode cX6_finish 6 = .ok (.getfield 7, 3) := by decide +kernel
theorem dX6_finish_9 : decode cX6_finish 9 = .ok (.bipush 7, 2) := by decide +kernel
theorem dX6_finish_11 : decode cX6_finish 11 = .ok (.iaload, 1) := by decide +kernel
theorem dX6_finish_12 : decode cX6_finish 12 = .ok (.iconst (-1), 1) := by decide +kernel
theorem dX6_finish_13 : decode cX6_finish 13 = .ok (.if_icmp .ne 9, 3) := by decide +kernel
theorem dX6_finish_16 : decode cX6_finish 16 = .ok (.aload_n 0, 1) := by decide +kernel
theorem dX6_finish_17 : decode cX6_finish 17 = .ok (.iconst 1, 1) := by decide +kernel
theorem dX6_finish_18 : decode cX6_finish 18 = .ok (.invokevirtual 67, 3) := by decide +kernel
theorem dX6_finish_21 : decode cX6_finish 21 = .ok (.ireturn, 1) := by decide +kernel
theorem dX6_finish_22 : decode cX6_finish 22 = .ok (.aload_n 0, 1) := by decide +kernel
theorem dX6_finish_23 : decode cX6_finish 23 = .ok (.invokevirtual 70, 3) := by decide +kernel
theorem dX6_finish_26 : decode cX6_finish 26 = .ok (.iconst 0, 1) := by decide +kernel
theorem dX6_finish_27 : decode cX6_finish 27 = .ok (.istore_n 1, 1) := by decide +kernel
theorem dX6_finish_28 : decode cX6_finish 28 = .ok (.aload_n 0, 1) := by decide +kernel
theorem dX6_finish_29 : decode cX6_finish 29 = .ok (.getfield 7, 3) := by decide +kernel
theorem dX6_finish_32 : decode cX6_finish 32 = .ok (.bipush 7, 2) := by decide +kernel
theorem dX6_finish_34 : decode cX6_finish 34 = .ok (.iaload, 1) := by decide +kernel
theorem dX6_finish_35 : decode cX6_finish 35 = .ok (.ifCond .le 21, 3) := by decide +kernel
theorem dX6_finish_38 : decode cX6_finish 38 = .ok (.iload_n 1, 1) := by decide +kernel
theorem dX6_finish_39 : decode cX6_finish 39 = .ok (.aload_n 0, 1) := by decide +kernel
theorem dX6_finish_40 : decode cX6_finish 40 = .ok (.invokevirtual 86, 3) := by decide +kernel
theorem dX6_finish_43 : decode cX6_finish 43 = .ok (.ifCond .eq 7, 3) := by decide +kernel
theorem dX6_finish_46 : decode cX6_finish 46 = .ok (.iconst 1, 1) := by decide +kernel
theorem dX6_finish_47 : decode cX6_finish 47 = .ok (.goto 4, 3) := by decide +kernel
theorem dX6_finish_50 : decode cX6_finish 50 = .ok (.iconst 0, 1) := by decide +kernel
theorem dX6_finish_51 : decode cX6_finish 51 = .ok (.iadd, 1) := by decide +kernel
theorem dX6_finish_52 : decode cX6_finish 52 = .ok (.istore_n 1, 1) := by decide +kernel
theorem dX6_finish_53 : decode cX6_finish 53 = .ok (.goto (-25), 3) := by decide +kernel
theorem dX6_finish_56 : decode cX6_finish 56 = .ok (.iload_n 1, 1) := by decide +kernel
theorem dX6_finish_57 : decode cX6_finish 57 = .ok (.ireturn, 1) := by decide +kernel
set_option maxRecDepth 20000 in
theorem ggX6_store_X6_isRegister : GoodIn wsX6_store wsX6_isRegister := goodIn_r _ [6, 7, 8, 5, 9] rfl (by decide +kernel)
set_option maxRecDepth 20000 in
theorem gX6_store_X6_isRegister : GoodIn wsX6_store (va_wsS RX6 39 yX6_isRegister wsX6_isRegister) := goodIn_app (goodIn_of _ (by decide +kernel)) ggX6_store_X6_isRegister
set_option maxRecDepth 20000 in
theorem ggX6_store_X6_fails : GoodIn wsX6_store wsX6_fails := goodIn_r _ [13, 1, 40, 41, 42, 43, 44, 45, 46, 47, 48, 49, 50, 51, 52, 53, 54, 55, 56] rfl (by decide +kernel)
set_option maxRecDepth 20000 in
theorem gX6_store_X6_fails : GoodIn wsX6_store (wsV RX6 67 RX6 yX6_fails wsX6_fails) := goodIn_app (goodIn_of _ (by decide +kernel)) ggX6_store_X6_fails
set_option maxRecDepth 20000 in
theorem ggX6_store_X6_records : GoodIn wsX6_store wsX6_records := goodIn_r _ [17, 18, 19, 2, 40, 41, 42, 43, 44, 45, 46, 47, 48, 49, 50, 51, 52, 53, 54, 55, 56] rfl (by decide +kernel)
set_option maxRecDepth 20000 in
theorem gX6_store_X6_records : GoodIn wsX6_store (wsV RX6 70 RX6 yX6_records wsX6_records) := goodIn_app (goodIn_of _ (by decide +kernel)) ggX6_store_X6_records
set_option maxRecDepth 20000 in
theorem ggX6_store_X6_product : GoodIn wsX6_store wsX6_product := goodIn_r _ [23, 2, 40, 41, 42, 43, 44, 45, 46, 47, 48, 49, 50, 51, 52, 53, 54, 55, 56] rfl (by decide +kernel)
set_option maxRecDepth 20000 in
theorem gX6_store_X6_product : GoodIn wsX6_store (wsV RX6 90 RX6 yX6_product wsX6_product) := goodIn_app (goodIn_of _ (by decide +kernel)) ggX6_store_X6_product
set_option maxRecDepth 20000 in
theorem ggX6_store_X6_lays : GoodIn wsX6_store wsX6_lays := goodIn_r _ [27, 2, 28, 29, 30, 5, 31, 7, 8, 9, 32, 33, 34, 35, 36, 37, 38, 39, 40, 41, 42, 43, 44, 45, 46, 47, 48, 49, 50, 51, 52, 53, 54, 55, 56] rfl (by decide +kernel)
set_option maxRecDepth 20000 in
theorem gX6_store_X6_lays : GoodIn wsX6_store (wsV RX6 93 RX6 yX6_lays wsX6_lays) := goodIn_app (goodIn_of _ (by decide +kernel)) ggX6_store_X6_lays
theorem dX6_store_0 : decode cX6_store 0 = .ok (.aload_n 0, 1) := by decide +kernel
theorem dX6_store_1 : decode cX6_store 1 = .ok (.iconst 0, 1) := by decide +kernel
theorem dX6_store_2 : decode cX6_store 2 = .ok (.putfield 31, 3) := by decide +kernel
theorem dX6_store_5 : decode cX6_store 5 = .ok (.iload_n 1, 1) := by decide +kernel
theorem dX6_store_6 : decode cX6_store 6 = .ok (.invokestatic 39, 3) := by decide +kernel
theorem dX6_store_9 : decode cX6_store 9 = .ok (.ifCond .ne 9, 3) := by decide +kernel
theorem dX6_store_12 : decode cX6_store 12 = .ok (.aload_n 0, 1) := by decide +kernel
theorem dX6_store_13 : decode cX6_store 13 = .ok (.iconst 1, 1) := by decide +kernel
theorem dX6_store_14 : decode cX6_store 14 = .ok (.invokevirtual 67, 3) := by decide +kernel
theorem dX6_store_17 : decode cX6_store 17 = .ok (.ireturn, 1) := by decide +kernel
theorem dX6_store_18 : decode cX6_store 18 = .ok (.aload_n 0, 1) := by decide +kernel
theorem dX6_store_19 : decode cX6_store 19 = .ok (.getfield 7, 3) := by decide +kernel
theorem dX6_store_22 : decode cX6_store 22 = .ok (.bipush 7, 2) := by decide +kernel
theorem dX6_store_24 : decode cX6_store 24 = .ok (.iaload, 1) := by decide +kernel
theorem dX6_store_25 : decode cX6_store 25 = .ok (.ifCond .eq 9, 3) := by decide +kernel
theorem dX6_store_28 : decode cX6_store 28 = .ok (.aload_n 0, 1) := by decide +kernel
theorem dX6_store_29 : decode cX6_store 29 = .ok (.iconst 2, 1) := by decide +kernel
theorem dX6_store_30 : decode cX6_store 30 = .ok (.invokevirtual 67, 3) := by decide +kernel
theorem dX6_store_33 : decode cX6_store 33 = .ok (.ireturn, 1) := by decide +kernel
theorem dX6_store_34 : decode cX6_store 34 = .ok (.aload_n 0, 1) := by decide +kernel
theorem dX6_store_35 : decode cX6_store 35 = .ok (.invokevirtual 70, 3) := by decide +kernel
theorem dX6_store_38 : decode cX6_store 38 = .ok (.aload_n 0, 1) := by decide +kernel
theorem dX6_store_39 : decode cX6_store 39 = .ok (.iload_n 1, 1) := by decide +kernel
theorem dX6_store_40 : decode cX6_store 40 = .ok (.aload_n 0, 1) := by decide +kernel
theorem dX6_store_41 : decode cX6_store 41 = .ok (.invokevirtual 90, 3) := by decide +kernel
theorem dX6_store_44 : decode cX6_store 44 = .ok (.invokevirtual 93, 3) := by decide +kernel
theorem dX6_store_47 : decode cX6_store 47 = .ok (.ireturn, 1) := by decide +kernel
set_option maxRecDepth 20000 in
theorem ggX6_type_X6_fails : GoodIn wsX6_type wsX6_fails := goodIn_r _ [8, 1, 9, 10, 11, 12, 13, 14, 15, 16, 17, 18, 19, 20, 21, 22, 23, 24, 25] rfl (by decide +kernel)
set_option maxRecDepth 20000 in
theorem gX6_type_X6_fails : GoodIn wsX6_type (wsV RX6 67 RX6 yX6_fails wsX6_fails) := goodIn_app (goodIn_of _ (by decide +kernel)) ggX6_type_X6_fails
theorem dX6_type_0 : decode cX6_type 0 = .ok (.aload_n 0, 1) := by decide +kernel
theorem dX6_type_1 : decode cX6_type 1 = .ok (.iconst 0, 1) := by decide +kernel
theorem dX6_type_2 : decode cX6_type 2 = .ok (.putfield 31, 3) := by decide +kernel
theorem dX6_type_5 : decode cX6_type 5 = .ok (.aload_n 0, 1) := by decide +kernel
theorem dX6_type_6 : decode cX6_type 6 = .ok (.getfield 96, 3) := by decide +kernel
theorem dX6_type_9 : decode cX6_type 9 = .ok (.bipush 60, 2) := by decide +kernel
theorem dX6_type_11 : decode cX6_type 11 = .ok (.if_icmp .ne 9, 3) := by decide +kernel
theorem dX6_type_14 : decode cX6_type 14 = .ok (.aload_n 0, 1) := by decide +kernel
theorem dX6_type_15 : decode cX6_type 15 = .ok (.iconst 1, 1) := by decide +kernel
theorem dX6_type_16 : decode cX6_type 16 = .ok (.invokevirtual 67, 3) := by decide +kernel
theorem dX6_type_19 : decode cX6_type 19 = .ok (.ireturn, 1) := by decide +kernel
theorem dX6_type_20 : decode cX6_type 20 = .ok (.aload_n 0, 1) := by decide +kernel
theorem dX6_type_21 : decode cX6_type 21 = .ok (.getfield 22, 3) := by decide +kernel
theorem dX6_type_24 : decode cX6_type 24 = .ok (.aload_n 0, 1) := by decide +kernel
theorem dX6_type_25 : decode cX6_type 25 = .ok (.getfield 96, 3) := by decide +kernel
theorem dX6_type_28 : decode cX6_type 28 = .ok (.iload_n 1, 1) := by decide +kernel
theorem dX6_type_29 : decode cX6_type 29 = .ok (.iastore, 1) := by decide +kernel
theorem dX6_type_30 : decode cX6_type 30 = .ok (.aload_n 0, 1) := by decide +kernel
theorem dX6_type_31 : decode cX6_type 31 = .ok (.dup, 1) := by decide +kernel
theorem dX6_type_32 : decode cX6_type 32 = .ok (.getfield 96, 3) := by decide +kernel
theorem dX6_type_35 : decode cX6_type 35 = .ok (.iconst 1, 1) := by decide +kernel
theorem dX6_type_36 : decode cX6_type 36 = .ok (.iadd, 1) := by decide +kernel
theorem dX6_type_37 : decode cX6_type 37 = .ok (.putfield 96, 3) := by decide +kernel
theorem dX6_type_40 : decode cX6_type 40 = .ok (.aload_n 0, 1) := by decide +kernel
theorem dX6_type_41 : decode cX6_type 41 = .ok (.getfield 96, 3) := by decide +kernel
theorem dX6_type_44 : decode cX6_type 44 = .ok (.ireturn, 1) := by decide +kernel
theorem dX6_clearProgram_0 : decode cX6_clearProgram 0 = .ok (.aload_n 0, 1) := by decide +kernel
theorem dX6_clearProgram_1 : decode cX6_clearProgram 1 = .ok (.iconst 0, 1) := by decide +kernel
theorem dX6_clearProgram_2 : decode cX6_clearProgram 2 = .ok (.putfield 31, 3) := by decide +kernel
theorem dX6_clearProgram_5 : decode cX6_clearProgram 5 = .ok (.aload_n 0, 1) := by decide +kernel
theorem dX6_clearProgram_6 : decode cX6_clearProgram 6 = .ok (.getfield 96, 3) := by decide +kernel
theorem dX6_clearProgram_9 : decode cX6_clearProgram 9 = .ok (.istore_n 1, 1) := by decide +kernel
theorem dX6_clearProgram_10 : decode cX6_clearProgram 10 = .ok (.aload_n 0, 1) := by decide +kernel
theorem dX6_clearProgram_11 : decode cX6_clearProgram 11 = .ok (.iconst 0, 1) := by decide +kernel
theorem dX6_clearProgram_12 : decode cX6_clearProgram 12 = .ok (.putfield 96, 3) := by decide +kernel
theorem dX6_clearProgram_15 : decode cX6_clearProgram 15 = .ok (.iload_n 1, 1) := by decide +kernel
theorem dX6_clearProgram_16 : decode cX6_clearProgram 16 = .ok (.ireturn, 1) := by decide +kernel
theorem dX6_sign_0 : decode cX6_sign 0 = .ok (.aload_n 0, 1) := by decide +kernel
theorem dX6_sign_1 : decode cX6_sign 1 = .ok (.getfield 99, 3) := by decide +kernel
theorem dX6_sign_4 : decode cX6_sign 4 = .ok (.aload_n 0, 1) := by decide +kernel
theorem dX6_sign_5 : decode cX6_sign 5 = .ok (.getfield 96, 3) := by decide +kernel
theorem dX6_sign_8 : decode cX6_sign 8 = .ok (.if_icmp .ge 15, 3) := by decide +kernel
theorem dX6_sign_11 : decode cX6_sign 11 = .ok (.aload_n 0, 1) := by decide +kernel
theorem dX6_sign_12 : decode cX6_sign 12 = .ok (.getfield 22, 3) := by decide +kernel
theorem dX6_sign_15 : decode cX6_sign 15 = .ok (.aload_n 0, 1) := by decide +kernel
theorem dX6_sign_16 : decode cX6_sign 16 = .ok (.getfield 99, 3) := by decide +kernel
theorem dX6_sign_19 : decode cX6_sign 19 = .ok (.iaload, 1) := by decide +kernel
theorem dX6_sign_20 : decode cX6_sign 20 = .ok (.goto 4, 3) := by decide +kernel
theorem dX6_sign_23 : decode cX6_sign 23 = .ok (.iconst 0, 1) := by decide +kernel
theorem dX6_sign_24 : decode cX6_sign 24 = .ok (.ireturn, 1) := by decide +kernel
set_option maxRecDepth 20000 in
theorem ggX6_takes_X6_sign : GoodIn wsX6_takes wsX6_sign := goodIn_r _ [7, 2, 8, 9, 13, 14, 15, 16, 17, 18, 19, 20, 21, 22, 23, 24, 25, 26, 27, 28, 29] rfl (by decide +kernel)
set_option maxRecDepth 20000 in
theorem gX6_takes_X6_sign : GoodIn wsX6_takes (wsV RX6 106 RX6 yX6_sign wsX6_sign) := goodIn_app (goodIn_of _ (by decide +kernel)) ggX6_takes_X6_sign
set_option maxRecDepth 20000 in
theorem ggX6_takes_X6_in : GoodIn wsX6_takes wsX6_in := goodIn_r _ [12] rfl (by decide +kernel)
set_option maxRecDepth 20000 in
theorem gX6_takes_X6_in : GoodIn wsX6_takes (va_wsS RX6 35 yX6_in wsX6_in) := goodIn_app (goodIn_of _ (by decide +kernel)) ggX6_takes_X6_in
theorem dX6_takes_0 : decode cX6_takes 0 = .ok (.aload_n 0, 1) := by decide +kernel
theorem dX6_takes_1 : decode cX6_takes 1 = .ok (.aload_n 0, 1) := by decide +kernel
theorem dX6_takes_2 : decode cX6_takes 2 = .ok (.getfield 102, 3) := by decide +kernel
theorem dX6_takes_5 : decode cX6_takes 5 = .ok (.ifCond .eq 19, 3) := by decide +kernel
theorem dX6_takes_8 : decode cX6_takes 8 = .ok (.aload_n 0, 1) := by decide +kernel
theorem dX6_takes_9 : decode cX6_takes 9 = .ok (.invokevirtual 106, 3) := by decide +kernel
theorem dX6_takes_12 : decode cX6_takes 12 = .ok (.iload_n 1, 1) := by decide +kernel
theorem dX6_takes_13 : decode cX6_takes 13 = .ok (.iload_n 2, 1) := by decide +kernel
theorem dX6_takes_14 : decode cX6_takes 14 = .ok (.invokestatic 35, 3) := by decide +kernel
theorem dX6_takes_17 : decode cX6_takes 17 = .ok (.ifCond .eq 7, 3) := by decide +kernel
theorem dX6_takes_20 : decode cX6_takes 20 = .ok (.iconst 1, 1) := by decide +kernel
theorem dX6_takes_21 : decode cX6_takes 21 = .ok (.goto 4, 3) := by decide +kernel
theorem dX6_takes_24 : decode cX6_takes 24 = .ok (.iconst 0, 1) := by decide +kernel
theorem dX6_takes_25 : decode cX6_takes 25 = .ok (.putfield 102, 3) := by decide +kernel
theorem dX6_takes_28 : decode cX6_takes 28 = .ok (.aload_n 0, 1) := by decide +kernel
theorem dX6_takes_29 : decode cX6_takes 29 = .ok (.invokevirtual 106, 3) := by decide +kernel
theorem dX6_takes_32 : decode cX6_takes 32 = .ok (.iload_n 1, 1) := by decide +kernel
theorem dX6_takes_33 : decode cX6_takes 33 = .ok (.isub, 1) := by decide +kernel
theorem dX6_takes_34 : decode cX6_takes 34 = .ok (.istore_n 3, 1) := by decide +kernel
theorem dX6_takes_35 : decode cX6_takes 35 = .ok (.aload_n 0, 1) := by decide +kernel
theorem dX6_takes_36 : decode cX6_takes 36 = .ok (.dup, 1) := by decide +kernel
theorem dX6_takes_37 : decode cX6_takes 37 = .ok (.getfield 99, 3) := by decide +kernel
theorem dX6_takes_40 : decode cX6_takes 40 = .ok (.aload_n 0, 1) := by decide +kernel
theorem dX6_takes_41 : decode cX6_takes 41 = .ok (.getfield 102, 3) := by decide +kernel
theorem dX6_takes_44 : decode cX6_takes 44 = .ok (.ifCond .eq 7, 3) := by decide +kernel
theorem dX6_takes_47 : decode cX6_takes 47 = .ok (.iconst 1, 1) := by decide +kernel
theorem dX6_takes_48 : decode cX6_takes 48 = .ok (.goto 4, 3) := by decide +kernel
theorem dX6_takes_51 : decode cX6_takes 51 = .ok (.iconst 0, 1) := by decide +kernel
theorem dX6_takes_52 : decode cX6_takes 52 = .ok (.iadd, 1) := by decide +kernel
theorem dX6_takes_53 : decode cX6_takes 53 = .ok (.putfield 99, 3) := by decide +kernel
theorem dX6_takes_56 : decode cX6_takes 56 = .ok (.iload_n 3, 1) := by decide +kernel
theorem dX6_takes_57 : decode cX6_takes 57 = .ok (.ireturn, 1) := by decide +kernel
set_option maxRecDepth 20000 in
theorem ggX6_readsNumber_X6_sign : GoodIn wsX6_readsNumber wsX6_sign := goodIn_r _ [8, 1, 9, 10, 18, 19, 20, 21, 22, 23, 24, 25, 26, 27, 28, 29, 30, 31, 32, 33, 34] rfl (by decide +kernel)
set_option maxRecDepth 20000 in
theorem gX6_readsNumber_X6_sign : GoodIn wsX6_readsNumber (wsV RX6 106 RX6 yX6_sign wsX6_sign) := goodIn_app (goodIn_of _ (by decide +kernel)) ggX6_readsNumber_X6_sign
set_option maxRecDepth 20000 in
theorem ggX6_readsNumber_X6_takes : GoodIn wsX6_readsNumber wsX6_takes := goodIn_r _ [14, 3, 1, 4, 5, 6, 7, 8, 9, 10, 15, 16, 17, 18, 19, 20, 21, 22, 23, 24, 25, 26, 27, 28, 29, 30, 31, 32, 33, 34] rfl (by decide +kernel)
set_option maxRecDepth 20000 in
theorem gX6_readsNumber_X6_takes : GoodIn wsX6_readsNumber (wsV RX6 110 RX6 yX6_takes wsX6_takes) := goodIn_app (goodIn_of _ (by decide +kernel)) ggX6_readsNumber_X6_takes
set_option maxRecDepth 20000 in
theorem ggX6_readsNumber_X6_in : GoodIn wsX6_readsNumber wsX6_in := goodIn_r _ [17] rfl (by decide +kernel)
set_option maxRecDepth 20000 in
theorem gX6_readsNumber_X6_in : GoodIn wsX6_readsNumber (va_wsS RX6 35 yX6_in wsX6_in) := goodIn_app (goodIn_of _ (by decide +kernel)) ggX6_readsNumber_X6_in
theorem dX6_readsNumber_0 : decode cX6_readsNumber 0 = .ok (.aload_n 0, 1) := by decide +kernel
theorem dX6_readsNumber_1 : decode cX6_readsNumber 1 = .ok (.invokevirtual 106, 3) := by decide +kernel
theorem dX6_readsNumber_4 : decode cX6_readsNumber 4 = .ok (.bipush 45, 2) := by decide +kernel
theorem dX6_readsNumber_6 : decode cX6_readsNumber 6 = .ok (.if_icmp .ne 7, 3) := by decide +kernel
theorem dX6_readsNumber_9 : decode cX6_readsNumber 9 = .ok (.iconst 1, 1) := by decide +kernel
theorem dX6_readsNumber_10 : decode cX6_readsNumber 10 = .ok (.goto 4, 3) := by decide +kernel
theorem dX6_readsNumber_13 : decode cX6_readsNumber 13 = .ok (.iconst 0, 1) := by decide +kernel
theorem dX6_readsNumber_14 : decode cX6_readsNumber 14 = .ok (.istore_n 1, 1) := by decide +kernel
theorem dX6_readsNumber_15 : decode cX6_readsNumber 15 = .ok (.aload_n 0, 1) := by decide +kernel
theorem dX6_readsNumber_16 : decode cX6_readsNumber 16 = .ok (.dup, 1) := by decide +kernel
theorem dX6_readsNumber_17 : decode cX6_readsNumber 17 = .ok (.getfield 99, 3) := by decide +kernel
theorem dX6_readsNumber_20 : decode cX6_readsNumber 20 = .ok (.iload_n 1, 1) := by decide +kernel
theorem dX6_readsNumber_21 : decode cX6_readsNumber 21 = .ok (.ifCond .eq 7, 3) := by decide +kernel
theorem dX6_readsNumber_24 : decode cX6_readsNumber 24 = .ok (.iconst 1, 1) := by decide +kernel
theorem dX6_readsNumber_25 : decode cX6_readsNumber 25 = .ok (.goto 4, 3) := by decide +kernel
theorem dX6_readsNumber_28 : decode cX6_readsNumber 28 = .ok (.iconst 0, 1) := by decide +kernel
theorem dX6_readsNumber_29 : decode cX6_readsNumber 29 = .ok (.iadd, 1) := by decide +kernel
theorem dX6_readsNumber_30 : decode cX6_readsNumber 30 = .ok (.putfield 99, 3) := by decide +kernel
theorem dX6_readsNumber_33 : decode cX6_readsNumber 33 = .ok (.iload_n 1, 1) := by decide +kernel
theorem dX6_readsNumber_34 : decode cX6_readsNumber 34 = .ok (.ifCond .eq 8, 3) := by decide +kernel
theorem dX6_readsNumber_37 : decode cX6_readsNumber 37 = .ok (.ldc 109, 2) := by decide +kernel
theorem dX6_readsNumber_39 : decode cX6_readsNumber 39 = .ok (.goto 6, 3) := by decide +kernel
theorem dX6_readsNumber_42 : decode cX6_readsNumber 42 = .ok (.sipush 32767, 3) := by decide +kernel
theorem dX6_readsNumber_45 : decode cX6_readsNumber 45 = .ok (.istore_n 2, 1) := by decide +kernel
theorem dX6_readsNumber_46 : decode cX6_readsNumber 46 = .ok (.iload_n 1, 1) := by decide +kernel
theorem dX6_readsNumber_47 : decode cX6_readsNumber 47 = .ok (.ifCond .eq 16, 3) := by decide +kernel
theorem dX6_readsNumber_50 : decode cX6_readsNumber 50 = .ok (.iconst 1, 1) := by decide +kernel
theorem dX6_readsNumber_51 : decode cX6_readsNumber 51 = .ok (.aload_n 0, 1) := by decide +kernel
theorem dX6_readsNumber_52 : decode cX6_readsNumber 52 = .ok (.bipush 49, 2) := by decide +kernel
theorem dX6_readsNumber_54 : decode cX6_readsNumber 54 = .ok (.bipush 57, 2) := by decide +kernel
theorem dX6_readsNumber_56 : decode cX6_readsNumber 56 = .ok (.invokevirtual 110, 3) := by decide +kernel
theorem dX6_readsNumber_59 : decode cX6_readsNumber 59 = .ok (.iadd, 1) := by decide +kernel
theorem dX6_readsNumber_60 : decode cX6_readsNumber 60 = .ok (.goto 11, 3) := by decide +kernel
theorem dX6_readsNumber_63 : decode cX6_readsNumber 63 = .ok (.aload_n 0, 1) := by decide +kernel
theorem dX6_readsNumber_64 : decode cX6_readsNumber 64 = .ok (.bipush 48, 2) := by decide +kernel
theorem dX6_readsNumber_66 : decode cX6_readsNumber 66 = .ok (.bipush 57, 2) := by decide +kernel
theorem dX6_readsNumber_68 : decode cX6_readsNumber 68 = .ok (.invokevirtual 110, 3) := by decide +kernel
theorem dX6_readsNumber_71 : decode cX6_readsNumber 71 = .ok (.istore_n 3, 1) := by decide +kernel
theorem dX6_readsNumber_72 : decode cX6_readsNumber 72 = .ok (.aload_n 0, 1) := by decide +kernel
theorem dX6_readsNumber_73 : decode cX6_readsNumber 73 = .ok (.getfield 102, 3) := by decide +kernel
theorem dX6_readsNumber_76 : decode cX6_readsNumber 76 = .ok (.ifCond .eq 63, 3) := by decide +kernel
theorem dX6_readsNumber_79 : decode cX6_readsNumber 79 = .ok (.iload_n 3, 1) := by decide +kernel
theorem dX6_readsNumber_80 : decode cX6_readsNumber 80 = .ok (.ifCond .le 59, 3) := by decide +kernel
theorem dX6_readsNumber_83 : decode cX6_readsNumber 83 = .ok (.aload_n 0, 1) := by decide +kernel
theorem dX6_readsNumber_84 : decode cX6_readsNumber 84 = .ok (.invokevirtual 106, 3) := by decide +kernel
theorem dX6_readsNumber_87 : decode cX6_readsNumber 87 = .ok (.bipush 48, 2) := by decide +kernel
theorem dX6_readsNumber_89 : decode cX6_readsNumber 89 = .ok (.bipush 57, 2) := by decide +kernel
theorem dX6_readsNumber_91 : decode cX6_readsNumber 91 = .ok (.invokestatic 35, 3) := by decide +kernel
theorem dX6_readsNumber_94 : decode cX6_readsNumber 94 = .ok (.ifCond .eq 45, 3) := by decide +kernel
theorem dX6_readsNumber_97 : decode cX6_readsNumber 97 = .ok (.bipush 10, 2) := by decide +kernel
theorem dX6_readsNumber_99 : decode cX6_readsNumber 99 = .ok (.iload_n 3, 1) := by decide +kernel
theorem dX6_readsNumber_100 : decode cX6_readsNumber 100 = .ok (.imul, 1) := by decide +kernel
theorem dX6_readsNumber_101 : decode cX6_readsNumber 101 = .ok (.aload_n 0, 1) := by decide +kernel
theorem dX6_readsNumber_102 : decode cX6_readsNumber 102 = .ok (.invokevirtual 106, 3) := by decide +kernel
theorem dX6_readsNumber_105 : decode cX6_readsNumber 105 = .ok (.iadd, 1) := by decide +kernel
theorem dX6_readsNumber_106 : decode cX6_readsNumber 106 = .ok (.bipush 48, 2) := by decide +kernel
theorem dX6_readsNumber_108 : decode cX6_readsNumber 108 = .ok (.isub, 1) := by decide +kernel
theorem dX6_readsNumber_109 : decode cX6_readsNumber 109 = .ok (.iload_n 2, 1) := by decide +kernel
theorem dX6_readsNumber_110 : decode cX6_readsNumber 110 = .ok (.if_icmp .gt 29, 3) := by decide +kernel
theorem dX6_readsNumber_113 : decode cX6_readsNumber 113 = .ok (.bipush 10, 2) := by decide +kernel
theorem dX6_readsNumber_115 : decode cX6_readsNumber 115 = .ok (.iload_n 3, 1) := by decide +kernel
theorem dX6_readsNumber_116 : decode cX6_readsNumber 116 = .ok (.imul, 1) := by decide +kernel
theorem dX6_readsNumber_117 : decode cX6_readsNumber 117 = .ok (.aload_n 0, 1) := by decide +kernel
theorem dX6_readsNumber_118 : decode cX6_readsNumber 118 = .ok (.invokevirtual 106, 3) := by decide +kernel
theorem dX6_readsNumber_121 : decode cX6_readsNumber 121 = .ok (.iadd, 1) := by decide +kernel
theorem dX6_readsNumber_122 : decode cX6_readsNumber 122 = .ok (.bipush 48, 2) := by decide +kernel
theorem dX6_readsNumber_124 : decode cX6_readsNumber 124 = .ok (.isub, 1) := by decide +kernel
theorem dX6_readsNumber_125 : decode cX6_readsNumber 125 = .ok (.istore_n 3, 1) := by decide +kernel
theorem dX6_readsNumber_126 : decode cX6_readsNumber 126 = .ok (.aload_n 0, 1) := by decide +kernel
theorem dX6_readsNumber_127 : decode cX6_readsNumber 127 = .ok (.dup, 1) := by decide +kernel
theorem dX6_readsNumber_128 : decode cX6_readsNumber 128 = .ok (.getfield 99, 3) := by decide +kernel
theorem dX6_readsNumber_131 : decode cX6_readsNumber 131 = .ok (.iconst 1, 1) := by decide +kernel
theorem dX6_readsNumber_132 : decode cX6_readsNumber 132 = .ok (.iadd, 1) := by decide +kernel
theorem dX6_readsNumber_133 : decode cX6_readsNumber 133 = .ok (.putfield 99, 3) := by decide +kernel
theorem dX6_readsNumber_136 : decode cX6_readsNumber 136 = .ok (.goto (-64), 3) := by decide +kernel
theorem dX6_readsNumber_139 : decode cX6_readsNumber 139 = .ok (.iload_n 1, 1) := by decide +kernel
theorem dX6_readsNumber_140 : decode cX6_readsNumber 140 = .ok (.ifCond .eq 8, 3) := by decide +kernel
theorem dX6_readsNumber_143 : decode cX6_readsNumber 143 = .ok (.iload_n 3, 1) := by decide +kernel
theorem dX6_readsNumber_144 : decode cX6_readsNumber 144 = .ok (.ineg, 1) := by decide +kernel
theorem dX6_readsNumber_145 : decode cX6_readsNumber 145 = .ok (.goto 4, 3) := by decide +kernel
theorem dX6_readsNumber_148 : decode cX6_readsNumber 148 = .ok (.iload_n 3, 1) := by decide +kernel
theorem dX6_readsNumber_149 : decode cX6_readsNumber 149 = .ok (.ireturn, 1) := by decide +kernel
set_option maxRecDepth 20000 in
theorem ggX6_readsStep_X6_takes : GoodIn wsX6_readsStep wsX6_takes := goodIn_r _ [9, 2, 4, 10, 11, 12, 8, 13, 14, 15, 16, 17, 18, 24, 25, 26, 27, 28, 29, 30, 31, 32, 33, 34, 35, 36, 37, 38, 39, 40] rfl (by decide +kernel)
set_option maxRecDepth 20000 in
theorem gX6_readsStep_X6_takes : GoodIn wsX6_readsStep (wsV RX6 110 RX6 yX6_takes wsX6_takes) := goodIn_app (goodIn_of _ (by decide +kernel)) ggX6_readsStep_X6_takes
set_option maxRecDepth 20000 in
theorem ggX6_readsStep_X6_sign : GoodIn wsX6_readsStep wsX6_sign := goodIn_r _ [13, 4, 14, 15, 24, 25, 26, 27, 28, 29, 30, 31, 32, 33, 34, 35, 36, 37, 38, 39, 40] rfl (by decide +kernel)
set_option maxRecDepth 20000 in
theorem gX6_readsStep_X6_sign : GoodIn wsX6_readsStep (wsV RX6 106 RX6 yX6_sign wsX6_sign) := goodIn_app (goodIn_of _ (by decide +kernel)) ggX6_readsStep_X6_sign
set_option maxRecDepth 20000 in
theorem ggX6_readsStep_X6_readsNumber : GoodIn wsX6_readsStep wsX6_readsNumber := goodIn_r _ [22, 4, 23, 2, 10, 11, 12, 8, 13, 14, 15, 5, 6, 7, 9, 16, 17, 18, 24, 25, 26, 27, 28, 29, 30, 31, 32, 33, 34, 35, 36, 37, 38, 39, 40] rfl (by decide +kernel)
set_option maxRecDepth 20000 in
theorem gX6_readsStep_X6_readsNumber : GoodIn wsX6_readsStep (wsV RX6 116 RX6 yX6_readsNumber wsX6_readsNumber) := goodIn_app (goodIn_of _ (by decide +kernel)) ggX6_readsStep_X6_readsNumber
theorem dX6_readsStep_0 : decode cX6_readsStep 0 = .ok (.iconst 4, 1) := by decide +kernel
theorem dX6_readsStep_1 : decode cX6_readsStep 1 = .ok (.aload_n 0, 1) := by decide +kernel
theorem dX6_readsStep_2 : decode cX6_readsStep 2 = .ok (.getfield 113, 3) := by decide +kernel
theorem dX6_readsStep_5 : decode cX6_readsStep 5 = .ok (.imul, 1) := by decide +kernel
theorem dX6_readsStep_6 : decode cX6_readsStep 6 = .ok (.istore_n 1, 1) := by decide +kernel
theorem dX6_readsStep_7 : decode cX6_readsStep 7 = .ok (.aload_n 0, 1) := by decide +kernel
theorem dX6_readsStep_8 : decode cX6_readsStep 8 = .ok (.iconst 1, 1) := by decide +kernel
theorem dX6_readsStep_9 : decode cX6_readsStep 9 = .ok (.putfield 102, 3) := by decide +kernel
theorem dX6_readsStep_12 : decode cX6_readsStep 12 = .ok (.aload_n 0, 1) := by decide +kernel
theorem dX6_readsStep_13 : decode cX6_readsStep 13 = .ok (.getfield 25, 3) := by decide +kernel
theorem dX6_readsStep_16 : decode cX6_readsStep 16 = .ok (.iload_n 1, 1) := by decide +kernel
theorem dX6_readsStep_17 : decode cX6_readsStep 17 = .ok (.aload_n 0, 1) := by decide +kernel
theorem dX6_readsStep_18 : decode cX6_readsStep 18 = .ok (.bipush 65, 2) := by decide +kernel
theorem dX6_readsStep_20 : decode cX6_readsStep 20 = .ok (.bipush 70, 2) := by decide +kernel
theorem dX6_readsStep_22 : decode cX6_readsStep 22 = .ok (.invokevirtual 110, 3) := by decide +kernel
theorem dX6_readsStep_25 : decode cX6_readsStep 25 = .ok (.iastore, 1) := by decide +kernel
theorem dX6_readsStep_26 : decode cX6_readsStep 26 = .ok (.aload_n 0, 1) := by decide +kernel
theorem dX6_readsStep_27 : decode cX6_readsStep 27 = .ok (.bipush 61, 2) := by decide +kernel
theorem dX6_readsStep_29 : decode cX6_readsStep 29 = .ok (.bipush 61, 2) := by decide +kernel
theorem dX6_readsStep_31 : decode cX6_readsStep 31 = .ok (.invokevirtual 110, 3) := by decide +kernel
theorem dX6_readsStep_34 : decode cX6_readsStep 34 = .ok (.pop, 1) := by decide +kernel
theorem dX6_readsStep_35 : decode cX6_readsStep 35 = .ok (.aload_n 0, 1) := by decide +kernel
theorem dX6_readsStep_36 : decode cX6_readsStep 36 = .ok (.getfield 102, 3) := by decide +kernel
theorem dX6_readsStep_39 : decode cX6_readsStep 39 = .ok (.ifCond .eq 10, 3) := by decide +kernel
theorem dX6_readsStep_42 : decode cX6_readsStep 42 = .ok (.aload_n 0, 1) := by decide +kernel
