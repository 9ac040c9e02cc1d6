set_option maxRecDepth 20000 in
theorem ggX0_init_X3_init : GoodIn wsX0_init wsX3_init := goodIn_r _ [9, 10, 2, 3, 11, 12, 13, 14, 15, 16, 17, 18, 19, 20, 21, 22, 23, 24, 25, 26, 27, 28, 32, 33, 34, 35, 36, 37, 38] rfl (by decide +kernel)
set_option maxRecDepth 20000 in
theorem gX0_init_X3_init_n11 : GoodIn wsX0_init (wsX3_init) := ggX0_init_X3_init
theorem dX0_init_0 : decode cX0_init 0 = .ok (.aload_n 0, 1) := by decide +kernel
theorem dX0_init_1 : decode cX0_init 1 = .ok (.invokespecial 3, 3) := by decide +kernel
theorem dX0_init_4 : decode cX0_init 4 = .ok (.aload_n 0, 1) := by decide +kernel
theorem dX0_init_5 : decode cX0_init 5 = .ok (.iconst 4, 1) := by decide +kernel
theorem dX0_init_6 : decode cX0_init 6 = .ok (.anewarray 9, 3) := by decide +kernel
theorem dX0_init_9 : decode cX0_init 9 = .ok (.dup, 1) := by decide +kernel
theorem dX0_init_10 : decode cX0_init 10 = .ok (.iconst 0, 1) := by decide +kernel
theorem dX0_init_11 : decode cX0_init 11 = .ok (.new 9, 3) := by decide +kernel
theorem dX0_init_14 : decode cX0_init 14 = .ok (.dup, 1) := by decide +kernel
theorem dX0_init_15 : decode cX0_init 15 = .ok (.invokespecial 11, 3) := by decide +kernel
theorem dX0_init_18 : decode cX0_init 18 = .ok (.aastore, 1) := by decide +kernel
theorem dX0_init_19 : decode cX0_init 19 = .ok (.dup, 1) := by decide +kernel
theorem dX0_init_20 : decode cX0_init 20 = .ok (.iconst 1, 1) := by decide +kernel
theorem dX0_init_21 : decode cX0_init 21 = .ok (.new 9, 3) := by decide +kernel
theorem dX0_init_24 : decode cX0_init 24 = .ok (.dup, 1) := by decide +kernel
theorem dX0_init_25 : decode cX0_init 25 = .ok (.invokespecial 11, 3) := by decide +kernel
theorem dX0_init_28 : decode cX0_init 28 = .ok (.aastore, 1) := by decide +kernel
theorem dX0_init_29 : decode cX0_init 29 = .ok (.dup, 1) := by decide +kernel
theorem dX0_init_30 : decode cX0_init 30 = .ok (.iconst 2, 1) := by decide +kernel
theorem dX0_init_31 : decode cX0_init 31 = .ok (.new 9, 3) := by decide +kernel
theorem dX0_init_34 : decode cX0_init 34 = .ok (.dup, 1) := by decide +kernel
theorem dX0_init_35 : decode cX0_init 35 = .ok (.invokespecial 11, 3) := by decide +kernel
theorem dX0_init_38 : decode cX0_init 38 = .ok (.aastore, 1) := by decide +kernel
theorem dX0_init_39 : decode cX0_init 39 = .ok (.dup, 1) := by decide +kernel
theorem dX0_init_40 : decode cX0_init 40 = .ok (.iconst 3, 1) := by decide +kernel
theorem dX0_init_41 : decode cX0_init 41 = .ok (.new 9, 3) := by decide +kernel
theorem dX0_init_44 : decode cX0_init 44 = .ok (.dup, 1) := by decide +kernel
theorem dX0_init_45 : decode cX0_init 45 = .ok (.invokespecial 11, 3) := by decide +kernel
theorem dX0_init_48 : decode cX0_init 48 = .ok (.aastore, 1) := by decide +kernel
theorem dX0_init_49 : decode cX0_init 49 = .ok (.putfield 12, 3) := by decide +kernel
theorem dX0_init_52 : decode cX0_init 52 = .ok (.return_, 1) := by decide +kernel
set_option maxRecDepth 20000 in
theorem ggX0_record_X0_placeOf : GoodIn wsX0_record wsX0_placeOf := goodIn_r _ [11, 12, 13, 14, 15, 16, 39, 40, 41] rfl (by decide +kernel)
set_option maxRecDepth 20000 in
theorem gX0_record_X0_placeOf : GoodIn wsX0_record (wsV RX0 22 RX0 yX0_placeOf wsX0_placeOf) := goodIn_app (goodIn_of _ (by decide +kernel)) ggX0_record_X0_placeOf
set_option maxRecDepth 20000 in
theorem ggX0_record_X3_copyFrom : GoodIn wsX0_record wsX3_copyFrom := goodIn_r _ [21, 22, 23, 24, 25, 26, 27, 28, 29, 30, 31, 32, 33, 34, 35, 36, 37, 38, 42, 43, 44, 45, 46, 47, 48, 49, 50, 51, 52, 53] rfl (by decide +kernel)
set_option maxRecDepth 20000 in
theorem gX0_record_X3_copyFrom : GoodIn wsX0_record (wsV RX0 26 RX3 yX3_copyFrom wsX3_copyFrom) := goodIn_app (goodIn_of _ (by decide +kernel)) ggX0_record_X3_copyFrom
theorem dX0_record_0 : decode cX0_record 0 = .ok (.aload_n 0, 1) := by decide +kernel
theorem dX0_record_1 : decode cX0_record 1 = .ok (.aload_n 0, 1) := by decide +kernel
theorem dX0_record_2 : decode cX0_record 2 = .ok (.getfield 18, 3) := by decide +kernel
theorem dX0_record_5 : decode cX0_record 5 = .ok (.invokevirtual 22, 3) := by decide +kernel
theorem dX0_record_8 : decode cX0_record 8 = .ok (.aload_n 1, 1) := by decide +kernel
theorem dX0_record_9 : decode cX0_record 9 = .ok (.invokevirtual 26, 3) := by decide +kernel
theorem dX0_record_12 : decode cX0_record 12 = .ok (.aload_n 0, 1) := by decide +kernel
theorem dX0_record_13 : decode cX0_record 13 = .ok (.dup, 1) := by decide +kernel
theorem dX0_record_14 : decode cX0_record 14 = .ok (.getfield 18, 3) := by decide +kernel
theorem dX0_record_17 : decode cX0_record 17 = .ok (.iconst 1, 1) := by decide +kernel
theorem dX0_record_18 : decode cX0_record 18 = .ok (.iadd, 1) := by decide +kernel
theorem dX0_record_19 : decode cX0_record 19 = .ok (.putfield 18, 3) := by decide +kernel
theorem dX0_record_22 : decode cX0_record 22 = .ok (.aload_n 0, 1) := by decide +kernel
theorem dX0_record_23 : decode cX0_record 23 = .ok (.aload_n 0, 1) := by decide +kernel
theorem dX0_record_24 : decode cX0_record 24 = .ok (.getfield 30, 3) := by decide +kernel
theorem dX0_record_27 : decode cX0_record 27 = .ok (.iconst 1, 1) := by decide +kernel
theorem dX0_record_28 : decode cX0_record 28 = .ok (.iadd, 1) := by decide +kernel
theorem dX0_record_29 : decode cX0_record 29 = .ok (.iconst 4, 1) := by decide +kernel
theorem dX0_record_30 : decode cX0_record 30 = .ok (.invokestatic 33, 3) := by decide +kernel
theorem dX0_record_33 : decode cX0_record 33 = .ok (.putfield 30, 3) := by decide +kernel
theorem dX0_record_36 : decode cX0_record 36 = .ok (.return_, 1) := by decide +kernel
set_option maxRecDepth 20000 in
theorem ggX0_takeLatestInto_X0_placeOf : GoodIn wsX0_takeLatestInto wsX0_placeOf := goodIn_r _ [7, 8, 9, 10, 11, 12, 35, 36, 37] rfl (by decide +kernel)
set_option maxRecDepth 20000 in
theorem gX0_takeLatestInto_X0_placeOf : GoodIn wsX0_takeLatestInto (wsV RX0 22 RX0 yX0_placeOf wsX0_placeOf) := goodIn_app (goodIn_of _ (by decide +kernel)) ggX0_takeLatestInto_X0_placeOf
set_option maxRecDepth 20000 in
theorem ggX0_takeLatestInto_X3_copyFrom : GoodIn wsX0_takeLatestInto wsX3_copyFrom := goodIn_r _ [17, 18, 19, 20, 21, 22, 23, 24, 25, 26, 27, 28, 29, 30, 31, 32, 33, 34, 38, 39, 40, 41, 42, 43, 44, 45, 46, 47, 48, 49] rfl (by decide +kernel)
set_option maxRecDepth 20000 in
theorem gX0_takeLatestInto_X3_copyFrom : GoodIn wsX0_takeLatestInto (wsV RX0 26 RX3 yX3_copyFrom wsX3_copyFrom) := goodIn_app (goodIn_of _ (by decide +kernel)) ggX0_takeLatestInto_X3_copyFrom
theorem dX0_takeLatestInto_0 : decode cX0_takeLatestInto 0 = .ok (.aload_n 0, 1) := by decide +kernel
theorem dX0_takeLatestInto_1 : decode cX0_takeLatestInto 1 = .ok (.dup, 1) := by decide +kernel
theorem dX0_takeLatestInto_2 : decode cX0_takeLatestInto 2 = .ok (.getfield 18, 3) := by decide +kernel
theorem dX0_takeLatestInto_5 : decode cX0_takeLatestInto 5 = .ok (.iconst 1, 1) := by decide +kernel
theorem dX0_takeLatestInto_6 : decode cX0_takeLatestInto 6 = .ok (.isub, 1) := by decide +kernel
theorem dX0_takeLatestInto_7 : decode cX0_takeLatestInto 7 = .ok (.putfield 18, 3) := by decide +kernel
theorem dX0_takeLatestInto_10 : decode cX0_takeLatestInto 10 = .ok (.aload_n 1, 1) := by decide +kernel
theorem dX0_takeLatestInto_11 : decode cX0_takeLatestInto 11 = .ok (.aload_n 0, 1) := by decide +kernel
theorem dX0_takeLatestInto_12 : decode cX0_takeLatestInto 12 = .ok (.aload_n 0, 1) := by decide +kernel
theorem dX0_takeLatestInto_13 : decode cX0_takeLatestInto 13 = .ok (.getfield 18, 3) := by decide +kernel
theorem dX0_takeLatestInto_16 : decode cX0_takeLatestInto 16 = .ok (.invokevirtual 22, 3) := by decide +kernel
theorem dX0_takeLatestInto_19 : decode cX0_takeLatestInto 19 = .ok (.invokevirtual 26, 3) := by decide +kernel
theorem dX0_takeLatestInto_22 : decode cX0_takeLatestInto 22 = .ok (.aload_n 0, 1) := by decide +kernel
theorem dX0_takeLatestInto_23 : decode cX0_takeLatestInto 23 = .ok (.dup, 1) := by decide +kernel
theorem dX0_takeLatestInto_24 : decode cX0_takeLatestInto 24 = .ok (.getfield 30, 3) := by decide +kernel
theorem dX0_takeLatestInto_27 : decode cX0_takeLatestInto 27 = .ok (.iconst 1, 1) := by decide +kernel
theorem dX0_takeLatestInto_28 : decode cX0_takeLatestInto 28 = .ok (.isub, 1) := by decide +kernel
theorem dX0_takeLatestInto_29 : decode cX0_takeLatestInto 29 = .ok (.putfield 30, 3) := by decide +kernel
theorem dX0_takeLatestInto_32 : decode cX0_takeLatestInto 32 = .ok (.return_, 1) := by decide +kernel
set_option maxRecDepth 20000 in
theorem ggX0_placeOf_J9_floorMod_7cf53 : GoodIn wsX0_placeOf wsJ9_floorMod_7cf53 := goodIn_r _ [5] rfl (by decide +kernel)
set_option maxRecDepth 20000 in
theorem gX0_placeOf_J9_floorMod_7cf53 : GoodIn wsX0_placeOf (va_wsS RX0 39 yJ9_floorMod_7cf53 wsJ9_floorMod_7cf53) := goodIn_app (goodIn_of _ (by decide +kernel)) ggX0_placeOf_J9_floorMod_7cf53
theorem dX0_placeOf_0 : decode cX0_placeOf 0 = .ok (.aload_n 0, 1) := by decide +kernel
theorem dX0_placeOf_1 : decode cX0_placeOf 1 = .ok (.getfield 12, 3) := by decide +kernel
theorem dX0_placeOf_4 : decode cX0_placeOf 4 = .ok (.iload_n 1, 1) := by decide +kernel
theorem dX0_placeOf_5 : decode cX0_placeOf 5 = .ok (.iconst 4, 1) := by decide +kernel
theorem dX0_placeOf_6 : decode cX0_placeOf 6 = .ok (.invokestatic 39, 3) := by decide +kernel
theorem dX0_placeOf_9 : decode cX0_placeOf 9 = .ok (.aaload, 1) := by decide +kernel
theorem dX0_placeOf_10 : decode cX0_placeOf 10 = .ok (.areturn, 1) := by decide +kernel
theorem dX1_init_0 : decode cX1_init 0 = .ok (.aload_n 0, 1) := by decide +kernel
theorem dX1_init_1 : decode cX1_init 1 = .ok (.invokespecial 3, 3) := by decide +kernel
theorem dX1_init_4 : decode cX1_init 4 = .ok (.aload_n 0, 1) := by decide +kernel
theorem dX1_init_5 : decode cX1_init 5 = .ok (.iconst (-1), 1) := by decide +kernel
theorem dX1_init_6 : decode cX1_init 6 = .ok (.putfield 9, 3) := by decide +kernel
theorem dX1_init_9 : decode cX1_init 9 = .ok (.aload_n 0, 1) := by decide +kernel
theorem dX1_init_10 : decode cX1_init 10 = .ok (.iconst 1, 1) := by decide +kernel
theorem dX1_init_11 : decode cX1_init 11 = .ok (.putfield 15, 3) := by decide +kernel
theorem dX1_init_14 : decode cX1_init 14 = .ok (.aload_n 0, 1) := by decide +kernel
theorem dX1_init_15 : decode cX1_init 15 = .ok (.bipush 8, 2) := by decide +kernel
theorem dX1_init_17 : decode cX1_init 17 = .ok (.putfield 18, 3) := by decide +kernel
theorem dX1_init_20 : decode cX1_init 20 = .ok (.return_, 1) := by decide +kernel
theorem dX1_copyFrom_0 : decode cX1_copyFrom 0 = .ok (.aload_n 0, 1) := by decide +kernel
theorem dX1_copyFrom_1 : decode cX1_copyFrom 1 = .ok (.aload_n 1, 1) := by decide +kernel
theorem dX1_copyFrom_2 : decode cX1_copyFrom 2 = .ok (.getfield 9, 3) := by decide +kernel
theorem dX1_copyFrom_5 : decode cX1_copyFrom 5 = .ok (.putfield 9, 3) := by decide +kernel
theorem dX1_copyFrom_8 : decode cX1_copyFrom 8 = .ok (.aload_n 0, 1) := by decide +kernel
theorem dX1_copyFrom_9 : decode cX1_copyFrom 9 = .ok (.aload_n 1, 1) := by decide +kernel
theorem dX1_copyFrom_10 : decode cX1_copyFrom 10 = .ok (.getfield 15, 3) := by decide +kernel
theorem dX1_copyFrom_13 : decode cX1_copyFrom 13 = .ok (.putfield 15, 3) := by decide +kernel
theorem dX1_copyFrom_16 : decode cX1_copyFrom 16 = .ok (.aload_n 0, 1) := by decide +kernel
theorem dX1_copyFrom_17 : decode cX1_copyFrom 17 = .ok (.aload_n 1, 1) := by decide +kernel
theorem dX1_copyFrom_18 : decode cX1_copyFrom 18 = .ok (.getfield 18, 3) := by decide +kernel
theorem dX1_copyFrom_21 : decode cX1_copyFrom 21 = .ok (.putfield 18, 3) := by decide +kernel
theorem dX1_copyFrom_24 : decode cX1_copyFrom 24 = .ok (.aload_n 0, 1) := by decide +kernel
theorem dX1_copyFrom_25 : decode cX1_copyFrom 25 = .ok (.aload_n 1, 1) := by decide +kernel
theorem dX1_copyFrom_26 : decode cX1_copyFrom 26 = .ok (.getfield 21, 3) := by decide +kernel
theorem dX1_copyFrom_29 : decode cX1_copyFrom 29 = .ok (.putfield 21, 3) := by decide +kernel
theorem dX1_copyFrom_32 : decode cX1_copyFrom 32 = .ok (.aload_n 0, 1) := by decide +kernel
theorem dX1_copyFrom_33 : decode cX1_copyFrom 33 = .ok (.aload_n 1, 1) := by decide +kernel
theorem dX1_copyFrom_34 : decode cX1_copyFrom 34 = .ok (.getfield 24, 3) := by decide +kernel
theorem dX1_copyFrom_37 : decode cX1_copyFrom 37 = .ok (.putfield 24, 3) := by decide +kernel
theorem dX1_copyFrom_40 : decode cX1_copyFrom 40 = .ok (.aload_n 0, 1) := by decide +kernel
theorem dX1_copyFrom_41 : decode cX1_copyFrom 41 = .ok (.aload_n 1, 1) := by decide +kernel
theorem dX1_copyFrom_42 : decode cX1_copyFrom 42 = .ok (.getfield 27, 3) := by decide +kernel
theorem dX1_copyFrom_45 : decode cX1_copyFrom 45 = .ok (.putfield 27, 3) := by decide +kernel
theorem dX1_copyFrom_48 : decode cX1_copyFrom 48 = .ok (.aload_n 0, 1) := by decide +kernel
theorem dX1_copyFrom_49 : decode cX1_copyFrom 49 = .ok (.aload_n 1, 1) := by decide +kernel
theorem dX1_copyFrom_50 : decode cX1_copyFrom 50 = .ok (.getfield 30, 3) := by decide +kernel
theorem dX1_copyFrom_53 : decode cX1_copyFrom 53 = .ok (.putfield 30, 3) := by decide +kernel
theorem dX1_copyFrom_56 : decode cX1_copyFrom 56 = .ok (.return_, 1) := by decide +kernel
set_option maxRecDepth 20000 in
theorem ggX1_start_X5_digitCount : GoodIn wsX1_start wsX5_digitCount := goodIn_r _ [10] rfl (by decide +kernel)
set_option maxRecDepth 20000 in
theorem gX1_start_X5_digitCount_n33 : GoodIn wsX1_start (wsX5_digitCount) := ggX1_start_X5_digitCount
set_option maxRecDepth 20000 in
theorem ggX1_start_X5_bitsPerDigit : GoodIn wsX1_start wsX5_bitsPerDigit := goodIn_r _ [12] rfl (by decide +kernel)
set_option maxRecDepth 20000 in
theorem gX1_start_X5_bitsPerDigit_n37 : GoodIn wsX1_start (wsX5_bitsPerDigit) := ggX1_start_X5_bitsPerDigit
theorem dX1_start_0 : decode cX1_start 0 = .ok (.aload_n 0, 1) := by decide +kernel
theorem dX1_start_1 : decode cX1_start 1 = .ok (.iload_n 3, 1) := by decide +kernel
theorem dX1_start_2 : decode cX1_start 2 = .ok (.iload 4, 2) := by decide +kernel
theorem dX1_start_4 : decode cX1_start 4 = .ok (.invokestatic 33, 3) := by decide +kernel
theorem dX1_start_7 : decode cX1_start 7 = .ok (.putfield 9, 3) := by decide +kernel
theorem dX1_start_10 : decode cX1_start 10 = .ok (.aload_n 0, 1) := by decide +kernel
theorem dX1_start_11 : decode cX1_start 11 = .ok (.iload_n 3, 1) := by decide +kernel
theorem dX1_start_12 : decode cX1_start 12 = .ok (.invokestatic 37, 3) := by decide +kernel
theorem dX1_start_15 : decode cX1_start 15 = .ok (.putfield 15, 3) := by decide +kernel
theorem dX1_start_18 : decode cX1_start 18 = .ok (.aload_n 0, 1) := by decide +kernel
theorem dX1_start_19 : decode cX1_start 19 = .ok (.iload 4, 2) := by decide +kernel
theorem dX1_start_21 : decode cX1_start 21 = .ok (.putfield 18, 3) := by decide +kernel
theorem dX1_start_24 : decode cX1_start 24 = .ok (.aload_n 0, 1) := by decide +kernel
theorem dX1_start_25 : decode cX1_start 25 = .ok (.iload_n 1, 1) := by decide +kernel
theorem dX1_start_26 : decode cX1_start 26 = .ok (.putfield 21, 3) := by decide +kernel
theorem dX1_start_29 : decode cX1_start 29 = .ok (.aload_n 0, 1) := by decide +kernel
theorem dX1_start_30 : decode cX1_start 30 = .ok (.iconst 0, 1) := by decide +kernel
theorem dX1_start_31 : decode cX1_start 31 = .ok (.putfield 24, 3) := by decide +kernel
theorem dX1_start_34 : decode cX1_start 34 = .ok (.aload_n 0, 1) := by decide +kernel
theorem dX1_start_35 : decode cX1_start 35 = .ok (.iload_n 2, 1) := by decide +kernel
theorem dX1_start_36 : decode cX1_start 36 = .ok (.putfield 27, 3) := by decide +kernel
theorem dX1_start_39 : decode cX1_start 39 = .ok (.aload_n 0, 1) := by decide +kernel
theorem dX1_start_40 : decode cX1_start 40 = .ok (.iconst 0, 1) := by decide +kernel
theorem dX1_start_41 : decode cX1_start 41 = .ok (.putfield 30, 3) := by decide +kernel
theorem dX1_start_44 : decode cX1_start 44 = .ok (.return_, 1) := by decide +kernel
theorem dX1_giveUp_0 : decode cX1_giveUp 0 = .ok (.aload_n 0, 1) := by decide +kernel
theorem dX1_giveUp_1 : decode cX1_giveUp 1 = .ok (.iconst (-1), 1) := by decide +kernel
theorem dX1_giveUp_2 : decode cX1_giveUp 2 = .ok (.putfield 9, 3) := by decide +kernel
theorem dX1_giveUp_5 : decode cX1_giveUp 5 = .ok (.return_, 1) := by decide +kernel
set_option maxRecDepth 20000 in
theorem ggX1_makeStep_X1_nextDigit : GoodIn wsX1_makeStep wsX1_nextDigit := goodIn_r _ [12, 4, 5, 3, 13, 14, 15, 16, 17, 18, 19, 20, 21, 22] rfl (by decide +kernel)
set_option maxRecDepth 20000 in
theorem gX1_makeStep_X1_nextDigit : GoodIn wsX1_makeStep (wsV RX1 41 RX1 yX1_nextDigit wsX1_nextDigit) := goodIn_app (goodIn_of _ (by decide +kernel)) ggX1_makeStep_X1_nextDigit
set_option maxRecDepth 20000 in
theorem ggX1_makeStep_X5_bit : GoodIn wsX1_makeStep wsX5_bit := goodIn_r _ [15] rfl (by decide +kernel)
set_option maxRecDepth 20000 in
theorem gX1_makeStep_X5_bit_n45 : GoodIn wsX1_makeStep (wsX5_bit) := ggX1_makeStep_X5_bit
theorem dX1_makeStep_0 : decode cX1_makeStep 0 = .ok (.aload_n 0, 1) := by decide +kernel
theorem dX1_makeStep_1 : decode cX1_makeStep 1 = .ok (.invokevirtual 41, 3) := by decide +kernel
theorem dX1_makeStep_4 : decode cX1_makeStep 4 = .ok (.istore_n 1, 1) := by decide +kernel
theorem dX1_makeStep_5 : decode cX1_makeStep 5 = .ok (.aload_n 0, 1) := by decide +kernel
theorem dX1_makeStep_6 : decode cX1_makeStep 6 = .ok (.dup, 1) := by decide +kernel
theorem dX1_makeStep_7 : decode cX1_makeStep 7 = .ok (.getfield 24, 3) := by decide +kernel
theorem dX1_makeStep_10 : decode cX1_makeStep 10 = .ok (.iload_n 1, 1) := by decide +kernel
theorem dX1_makeStep_11 : decode cX1_makeStep 11 = .ok (.aload_n 0, 1) := by decide +kernel
theorem dX1_makeStep_12 : decode cX1_makeStep 12 = .ok (.getfield 21, 3) := by decide +kernel
theorem dX1_makeStep_15 : decode cX1_makeStep 15 = .ok (.imul, 1) := by decide +kernel
theorem dX1_makeStep_16 : decode cX1_makeStep 16 = .ok (.iadd, 1) := by decide +kernel
theorem dX1_makeStep_17 : decode cX1_makeStep 17 = .ok (.putfield 24, 3) := by decide +kernel
theorem dX1_makeStep_20 : decode cX1_makeStep 20 = .ok (.aload_n 0, 1) := by decide +kernel
theorem dX1_makeStep_21 : decode cX1_makeStep 21 = .ok (.aload_n 0, 1) := by decide +kernel
theorem dX1_makeStep_22 : decode cX1_makeStep 22 = .ok (.getfield 27, 3) := by decide +kernel
theorem dX1_makeStep_25 : decode cX1_makeStep 25 = .ok (.aload_n 0, 1) := by decide +kernel
theorem dX1_makeStep_26 : decode cX1_makeStep 26 = .ok (.getfield 15, 3) := by decide +kernel
theorem dX1_makeStep_29 : decode cX1_makeStep 29 = .ok (.iconst 1, 1) := by decide +kernel
theorem dX1_makeStep_30 : decode cX1_makeStep 30 = .ok (.isub, 1) := by decide +kernel
theorem dX1_makeStep_31 : decode cX1_makeStep 31 = .ok (.invokestatic 45, 3) := by decide +kernel
theorem dX1_makeStep_34 : decode cX1_makeStep 34 = .ok (.putfield 30, 3) := by decide +kernel
theorem dX1_makeStep_37 : decode cX1_makeStep 37 = .ok (.aload_n 0, 1) := by decide +kernel
theorem dX1_makeStep_38 : decode cX1_makeStep 38 = .ok (.getfield 24, 3) := by decide +kernel
theorem dX1_makeStep_41 : decode cX1_makeStep 41 = .ok (.iconst 1, 1) := by decide +kernel
theorem dX1_makeStep_42 : decode cX1_makeStep 42 = .ok (.aload_n 0, 1) := by decide +kernel
theorem dX1_makeStep_43 : decode cX1_makeStep 43 = .ok (.getfield 15, 3) := by decide +kernel
theorem dX1_makeStep_46 : decode cX1_makeStep 46 = .ok (.ishl, 1) := by decide +kernel
theorem dX1_makeStep_47 : decode cX1_makeStep 47 = .ok (.iconst 1, 1) := by decide +kernel
theorem dX1_makeStep_48 : decode cX1_makeStep 48 = .ok (.isub, 1) := by decide +kernel
theorem dX1_makeStep_49 : decode cX1_makeStep 49 = .ok (.iand, 1) := by decide +kernel
theorem dX1_makeStep_50 : decode cX1_makeStep 50 = .ok (.istore_n 2, 1) := by decide +kernel
theorem dX1_makeStep_51 : decode cX1_makeStep 51 = .ok (.aload_n 0, 1) := by decide +kernel
theorem dX1_makeStep_52 : decode cX1_makeStep 52 = .ok (.aload_n 0, 1) := by decide +kernel
theorem dX1_makeStep_53 : decode cX1_makeStep 53 = .ok (.getfield 27, 3) := by decide +kernel
theorem dX1_makeStep_56 : decode cX1_makeStep 56 = .ok (.aload_n 0, 1) := by decide +kernel
theorem dX1_makeStep_57 : decode cX1_makeStep 57 = .ok (.getfield 15, 3) := by decide +kernel
theorem dX1_makeStep_60 : decode cX1_makeStep 60 = .ok (.ishr, 1) := by decide +kernel
theorem dX1_makeStep_61 : decode cX1_makeStep 61 = .ok (.iload_n 2, 1) := by decide +kernel
theorem dX1_makeStep_62 : decode cX1_makeStep 62 = .ok (.aload_n 0, 1) := by decide +kernel
theorem dX1_makeStep_63 : decode cX1_makeStep 63 = .ok (.getfield 18, 3) := by decide +kernel
theorem dX1_makeStep_66 : decode cX1_makeStep 66 = .ok (.aload_n 0, 1) := by decide +kernel
theorem dX1_makeStep_67 : decode cX1_makeStep 67 = .ok (.getfield 15, 3) := by decide +kernel
theorem dX1_makeStep_70 : decode cX1_makeStep 70 = .ok (.isub, 1) := by decide +kernel
theorem dX1_makeStep_71 : decode cX1_makeStep 71 = .ok (.ishl, 1) := by decide +kernel
theorem dX1_makeStep_72 : decode cX1_makeStep 72 = .ok (.ior, 1) := by decide +kernel
theorem dX1_makeStep_73 : decode cX1_makeStep 73 = .ok (.putfield 27, 3) := by decide +kernel
theorem dX1_makeStep_76 : decode cX1_makeStep 76 = .ok (.aload_n 0, 1) := by decide +kernel
theorem dX1_makeStep_77 : decode cX1_makeStep 77 = .ok (.dup, 1) := by decide +kernel
theorem dX1_makeStep_78 : decode cX1_makeStep 78 = .ok (.getfield 24, 3) := by decide +kernel
theorem dX1_makeStep_81 : decode cX1_makeStep 81 = .ok (.aload_n 0, 1) := by decide +kernel
theorem dX1_makeStep_82 : decode cX1_makeStep 82 = .ok (.getfield 15, 3) := by decide +kernel
theorem dX1_makeStep_85 : decode cX1_makeStep 85 = .ok (.ishr, 1) := by decide +kernel
theorem dX1_makeStep_86 : decode cX1_makeStep 86 = .ok (.putfield 24, 3) := by decide +kernel
theorem dX1_makeStep_89 : decode cX1_makeStep 89 = .ok (.aload_n 0, 1) := by decide +kernel
theorem dX1_makeStep_90 : decode cX1_makeStep 90 = .ok (.dup, 1) := by decide +kernel
theorem dX1_makeStep_91 : decode cX1_makeStep 91 = .ok (.getfield 9, 3) := by decide +kernel
theorem dX1_makeStep_94 : decode cX1_makeStep 94 = .ok (.iconst 1, 1) := by decide +kernel
theorem dX1_makeStep_95 : decode cX1_makeStep 95 = .ok (.isub, 1) := by decide +kernel
theorem dX1_makeStep_96 : decode cX1_makeStep 96 = .ok (.putfield 9, 3) := by decide +kernel
theorem dX1_makeStep_99 : decode cX1_makeStep 99 = .ok (.iload_n 1, 1) := by decide +kernel
theorem dX1_makeStep_100 : decode cX1_makeStep 100 = .ok (.ireturn, 1) := by decide +kernel
set_option maxRecDepth 20000 in
theorem ggX1_nextDigit_X5_bit : GoodIn wsX1_nextDigit wsX5_bit := goodIn_r _ [6] rfl (by decide +kernel)
set_option maxRecDepth 20000 in
theorem gX1_nextDigit_X5_bit_n45 : GoodIn wsX1_nextDigit (wsX5_bit) := ggX1_nextDigit_X5_bit
theorem dX1_nextDigit_0 : decode cX1_nextDigit 0 = .ok (.aload_n 0, 1) := by decide +kernel
theorem dX1_nextDigit_1 : decode cX1_nextDigit 1 = .ok (.getfield 15, 3) := by decide +kernel
theorem dX1_nextDigit_4 : decode cX1_nextDigit 4 = .ok (.iconst 1, 1) := by decide +kernel
theorem dX1_nextDigit_5 : decode cX1_nextDigit 5 = .ok (.if_icmp .ne 17, 3) := by decide +kernel
theorem dX1_nextDigit_8 : decode cX1_nextDigit 8 = .ok (.aload_n 0, 1) := by decide +kernel
theorem dX1_nextDigit_9 : decode cX1_nextDigit 9 = .ok (.getfield 30, 3) := by decide +kernel
theorem dX1_nextDigit_12 : decode cX1_nextDigit 12 = .ok (.aload_n 0, 1) := by decide +kernel
theorem dX1_nextDigit_13 : decode cX1_nextDigit 13 = .ok (.getfield 27, 3) := by decide +kernel
theorem dX1_nextDigit_16 : decode cX1_nextDigit 16 = .ok (.iconst 0, 1) := by decide +kernel
theorem dX1_nextDigit_17 : decode cX1_nextDigit 17 = .ok (.invokestatic 45, 3) := by decide +kernel
theorem dX1_nextDigit_20 : decode cX1_nextDigit 20 = .ok (.isub, 1) := by decide +kernel
theorem dX1_nextDigit_21 : decode cX1_nextDigit 21 = .ok (.ireturn, 1) := by decide +kernel
theorem dX1_nextDigit_22 : decode cX1_nextDigit 22 = .ok (.aload_n 0, 1) := by decide +kernel
theorem dX1_nextDigit_23 : decode cX1_nextDigit 23 = .ok (.getfield 30, 3) := by decide +kernel
theorem dX1_nextDigit_26 : decode cX1_nextDigit 26 = .ok (.aload_n 0, 1) := by decide +kernel
theorem dX1_nextDigit_27 : decode cX1_nextDigit 27 = .ok (.getfield 27, 3) := by decide +kernel
theorem dX1_nextDigit_30 : decode cX1_nextDigit 30 = .ok (.iconst 0, 1) := by decide +kernel
theorem dX1_nextDigit_31 : decode cX1_nextDigit 31 = .ok (.invokestatic 45, 3) := by decide +kernel
theorem dX1_nextDigit_34 : decode cX1_nextDigit 34 = .ok (.iadd, 1) := by decide +kernel
theorem dX1_nextDigit_35 : decode cX1_nextDigit 35 = .ok (.iconst 2, 1) := by decide +kernel
theorem dX1_nextDigit_36 : decode cX1_nextDigit 36 = .ok (.aload_n 0, 1) := by decide +kernel
theorem dX1_nextDigit_37 : decode cX1_nextDigit 37 = .ok (.getfield 27, 3) := by decide +kernel
theorem dX1_nextDigit_40 : decode cX1_nextDigit 40 = .ok (.iconst 1, 1) := by decide +kernel
theorem dX1_nextDigit_41 : decode cX1_nextDigit 41 = .ok (.invokestatic 45, 3) := by decide +kernel
theorem dX1_nextDigit_44 : decode cX1_nextDigit 44 = .ok (.imul, 1) := by decide +kernel
theorem dX1_nextDigit_45 : decode cX1_nextDigit 45 = .ok (.isub, 1) := by decide +kernel
theorem dX1_nextDigit_46 : decode cX1_nextDigit 46 = .ok (.ireturn, 1) := by decide +kernel
theorem dX1_product_0 : decode cX1_product 0 = .ok (.aload_n 0, 1) := by decide +kernel
theorem dX1_product_1 : decode cX1_product 1 = .ok (.getfield 24, 3) := by decide +kernel
theorem dX1_product_4 : decode cX1_product 4 = .ok (.aload_n 0, 1) := by decide +kernel
theorem dX1_product_5 : decode cX1_product 5 = .ok (.getfield 18, 3) := by decide +kernel
theorem dX1_product_8 : decode cX1_product 8 = .ok (.ishl, 1) := by decide +kernel
theorem dX1_product_9 : decode cX1_product 9 = .ok (.aload_n 0, 1) := by decide +kernel
theorem dX1_product_10 : decode cX1_product 10 = .ok (.getfield 27, 3) := by decide +kernel
theorem dX1_product_13 : decode cX1_product 13 = .ok (.iadd, 1) := by decide +kernel
theorem dX1_product_14 : decode cX1_product 14 = .ok (.ireturn, 1) := by decide +kernel
set_option maxRecDepth 20000 in
theorem ggX2_init_X4_init : GoodIn wsX2_init wsX4_init := goodIn_r _ [12, 13, 2, 3] rfl (by decide +kernel)
set_option maxRecDepth 20000 in
theorem gX2_init_X4_init_n17 : GoodIn wsX2_init (wsX4_init) := ggX2_init_X4_init
theorem dX2_init_0 : decode cX2_init 0 = .ok (.aload_n 0, 1) := by decide +kernel
theorem dX2_init_1 : decode cX2_init 1 = .ok (.invokespecial 3, 3) := by decide +kernel
theorem dX2_init_4 : decode cX2_init 4 = .ok (.aload_n 0, 1) := by decide +kernel
theorem dX2_init_5 : decode cX2_init 5 = .ok (.bipush 60, 2) := by decide +kernel
theorem dX2_init_7 : decode cX2_init 7 = .ok (.newarray .char, 2) := by decide +kernel
theorem dX2_init_9 : decode cX2_init 9 = .ok (.putfield 9, 3) := by decide +kernel
theorem dX2_init_12 : decode cX2_init 12 = .ok (.aload_n 0, 1) := by decide +kernel
theorem dX2_init_13 : decode cX2_init 13 = .ok (.new 15, 3) := by decide +kernel
theorem dX2_init_16 : decode cX2_init 16 = .ok (.dup, 1) := by decide +kernel
theorem dX2_init_17 : decode cX2_init 17 = .ok (.invokespecial 17, 3) := by decide +kernel
theorem dX2_init_20 : decode cX2_init 20 = .ok (.putfield 18, 3) := by decide +kernel
theorem dX2_init_23 : decode cX2_init 23 = .ok (.aload_n 0, 1) := by decide +kernel
theorem dX2_init_24 : decode cX2_init 24 = .ok (.iconst (-1), 1) := by decide +kernel
theorem dX2_init_25 : decode cX2_init 25 = .ok (.putfield 22, 3) := by decide +kernel
theorem dX2_init_28 : decode cX2_init 28 = .ok (.return_, 1) := by decide +kernel
set_option maxRecDepth 20000 in
theorem ggX2_firstError_X4_start : GoodIn wsX2_firstError wsX4_start := goodIn_r _ [8, 9, 10, 11, 12, 13, 14, 15, 72, 73, 74, 75, 76, 77, 78] rfl (by decide +kernel)
set_option maxRecDepth 20000 in
theorem gX2_firstError_X4_start : GoodIn wsX2_firstError (wsV RX2 33 RX4 yX4_start wsX4_start) := goodIn_app (goodIn_of _ (by decide +kernel)) ggX2_firstError_X4_start
set_option maxRecDepth 20000 in
theorem ggX2_firstError_X4_startNext : GoodIn wsX2_firstError wsX4_startNext := goodIn_r _ [19, 20, 21, 22, 7, 23, 9, 24, 5, 6, 8, 10, 11, 12, 13, 14, 15, 72, 73, 74, 75, 76, 77, 78] rfl (by decide +kernel)
set_option maxRecDepth 20000 in
theorem gX2_firstError_X4_startNext : GoodIn wsX2_firstError (wsV RX2 36 RX4 yX4_startNext wsX4_startNext) := goodIn_app (goodIn_of _ (by decide +kernel)) ggX2_firstError_X4_startNext
set_option maxRecDepth 20000 in
theorem ggX2_firstError_X4_take : GoodIn wsX2_firstError wsX4_take := goodIn_r _ [28, 9, 29, 30, 31, 7, 32, 33, 34, 35, 36, 37, 38, 39, 40, 41, 42, 43, 44, 45, 46, 47, 48, 15, 49, 50, 51, 52, 14, 53, 54, 55, 56, 57, 10, 12, 13, 58, 59, 60, 61, 11, 62, 63, 64, 65, 72, 73, 74, 75, 76, 77, 78] rfl (by decide +kernel)
set_option maxRecDepth 20000 in
theorem gX2_firstError_X4_take : GoodIn wsX2_firstError (wsV RX2 39 RX4 yX4_take wsX4_take) := goodIn_app (goodIn_of _ (by decide +kernel)) ggX2_firstError_X4_take
set_option maxRecDepth 20000 in
theorem ggX2_firstError_X4_isWhole : GoodIn wsX2_firstError wsX4_isWhole := goodIn_r _ [23, 9, 72, 73, 74, 75, 76, 77, 78] rfl (by decide +kernel)
set_option maxRecDepth 20000 in
theorem gX2_firstError_X4_isWhole : GoodIn wsX2_firstError (wsV RX2 43 RX4 yX4_isWhole wsX4_isWhole) := goodIn_app (goodIn_of _ (by decide +kernel)) ggX2_firstError_X4_isWhole
theorem dX2_firstError_0 : decode cX2_firstError 0 = .ok (.aload_n 0, 1) := by decide +kernel
theorem dX2_firstError_1 : decode cX2_firstError 1 = .ok (.getfield 18, 3) := by decide +kernel
theorem dX2_firstError_4 : decode cX2_firstError 4 = .ok (.invokevirtual 33, 3) := by decide +kernel
theorem dX2_firstError_7 : decode cX2_firstError 7 = .ok (.iconst 0, 1) := by decide +kernel
theorem dX2_firstError_8 : decode cX2_firstError 8 = .ok (.istore_n 1, 1) := by decide +kernel
theorem dX2_firstError_9 : decode cX2_firstError 9 = .ok (.iload_n 1, 1) := by decide +kernel
theorem dX2_firstError_10 : decode cX2_firstError 10 = .ok (.aload_n 0, 1) := by decide +kernel
theorem dX2_firstError_11 : decode cX2_firstError 11 = .ok (.getfield 26, 3) := by decide +kernel
theorem dX2_firstError_14 : decode cX2_firstError 14 = .ok (.if_icmp .ge 50, 3) := by decide +kernel
theorem dX2_firstError_17 : decode cX2_firstError 17 = .ok (.aload_n 0, 1) := by decide +kernel
theorem dX2_firstError_18 : decode cX2_firstError 18 = .ok (.getfield 9, 3) := by decide +kernel
theorem dX2_firstError_21 : decode cX2_firstError 21 = .ok (.iload_n 1, 1) := by decide +kernel
theorem dX2_firstError_22 : decode cX2_firstError 22 = .ok (.caload, 1) := by decide +kernel
theorem dX2_firstError_23 : decode cX2_firstError 23 = .ok (.bipush 59, 2) := by decide +kernel
theorem dX2_firstError_25 : decode cX2_firstError 25 = .ok (.if_icmp .ne 13, 3) := by decide +kernel
theorem dX2_firstError_28 : decode cX2_firstError 28 = .ok (.aload_n 0, 1) := by decide +kernel
theorem dX2_firstError_29 : decode cX2_firstError 29 = .ok (.getfield 18, 3) := by decide +kernel
theorem dX2_firstError_32 : decode cX2_firstError 32 = .ok (.invokevirtual 36, 3) := by decide +kernel
theorem dX2_firstError_35 : decode cX2_firstError 35 = .ok (.goto 16, 3) := by decide +kernel
theorem dX2_firstError_38 : decode cX2_firstError 38 = .ok (.aload_n 0, 1) := by decide +kernel
theorem dX2_firstError_39 : decode cX2_firstError 39 = .ok (.getfield 18, 3) := by decide +kernel
theorem dX2_firstError_42 : decode cX2_firstError 42 = .ok (.aload_n 0, 1) := by decide +kernel
theorem dX2_firstError_43 : decode cX2_firstError 43 = .ok (.getfield 9, 3) := by decide +kernel
theorem dX2_firstError_46 : decode cX2_firstError 46 = .ok (.iload_n 1, 1) := by decide +kernel
theorem dX2_firstError_47 : decode cX2_firstError 47 = .ok (.caload, 1) := by decide +kernel
theorem dX2_firstError_48 : decode cX2_firstError 48 = .ok (.invokevirtual 39, 3) := by decide +kernel
theorem dX2_firstError_51 : decode cX2_firstError 51 = .ok (.istore_n 2, 1) := by decide +kernel
theorem dX2_firstError_52 : decode cX2_firstError 52 = .ok (.iload_n 2, 1) := by decide +kernel
theorem dX2_firstError_53 : decode cX2_firstError 53 = .ok (.ifCond .ne 5, 3) := by decide +kernel
theorem dX2_firstError_56 : decode cX2_firstError 56 = .ok (.iload_n 1, 1) := by decide +kernel
theorem dX2_firstError_57 : decode cX2_firstError 57 = .ok (.ireturn, 1) := by decide +kernel
theorem dX2_firstError_58 : decode cX2_firstError 58 = .ok (.iinc 1 1, 3) := by decide +kernel
theorem dX2_firstError_61 : decode cX2_firstError 61 = .ok (.goto (-52), 3) := by decide +kernel
theorem dX2_firstError_64 : decode cX2_firstError 64 = .ok (.aload_n 0, 1) := by decide +kernel
theorem dX2_firstError_65 : decode cX2_firstError 65 = .ok (.getfield 18, 3) := by decide +kernel
theorem dX2_firstError_68 : decode cX2_firstError 68 = .ok (.invokevirtual 43, 3) := by decide +kernel
theorem dX2_firstError_71 : decode cX2_firstError 71 = .ok (.ifCond .eq 7, 3) := by decide +kernel
theorem dX2_firstError_74 : decode cX2_firstError 74 = .ok (.iconst (-1), 1) := by decide +kernel
theorem dX2_firstError_75 : decode cX2_firstError 75 = .ok (.goto 7, 3) := by decide +kernel
theorem dX2_firstError_78 : decode cX2_firstError 78 = .ok (.aload_n 0, 1) := by decide +kernel
theorem dX2_firstError_79 : decode cX2_firstError 79 = .ok (.getfield 26, 3) := by decide +kernel
theorem dX2_firstError_82 : decode cX2_firstError 82 = .ok (.ireturn, 1) := by decide +kernel
set_option maxRecDepth 20000 in
theorem ggX3_init_X1_init : GoodIn wsX3_init wsX1_init := goodIn_r _ [12, 13, 2, 3, 14, 15, 16, 22, 23, 24, 25, 26, 27, 28] rfl (by decide +kernel)
set_option maxRecDepth 20000 in
theorem gX3_init_X1_init_n17 : GoodIn wsX3_init (wsX1_init) := ggX3_init_X1_init
theorem dX3_init_0 : decode cX3_init 0 = .ok (.aload_n 0, 1) := by decide +kernel
theorem dX3_init_1 : decode cX3_init 1 = .ok (.invokespecial 3, 3) := by decide +kernel
theorem dX3_init_4 : decode cX3_init 4 = .ok (.aload_n 0, 1) := by decide +kernel
theorem dX3_init_5 : decode cX3_init 5 = .ok (.bipush 6, 2) := by decide +kernel
theorem dX3_init_7 : decode cX3_init 7 = .ok (.newarray .int, 2) := by decide +kernel
theorem dX3_init_9 : decode cX3_init 9 = .ok (.putfield 9, 3) := by decide +kernel
theorem dX3_init_12 : decode cX3_init 12 = .ok (.aload_n 0, 1) := by decide +kernel
theorem dX3_init_13 : decode cX3_init 13 = .ok (.new 15, 3) := by decide +kernel
theorem dX3_init_16 : decode cX3_init 16 = .ok (.dup, 1) := by decide +kernel
theorem dX3_init_17 : decode cX3_init 17 = .ok (.invokespecial 17, 3) := by decide +kernel
theorem dX3_init_20 : decode cX3_init 20 = .ok (.putfield 18, 3) := by decide +kernel
theorem dX3_init_23 : decode cX3_init 23 = .ok (.aload_n 0, 1) := by decide +kernel
theorem dX3_init_24 : decode cX3_init 24 = .ok (.bipush 8, 2) := by decide +kernel
theorem dX3_init_26 : decode cX3_init 26 = .ok (.putfield 22, 3) := by decide +kernel
theorem dX3_init_29 : decode cX3_init 29 = .ok (.return_, 1) := by decide +kernel
set_option maxRecDepth 20000 in
theorem ggX3_copyFrom_X1_copyFrom : GoodIn wsX3_copyFrom wsX1_copyFrom := goodIn_r _ [10, 11, 12, 13, 14, 15, 16, 17, 23, 24, 25, 26, 27, 28, 29] rfl (by decide +kernel)
set_option maxRecDepth 20000 in
theorem gX3_copyFrom_X1_copyFrom : GoodIn wsX3_copyFrom (wsV RX3 26 RX1 yX1_copyFrom wsX1_copyFrom) := goodIn_app (goodIn_of _ (by decide +kernel)) ggX3_copyFrom_X1_copyFrom
theorem dX3_copyFrom_0 : decode cX3_copyFrom 0 = .ok (.iconst 0, 1) := by decide +kernel
theorem dX3_copyFrom_1 : decode cX3_copyFrom 1 = .ok (.istore_n 2, 1) := by decide +kernel
theorem dX3_copyFrom_2 : decode cX3_copyFrom 2 = .ok (.iload_n 2, 1) := by decide +kernel
theorem dX3_copyFrom_3 : decode cX3_copyFrom 3 = .ok (.bipush 6, 2) := by decide +kernel
theorem dX3_copyFrom_5 : decode cX3_copyFrom 5 = .ok (.if_icmp .ge 21, 3) := by decide +kernel
theorem dX3_copyFrom_8 : decode cX3_copyFrom 8 = .ok (.aload_n 0, 1) := by decide +kernel
theorem dX3_copyFrom_9 : decode cX3_copyFrom 9 = .ok (.getfield 9, 3) := by decide +kernel
theorem dX3_copyFrom_12 : decode cX3_copyFrom 12 = .ok (.iload_n 2, 1) := by decide +kernel
theorem dX3_copyFrom_13 : decode cX3_copyFrom 13 = .ok (.aload_n 1, 1) := by decide +kernel
theorem dX3_copyFrom_14 : decode cX3_copyFrom 14 = .ok (.getfield 9, 3) := by decide +kernel
theorem dX3_copyFrom_17 : decode cX3_copyFrom 17 = .ok (.iload_n 2, 1) := by decide +kernel
theorem dX3_copyFrom_18 : decode cX3_copyFrom 18 = .ok (.iaload, 1) := by decide +kernel
theorem dX3_copyFrom_19 : decode cX3_copyFrom 19 = .ok (.iastore, 1) := by decide +kernel
theorem dX3_copyFrom_20 : decode cX3_copyFrom 20 = .ok (.iinc 2 1, 3) := by decide +kernel
theorem dX3_copyFrom_23 : decode cX3_copyFrom 23 = .ok (.goto (-21), 3) := by decide +kernel
theorem dX3_copyFrom_26 : decode cX3_copyFrom 26 = .ok (.aload_n 0, 1) := by decide +kernel
theorem dX3_copyFrom_27 : decode cX3_copyFrom 27 = .ok (.getfield 18, 3) := by decide +kernel
theorem dX3_copyFrom_30 : decode cX3_copyFrom 30 = .ok (.aload_n 1, 1) := by decide +kernel
theorem dX3_copyFrom_31 : decode cX3_copyFrom 31 = .ok (.getfield 18, 3) := by decide +kernel
theorem dX3_copyFrom_34 : decode cX3_copyFrom 34 = .ok (.invokevirtual 26, 3) := by decide +kernel
theorem dX3_copyFrom_37 : decode cX3_copyFrom 37 = .ok (.aload_n 0, 1) := by decide +kernel
theorem dX3_copyFrom_38 : decode cX3_copyFrom 38 = .ok (.aload_n 1, 1) := by decide +kernel
theorem dX3_copyFrom_39 : decode cX3_copyFrom 39 = .ok (.getfield 22, 3) := by decide +kernel
theorem dX3_copyFrom_42 : decode cX3_copyFrom 42 = .ok (.putfield 22, 3) := by decide +kernel
theorem dX3_copyFrom_45 : decode cX3_copyFrom 45 = .ok (.aload_n 0, 1) := by decide +kernel
theorem dX3_copyFrom_46 : decode cX3_copyFrom 46 = .ok (.aload_n 1, 1) := by decide +kernel
theorem dX3_copyFrom_47 : decode cX3_copyFrom 47 = .ok (.getfield 30, 3) := by decide +kernel
theorem dX3_copyFrom_50 : decode cX3_copyFrom 50 = .ok (.putfield 30, 3) := by decide +kernel
theorem dX3_copyFrom_53 : decode cX3_copyFrom 53 = .ok (.aload_n 0, 1) := by decide +kernel
theorem dX3_copyFrom_54 : decode cX3_copyFrom 54 = .ok (.aload_n 1, 1) := by decide +kernel
theorem dX3_copyFrom_55 : decode cX3_copyFrom 55 = .ok (.getfield 33, 3) := by decide +kernel
theorem dX3_copyFrom_58 : decode cX3_copyFrom 58 = .ok (.putfield 33, 3) := by decide +kernel
theorem dX3_copyFrom_61 : decode cX3_copyFrom 61 = .ok (.return_, 1) := by decide +kernel
set_option maxRecDepth 20000 in
theorem ggX3_valueIn_X5_isRegister : GoodIn wsX3_valueIn wsX5_isRegister := goodIn_r _ [4] rfl (by decide +kernel)
set_option maxRecDepth 20000 in
theorem gX3_valueIn_X5_isRegister_n36 : GoodIn wsX3_valueIn (wsX5_isRegister) := ggX3_valueIn_X5_isRegister
theorem dX3_valueIn_0 : decode cX3_valueIn 0 = .ok (.iload_n 1, 1) := by decide +kernel
theorem dX3_valueIn_1 : decode cX3_valueIn 1 = .ok (.invokestatic 36, 3) := by decide +kernel
theorem dX3_valueIn_4 : decode cX3_valueIn 4 = .ok (.ifCond .eq 12, 3) := by decide +kernel
theorem dX3_valueIn_7 : decode cX3_valueIn 7 = .ok (.aload_n 0, 1) := by decide +kernel
theorem dX3_valueIn_8 : decode cX3_valueIn 8 = .ok (.getfield 9, 3) := by decide +kernel
theorem dX3_valueIn_11 : decode cX3_valueIn 11 = .ok (.iload_n 1, 1) := by decide +kernel
theorem dX3_valueIn_12 : decode cX3_valueIn 12 = .ok (.iaload, 1) := by decide +kernel
theorem dX3_valueIn_13 : decode cX3_valueIn 13 = .ok (.goto 4, 3) := by decide +kernel
theorem dX3_valueIn_16 : decode cX3_valueIn 16 = .ok (.iconst 0, 1) := by decide +kernel
theorem dX3_valueIn_17 : decode cX3_valueIn 17 = .ok (.ireturn, 1) := by decide +kernel
set_option maxRecDepth 20000 in
theorem ggX3_bitsIn_X3_valueIn : GoodIn wsX3_bitsIn wsX3_valueIn := goodIn_r _ [6, 7, 8, 9, 10, 11, 12, 13, 14, 15] rfl (by decide +kernel)
set_option maxRecDepth 20000 in
theorem gX3_bitsIn_X3_valueIn : GoodIn wsX3_bitsIn (wsV RX3 40 RX3 yX3_valueIn wsX3_valueIn) := goodIn_app (goodIn_of _ (by decide +kernel)) ggX3_bitsIn_X3_valueIn
theorem dX3_bitsIn_0 : decode cX3_bitsIn 0 = .ok (.aload_n 0, 1) := by decide +kernel
theorem dX3_bitsIn_1 : decode cX3_bitsIn 1 = .ok (.iload_n 1, 1) := by decide +kernel
theorem dX3_bitsIn_2 : decode cX3_bitsIn 2 = .ok (.invokevirtual 40, 3) := by decide +kernel
theorem dX3_bitsIn_5 : decode cX3_bitsIn 5 = .ok (.iconst 1, 1) := by decide +kernel
theorem dX3_bitsIn_6 : decode cX3_bitsIn 6 = .ok (.aload_n 0, 1) := by decide +kernel
theorem dX3_bitsIn_7 : decode cX3_bitsIn 7 = .ok (.getfield 22, 3) := by decide +kernel
theorem dX3_bitsIn_10 : decode cX3_bitsIn 10 = .ok (.ishl, 1) := by decide +kernel
theorem dX3_bitsIn_11 : decode cX3_bitsIn 11 = .ok (.iconst 1, 1) := by decide +kernel
theorem dX3_bitsIn_12 : decode cX3_bitsIn 12 = .ok (.isub, 1) := by decide +kernel
theorem dX3_bitsIn_13 : decode cX3_bitsIn 13 = .ok (.iand, 1) := by decide +kernel
theorem dX3_bitsIn_14 : decode cX3_bitsIn 14 = .ok (.ireturn, 1) := by decide +kernel
theorem dX3_wrapped_0 : decode cX3_wrapped 0 = .ok (.bipush 32, 2) := by decide +kernel
theorem dX3_wrapped_2 : decode cX3_wrapped 2 = .ok (.aload_n 0, 1) := by decide +kernel
theorem dX3_wrapped_3 : decode cX3_wrapped 3 = .ok (.getfield 22, 3) := by decide +kernel
theorem dX3_wrapped_6 : decode cX3_wrapped 6 = .ok (.isub, 1) := by decide +kernel
theorem dX3_wrapped_7 : decode cX3_wrapped 7 = .ok (.istore_n 2, 1) := by decide +kernel
theorem dX3_wrapped_8 : decode cX3_wrapped 8 = .ok (.iload_n 1, 1) := by decide +kernel
theorem dX3_wrapped_9 : decode cX3_wrapped 9 = .ok (.iload_n 2, 1) := by decide +kernel
theorem dX3_wrapped_10 : decode cX3_wrapped 10 = .ok (.ishl, 1) := by decide +kernel
theorem dX3_wrapped_11 : decode cX3_wrapped 11 = .ok (.iload_n 2, 1) := by decide +kernel
theorem dX3_wrapped_12 : decode cX3_wrapped 12 = .ok (.ishr, 1) := by decide +kernel
theorem dX3_wrapped_13 : decode cX3_wrapped 13 = .ok (.ireturn, 1) := by decide +kernel
set_option maxRecDepth 20000 in
theorem ggX3_isValue_X3_wrapped : GoodIn wsX3_isValue wsX3_wrapped := goodIn_r _ [5, 6, 7, 8, 9, 10, 11] rfl (by decide +kernel)
set_option maxRecDepth 20000 in
theorem gX3_isValue_X3_wrapped : GoodIn wsX3_isValue (wsV RX3 44 RX3 yX3_wrapped wsX3_wrapped) := goodIn_app (goodIn_of _ (by decide +kernel)) ggX3_isValue_X3_wrapped
theorem dX3_isValue_0 : decode cX3_isValue 0 = .ok (.aload_n 0, 1) := by decide +kernel
theorem dX3_isValue_1 : decode cX3_isValue 1 = .ok (.iload_n 1, 1) := by decide +kernel
theorem dX3_isValue_2 : decode cX3_isValue 2 = .ok (.invokevirtual 44, 3) := by decide +kernel
theorem dX3_isValue_5 : decode cX3_isValue 5 = .ok (.iload_n 1, 1) := by decide +kernel
theorem dX3_isValue_6 : decode cX3_isValue 6 = .ok (.if_icmp .ne 7, 3) := by decide +kernel
theorem dX3_isValue_9 : decode cX3_isValue 9 = .ok (.iconst 1, 1) := by decide +kernel
theorem dX3_isValue_10 : decode cX3_isValue 10 = .ok (.goto 4, 3) := by decide +kernel
theorem dX3_isValue_13 : decode cX3_isValue 13 = .ok (.iconst 0, 1) := by decide +kernel
theorem dX3_isValue_14 : decode cX3_isValue 14 = .ok (.ireturn, 1) := by decide +kernel
set_option maxRecDepth 20000 in
theorem ggX3_put_X3_wrapped : GoodIn wsX3_put wsX3_wrapped := goodIn_r _ [7, 8, 12, 13, 14, 15, 16] rfl (by decide +kernel)
set_option maxRecDepth 20000 in
theorem gX3_put_X3_wrapped : GoodIn wsX3_put (wsV RX3 44 RX3 yX3_wrapped wsX3_wrapped) := goodIn_app (goodIn_of _ (by decide +kernel)) ggX3_put_X3_wrapped
set_option maxRecDepth 20000 in
theorem ggX3_put_X5_isRegister : GoodIn wsX3_put wsX5_isRegister := goodIn_r _ [11] rfl (by decide +kernel)
set_option maxRecDepth 20000 in
theorem gX3_put_X5_isRegister_n36 : GoodIn wsX3_put (wsX5_isRegister) := ggX3_put_X5_isRegister
theorem dX3_put_0 : decode cX3_put 0 = .ok (.aload_n 0, 1) := by decide +kernel
theorem dX3_put_1 : decode cX3_put 1 = .ok (.iload_n 2, 1) := by decide +kernel
theorem dX3_put_2 : decode cX3_put 2 = .ok (.invokevirtual 44, 3) := by decide +kernel
theorem dX3_put_5 : decode cX3_put 5 = .ok (.istore_n 3, 1) := by decide +kernel
theorem dX3_put_6 : decode cX3_put 6 = .ok (.iload_n 3, 1) := by decide +kernel
theorem dX3_put_7 : decode cX3_put 7 = .ok (.iload_n 2, 1) := by decide +kernel
theorem dX3_put_8 : decode cX3_put 8 = .ok (.if_icmp .eq 13, 3) := by decide +kernel
theorem dX3_put_11 : decode cX3_put 11 = .ok (.aload_n 0, 1) := by decide +kernel
theorem dX3_put_12 : decode cX3_put 12 = .ok (.dup, 1) := by decide +kernel
theorem dX3_put_13 : decode cX3_put 13 = .ok (.getfield 30, 3) := by decide +kernel
theorem dX3_put_16 : decode cX3_put 16 = .ok (.iconst 1, 1) := by decide +kernel
theorem dX3_put_17 : decode cX3_put 17 = .ok (.iadd, 1) := by decide +kernel
theorem dX3_put_18 : decode cX3_put 18 = .ok (.putfield 30, 3) := by decide +kernel
theorem dX3_put_21 : decode cX3_put 21 = .ok (.iload_n 1, 1) := by decide +kernel
theorem dX3_put_22 : decode cX3_put 22 = .ok (.invokestatic 36, 3) := by decide +kernel
theorem dX3_put_25 : decode cX3_put 25 = .ok (.ifCond .eq 10, 3) := by decide +kernel
theorem dX3_put_28 : decode cX3_put 28 = .ok (.aload_n 0, 1) := by decide +kernel
theorem dX3_put_29 : decode cX3_put 29 = .ok (.getfield 9, 3) := by decide +kernel
theorem dX3_put_32 : decode cX3_put 32 = .ok (.iload_n 1, 1) := by decide +kernel
theorem dX3_put_33 : decode cX3_put 33 = .ok (.iload_n 3, 1) := by decide +kernel
theorem dX3_put_34 : decode cX3_put 34 = .ok (.iastore, 1) := by decide +kernel
theorem dX3_put_35 : decode cX3_put 35 = .ok (.iload_n 3, 1) := by decide +kernel
theorem dX3_put_36 : decode cX3_put 36 = .ok (.ireturn, 1) := by decide +kernel
set_option maxRecDepth 20000 in
theorem ggX3_changeWidth_X3_wrapped : GoodIn wsX3_changeWidth wsX3_wrapped := goodIn_r _ [8, 1, 15, 16, 17, 18, 19] rfl (by decide +kernel)
set_option maxRecDepth 20000 in
theorem gX3_changeWidth_X3_wrapped : GoodIn wsX3_changeWidth (wsV RX3 44 RX3 yX3_wrapped wsX3_wrapped) := goodIn_app (goodIn_of _ (by decide +kernel)) ggX3_changeWidth_X3_wrapped
set_option maxRecDepth 20000 in
theorem ggX3_changeWidth_X1_giveUp : GoodIn wsX3_changeWidth wsX1_giveUp := goodIn_r _ [13, 14, 20, 21, 22, 23, 24, 25, 26] rfl (by decide +kernel)
set_option maxRecDepth 20000 in
theorem gX3_changeWidth_X1_giveUp : GoodIn wsX3_changeWidth (wsV RX3 47 RX1 yX1_giveUp wsX1_giveUp) := goodIn_app (goodIn_of _ (by decide +kernel)) ggX3_changeWidth_X1_giveUp
theorem dX3_changeWidth_0 : decode cX3_changeWidth 0 = .ok (.aload_n 0, 1) := by decide +kernel
theorem dX3_changeWidth_1 : decode cX3_changeWidth 1 = .ok (.iload_n 1, 1) := by decide +kernel
theorem dX3_changeWidth_2 : decode cX3_changeWidth 2 = .ok (.putfield 22, 3) := by decide +kernel
theorem dX3_changeWidth_5 : decode cX3_changeWidth 5 = .ok (.iconst 0, 1) := by decide +kernel
theorem dX3_changeWidth_6 : decode cX3_changeWidth 6 = .ok (.istore_n 2, 1) := by decide +kernel
theorem dX3_changeWidth_7 : decode cX3_changeWidth 7 = .ok (.iload_n 2, 1) := by decide +kernel
theorem dX3_changeWidth_8 : decode cX3_changeWidth 8 = .ok (.bipush 6, 2) := by decide +kernel
theorem dX3_changeWidth_10 : decode cX3_changeWidth 10 = .ok (.if_icmp .ge 25, 3) := by decide +kernel
theorem dX3_changeWidth_13 : decode cX3_changeWidth 13 = .ok (.aload_n 0, 1) := by decide +kernel
theorem dX3_changeWidth_14 : decode cX3_changeWidth 14 = .ok (.getfield 9, 3) := by decide +kernel
theorem dX3_changeWidth_17 : decode cX3_changeWidth 17 = .ok (.iload_n 2, 1) := by decide +kernel
theorem dX3_changeWidth_18 : decode cX3_changeWidth 18 = .ok (.aload_n 0, 1) := by decide +kernel
theorem dX3_changeWidth_19 : decode cX3_changeWidth 19 = .ok (.aload_n 0, 1) := by decide +kernel
theorem dX3_changeWidth_20 : decode cX3_changeWidth 20 = .ok (.getfield 9, 3) := by decide +kernel
theorem dX3_changeWidth_23 : decode cX3_changeWidth 23 = .ok (.iload_n 2, 1) := by decide +kernel
theorem dX3_changeWidth_24 : decode cX3_changeWidth 24 = .ok (.iaload, 1) := by decide +kernel
theorem dX3_changeWidth_25 : decode cX3_changeWidth 25 = .ok (.invokevirtual 44, 3) := by decide +kernel
theorem dX3_changeWidth_28 : decode cX3_changeWidth 28 = .ok (.iastore, 1) := by decide +kernel
theorem dX3_changeWidth_29 : decode cX3_changeWidth 29 = .ok (.iinc 2 1, 3) := by decide +kernel
theorem dX3_changeWidth_32 : decode cX3_changeWidth 32 = .ok (.goto (-25), 3) := by decide +kernel
theorem dX3_changeWidth_35 : decode cX3_changeWidth 35 = .ok (.aload_n 0, 1) := by decide +kernel
theorem dX3_changeWidth_36 : decode cX3_changeWidth 36 = .ok (.getfield 18, 3) := by decide +kernel
theorem dX3_changeWidth_39 : decode cX3_changeWidth 39 = .ok (.invokevirtual 47, 3) := by decide +kernel
theorem dX3_changeWidth_42 : decode cX3_changeWidth 42 = .ok (.return_, 1) := by decide +kernel
set_option maxRecDepth 20000 in
theorem ggX3_makeStep_X1_makeStep : GoodIn wsX3_makeStep wsX1_makeStep := goodIn_r _ [7, 8, 9, 10, 11, 12, 13, 14, 15, 16, 17, 6, 18, 19, 20, 21, 27, 28, 29, 30, 31, 32, 33] rfl (by decide +kernel)
set_option maxRecDepth 20000 in
theorem gX3_makeStep_X1_makeStep : GoodIn wsX3_makeStep (wsV RX3 50 RX1 yX1_makeStep wsX1_makeStep) := goodIn_app (goodIn_of _ (by decide +kernel)) ggX3_makeStep_X1_makeStep
theorem dX3_makeStep_0 : decode cX3_makeStep 0 = .ok (.aload_n 0, 1) := by decide +kernel
theorem dX3_makeStep_1 : decode cX3_makeStep 1 = .ok (.dup, 1) := by decide +kernel
theorem dX3_makeStep_2 : decode cX3_makeStep 2 = .ok (.getfield 33, 3) := by decide +kernel
theorem dX3_makeStep_5 : decode cX3_makeStep 5 = .ok (.iconst 1, 1) := by decide +kernel
theorem dX3_makeStep_6 : decode cX3_makeStep 6 = .ok (.iadd, 1) := by decide +kernel
theorem dX3_makeStep_7 : decode cX3_makeStep 7 = .ok (.putfield 33, 3) := by decide +kernel
theorem dX3_makeStep_10 : decode cX3_makeStep 10 = .ok (.aload_n 0, 1) := by decide +kernel
theorem dX3_makeStep_11 : decode cX3_makeStep 11 = .ok (.getfield 18, 3) := by decide +kernel
theorem dX3_makeStep_14 : decode cX3_makeStep 14 = .ok (.invokevirtual 50, 3) := by decide +kernel
theorem dX3_makeStep_17 : decode cX3_makeStep 17 = .ok (.ireturn, 1) := by decide +kernel
theorem dX4_init_0 : decode cX4_init 0 = .ok (.aload_n 0, 1) := by decide +kernel
theorem dX4_init_1 : decode cX4_init 1 = .ok (.invokespecial 3, 3) := by decide +kernel
theorem dX4_init_4 : decode cX4_init 4 = .ok (.return_, 1) := by decide +kernel
theorem dX4_start_0 : decode cX4_start 0 = .ok (.aload_n 0, 1) := by decide +kernel
theorem dX4_start_1 : decode cX4_start 1 = .ok (.iconst 0, 1) := by decide +kernel
theorem dX4_start_2 : decode cX4_start 2 = .ok (.putfield 11, 3) := by decide +kernel
theorem dX4_start_5 : decode cX4_start 5 = .ok (.aload_n 0, 1) := by decide +kernel
theorem dX4_start_6 : decode cX4_start 6 = .ok (.iconst (-1), 1) := by decide +kernel
theorem dX4_start_7 : decode cX4_start 7 = .ok (.putfield 15, 3) := by decide +kernel
theorem dX4_start_10 : decode cX4_start 10 = .ok (.aload_n 0, 1) := by decide +kernel
theorem dX4_start_11 : decode cX4_start 11 = .ok (.iconst (-1), 1) := by decide +kernel
theorem dX4_start_12 : decode cX4_start 12 = .ok (.putfield 18, 3) := by decide +kernel
theorem dX4_start_15 : decode cX4_start 15 = .ok (.aload_n 0, 1) := by decide +kernel
theorem dX4_start_16 : decode cX4_start 16 = .ok (.bipush 43, 2) := by decide +kernel
theorem dX4_start_18 : decode cX4_start 18 = .ok (.putfield 21, 3) := by decide +kernel
theorem dX4_start_21 : decode cX4_start 21 = .ok (.aload_n 0, 1) := by decide +kernel
theorem dX4_start_22 : decode cX4_start 22 = .ok (.iconst (-1), 1) := by decide +kernel
theorem dX4_start_23 : decode cX4_start 23 = .ok (.putfield 25, 3) := by decide +kernel
theorem dX4_start_26 : decode cX4_start 26 = .ok (.aload_n 0, 1) := by decide +kernel
theorem dX4_start_27 : decode cX4_start 27 = .ok (.iconst 0, 1) := by decide +kernel
theorem dX4_start_28 : decode cX4_start 28 = .ok (.putfield 28, 3) := by decide +kernel
theorem dX4_start_31 : decode cX4_start 31 = .ok (.aload_n 0, 1) := by decide +kernel
theorem dX4_start_32 : decode cX4_start 32 = .ok (.iconst 0, 1) := by decide +kernel
theorem dX4_start_33 : decode cX4_start 33 = .ok (.putfield 32, 3) := by decide +kernel
theorem dX4_start_36 : decode cX4_start 36 = .ok (.return_, 1) := by decide +kernel
set_option maxRecDepth 20000 in
theorem ggX4_startNext_X4_isWhole : GoodIn wsX4_startNext wsX4_isWhole := goodIn_r _ [5, 6, 17, 18, 19, 20, 21, 22, 23] rfl (by decide +kernel)
set_option maxRecDepth 20000 in
theorem gX4_startNext_X4_isWhole : GoodIn wsX4_startNext (wsV RX4 35 RX4 yX4_isWhole wsX4_isWhole) := goodIn_app (goodIn_of _ (by decide +kernel)) ggX4_startNext_X4_isWhole
set_option maxRecDepth 20000 in
theorem ggX4_startNext_X4_start : GoodIn wsX4_startNext wsX4_start := goodIn_r _ [10, 6, 11, 12, 13, 14, 15, 16, 17, 18, 19, 20, 21, 22, 23] rfl (by decide +kernel)
set_option maxRecDepth 20000 in
theorem gX4_startNext_X4_start : GoodIn wsX4_startNext (wsV RX4 39 RX4 yX4_start wsX4_start) := goodIn_app (goodIn_of _ (by decide +kernel)) ggX4_startNext_X4_start
theorem dX4_startNext_0 : decode cX4_startNext 0 = .ok (.aload_n 0, 1) := by decide +kernel
theorem dX4_startNext_1 : decode cX4_startNext 1 = .ok (.invokevirtual 35, 3) := by decide +kernel
theorem dX4_startNext_4 : decode cX4_startNext 4 = .ok (.istore_n 1, 1) := by decide +kernel
theorem dX4_startNext_5 : decode cX4_startNext 5 = .ok (.aload_n 0, 1) := by decide +kernel
theorem dX4_startNext_6 : decode cX4_startNext 6 = .ok (.invokevirtual 39, 3) := by decide +kernel
theorem dX4_startNext_9 : decode cX4_startNext 9 = .ok (.iload_n 1, 1) := by decide +kernel
theorem dX4_startNext_10 : decode cX4_startNext 10 = .ok (.ireturn, 1) := by decide +kernel
set_option maxRecDepth 20000 in
theorem ggX4_take_X4_stageAfter : GoodIn wsX4_take wsX4_stageAfter := goodIn_r _ [6, 1, 7, 8, 5, 9, 10, 11, 12, 13, 14, 15, 16, 17, 18, 19, 20, 21, 22, 23, 24, 25, 26, 27, 28, 29, 46, 47, 48, 49, 50, 51, 52] rfl (by decide +kernel)
set_option maxRecDepth 20000 in
theorem gX4_take_X4_stageAfter : GoodIn wsX4_take (wsV RX4 42 RX4 yX4_stageAfter wsX4_stageAfter) := goodIn_app (goodIn_of _ (by decide +kernel)) ggX4_take_X4_stageAfter
set_option maxRecDepth 20000 in
theorem ggX4_take_X4_note : GoodIn wsX4_take wsX4_note := goodIn_r _ [33, 1, 34, 35, 36, 37, 38, 39, 5, 40, 41, 7, 8, 9, 42, 43, 44, 45, 28, 23, 19, 20, 21, 22, 46, 47, 48, 49, 50, 51, 52] rfl (by decide +kernel)
set_option maxRecDepth 20000 in
theorem gX4_take_X4_note : GoodIn wsX4_take (wsV RX4 46 RX4 yX4_note wsX4_note) := goodIn_app (goodIn_of _ (by decide +kernel)) ggX4_take_X4_note
theorem dX4_take_0 : decode cX4_take 0 = .ok (.aload_n 0, 1) := by decide +kernel
theorem dX4_take_1 : decode cX4_take 1 = .ok (.iload_n 1, 1) := by decide +kernel
theorem dX4_take_2 : decode cX4_take 2 = .ok (.invokevirtual 42, 3) := by decide +kernel
theorem dX4_take_5 : decode cX4_take 5 = .ok (.istore_n 2, 1) := by decide +kernel
theorem dX4_take_6 : decode cX4_take 6 = .ok (.iload_n 2, 1) := by decide +kernel
theorem dX4_take_7 : decode cX4_take 7 = .ok (.iconst (-1), 1) := by decide +kernel
theorem dX4_take_8 : decode cX4_take 8 = .ok (.if_icmp .ne 5, 3) := by decide +kernel
theorem dX4_take_11 : decode cX4_take 11 = .ok (.iconst 0, 1) := by decide +kernel
theorem dX4_take_12 : decode cX4_take 12 = .ok (.ireturn, 1) := by decide +kernel
theorem dX4_take_13 : decode cX4_take 13 = .ok (.aload_n 0, 1) := by decide +kernel
theorem dX4_take_14 : decode cX4_take 14 = .ok (.iload_n 1, 1) := by decide +kernel
theorem dX4_take_15 : decode cX4_take 15 = .ok (.invokevirtual 46, 3) := by decide +kernel
theorem dX4_take_18 : decode cX4_take 18 = .ok (.aload_n 0, 1) := by decide +kernel
theorem dX4_take_19 : decode cX4_take 19 = .ok (.iload_n 2, 1) := by decide +kernel
theorem dX4_take_20 : decode cX4_take 20 = .ok (.putfield 11, 3) := by decide +kernel
theorem dX4_take_23 : decode cX4_take 23 = .ok (.iconst 1, 1) := by decide +kernel
theorem dX4_take_24 : decode cX4_take 24 = .ok (.ireturn, 1) := by decide +kernel
theorem dX4_isWhole_0 : decode cX4_isWhole 0 = .ok (.aload_n 0, 1) := by decide +kernel
theorem dX4_isWhole_1 : decode cX4_isWhole 1 = .ok (.getfield 11, 3) := by decide +kernel
theorem dX4_isWhole_4 : decode cX4_isWhole 4 = .ok (.iconst 3, 1) := by decide +kernel
theorem dX4_isWhole_5 : decode cX4_isWhole 5 = .ok (.if_icmp .eq 21, 3) := by decide +kernel
theorem dX4_isWhole_8 : decode cX4_isWhole 8 = .ok (.aload_n 0, 1) := by decide +kernel
theorem dX4_isWhole_9 : decode cX4_isWhole 9 = .ok (.getfield 11, 3) := by decide +kernel
theorem dX4_isWhole_12 : decode cX4_isWhole 12 = .ok (.bipush 7, 2) := by decide +kernel
theorem dX4_isWhole_14 : decode cX4_isWhole 14 = .ok (.if_icmp .eq 12, 3) := by decide +kernel
theorem dX4_isWhole_17 : decode cX4_isWhole 17 = .ok (.aload_n 0, 1) := by decide +kernel
theorem dX4_isWhole_18 : decode cX4_isWhole 18 = .ok (.getfield 11, 3) := by decide +kernel
theorem dX4_isWhole_21 : decode cX4_isWhole 21 = .ok (.bipush 8, 2) := by decide +kernel
theorem dX4_isWhole_23 : decode cX4_isWhole 23 = .ok (.if_icmp .ne 7, 3) := by decide +kernel
theorem dX4_isWhole_26 : decode cX4_isWhole 26 = .ok (.iconst 1, 1) := by decide +kernel
theorem dX4_isWhole_27 : decode cX4_isWhole 27 = .ok (.goto 4, 3) := by decide +kernel
theorem dX4_isWhole_30 : decode cX4_isWhole 30 = .ok (.iconst 0, 1) := by decide +kernel
theorem dX4_isWhole_31 : decode cX4_isWhole 31 = .ok (.ireturn, 1) := by decide +kernel
set_option maxRecDepth 20000 in
theorem ggX4_stageAfter_X4_isLetter : GoodIn wsX4_stageAfter wsX4_isLetter := goodIn_r _ [5] rfl (by decide +kernel)
set_option maxRecDepth 20000 in
theorem gX4_stageAfter_X4_isLetter : GoodIn wsX4_stageAfter (va_wsS RX4 56 yX4_isLetter wsX4_isLetter) := goodIn_app (goodIn_of _ (by decide +kernel)) ggX4_stageAfter_X4_isLetter
set_option maxRecDepth 20000 in
theorem ggX4_stageAfter_X4_stageAfterSource : GoodIn wsX4_stageAfter wsX4_stageAfterSource := goodIn_r _ [8, 2, 3, 4, 5] rfl (by decide +kernel)
set_option maxRecDepth 20000 in
theorem gX4_stageAfter_X4_stageAfterSource : GoodIn wsX4_stageAfter (va_wsS RX4 60 yX4_stageAfterSource wsX4_stageAfterSource) := goodIn_app (goodIn_of _ (by decide +kernel)) ggX4_stageAfter_X4_stageAfterSource
set_option maxRecDepth 20000 in
theorem ggX4_stageAfter_X4_stageAfterNumberSign : GoodIn wsX4_stageAfter wsX4_stageAfterNumberSign := goodIn_r _ [11, 12, 13, 4, 14] rfl (by decide +kernel)
set_option maxRecDepth 20000 in
theorem gX4_stageAfter_X4_stageAfterNumberSign : GoodIn wsX4_stageAfter (va_wsS RX4 63 yX4_stageAfterNumberSign wsX4_stageAfterNumberSign) := goodIn_app (goodIn_of _ (by decide +kernel)) ggX4_stageAfter_X4_stageAfterNumberSign
set_option maxRecDepth 20000 in
theorem ggX4_stageAfter_X4_isDigit : GoodIn wsX4_stageAfter wsX4_isDigit := goodIn_r _ [14] rfl (by decide +kernel)
set_option maxRecDepth 20000 in
theorem gX4_stageAfter_X4_isDigit : GoodIn wsX4_stageAfter (va_wsS RX4 66 yX4_isDigit wsX4_isDigit) := goodIn_app (goodIn_of _ (by decide +kernel)) ggX4_stageAfter_X4_isDigit
set_option maxRecDepth 20000 in
theorem ggX4_stageAfter_X4_withDigit : GoodIn wsX4_stageAfter wsX4_withDigit := goodIn_r _ [18, 19, 26, 27, 28, 29, 30, 31, 32] rfl (by decide +kernel)
set_option maxRecDepth 20000 in
theorem gX4_stageAfter_X4_withDigit : GoodIn wsX4_stageAfter (wsV RX4 69 RX4 yX4_withDigit wsX4_withDigit) := goodIn_app (goodIn_of _ (by decide +kernel)) ggX4_stageAfter_X4_withDigit
set_option maxRecDepth 20000 in
theorem ggX4_stageAfter_X4_greatestSize : GoodIn wsX4_stageAfter wsX4_greatestSize := goodIn_r _ [23, 24, 25, 26, 27, 28, 29, 30, 31, 32] rfl (by decide +kernel)
set_option maxRecDepth 20000 in
theorem gX4_stageAfter_X4_greatestSize : GoodIn wsX4_stageAfter (wsV RX4 72 RX4 yX4_greatestSize wsX4_greatestSize) := goodIn_app (goodIn_of _ (by decide +kernel)) ggX4_stageAfter_X4_greatestSize
theorem dX4_stageAfter_0 : decode cX4_stageAfter 0 = .ok (.aload_n 0, 1) := by decide +kernel
theorem dX4_stageAfter_1 : decode cX4_stageAfter 1 = .ok (.getfield 11, 3) := by decide +kernel
theorem dX4_stageAfter_4 : decode cX4_stageAfter 4 = .ok (.tableswitch 167 0 7 #[48, 61, 73, 78, 102, 116, 121, 141], 48) := by decide +kernel
theorem dX4_stageAfter_52 : decode cX4_stageAfter 52 = .ok (.iload_n 1, 1) := by decide +kernel
theorem dX4_stageAfter_53 : decode cX4_stageAfter 53 = .ok (.invokestatic 56, 3) := by decide +kernel
theorem dX4_stageAfter_56 : decode cX4_stageAfter 56 = .ok (.ifCond .eq 7, 3) := by decide +kernel
theorem dX4_stageAfter_59 : decode cX4_stageAfter 59 = .ok (.iconst 1, 1) := by decide +kernel
theorem dX4_stageAfter_60 : decode cX4_stageAfter 60 = .ok (.goto 4, 3) := by decide +kernel
theorem dX4_stageAfter_63 : decode cX4_stageAfter 63 = .ok (.iconst (-1), 1) := by decide +kernel
theorem dX4_stageAfter_64 : decode cX4_stageAfter 64 = .ok (.ireturn, 1) := by decide +kernel
theorem dX4_stageAfter_65 : decode cX4_stageAfter 65 = .ok (.iload_n 1, 1) := by decide +kernel
theorem dX4_stageAfter_66 : decode cX4_stageAfter 66 = .ok (.bipush 61, 2) := by decide +kernel
theorem dX4_stageAfter_68 : decode cX4_stageAfter 68 = .ok (.if_icmp .ne 7, 3) := by decide +kernel
theorem dX4_stageAfter_71 : decode cX4_stageAfter 71 = .ok (.iconst 2, 1) := by decide +kernel
theorem dX4_stageAfter_72 : decode cX4_stageAfter 72 = .ok (.goto 4, 3) := by decide +kernel
theorem dX4_stageAfter_75 : decode cX4_stageAfter 75 = .ok (.iconst (-1), 1) := by decide +kernel
theorem dX4_stageAfter_76 : decode cX4_stageAfter 76 = .ok (.ireturn, 1) := by decide +kernel
theorem dX4_stageAfter_77 : decode cX4_stageAfter 77 = .ok (.iload_n 1, 1) := by decide +kernel
theorem dX4_stageAfter_78 : decode cX4_stageAfter 78 = .ok (.invokestatic 60, 3) := by decide +kernel
theorem dX4_stageAfter_81 : decode cX4_stageAfter 81 = .ok (.ireturn, 1) := by decide +kernel
theorem dX4_stageAfter_82 : decode cX4_stageAfter 82 = .ok (.iload_n 1, 1) := by decide +kernel
theorem dX4_stageAfter_83 : decode cX4_stageAfter 83 = .ok (.bipush 43, 2) := by decide +kernel
theorem dX4_stageAfter_85 : decode cX4_stageAfter 85 = .ok (.if_icmp .eq 15, 3) := by decide +kernel
theorem dX4_stageAfter_88 : decode cX4_stageAfter 88 = .ok (.iload_n 1, 1) := by decide +kernel
theorem dX4_stageAfter_89 : decode cX4_stageAfter 89 = .ok (.bipush 45, 2) := by decide +kernel
theorem dX4_stageAfter_91 : decode cX4_stageAfter 91 = .ok (.if_icmp .eq 9, 3) := by decide +kernel
theorem dX4_stageAfter_94 : decode cX4_stageAfter 94 = .ok (.iload_n 1, 1) := by decide +kernel
theorem dX4_stageAfter_95 : decode cX4_stageAfter 95 = .ok (.bipush 42, 2) := by decide +kernel
theorem dX4_stageAfter_97 : decode cX4_stageAfter 97 = .ok (.if_icmp .ne 7, 3) := by decide +kernel
theorem dX4_stageAfter_100 : decode cX4_stageAfter 100 = .ok (.iconst 4, 1) := by decide +kernel
theorem dX4_stageAfter_101 : decode cX4_stageAfter 101 = .ok (.goto 4, 3) := by decide +kernel
theorem dX4_stageAfter_104 : decode cX4_stageAfter 104 = .ok (.iconst (-1), 1) := by decide +kernel
theorem dX4_stageAfter_105 : decode cX4_stageAfter 105 = .ok (.ireturn, 1) := by decide +kernel
theorem dX4_stageAfter_106 : decode cX4_stageAfter 106 = .ok (.iload_n 1, 1) := by decide +kernel
theorem dX4_stageAfter_107 : decode cX4_stageAfter 107 = .ok (.invokestatic 56, 3) := by decide +kernel
theorem dX4_stageAfter_110 : decode cX4_stageAfter 110 = .ok (.ifCond .eq 8, 3) := by decide +kernel
theorem dX4_stageAfter_113 : decode cX4_stageAfter 113 = .ok (.bipush 8, 2) := by decide +kernel
theorem dX4_stageAfter_115 : decode cX4_stageAfter 115 = .ok (.goto 4, 3) := by decide +kernel
theorem dX4_stageAfter_118 : decode cX4_stageAfter 118 = .ok (.iconst (-1), 1) := by decide +kernel
theorem dX4_stageAfter_119 : decode cX4_stageAfter 119 = .ok (.ireturn, 1) := by decide +kernel
theorem dX4_stageAfter_120 : decode cX4_stageAfter 120 = .ok (.iload_n 1, 1) := by decide +kernel
theorem dX4_stageAfter_121 : decode cX4_stageAfter 121 = .ok (.invokestatic 63, 3) := by decide +kernel
theorem dX4_stageAfter_124 : decode cX4_stageAfter 124 = .ok (.ireturn, 1) := by decide +kernel
theorem dX4_stageAfter_125 : decode cX4_stageAfter 125 = .ok (.iload_n 1, 1) := by decide +kernel
theorem dX4_stageAfter_126 : decode cX4_stageAfter 126 = .ok (.invokestatic 66, 3) := by decide +kernel
theorem dX4_stageAfter_129 : decode cX4_stageAfter 129 = .ok (.ifCond .eq 14, 3) := by decide +kernel
theorem dX4_stageAfter_132 : decode cX4_stageAfter 132 = .ok (.iload_n 1, 1) := by decide +kernel
theorem dX4_stageAfter_133 : decode cX4_stageAfter 133 = .ok (.bipush 48, 2) := by decide +kernel
theorem dX4_stageAfter_135 : decode cX4_stageAfter 135 = .ok (.if_icmp .eq 8, 3) := by decide +kernel
theorem dX4_stageAfter_138 : decode cX4_stageAfter 138 = .ok (.bipush 7, 2) := by decide +kernel
theorem dX4_stageAfter_140 : decode cX4_stageAfter 140 = .ok (.goto 4, 3) := by decide +kernel
theorem dX4_stageAfter_143 : decode cX4_stageAfter 143 = .ok (.iconst (-1), 1) := by decide +kernel
theorem dX4_stageAfter_144 : decode cX4_stageAfter 144 = .ok (.ireturn, 1) := by decide +kernel
theorem dX4_stageAfter_145 : decode cX4_stageAfter 145 = .ok (.iload_n 1, 1) := by decide +kernel
theorem dX4_stageAfter_146 : decode cX4_stageAfter 146 = .ok (.invokestatic 66, 3) := by decide +kernel
theorem dX4_stageAfter_149 : decode cX4_stageAfter 149 = .ok (.ifCond .eq 20, 3) := by decide +kernel
theorem dX4_stageAfter_152 : decode cX4_stageAfter 152 = .ok (.aload_n 0, 1) := by decide +kernel
theorem dX4_stageAfter_153 : decode cX4_stageAfter 153 = .ok (.iload_n 1, 1) := by decide +kernel
theorem dX4_stageAfter_154 : decode cX4_stageAfter 154 = .ok (.invokevirtual 69, 3) := by decide +kernel
theorem dX4_stageAfter_157 : decode cX4_stageAfter 157 = .ok (.aload_n 0, 1) := by decide +kernel
theorem dX4_stageAfter_158 : decode cX4_stageAfter 158 = .ok (.invokevirtual 72, 3) := by decide +kernel
theorem dX4_stageAfter_161 : decode cX4_stageAfter 161 = .ok (.if_icmp .gt 8, 3) := by decide +kernel
theorem dX4_stageAfter_164 : decode cX4_stageAfter 164 = .ok (.bipush 7, 2) := by decide +kernel
theorem dX4_stageAfter_166 : decode cX4_stageAfter 166 = .ok (.goto 4, 3) := by decide +kernel
theorem dX4_stageAfter_169 : decode cX4_stageAfter 169 = .ok (.iconst (-1), 1) := by decide +kernel
theorem dX4_stageAfter_170 : decode cX4_stageAfter 170 = .ok (.ireturn, 1) := by decide +kernel
theorem dX4_stageAfter_171 : decode cX4_stageAfter 171 = .ok (.iconst (-1), 1) := by decide +kernel
theorem dX4_stageAfter_172 : decode cX4_stageAfter 172 = .ok (.ireturn, 1) := by decide +kernel
set_option maxRecDepth 20000 in
theorem ggX4_stageAfterSource_X4_isLetter : GoodIn wsX4_stageAfterSource wsX4_isLetter := goodIn_r _ [4] rfl (by decide +kernel)
set_option maxRecDepth 20000 in
theorem gX4_stageAfterSource_X4_isLetter : GoodIn wsX4_stageAfterSource (va_wsS RX4 56 yX4_isLetter wsX4_isLetter) := goodIn_app (goodIn_of _ (by decide +kernel)) ggX4_stageAfterSource_X4_isLetter
theorem dX4_stageAfterSource_0 : decode cX4_stageAfterSource 0 = .ok (.iload_n 0, 1) := by decide +kernel
theorem dX4_stageAfterSource_1 : decode cX4_stageAfterSource 1 = .ok (.invokestatic 56, 3) := by decide +kernel
theorem dX4_stageAfterSource_4 : decode cX4_stageAfterSource 4 = .ok (.ifCond .eq 5, 3) := by decide +kernel
theorem dX4_stageAfterSource_7 : decode cX4_stageAfterSource 7 = .ok (.iconst 3, 1) := by decide +kernel
theorem dX4_stageAfterSource_8 : decode cX4_stageAfterSource 8 = .ok (.ireturn, 1) := by decide +kernel
theorem dX4_stageAfterSource_9 : decode cX4_stageAfterSource 9 = .ok (.iload_n 0, 1) := by decide +kernel
theorem dX4_stageAfterSource_10 : decode cX4_stageAfterSource 10 = .ok (.bipush 45, 2) := by decide +kernel
theorem dX4_stageAfterSource_12 : decode cX4_stageAfterSource 12 = .ok (.if_icmp .ne 5, 3) := by decide +kernel
theorem dX4_stageAfterSource_15 : decode cX4_stageAfterSource 15 = .ok (.iconst 4, 1) := by decide +kernel
theorem dX4_stageAfterSource_16 : decode cX4_stageAfterSource 16 = .ok (.ireturn, 1) := by decide +kernel
theorem dX4_stageAfterSource_17 : decode cX4_stageAfterSource 17 = .ok (.iload_n 0, 1) := by decide +kernel
theorem dX4_stageAfterSource_18 : decode cX4_stageAfterSource 18 = .ok (.bipush 35, 2) := by decide +kernel
theorem dX4_stageAfterSource_20 : decode cX4_stageAfterSource 20 = .ok (.if_icmp .ne 7, 3) := by decide +kernel
theorem dX4_stageAfterSource_23 : decode cX4_stageAfterSource 23 = .ok (.iconst 5, 1) := by decide +kernel
theorem dX4_stageAfterSource_24 : decode cX4_stageAfterSource 24 = .ok (.goto 4, 3) := by decide +kernel
theorem dX4_stageAfterSource_27 : decode cX4_stageAfterSource 27 = .ok (.iconst (-1), 1) := by decide +kernel
theorem dX4_stageAfterSource_28 : decode cX4_stageAfterSource 28 = .ok (.ireturn, 1) := by decide +kernel
set_option maxRecDepth 20000 in
theorem ggX4_stageAfterNumberSign_X4_isDigit : GoodIn wsX4_stageAfterNumberSign wsX4_isDigit := goodIn_r _ [4] rfl (by decide +kernel)
set_option maxRecDepth 20000 in
theorem gX4_stageAfterNumberSign_X4_isDigit : GoodIn wsX4_stageAfterNumberSign (va_wsS RX4 66 yX4_isDigit wsX4_isDigit) := goodIn_app (goodIn_of _ (by decide +kernel)) ggX4_stageAfterNumberSign_X4_isDigit
theorem dX4_stageAfterNumberSign_0 : decode cX4_stageAfterNumberSign 0 = .ok (.iload_n 0, 1) := by decide +kernel
theorem dX4_stageAfterNumberSign_1 : decode cX4_stageAfterNumberSign 1 = .ok (.bipush 45, 2) := by decide +kernel
theorem dX4_stageAfterNumberSign_3 : decode cX4_stageAfterNumberSign 3 = .ok (.if_icmp .ne 6, 3) := by decide +kernel
theorem dX4_stageAfterNumberSign_6 : decode cX4_stageAfterNumberSign 6 = .ok (.bipush 6, 2) := by decide +kernel
theorem dX4_stageAfterNumberSign_8 : decode cX4_stageAfterNumberSign 8 = .ok (.ireturn, 1) := by decide +kernel
theorem dX4_stageAfterNumberSign_9 : decode cX4_stageAfterNumberSign 9 = .ok (.iload_n 0, 1) := by decide +kernel
theorem dX4_stageAfterNumberSign_10 : decode cX4_stageAfterNumberSign 10 = .ok (.bipush 48, 2) := by decide +kernel
theorem dX4_stageAfterNumberSign_12 : decode cX4_stageAfterNumberSign 12 = .ok (.if_icmp .ne 6, 3) := by decide +kernel
theorem dX4_stageAfterNumberSign_15 : decode cX4_stageAfterNumberSign 15 = .ok (.bipush 8, 2) := by decide +kernel
theorem dX4_stageAfterNumberSign_17 : decode cX4_stageAfterNumberSign 17 = .ok (.ireturn, 1) := by decide +kernel
theorem dX4_stageAfterNumberSign_18 : decode cX4_stageAfterNumberSign 18 = .ok (.iload_n 0, 1) := by decide +kernel
theorem dX4_stageAfterNumberSign_19 : decode cX4_stageAfterNumberSign 19 = .ok (.invokestatic 66, 3) := by decide +kernel
theorem dX4_stageAfterNumberSign_22 : decode cX4_stageAfterNumberSign 22 = .ok (.ifCond .eq 8, 3) := by decide +kernel
theorem dX4_stageAfterNumberSign_25 : decode cX4_stageAfterNumberSign 25 = .ok (.bipush 7, 2) := by decide +kernel
theorem dX4_stageAfterNumberSign_27 : decode cX4_stageAfterNumberSign 27 = .ok (.goto 4, 3) := by decide +kernel
theorem dX4_stageAfterNumberSign_30 : decode cX4_stageAfterNumberSign 30 = .ok (.iconst (-1), 1) := by decide +kernel
theorem dX4_stageAfterNumberSign_31 : decode cX4_stageAfterNumberSign 31 = .ok (.ireturn, 1) := by decide +kernel
set_option maxRecDepth 20000 in
theorem ggX4_note_X4_noteSource : GoodIn wsX4_note wsX4_noteSource := goodIn_r _ [9, 10, 3, 11, 12, 8, 13, 24, 25, 26, 27, 28, 29, 30] rfl (by decide +kernel)
set_option maxRecDepth 20000 in
theorem gX4_note_X4_noteSource : GoodIn wsX4_note (wsV RX4 76 RX4 yX4_noteSource wsX4_noteSource) := goodIn_app (goodIn_of _ (by decide +kernel)) ggX4_note_X4_noteSource
set_option maxRecDepth 20000 in
theorem ggX4_note_X4_noteNumber : GoodIn wsX4_note wsX4_noteNumber := goodIn_r _ [17, 18, 19, 20, 21, 22, 8, 23, 24, 25, 26, 27, 28, 29, 30] rfl (by decide +kernel)
set_option maxRecDepth 20000 in
theorem gX4_note_X4_noteNumber : GoodIn wsX4_note (wsV RX4 79 RX4 yX4_noteNumber wsX4_noteNumber) := goodIn_app (goodIn_of _ (by decide +kernel)) ggX4_note_X4_noteNumber
theorem dX4_note_0 : decode cX4_note 0 = .ok (.aload_n 0, 1) := by decide +kernel
theorem dX4_note_1 : decode cX4_note 1 = .ok (.getfield 11, 3) := by decide +kernel
theorem dX4_note_4 : decode cX4_note 4 = .ok (.tableswitch 94 0 7 #[48, 94, 59, 67, 75, 86, 86, 86], 48) := by decide +kernel
theorem dX4_note_52 : decode cX4_note 52 = .ok (.aload_n 0, 1) := by decide +kernel
theorem dX4_note_53 : decode cX4_note 53 = .ok (.iload_n 1, 1) := by decide +kernel
theorem dX4_note_54 : decode cX4_note 54 = .ok (.bipush 65, 2) := by decide +kernel
theorem dX4_note_56 : decode cX4_note 56 = .ok (.isub, 1) := by decide +kernel
theorem dX4_note_57 : decode cX4_note 57 = .ok (.putfield 15, 3) := by decide +kernel
theorem dX4_note_60 : decode cX4_note 60 = .ok (.goto 38, 3) := by decide +kernel
theorem dX4_note_63 : decode cX4_note 63 = .ok (.aload_n 0, 1) := by decide +kernel
theorem dX4_note_64 : decode cX4_note 64 = .ok (.iload_n 1, 1) := by decide +kernel
theorem dX4_note_65 : decode cX4_note 65 = .ok (.invokevirtual 76, 3) := by decide +kernel
theorem dX4_note_68 : decode cX4_note 68 = .ok (.goto 30, 3) := by decide +kernel
theorem dX4_note_71 : decode cX4_note 71 = .ok (.aload_n 0, 1) := by decide +kernel
theorem dX4_note_72 : decode cX4_note 72 = .ok (.iload_n 1, 1) := by decide +kernel
theorem dX4_note_73 : decode cX4_note 73 = .ok (.putfield 21, 3) := by decide +kernel
theorem dX4_note_76 : decode cX4_note 76 = .ok (.goto 22, 3) := by decide +kernel
theorem dX4_note_79 : decode cX4_note 79 = .ok (.aload_n 0, 1) := by decide +kernel
theorem dX4_note_80 : decode cX4_note 80 = .ok (.iload_n 1, 1) := by decide +kernel
theorem dX4_note_81 : decode cX4_note 81 = .ok (.bipush 65, 2) := by decide +kernel
theorem dX4_note_83 : decode cX4_note 83 = .ok (.isub, 1) := by decide +kernel
theorem dX4_note_84 : decode cX4_note 84 = .ok (.putfield 25, 3) := by decide +kernel
theorem dX4_note_87 : decode cX4_note 87 = .ok (.goto 11, 3) := by decide +kernel
theorem dX4_note_90 : decode cX4_note 90 = .ok (.aload_n 0, 1) := by decide +kernel
theorem dX4_note_91 : decode cX4_note 91 = .ok (.iload_n 1, 1) := by decide +kernel
theorem dX4_note_92 : decode cX4_note 92 = .ok (.invokevirtual 79, 3) := by decide +kernel
theorem dX4_note_95 : decode cX4_note 95 = .ok (.goto 3, 3) := by decide +kernel
theorem dX4_note_98 : decode cX4_note 98 = .ok (.return_, 1) := by decide +kernel
set_option maxRecDepth 20000 in
theorem ggX4_noteSource_X4_isLetter : GoodIn wsX4_noteSource wsX4_isLetter := goodIn_r _ [6] rfl (by decide +kernel)
set_option maxRecDepth 20000 in
theorem gX4_noteSource_X4_isLetter : GoodIn wsX4_noteSource (va_wsS RX4 56 yX4_isLetter wsX4_isLetter) := goodIn_app (goodIn_of _ (by decide +kernel)) ggX4_noteSource_X4_isLetter
theorem dX4_noteSource_0 : decode cX4_noteSource 0 = .ok (.iload_n 1, 1) := by decide +kernel
theorem dX4_noteSource_1 : decode cX4_noteSource 1 = .ok (.invokestatic 56, 3) := by decide +kernel
theorem dX4_noteSource_4 : decode cX4_noteSource 4 = .ok (.ifCond .eq 14, 3) := by decide +kernel
theorem dX4_noteSource_7 : decode cX4_noteSource 7 = .ok (.aload_n 0, 1) := by decide +kernel
theorem dX4_noteSource_8 : decode cX4_noteSource 8 = .ok (.iload_n 1, 1) := by decide +kernel
theorem dX4_noteSource_9 : decode cX4_noteSource 9 = .ok (.bipush 65, 2) := by decide +kernel
theorem dX4_noteSource_11 : decode cX4_noteSource 11 = .ok (.isub, 1) := by decide +kernel
theorem dX4_noteSource_12 : decode cX4_noteSource 12 = .ok (.putfield 18, 3) := by decide +kernel
theorem dX4_noteSource_15 : decode cX4_noteSource 15 = .ok (.goto 8, 3) := by decide +kernel
theorem dX4_noteSource_18 : decode cX4_noteSource 18 = .ok (.aload_n 0, 1) := by decide +kernel
theorem dX4_noteSource_19 : decode cX4_noteSource 19 = .ok (.iload_n 1, 1) := by decide +kernel
theorem dX4_noteSource_20 : decode cX4_noteSource 20 = .ok (.putfield 21, 3) := by decide +kernel
theorem dX4_noteSource_23 : decode cX4_noteSource 23 = .ok (.return_, 1) := by decide +kernel
set_option maxRecDepth 20000 in
theorem ggX4_noteNumber_X4_withDigit : GoodIn wsX4_noteNumber wsX4_withDigit := goodIn_r _ [7, 2, 8, 9, 10, 11, 12, 13, 14] rfl (by decide +kernel)
set_option maxRecDepth 20000 in
theorem gX4_noteNumber_X4_withDigit : GoodIn wsX4_noteNumber (wsV RX4 69 RX4 yX4_withDigit wsX4_withDigit) := goodIn_app (goodIn_of _ (by decide +kernel)) ggX4_noteNumber_X4_withDigit
theorem dX4_noteNumber_0 : decode cX4_noteNumber 0 = .ok (.iload_n 1, 1) := by decide +kernel
theorem dX4_noteNumber_1 : decode cX4_noteNumber 1 = .ok (.bipush 45, 2) := by decide +kernel
theorem dX4_noteNumber_3 : decode cX4_noteNumber 3 = .ok (.if_icmp .ne 11, 3) := by decide +kernel
theorem dX4_noteNumber_6 : decode cX4_noteNumber 6 = .ok (.aload_n 0, 1) := by decide +kernel
theorem dX4_noteNumber_7 : decode cX4_noteNumber 7 = .ok (.iconst 1, 1) := by decide +kernel
theorem dX4_noteNumber_8 : decode cX4_noteNumber 8 = .ok (.putfield 28, 3) := by decide +kernel
theorem dX4_noteNumber_11 : decode cX4_noteNumber 11 = .ok (.goto 12, 3) := by decide +kernel
theorem dX4_noteNumber_14 : decode cX4_noteNumber 14 = .ok (.aload_n 0, 1) := by decide +kernel
theorem dX4_noteNumber_15 : decode cX4_noteNumber 15 = .ok (.aload_n 0, 1) := by decide +kernel
theorem dX4_noteNumber_16 : decode cX4_noteNumber 16 = .ok (.iload_n 1, 1) := by decide +kernel
theorem dX4_noteNumber_17 : decode cX4_noteNumber 17 = .ok (.invokevirtual 69, 3) := by decide +kernel
theorem dX4_noteNumber_20 : decode cX4_noteNumber 20 = .ok (.putfield 32, 3) := by decide +kernel
theorem dX4_noteNumber_23 : decode cX4_noteNumber 23 = .ok (.return_, 1) := by decide +kernel
theorem dX4_withDigit_0 : decode cX4_withDigit 0 = .ok (.aload_n 0, 1) := by decide +kernel
theorem dX4_withDigit_1 : decode cX4_withDigit 1 = .ok (.getfield 32, 3) := by decide +kernel
theorem dX4_withDigit_4 : decode cX4_withDigit 4 = .ok (.bipush 10, 2) := by decide +kernel
theorem dX4_withDigit_6 : decode cX4_withDigit 6 = .ok (.imul, 1) := by decide +kernel
theorem dX4_withDigit_7 : decode cX4_withDigit 7 = .ok (.iload_n 1, 1) := by decide +kernel
theorem dX4_withDigit_8 : decode cX4_withDigit 8 = .ok (.bipush 48, 2) := by decide +kernel
theorem dX4_withDigit_10 : decode cX4_withDigit 10 = .ok (.isub, 1) := by decide +kernel
theorem dX4_withDigit_11 : decode cX4_withDigit 11 = .ok (.iadd, 1) := by decide +kernel
theorem dX4_withDigit_12 : decode cX4_withDigit 12 = .ok (.ireturn, 1) := by decide +kernel
theorem dX4_greatestSize_0 : decode cX4_greatestSize 0 = .ok (.aload_n 0, 1) := by decide +kernel
theorem dX4_greatestSize_1 : decode cX4_greatestSize 1 = .ok (.getfield 28, 3) := by decide +kernel
theorem dX4_greatestSize_4 : decode cX4_greatestSize 4 = .ok (.ifCond .eq 8, 3) := by decide +kernel
theorem dX4_greatestSize_7 : decode cX4_greatestSize 7 = .ok (.ldc 82, 2) := by decide +kernel
theorem dX4_greatestSize_9 : decode cX4_greatestSize 9 = .ok (.goto 6, 3) := by decide +kernel
theorem dX4_greatestSize_12 : decode cX4_greatestSize 12 = .ok (.sipush 32767, 3) := by decide +kernel
theorem dX4_greatestSize_15 : decode cX4_greatestSize 15 = .ok (.ireturn, 1) := by decide +kernel
theorem dX4_isLetter_0 : decode cX4_isLetter 0 = .ok (.iload_n 0, 1) := by decide +kernel
theorem dX4_isLetter_1 : decode cX4_isLetter 1 = .ok (.bipush 65, 2) := by decide +kernel
theorem dX4_isLetter_3 : decode cX4_isLetter 3 = .ok (.if_icmp .lt 13, 3) := by decide +kernel
theorem dX4_isLetter_6 : decode cX4_isLetter 6 = .ok (.iload_n 0, 1) := by decide +kernel
theorem dX4_isLetter_7 : decode cX4_isLetter 7 = .ok (.bipush 70, 2) := by decide +kernel
theorem dX4_isLetter_9 : decode cX4_isLetter 9 = .ok (.if_icmp .gt 7, 3) := by decide +kernel
theorem dX4_isLetter_12 : decode cX4_isLetter 12 = .ok (.iconst 1, 1) := by decide +kernel
theorem dX4_isLetter_13 : decode cX4_isLetter 13 = .ok (.goto 4, 3) := by decide +kernel
theorem dX4_isLetter_16 : decode cX4_isLetter 16 = .ok (.iconst 0, 1) := by decide +kernel
theorem dX4_isLetter_17 : decode cX4_isLetter 17 = .ok (.ireturn, 1) := by decide +kernel
theorem dX4_isDigit_0 : decode cX4_isDigit 0 = .ok (.iload_n 0, 1) := by decide +kernel
theorem dX4_isDigit_1 : decode cX4_isDigit 1 = .ok (.bipush 48, 2) := by decide +kernel
theorem dX4_isDigit_3 : decode cX4_isDigit 3 = .ok (.if_icmp .lt 13, 3) := by decide +kernel
theorem dX4_isDigit_6 : decode cX4_isDigit 6 = .ok (.iload_n 0, 1) := by decide +kernel
theorem dX4_isDigit_7 : decode cX4_isDigit 7 = .ok (.bipush 57, 2) := by decide +kernel
theorem dX4_isDigit_9 : decode cX4_isDigit 9 = .ok (.if_icmp .gt 7, 3) := by decide +kernel
theorem dX4_isDigit_12 : decode cX4_isDigit 12 = .ok (.iconst 1, 1) := by decide +kernel
theorem dX4_isDigit_13 : decode cX4_isDigit 13 = .ok (.goto 4, 3) := by decide +kernel
theorem dX4_isDigit_16 : decode cX4_isDigit 16 = .ok (.iconst 0, 1) := by decide +kernel
theorem dX4_isDigit_17 : decode cX4_isDigit 17 = .ok (.ireturn, 1) := by decide +kernel
set_option maxRecDepth 20000 in
theorem ggX5_init_X3_init : GoodIn wsX5_init wsX3_init := goodIn_r _ [19, 20, 2, 3, 21, 22, 23, 24, 25, 26, 27, 28, 29, 30, 31, 32, 33, 52, 53, 54, 55, 56, 71, 72, 73, 74, 75, 76, 77] rfl (by decide +kernel)
set_option maxRecDepth 20000 in
theorem gX5_init_X3_init_n9 : GoodIn wsX5_init (wsX3_init) := ggX5_init_X3_init
set_option maxRecDepth 20000 in
theorem ggX5_init_X0_init : GoodIn wsX5_init wsX0_init := goodIn_r _ [35, 36, 2, 3, 37, 5, 6, 38, 18, 19, 20, 21, 22, 23, 24, 25, 26, 27, 28, 29, 30, 31, 32, 33, 52, 53, 54, 55, 56, 63, 64, 65, 71, 72, 73, 74, 75, 76, 77] rfl (by decide +kernel)
set_option maxRecDepth 20000 in
theorem gX5_init_X0_init_n18 : GoodIn wsX5_init (wsX0_init) := ggX5_init_X0_init
set_option maxRecDepth 20000 in
theorem ggX5_init_X2_init : GoodIn wsX5_init wsX2_init := goodIn_r _ [40, 41, 2, 3, 42, 43, 44, 45, 46, 47, 48, 49, 50, 51, 66, 67, 68, 69, 70, 78, 79, 80, 81, 82, 83, 84] rfl (by decide +kernel)
set_option maxRecDepth 20000 in
theorem gX5_init_X2_init_n28 : GoodIn wsX5_init (wsX2_init) := ggX5_init_X2_init
theorem dX5_init_0 : decode cX5_init 0 = .ok (.aload_n 0, 1) := by decide +kernel
theorem dX5_init_1 : decode cX5_init 1 = .ok (.invokespecial 1, 3) := by decide +kernel
theorem dX5_init_4 : decode cX5_init 4 = .ok (.aload_n 0, 1) := by decide +kernel
theorem dX5_init_5 : decode cX5_init 5 = .ok (.new 7, 3) := by decide +kernel
theorem dX5_init_8 : decode cX5_init 8 = .ok (.dup, 1) := by decide +kernel
theorem dX5_init_9 : decode cX5_init 9 = .ok (.invokespecial 9, 3) := by decide +kernel
theorem dX5_init_12 : decode cX5_init 12 = .ok (.putfield 10, 3) := by decide +kernel
theorem dX5_init_15 : decode cX5_init 15 = .ok (.aload_n 0, 1) := by decide +kernel
theorem dX5_init_16 : decode cX5_init 16 = .ok (.new 16, 3) := by decide +kernel
theorem dX5_init_19 : decode cX5_init 19 = .ok (.dup, 1) := by decide +kernel
theorem dX5_init_20 : decode cX5_init 20 = .ok (.invokespecial 18, 3) := by decide +kernel
theorem dX5_init_23 : decode cX5_init 23 = .ok (.putfield 19, 3) := by decide +kernel
theorem dX5_init_26 : decode cX5_init 26 = .ok (.aload_n 0, 1) := by decide +kernel
theorem dX5_init_27 : decode cX5_init 27 = .ok (.new 7, 3) := by decide +kernel
theorem dX5_init_30 : decode cX5_init 30 = .ok (.dup, 1) := by decide +kernel
theorem dX5_init_31 : decode cX5_init 31 = .ok (.invokespecial 9, 3) := by decide +kernel
theorem dX5_init_34 : decode cX5_init 34 = .ok (.putfield 23, 3) := by decide +kernel
theorem dX5_init_37 : decode cX5_init 37 = .ok (.aload_n 0, 1) := by decide +kernel
theorem dX5_init_38 : decode cX5_init 38 = .ok (.new 26, 3) := by decide +kernel
theorem dX5_init_41 : decode cX5_init 41 = .ok (.dup, 1) := by decide +kernel
theorem dX5_init_42 : decode cX5_init 42 = .ok (.invokespecial 28, 3) := by decide +kernel
theorem dX5_init_45 : decode cX5_init 45 = .ok (.putfield 29, 3) := by decide +kernel
theorem dX5_init_48 : decode cX5_init 48 = .ok (.aload_n 0, 1) := by decide +kernel
theorem dX5_init_49 : decode cX5_init 49 = .ok (.new 7, 3) := by decide +kernel
theorem dX5_init_52 : decode cX5_init 52 = .ok (.dup, 1) := by decide +kernel
theorem dX5_init_53 : decode cX5_init 53 = .ok (.invokespecial 9, 3) := by decide +kernel
theorem dX5_init_56 : decode cX5_init 56 = .ok (.putfield 33, 3) := by decide +kernel
theorem dX5_init_59 : decode cX5_init 59 = .ok (.return_, 1) := by decide +kernel
set_option maxRecDepth 20000 in
theorem ggX5_setWidth_X0_record : GoodIn wsX5_setWidth wsX0_record := goodIn_r _ [10, 11, 12, 13, 14, 15, 16, 17, 18, 19, 9, 20, 21, 22, 23, 24, 25, 26, 27, 28, 29, 30, 31, 32, 33, 34, 35, 36, 37, 38, 39, 40, 41, 42, 43, 44, 45, 46, 47, 71, 72, 73, 66, 67, 68, 69, 70, 74, 75, 76, 77, 78, 79, 80] rfl (by decide +kernel)
set_option maxRecDepth 20000 in
theorem gX5_setWidth_X0_record : GoodIn wsX5_setWidth (wsV RX5 43 RX0 yX0_record wsX0_record) := goodIn_app (goodIn_of _ (by decide +kernel)) ggX5_setWidth_X0_record
set_option maxRecDepth 20000 in
theorem ggX5_setWidth_X3_changeWidth : GoodIn wsX5_setWidth wsX3_changeWidth := goodIn_r _ [51, 33, 31, 32, 52, 53, 54, 29, 55, 56, 57, 58, 39, 59, 41, 66, 67, 68, 69, 70, 74, 75, 76, 77, 78, 79, 80] rfl (by decide +kernel)
set_option maxRecDepth 20000 in
theorem gX5_setWidth_X3_changeWidth : GoodIn wsX5_setWidth (wsV RX5 51 RX3 yX3_changeWidth wsX3_changeWidth) := goodIn_app (goodIn_of _ (by decide +kernel)) ggX5_setWidth_X3_changeWidth
theorem dX5_setWidth_0 : decode cX5_setWidth 0 = .ok (.iload_n 1, 1) := by decide +kernel
theorem dX5_setWidth_1 : decode cX5_setWidth 1 = .ok (.iconst 4, 1) := by decide +kernel
theorem dX5_setWidth_2 : decode cX5_setWidth 2 = .ok (.if_icmp .lt 9, 3) := by decide +kernel
theorem dX5_setWidth_5 : decode cX5_setWidth 5 = .ok (.iload_n 1, 1) := by decide +kernel
theorem dX5_setWidth_6 : decode cX5_setWidth 6 = .ok (.bipush 16, 2) := by decide +kernel
theorem dX5_setWidth_8 : decode cX5_setWidth 8 = .ok (.if_icmp .le 13, 3) := by decide +kernel
theorem dX5_setWidth_11 : decode cX5_setWidth 11 = .ok (.new 36, 3) := by decide +kernel
theorem dX5_setWidth_14 : decode cX5_setWidth 14 = .ok (.dup, 1) := by decide +kernel
theorem dX5_setWidth_15 : decode cX5_setWidth 15 = .ok (.ldc 38, 2) := by decide +kernel
theorem dX5_setWidth_17 : decode cX5_setWidth 17 = .ok (.invokespecial 40, 3) := by decide +kernel
theorem dX5_setWidth_20 : decode cX5_setWidth 20 = .ok (.athrow, 1) := by decide +kernel
theorem dX5_setWidth_21 : decode cX5_setWidth 21 = .ok (.aload_n 0, 1) := by decide +kernel
theorem dX5_setWidth_22 : decode cX5_setWidth 22 = .ok (.getfield 19, 3) := by decide +kernel
theorem dX5_setWidth_25 : decode cX5_setWidth 25 = .ok (.aload_n 0, 1) := by decide +kernel
theorem dX5_setWidth_26 : decode cX5_setWidth 26 = .ok (.getfield 10, 3) := by decide +kernel
theorem dX5_setWidth_29 : decode cX5_setWidth 29 = .ok (.invokevirtual 43, 3) := by decide +kernel
theorem dX5_setWidth_32 : decode cX5_setWidth 32 = .ok (.aload_n 0, 1) := by decide +kernel
theorem dX5_setWidth_33 : decode cX5_setWidth 33 = .ok (.getfield 10, 3) := by decide +kernel
theorem dX5_setWidth_36 : decode cX5_setWidth 36 = .ok (.getfield 47, 3) := by decide +kernel
theorem dX5_setWidth_39 : decode cX5_setWidth 39 = .ok (.istore_n 2, 1) := by decide +kernel
theorem dX5_setWidth_40 : decode cX5_setWidth 40 = .ok (.aload_n 0, 1) := by decide +kernel
theorem dX5_setWidth_41 : decode cX5_setWidth 41 = .ok (.getfield 10, 3) := by decide +kernel
theorem dX5_setWidth_44 : decode cX5_setWidth 44 = .ok (.iload_n 1, 1) := by decide +kernel
theorem dX5_setWidth_45 : decode cX5_setWidth 45 = .ok (.invokevirtual 51, 3) := by decide +kernel
theorem dX5_setWidth_48 : decode cX5_setWidth 48 = .ok (.iload_n 2, 1) := by decide +kernel
theorem dX5_setWidth_49 : decode cX5_setWidth 49 = .ok (.ireturn, 1) := by decide +kernel
set_option maxRecDepth 20000 in
theorem ggX5_set_X5_checkRegister : GoodIn wsX5_set wsX5_checkRegister := goodIn_ca (goodIn_r _ [8, 9, 10, 11, 12, 7, 13] rfl (by decide +kernel)) (goodIn_sub (fun _ h => List.mem_cons_of_mem _ (List.mem_append_right _ h)) (by decide +kernel))
set_option maxRecDepth 20000 in
theorem gX5_set_X5_checkRegister : GoodIn wsX5_set (va_wsS RX5 55 yX5_checkRegister wsX5_checkRegister) := goodIn_app (goodIn_of _ (by decide +kernel)) ggX5_set_X5_checkRegister
set_option maxRecDepth 20000 in
theorem ggX5_set_X3_isValue : GoodIn wsX5_set wsX3_isValue := goodIn_r _ [18, 19, 20, 21, 17, 22, 23, 78, 79, 80, 81, 82] rfl (by decide +kernel)
set_option maxRecDepth 20000 in
theorem gX5_set_X3_isValue : GoodIn wsX5_set (wsV RX5 58 RX3 yX3_isValue wsX3_isValue) := goodIn_app (goodIn_of _ (by decide +kernel)) ggX5_set_X3_isValue
set_option maxRecDepth 20000 in
theorem ggX5_set_X0_record : GoodIn wsX5_set wsX0_record := goodIn_r _ [28, 29, 30, 31, 32, 33, 34, 35, 36, 37, 27, 38, 39, 40, 41, 42, 43, 44, 45, 46, 17, 47, 48, 49, 23, 50, 51, 52, 53, 54, 55, 56, 57, 58, 59, 60, 61, 62, 63, 83, 84, 85, 78, 79, 80, 81, 82, 86, 87, 88, 89, 90, 91, 92] rfl (by decide +kernel)
set_option maxRecDepth 20000 in
theorem gX5_set_X0_record : GoodIn wsX5_set (wsV RX5 43 RX0 yX0_record wsX0_record) := goodIn_app (goodIn_of _ (by decide +kernel)) ggX5_set_X0_record
set_option maxRecDepth 20000 in
theorem ggX5_set_X3_valueIn : GoodIn wsX5_set wsX3_valueIn := goodIn_r _ [67, 48, 12, 7, 13, 78, 79, 80, 81, 82] rfl (by decide +kernel)
set_option maxRecDepth 20000 in
theorem gX5_set_X3_valueIn : GoodIn wsX5_set (wsV RX5 64 RX3 yX3_valueIn wsX3_valueIn) := goodIn_app (goodIn_of _ (by decide +kernel)) ggX5_set_X3_valueIn
set_option maxRecDepth 20000 in
theorem ggX5_set_X3_put : GoodIn wsX5_set wsX3_put := goodIn_r _ [71, 50, 48, 19, 20, 21, 17, 22, 23, 12, 7, 13, 78, 79, 80, 81, 82] rfl (by decide +kernel)
set_option maxRecDepth 20000 in
theorem gX5_set_X3_put : GoodIn wsX5_set (wsV RX5 68 RX3 yX3_put wsX3_put) := goodIn_app (goodIn_of _ (by decide +kernel)) ggX5_set_X3_put
theorem dX5_set_0 : decode cX5_set 0 = .ok (.iload_n 1, 1) := by decide +kernel
theorem dX5_set_1 : decode cX5_set 1 = .ok (.invokestatic 55, 3) := by decide +kernel
theorem dX5_set_4 : decode cX5_set 4 = .ok (.aload_n 0, 1) := by decide +kernel
theorem dX5_set_5 : decode cX5_set 5 = .ok (.getfield 10, 3) := by decide +kernel
theorem dX5_set_8 : decode cX5_set 8 = .ok (.iload_n 2, 1) := by decide +kernel
theorem dX5_set_9 : decode cX5_set 9 = .ok (.invokevirtual 58, 3) := by decide +kernel
theorem dX5_set_12 : decode cX5_set 12 = .ok (.ifCond .ne 13, 3) := by decide +kernel
theorem dX5_set_15 : decode cX5_set 15 = .ok (.new 36, 3) := by decide +kernel
theorem dX5_set_18 : decode cX5_set 18 = .ok (.dup, 1) := by decide +kernel
theorem dX5_set_19 : decode cX5_set 19 = .ok (.ldc 62, 2) := by decide +kernel
theorem dX5_set_21 : decode cX5_set 21 = .ok (.invokespecial 40, 3) := by decide +kernel
theorem dX5_set_24 : decode cX5_set 24 = .ok (.athrow, 1) := by decide +kernel
theorem dX5_set_25 : decode cX5_set 25 = .ok (.aload_n 0, 1) := by decide +kernel
theorem dX5_set_26 : decode cX5_set 26 = .ok (.getfield 19, 3) := by decide +kernel
theorem dX5_set_29 : decode cX5_set 29 = .ok (.aload_n 0, 1) := by decide +kernel
theorem dX5_set_30 : decode cX5_set 30 = .ok (.getfield 10, 3) := by decide +kernel
theorem dX5_set_33 : decode cX5_set 33 = .ok (.invokevirtual 43, 3) := by decide +kernel
theorem dX5_set_36 : decode cX5_set 36 = .ok (.aload_n 0, 1) := by decide +kernel
theorem dX5_set_37 : decode cX5_set 37 = .ok (.getfield 10, 3) := by decide +kernel
theorem dX5_set_40 : decode cX5_set 40 = .ok (.iload_n 1, 1) := by decide +kernel
theorem dX5_set_41 : decode cX5_set 41 = .ok (.invokevirtual 64, 3) := by decide +kernel
theorem dX5_set_44 : decode cX5_set 44 = .ok (.istore_n 3, 1) := by decide +kernel
theorem dX5_set_45 : decode cX5_set 45 = .ok (.aload_n 0, 1) := by decide +kernel
theorem dX5_set_46 : decode cX5_set 46 = .ok (.getfield 10, 3) := by decide +kernel
theorem dX5_set_49 : decode cX5_set 49 = .ok (.iload_n 1, 1) := by decide +kernel
theorem dX5_set_50 : decode cX5_set 50 = .ok (.iload_n 2, 1) := by decide +kernel
theorem dX5_set_51 : decode cX5_set 51 = .ok (.invokevirtual 68, 3) := by decide +kernel
theorem dX5_set_54 : decode cX5_set 54 = .ok (.pop, 1) := by decide +kernel
theorem dX5_set_55 : decode cX5_set 55 = .ok (.iload_n 3, 1) := by decide +kernel
theorem dX5_set_56 : decode cX5_set 56 = .ok (.ireturn, 1) := by decide +kernel
set_option maxRecDepth 20000 in
theorem ggX5_begin_X5_checkRegister : GoodIn wsX5_begin wsX5_checkRegister := goodIn_ca (goodIn_r _ [11, 12, 13, 14, 15, 10, 16] rfl (by decide +kernel)) (goodIn_sub (fun _ h => List.mem_cons_of_mem _ (List.mem_append_left _ (List.mem_append_right _ h))) (by decide +kernel))
set_option maxRecDepth 20000 in
theorem gX5_begin_X5_checkRegister : GoodIn wsX5_begin (va_wsS RX5 55 yX5_checkRegister wsX5_checkRegister) := goodIn_app (goodIn_of _ (by decide +kernel)) ggX5_begin_X5_checkRegister
set_option maxRecDepth 20000 in
theorem ggX5_begin_X5_checkRecodingSuitsWidth : GoodIn wsX5_begin wsX5_checkRecodingSuitsWidth := goodIn_ca (goodIn_r _ [20, 21, 22, 4, 6, 82, 83, 84, 85, 86, 87, 88, 89, 90, 91, 92] rfl (by decide +kernel)) (goodIn_sub (fun _ h => List.mem_cons_of_mem _ (List.mem_append_right _ h)) (by decide +kernel))
set_option maxRecDepth 20000 in
theorem gX5_begin_X5_checkRecodingSuitsWidth : GoodIn wsX5_begin (wsV RX5 74 RX5 yX5_checkRecodingSuitsWidth wsX5_checkRecodingSuitsWidth) := goodIn_app (goodIn_of _ (by decide +kernel)) ggX5_begin_X5_checkRecodingSuitsWidth
set_option maxRecDepth 20000 in
theorem ggX5_begin_X0_record : GoodIn wsX5_begin wsX0_record := goodIn_r _ [27, 28, 29, 30, 31, 32, 33, 34, 35, 36, 26, 37, 38, 39, 40, 41, 42, 43, 44, 45, 46, 47, 48, 49, 50, 51, 52, 53, 54, 55, 56, 57, 58, 59, 60, 61, 62, 63, 64, 100, 101, 102, 88, 89, 90, 91, 92, 93, 94, 95, 96, 97, 98, 99] rfl (by decide +kernel)
set_option maxRecDepth 20000 in
theorem gX5_begin_X0_record : GoodIn wsX5_begin (wsV RX5 43 RX0 yX0_record wsX0_record) := goodIn_app (goodIn_of _ (by decide +kernel)) ggX5_begin_X0_record
set_option maxRecDepth 20000 in
theorem ggX5_begin_X3_valueIn : GoodIn wsX5_begin wsX3_valueIn := goodIn_r _ [68, 48, 15, 10, 16, 88, 89, 90, 91, 92] rfl (by decide +kernel)
set_option maxRecDepth 20000 in
theorem gX5_begin_X3_valueIn : GoodIn wsX5_begin (wsV RX5 64 RX3 yX3_valueIn wsX3_valueIn) := goodIn_app (goodIn_of _ (by decide +kernel)) ggX5_begin_X3_valueIn
set_option maxRecDepth 20000 in
theorem ggX5_begin_X3_bitsIn : GoodIn wsX5_begin wsX3_bitsIn := goodIn_r _ [72, 50, 73, 66, 67, 46, 68, 48, 15, 10, 16, 88, 89, 90, 91, 92] rfl (by decide +kernel)
set_option maxRecDepth 20000 in
theorem gX5_begin_X3_bitsIn : GoodIn wsX5_begin (wsV RX5 81 RX3 yX3_bitsIn wsX3_bitsIn) := goodIn_app (goodIn_of _ (by decide +kernel)) ggX5_begin_X3_bitsIn
set_option maxRecDepth 20000 in
theorem ggX5_begin_X1_start : GoodIn wsX5_begin wsX1_start := goodIn_r _ [77, 58, 59, 60, 61, 62, 63, 64, 78, 10, 79, 80, 81, 93, 94, 95, 96, 97, 98, 99] rfl (by decide +kernel)
set_option maxRecDepth 20000 in
theorem gX5_begin_X1_start : GoodIn wsX5_begin (wsV RX5 84 RX1 yX1_start wsX1_start) := goodIn_app (goodIn_of _ (by decide +kernel)) ggX5_begin_X1_start
theorem dX5_begin_0 : decode cX5_begin 0 = .ok (.iload_n 1, 1) := by decide +kernel
theorem dX5_begin_1 : decode cX5_begin 1 = .ok (.invokestatic 55, 3) := by decide +kernel
theorem dX5_begin_4 : decode cX5_begin 4 = .ok (.iload_n 2, 1) := by decide +kernel
theorem dX5_begin_5 : decode cX5_begin 5 = .ok (.invokestatic 55, 3) := by decide +kernel
theorem dX5_begin_8 : decode cX5_begin 8 = .ok (.iload_n 3, 1) := by decide +kernel
theorem dX5_begin_9 : decode cX5_begin 9 = .ok (.ifCond .eq 18, 3) := by decide +kernel
theorem dX5_begin_12 : decode cX5_begin 12 = .ok (.iload_n 3, 1) := by decide +kernel
theorem dX5_begin_13 : decode cX5_begin 13 = .ok (.iconst 1, 1) := by decide +kernel
theorem dX5_begin_14 : decode cX5_begin 14 = .ok (.if_icmp .eq 13, 3) := by decide +kernel
theorem dX5_begin_17 : decode cX5_begin 17 = .ok (.new 36, 3) := by decide +kernel
theorem dX5_begin_20 : decode cX5_begin 20 = .ok (.dup, 1) := by decide +kernel
theorem dX5_begin_21 : decode cX5_begin 21 = .ok (.ldc 72, 2) := by decide +kernel
theorem dX5_begin_23 : decode cX5_begin 23 = .ok (.invokespecial 40, 3) := by decide +kernel
theorem dX5_begin_26 : decode cX5_begin 26 = .ok (.athrow, 1) := by decide +kernel
theorem dX5_begin_27 : decode cX5_begin 27 = .ok (.aload_n 0, 1) := by decide +kernel
theorem dX5_begin_28 : decode cX5_begin 28 = .ok (.iload_n 3, 1) := by decide +kernel
theorem dX5_begin_29 : decode cX5_begin 29 = .ok (.invokevirtual 74, 3) := by decide +kernel
theorem dX5_begin_32 : decode cX5_begin 32 = .ok (.aload_n 0, 1) := by decide +kernel
theorem dX5_begin_33 : decode cX5_begin 33 = .ok (.getfield 19, 3) := by decide +kernel
theorem dX5_begin_36 : decode cX5_begin 36 = .ok (.aload_n 0, 1) := by decide +kernel
theorem dX5_begin_37 : decode cX5_begin 37 = .ok (.getfield 10, 3) := by decide +kernel
theorem dX5_begin_40 : decode cX5_begin 40 = .ok (.invokevirtual 43, 3) := by decide +kernel
theorem dX5_begin_43 : decode cX5_begin 43 = .ok (.aload_n 0, 1) := by decide +kernel
theorem dX5_begin_44 : decode cX5_begin 44 = .ok (.getfield 10, 3) := by decide +kernel
theorem dX5_begin_47 : decode cX5_begin 47 = .ok (.getfield 77, 3) := by decide +kernel
theorem dX5_begin_50 : decode cX5_begin 50 = .ok (.aload_n 0, 1) := by decide +kernel
theorem dX5_begin_51 : decode cX5_begin 51 = .ok (.getfield 10, 3) := by decide +kernel
theorem dX5_begin_54 : decode cX5_begin 54 = .ok (.iload_n 1, 1) := by decide +kernel
theorem dX5_begin_55 : decode cX5_begin 55 = .ok (.invokevirtual 64, 3) := by decide +kernel
theorem dX5_begin_58 : decode cX5_begin 58 = .ok (.aload_n 0, 1) := by decide +kernel
theorem dX5_begin_59 : decode cX5_begin 59 = .ok (.getfield 10, 3) := by decide +kernel
theorem dX5_begin_62 : decode cX5_begin 62 = .ok (.iload_n 2, 1) := by decide +kernel
theorem dX5_begin_63 : decode cX5_begin 63 = .ok (.invokevirtual 81, 3) := by decide +kernel
theorem dX5_begin_66 : decode cX5_begin 66 = .ok (.iload_n 3, 1) := by decide +kernel
theorem dX5_begin_67 : decode cX5_begin 67 = .ok (.aload_n 0, 1) := by decide +kernel
theorem dX5_begin_68 : decode cX5_begin 68 = .ok (.getfield 10, 3) := by decide +kernel
theorem dX5_begin_71 : decode cX5_begin 71 = .ok (.getfield 47, 3) := by decide +kernel
theorem dX5_begin_74 : decode cX5_begin 74 = .ok (.invokevirtual 84, 3) := by decide +kernel
theorem dX5_begin_77 : decode cX5_begin 77 = .ok (.aload_n 0, 1) := by decide +kernel
theorem dX5_begin_78 : decode cX5_begin 78 = .ok (.getfield 10, 3) := by decide +kernel
theorem dX5_begin_81 : decode cX5_begin 81 = .ok (.getfield 77, 3) := by decide +kernel
theorem dX5_begin_84 : decode cX5_begin 84 = .ok (.getfield 90, 3) := by decide +kernel
theorem dX5_begin_87 : decode cX5_begin 87 = .ok (.ireturn, 1) := by decide +kernel
set_option maxRecDepth 20000 in
theorem ggX5_step_X0_record : GoodIn wsX5_step wsX0_record := goodIn_r _ [11, 12, 13, 14, 15, 16, 17, 18, 19, 20, 10, 21, 22, 23, 24, 25, 26, 27, 28, 29, 30, 31, 32, 33, 34, 35, 36, 37, 38, 39, 40, 41, 42, 43, 44, 45, 46, 47, 48, 82, 83, 84, 70, 71, 72, 73, 74, 75, 76, 77, 78, 79, 80, 81] rfl (by decide +kernel)
set_option maxRecDepth 20000 in
theorem gX5_step_X0_record : GoodIn wsX5_step (wsV RX5 43 RX0 yX0_record wsX0_record) := goodIn_app (goodIn_of _ (by decide +kernel)) ggX5_step_X0_record
set_option maxRecDepth 20000 in
theorem ggX5_step_X3_makeStep : GoodIn wsX5_step wsX3_makeStep := goodIn_r _ [52, 36, 33, 53, 54, 55, 40, 56, 46, 45, 47, 43, 48, 44, 42, 57, 58, 59, 60, 61, 62, 63, 70, 71, 72, 73, 74, 75, 76, 77, 78, 79, 80, 81] rfl (by decide +kernel)
set_option maxRecDepth 20000 in
theorem gX5_step_X3_makeStep : GoodIn wsX5_step (wsV RX5 98 RX3 yX3_makeStep wsX3_makeStep) := goodIn_app (goodIn_of _ (by decide +kernel)) ggX5_step_X3_makeStep
theorem dX5_step_0 : decode cX5_step 0 = .ok (.aload_n 0, 1) := by decide +kernel
theorem dX5_step_1 : decode cX5_step 1 = .ok (.getfield 10, 3) := by decide +kernel
theorem dX5_step_4 : decode cX5_step 4 = .ok (.getfield 77, 3) := by decide +kernel
theorem dX5_step_7 : decode cX5_step 7 = .ok (.getfield 90, 3) := by decide +kernel
theorem dX5_step_10 : decode cX5_step 10 = .ok (.ifCond .gt 13, 3) := by decide +kernel
theorem dX5_step_13 : decode cX5_step 13 = .ok (.new 93, 3) := by decide +kernel
theorem dX5_step_16 : decode cX5_step 16 = .ok (.dup, 1) := by decide +kernel
theorem dX5_step_17 : decode cX5_step 17 = .ok (.ldc 95, 2) := by decide +kernel
theorem dX5_step_19 : decode cX5_step 19 = .ok (.invokespecial 97, 3) := by decide +kernel
theorem dX5_step_22 : decode cX5_step 22 = .ok (.athrow, 1) := by decide +kernel
theorem dX5_step_23 : decode cX5_step 23 = .ok (.aload_n 0, 1) := by decide +kernel
theorem dX5_step_24 : decode cX5_step 24 = .ok (.getfield 19, 3) := by decide +kernel
theorem dX5_step_27 : decode cX5_step 27 = .ok (.aload_n 0, 1) := by decide +kernel
theorem dX5_step_28 : decode cX5_step 28 = .ok (.getfield 10, 3) := by decide +kernel
theorem dX5_step_31 : decode cX5_step 31 = .ok (.invokevirtual 43, 3) := by decide +kernel
theorem dX5_step_34 : decode cX5_step 34 = .ok (.aload_n 0, 1) := by decide +kernel
theorem dX5_step_35 : decode cX5_step 35 = .ok (.getfield 10, 3) := by decide +kernel
theorem dX5_step_38 : decode cX5_step 38 = .ok (.invokevirtual 98, 3) := by decide +kernel
theorem dX5_step_41 : decode cX5_step 41 = .ok (.ireturn, 1) := by decide +kernel
set_option maxRecDepth 20000 in
theorem ggX5_finish_X5_checkMultiplying : GoodIn wsX5_finish wsX5_checkMultiplying := goodIn_ca (goodIn_r _ [9, 10, 11, 2, 3, 4, 68, 69, 70, 71, 72, 73, 74, 75, 76, 77, 78, 79, 80, 81, 82, 83, 84, 85] rfl (by decide +kernel)) (goodIn_sub (fun _ h => List.mem_cons_of_mem _ (List.mem_append_right _ h)) (by decide +kernel))
set_option maxRecDepth 20000 in
theorem gX5_finish_X5_checkMultiplying : GoodIn wsX5_finish (wsV RX5 102 RX5 yX5_checkMultiplying wsX5_checkMultiplying) := goodIn_app (goodIn_of _ (by decide +kernel)) ggX5_finish_X5_checkMultiplying
set_option maxRecDepth 20000 in
theorem ggX5_finish_X0_record : GoodIn wsX5_finish wsX0_record := goodIn_r _ [16, 17, 18, 19, 20, 21, 22, 23, 24, 25, 15, 26, 27, 28, 29, 30, 31, 32, 33, 34, 35, 36, 37, 38, 39, 40, 41, 42, 43, 44, 45, 46, 47, 48, 49, 50, 51, 52, 53, 86, 87, 88, 74, 75, 76, 77, 78, 79, 80, 81, 82, 83, 84, 85] rfl (by decide +kernel)
set_option maxRecDepth 20000 in
theorem gX5_finish_X0_record : GoodIn wsX5_finish (wsV RX5 43 RX0 yX0_record wsX0_record) := goodIn_app (goodIn_of _ (by decide +kernel)) ggX5_finish_X0_record
set_option maxRecDepth 20000 in
theorem ggX5_finish_X3_makeStep : GoodIn wsX5_finish wsX3_makeStep := goodIn_r _ [57, 41, 38, 58, 59, 60, 45, 61, 51, 50, 52, 48, 53, 49, 47, 62, 63, 64, 65, 66, 8, 67, 74, 75, 76, 77, 78, 79, 80, 81, 82, 83, 84, 85] rfl (by decide +kernel)
set_option maxRecDepth 20000 in
theorem gX5_finish_X3_makeStep : GoodIn wsX5_finish (wsV RX5 98 RX3 yX3_makeStep wsX3_makeStep) := goodIn_app (goodIn_of _ (by decide +kernel)) ggX5_finish_X3_makeStep
theorem dX5_finish_0 : decode cX5_finish 0 = .ok (.aload_n 0, 1) := by decide +kernel
theorem dX5_finish_1 : decode cX5_finish 1 = .ok (.invokevirtual 102, 3) := by decide +kernel
theorem dX5_finish_4 : decode cX5_finish 4 = .ok (.aload_n 0, 1) := by decide +kernel
theorem dX5_finish_5 : decode cX5_finish 5 = .ok (.getfield 19, 3) := by decide +kernel
theorem dX5_finish_8 : decode cX5_finish 8 = .ok (.aload_n 0, 1) := by decide +kernel
theorem dX5_finish_9 : decode cX5_finish 9 = .ok (.getfield 10, 3) := by decide +kernel
theorem dX5_finish_12 : decode cX5_finish 12 = .ok (.invokevirtual 43, 3) := by decide +kernel
theorem dX5_finish_15 : decode cX5_finish 15 = .ok (.iconst 0, 1) := by decide +kernel
theorem dX5_finish_16 : decode cX5_finish 16 = .ok (.istore_n 1, 1) := by decide +kernel
theorem dX5_finish_17 : decode cX5_finish 17 = .ok (.aload_n 0, 1) := by decide +kernel
theorem dX5_finish_18 : decode cX5_finish 18 = .ok (.getfield 10, 3) := by decide +kernel
theorem dX5_finish_21 : decode cX5_finish 21 = .ok (.getfield 77, 3) := by decide +kernel
theorem dX5_finish_24 : decode cX5_finish 24 = .ok (.getfield 90, 3) := by decide +kernel
theorem dX5_finish_27 : decode cX5_finish 27 = .ok (.istore_n 2, 1) := by decide +kernel
theorem dX5_finish_28 : decode cX5_finish 28 = .ok (.iload_n 2, 1) := by decide +kernel
theorem dX5_finish_29 : decode cX5_finish 29 = .ok (.ifCond .le 22, 3) := by decide +kernel
theorem dX5_finish_32 : decode cX5_finish 32 = .ok (.aload_n 0, 1) := by decide +kernel
theorem dX5_finish_33 : decode cX5_finish 33 = .ok (.getfield 10, 3) := by decide +kernel
theorem dX5_finish_36 : decode cX5_finish 36 = .ok (.invokevirtual 98, 3) := by decide +kernel
theorem dX5_finish_39 : decode cX5_finish 39 = .ok (.ifCond .eq 6, 3) := by decide +kernel
theorem dX5_finish_42 : decode cX5_finish 42 = .ok (.iinc 1 1, 3) := by decide +kernel
theorem dX5_finish_45 : decode cX5_finish 45 = .ok (.iinc 2 (-1), 3) := by decide +kernel
theorem dX5_finish_48 : decode cX5_finish 48 = .ok (.goto (-20), 3) := by decide +kernel
theorem dX5_finish_51 : decode cX5_finish 51 = .ok (.iload_n 1, 1) := by decide +kernel
theorem dX5_finish_52 : decode cX5_finish 52 = .ok (.ireturn, 1) := by decide +kernel
set_option maxRecDepth 20000 in
theorem ggX5_store_X5_checkRegister : GoodIn wsX5_store wsX5_checkRegister := goodIn_ca (goodIn_r _ [10, 11, 12, 13, 14, 9, 15] rfl (by decide +kernel)) (goodIn_sub (fun _ h => List.mem_cons_of_mem _ (List.mem_append_right _ h)) (by decide +kernel))
set_option maxRecDepth 20000 in
theorem gX5_store_X5_checkRegister : GoodIn wsX5_store (va_wsS RX5 55 yX5_checkRegister wsX5_checkRegister) := goodIn_app (goodIn_of _ (by decide +kernel)) ggX5_store_X5_checkRegister
set_option maxRecDepth 20000 in
theorem ggX5_store_X0_record : GoodIn wsX5_store wsX0_record := goodIn_r _ [20, 21, 22, 23, 24, 25, 26, 27, 28, 29, 19, 30, 31, 32, 33, 34, 35, 36, 37, 38, 39, 40, 41, 42, 43, 44, 45, 46, 47, 48, 49, 50, 51, 52, 53, 54, 55, 56, 57, 88, 89, 90, 76, 77, 78, 79, 80, 81, 82, 83, 84, 85, 86, 87] rfl (by decide +kernel)
set_option maxRecDepth 20000 in
theorem gX5_store_X0_record : GoodIn wsX5_store (wsV RX5 43 RX0 yX0_record wsX0_record) := goodIn_app (goodIn_of _ (by decide +kernel)) ggX5_store_X0_record
set_option maxRecDepth 20000 in
theorem ggX5_store_X1_product : GoodIn wsX5_store wsX1_product := goodIn_r _ [61, 55, 53, 56, 81, 82, 83, 84, 85, 86, 87] rfl (by decide +kernel)
set_option maxRecDepth 20000 in
theorem gX5_store_X1_product : GoodIn wsX5_store (wsV RX5 107 RX1 yX1_product wsX1_product) := goodIn_app (goodIn_of _ (by decide +kernel)) ggX5_store_X1_product
set_option maxRecDepth 20000 in
theorem ggX5_store_X3_put : GoodIn wsX5_store wsX3_put := goodIn_r _ [65, 44, 41, 66, 67, 68, 39, 69, 43, 14, 9, 15, 76, 77, 78, 79, 80] rfl (by decide +kernel)
set_option maxRecDepth 20000 in
theorem gX5_store_X3_put : GoodIn wsX5_store (wsV RX5 68 RX3 yX3_put wsX3_put) := goodIn_app (goodIn_of _ (by decide +kernel)) ggX5_store_X3_put
theorem dX5_store_0 : decode cX5_store 0 = .ok (.iload_n 1, 1) := by decide +kernel
theorem dX5_store_1 : decode cX5_store 1 = .ok (.invokestatic 55, 3) := by decide +kernel
theorem dX5_store_4 : decode cX5_store 4 = .ok (.aload_n 0, 1) := by decide +kernel
theorem dX5_store_5 : decode cX5_store 5 = .ok (.getfield 10, 3) := by decide +kernel
theorem dX5_store_8 : decode cX5_store 8 = .ok (.getfield 77, 3) := by decide +kernel
theorem dX5_store_11 : decode cX5_store 11 = .ok (.getfield 90, 3) := by decide +kernel
theorem dX5_store_14 : decode cX5_store 14 = .ok (.ifCond .eq 13, 3) := by decide +kernel
theorem dX5_store_17 : decode cX5_store 17 = .ok (.new 93, 3) := by decide +kernel
theorem dX5_store_20 : decode cX5_store 20 = .ok (.dup, 1) := by decide +kernel
theorem dX5_store_21 : decode cX5_store 21 = .ok (.ldc 105, 2) := by decide +kernel
theorem dX5_store_23 : decode cX5_store 23 = .ok (.invokespecial 97, 3) := by decide +kernel
theorem dX5_store_26 : decode cX5_store 26 = .ok (.athrow, 1) := by decide +kernel
theorem dX5_store_27 : decode cX5_store 27 = .ok (.aload_n 0, 1) := by decide +kernel
theorem dX5_store_28 : decode cX5_store 28 = .ok (.getfield 19, 3) := by decide +kernel
theorem dX5_store_31 : decode cX5_store 31 = .ok (.aload_n 0, 1) := by decide +kernel
theorem dX5_store_32 : decode cX5_store 32 = .ok (.getfield 10, 3) := by decide +kernel
theorem dX5_store_35 : decode cX5_store 35 = .ok (.invokevirtual 43, 3) := by decide +kernel
theorem dX5_store_38 : decode cX5_store 38 = .ok (.aload_n 0, 1) := by decide +kernel
theorem dX5_store_39 : decode cX5_store 39 = .ok (.getfield 10, 3) := by decide +kernel
theorem dX5_store_42 : decode cX5_store 42 = .ok (.iload_n 1, 1) := by decide +kernel
theorem dX5_store_43 : decode cX5_store 43 = .ok (.aload_n 0, 1) := by decide +kernel
theorem dX5_store_44 : decode cX5_store 44 = .ok (.getfield 10, 3) := by decide +kernel
theorem dX5_store_47 : decode cX5_store 47 = .ok (.getfield 77, 3) := by decide +kernel
theorem dX5_store_50 : decode cX5_store 50 = .ok (.invokevirtual 107, 3) := by decide +kernel
theorem dX5_store_53 : decode cX5_store 53 = .ok (.invokevirtual 68, 3) := by decide +kernel
theorem dX5_store_56 : decode cX5_store 56 = .ok (.ireturn, 1) := by decide +kernel
set_option maxRecDepth 20000 in
theorem ggX5_programError_X2_firstError : GoodIn wsX5_programError wsX2_firstError := goodIn_r _ [6, 7, 8, 9, 10, 11, 12, 13, 14, 15, 16, 17, 18, 19, 20, 21, 22, 23, 24, 25, 26, 27, 28, 29, 30, 31, 32, 33, 34, 35, 36, 37, 38, 39, 40, 41, 42, 43, 44, 45, 46, 47, 48, 49, 50, 51, 52, 53, 54, 55, 56, 57, 58, 59, 60, 61, 62, 63, 64, 65, 66, 67, 68, 69, 70, 71, 72, 79, 80, 81, 82, 83, 84, 85, 86, 87, 88, 89, 90] rfl (by decide +kernel)
set_option maxRecDepth 20000 in
theorem gX5_programError_X2_firstError : GoodIn wsX5_programError (wsV RX5 123 RX2 yX2_firstError wsX2_firstError) := goodIn_app (goodIn_of _ (by decide +kernel)) ggX5_programError_X2_firstError
theorem dX5_programError_0 : decode cX5_programError 0 = .ok (.aload_n 0, 1) := by decide +kernel
theorem dX5_programError_1 : decode cX5_programError 1 = .ok (.getfield 29, 3) := by decide +kernel
theorem dX5_programError_4 : decode cX5_programError 4 = .ok (.invokevirtual 123, 3) := by decide +kernel
theorem dX5_programError_7 : decode cX5_programError 7 = .ok (.ireturn, 1) := by decide +kernel
set_option maxRecDepth 20000 in
theorem ggX5_undo_X0_takeLatestInto : GoodIn wsX5_undo wsX0_takeLatestInto := goodIn_r _ [10, 11, 12, 13, 14, 15, 9, 16, 17, 18, 19, 20, 21, 22, 23, 24, 25, 26, 27, 28, 29, 30, 31, 32, 33, 34, 35, 36, 37, 38, 39, 40, 41, 42, 43, 50, 51, 52, 53, 54, 55, 56, 57, 58, 59, 60, 61, 62, 63, 64] rfl (by decide +kernel)
set_option maxRecDepth 20000 in
theorem gX5_undo_X0_takeLatestInto : GoodIn wsX5_undo (wsV RX5 146 RX0 yX0_takeLatestInto wsX0_takeLatestInto) := goodIn_app (goodIn_of _ (by decide +kernel)) ggX5_undo_X0_takeLatestInto
theorem dX5_undo_0 : decode cX5_undo 0 = .ok (.aload_n 0, 1) := by decide +kernel
theorem dX5_undo_1 : decode cX5_undo 1 = .ok (.getfield 19, 3) := by decide +kernel
theorem dX5_undo_4 : decode cX5_undo 4 = .ok (.getfield 141, 3) := by decide +kernel
theorem dX5_undo_7 : decode cX5_undo 7 = .ok (.ifCond .gt 13, 3) := by decide +kernel
theorem dX5_undo_10 : decode cX5_undo 10 = .ok (.new 93, 3) := by decide +kernel
theorem dX5_undo_13 : decode cX5_undo 13 = .ok (.dup, 1) := by decide +kernel
theorem dX5_undo_14 : decode cX5_undo 14 = .ok (.ldc 144, 2) := by decide +kernel
theorem dX5_undo_16 : decode cX5_undo 16 = .ok (.invokespecial 97, 3) := by decide +kernel
theorem dX5_undo_19 : decode cX5_undo 19 = .ok (.athrow, 1) := by decide +kernel
theorem dX5_undo_20 : decode cX5_undo 20 = .ok (.aload_n 0, 1) := by decide +kernel
theorem dX5_undo_21 : decode cX5_undo 21 = .ok (.getfield 19, 3) := by decide +kernel
theorem dX5_undo_24 : decode cX5_undo 24 = .ok (.aload_n 0, 1) := by decide +kernel
theorem dX5_undo_25 : decode cX5_undo 25 = .ok (.getfield 10, 3) := by decide +kernel
theorem dX5_undo_28 : decode cX5_undo 28 = .ok (.invokevirtual 146, 3) := by decide +kernel
theorem dX5_undo_31 : decode cX5_undo 31 = .ok (.aload_n 0, 1) := by decide +kernel
theorem dX5_undo_32 : decode cX5_undo 32 = .ok (.getfield 19, 3) := by decide +kernel
theorem dX5_undo_35 : decode cX5_undo 35 = .ok (.getfield 141, 3) := by decide +kernel
theorem dX5_undo_38 : decode cX5_undo 38 = .ok (.ireturn, 1) := by decide +kernel
theorem dX5_width_0 : decode cX5_width 0 = .ok (.aload_n 0, 1) := by decide +kernel
theorem dX5_width_1 : decode cX5_width 1 = .ok (.getfield 10, 3) := by decide +kernel
theorem dX5_width_4 : decode cX5_width 4 = .ok (.getfield 47, 3) := by decide +kernel
theorem dX5_width_7 : decode cX5_width 7 = .ok (.ireturn, 1) := by decide +kernel
set_option maxRecDepth 20000 in
theorem ggX5_valueOf_X5_checkRegister : GoodIn wsX5_valueOf wsX5_checkRegister := goodIn_ca (goodIn_r _ [5, 6, 7, 8, 9, 4, 10] rfl (by decide +kernel)) (goodIn_sub (fun _ h => List.mem_cons_of_mem _ (List.mem_append_right _ h)) (by decide +kernel))
set_option maxRecDepth 20000 in
theorem gX5_valueOf_X5_checkRegister : GoodIn wsX5_valueOf (va_wsS RX5 55 yX5_checkRegister wsX5_checkRegister) := goodIn_app (goodIn_of _ (by decide +kernel)) ggX5_valueOf_X5_checkRegister
set_option maxRecDepth 20000 in
theorem ggX5_valueOf_X3_valueIn : GoodIn wsX5_valueOf wsX3_valueIn := goodIn_r _ [15, 16, 9, 4, 10, 23, 24, 25, 26, 27] rfl (by decide +kernel)
set_option maxRecDepth 20000 in
theorem gX5_valueOf_X3_valueIn : GoodIn wsX5_valueOf (wsV RX5 64 RX3 yX3_valueIn wsX3_valueIn) := goodIn_app (goodIn_of _ (by decide +kernel)) ggX5_valueOf_X3_valueIn
