set_option maxRecDepth 20000 in
theorem ggX2_init_X1_init : GoodIn wsX2_init wsX1_init := goodIn_r _ [10, 11, 2, 3, 12, 13, 14, 15, 16, 17, 18, 22, 23, 24, 25, 26, 27, 28, 29, 30, 31, 32, 33, 34, 35, 36, 37] (by decide +kernel) (by decide +kernel)
set_option maxRecDepth 20000 in
theorem gX2_init_X1_init : GoodIn wsX2_init (wsX1_init) := ggX2_init_X1_init
theorem dX2_init_0 : decode cX2_init 0 = .ok (.aload_n 0, 1) := by decide +kernel
theorem dX2_init_1 : decode cX2_init 1 = .ok (.invokespecial 3, 3) := by decide +kernel
theorem dX2_init_4 : decode cX2_init 4 = .ok (.aload_n 0, 1) := by decide +kernel
theorem dX2_init_5 : decode cX2_init 5 = .ok (.bipush 7, 2) := by decide +kernel
theorem dX2_init_7 : decode cX2_init 7 = .ok (.anewarray 11, 3) := by decide +kernel
theorem dX2_init_10 : decode cX2_init 10 = .ok (.putfield 13, 3) := by decide +kernel
theorem dX2_init_13 : decode cX2_init 13 = .ok (.iconst 0, 1) := by decide +kernel
theorem dX2_init_14 : decode cX2_init 14 = .ok (.istore_n 1, 1) := by decide +kernel
theorem dX2_init_15 : decode cX2_init 15 = .ok (.iload_n 1, 1) := by decide +kernel
theorem dX2_init_16 : decode cX2_init 16 = .ok (.bipush 7, 2) := by decide +kernel
theorem dX2_init_18 : decode cX2_init 18 = .ok (.if_icmp .ge 22, 3) := by decide +kernel
theorem dX2_init_21 : decode cX2_init 21 = .ok (.aload_n 0, 1) := by decide +kernel
theorem dX2_init_22 : decode cX2_init 22 = .ok (.getfield 13, 3) := by decide +kernel
theorem dX2_init_25 : decode cX2_init 25 = .ok (.iload_n 1, 1) := by decide +kernel
theorem dX2_init_26 : decode cX2_init 26 = .ok (.new 11, 3) := by decide +kernel
theorem dX2_init_29 : decode cX2_init 29 = .ok (.dup, 1) := by decide +kernel
theorem dX2_init_30 : decode cX2_init 30 = .ok (.invokespecial 17, 3) := by decide +kernel
theorem dX2_init_33 : decode cX2_init 33 = .ok (.aastore, 1) := by decide +kernel
theorem dX2_init_34 : decode cX2_init 34 = .ok (.iinc 1 1, 3) := by decide +kernel
theorem dX2_init_37 : decode cX2_init 37 = .ok (.goto (-22), 3) := by decide +kernel
theorem dX2_init_40 : decode cX2_init 40 = .ok (.return_, 1) := by decide +kernel
theorem dX2_nextRow_0 : decode cX2_nextRow 0 = .ok (.aload_n 0, 1) := by decide +kernel
theorem dX2_nextRow_1 : decode cX2_nextRow 1 = .ok (.getfield 18, 3) := by decide +kernel
theorem dX2_nextRow_4 : decode cX2_nextRow 4 = .ok (.ifCond .lt 24, 3) := by decide +kernel
theorem dX2_nextRow_7 : decode cX2_nextRow 7 = .ok (.aload_n 0, 1) := by decide +kernel
theorem dX2_nextRow_8 : decode cX2_nextRow 8 = .ok (.getfield 18, 3) := by decide +kernel
theorem dX2_nextRow_11 : decode cX2_nextRow 11 = .ok (.bipush 7, 2) := by decide +kernel
theorem dX2_nextRow_13 : decode cX2_nextRow 13 = .ok (.if_icmp .ge 15, 3) := by decide +kernel
theorem dX2_nextRow_16 : decode cX2_nextRow 16 = .ok (.aload_n 0, 1) := by decide +kernel
theorem dX2_nextRow_17 : decode cX2_nextRow 17 = .ok (.getfield 13, 3) := by decide +kernel
theorem dX2_nextRow_20 : decode cX2_nextRow 20 = .ok (.aload_n 0, 1) := by decide +kernel
theorem dX2_nextRow_21 : decode cX2_nextRow 21 = .ok (.getfield 18, 3) := by decide +kernel
theorem dX2_nextRow_24 : decode cX2_nextRow 24 = .ok (.aaload, 1) := by decide +kernel
theorem dX2_nextRow_25 : decode cX2_nextRow 25 = .ok (.goto 4, 3) := by decide +kernel
theorem dX2_nextRow_28 : decode cX2_nextRow 28 = .ok (.aconst_null, 1) := by decide +kernel
theorem dX2_nextRow_29 : decode cX2_nextRow 29 = .ok (.areturn, 1) := by decide +kernel
set_option maxRecDepth 20000 in
theorem ggX2_prepare_X2_nextRow : GoodIn wsX2_prepare wsX2_nextRow := goodIn_r _ [5, 6, 7, 32, 33, 34] (by decide +kernel) (by decide +kernel)
set_option maxRecDepth 20000 in
theorem gX2_prepare_X2_nextRow : GoodIn wsX2_prepare (wsV RX2 22 RX2 yX2_nextRow wsX2_nextRow) := goodIn_app (goodIn_of _ (by decide +kernel)) ggX2_prepare_X2_nextRow
set_option maxRecDepth 20000 in
theorem ggX2_prepare_X1_copy : GoodIn wsX2_prepare wsX1_copy := goodIn_r _ [11, 12, 13, 14, 15, 16, 17, 18, 19, 20, 21, 22, 23, 24, 25, 26, 27, 28, 29, 30, 31, 35, 36, 37, 38, 39, 40, 41, 42, 43, 44, 45, 46, 47, 48, 49, 50] (by decide +kernel) (by decide +kernel)
set_option maxRecDepth 20000 in
theorem gX2_prepare_X1_copy : GoodIn wsX2_prepare (va_wsS RX2 26 yX1_copy wsX1_copy) := goodIn_app (goodIn_of _ (by decide +kernel)) ggX2_prepare_X1_copy
theorem dX2_prepare_0 : decode cX2_prepare 0 = .ok (.aload_n 1, 1) := by decide +kernel
theorem dX2_prepare_1 : decode cX2_prepare 1 = .ok (.aload_n 0, 1) := by decide +kernel
theorem dX2_prepare_2 : decode cX2_prepare 2 = .ok (.invokevirtual 22, 3) := by decide +kernel
theorem dX2_prepare_5 : decode cX2_prepare 5 = .ok (.invokestatic 26, 3) := by decide +kernel
theorem dX2_prepare_8 : decode cX2_prepare 8 = .ok (.return_, 1) := by decide +kernel
theorem dX2_keepUnlessError_0 : decode cX2_keepUnlessError 0 = .ok (.iload_n 1, 1) := by decide +kernel
theorem dX2_keepUnlessError_1 : decode cX2_keepUnlessError 1 = .ok (.ifCond .lt 31, 3) := by decide +kernel
theorem dX2_keepUnlessError_4 : decode cX2_keepUnlessError 4 = .ok (.aload_n 0, 1) := by decide +kernel
theorem dX2_keepUnlessError_5 : decode cX2_keepUnlessError 5 = .ok (.aload_n 0, 1) := by decide +kernel
theorem dX2_keepUnlessError_6 : decode cX2_keepUnlessError 6 = .ok (.getfield 18, 3) := by decide +kernel
theorem dX2_keepUnlessError_9 : decode cX2_keepUnlessError 9 = .ok (.iconst 1, 1) := by decide +kernel
theorem dX2_keepUnlessError_10 : decode cX2_keepUnlessError 10 = .ok (.iadd, 1) := by decide +kernel
theorem dX2_keepUnlessError_11 : decode cX2_keepUnlessError 11 = .ok (.bipush 7, 2) := by decide +kernel
theorem dX2_keepUnlessError_13 : decode cX2_keepUnlessError 13 = .ok (.irem, 1) := by decide +kernel
theorem dX2_keepUnlessError_14 : decode cX2_keepUnlessError 14 = .ok (.putfield 18, 3) := by decide +kernel
theorem dX2_keepUnlessError_17 : decode cX2_keepUnlessError 17 = .ok (.aload_n 0, 1) := by decide +kernel
theorem dX2_keepUnlessError_18 : decode cX2_keepUnlessError 18 = .ok (.aload_n 0, 1) := by decide +kernel
theorem dX2_keepUnlessError_19 : decode cX2_keepUnlessError 19 = .ok (.getfield 30, 3) := by decide +kernel
theorem dX2_keepUnlessError_22 : decode cX2_keepUnlessError 22 = .ok (.iconst 1, 1) := by decide +kernel
theorem dX2_keepUnlessError_23 : decode cX2_keepUnlessError 23 = .ok (.iadd, 1) := by decide +kernel
theorem dX2_keepUnlessError_24 : decode cX2_keepUnlessError 24 = .ok (.bipush 6, 2) := by decide +kernel
theorem dX2_keepUnlessError_26 : decode cX2_keepUnlessError 26 = .ok (.invokestatic 33, 3) := by decide +kernel
theorem dX2_keepUnlessError_29 : decode cX2_keepUnlessError 29 = .ok (.putfield 30, 3) := by decide +kernel
theorem dX2_keepUnlessError_32 : decode cX2_keepUnlessError 32 = .ok (.iload_n 1, 1) := by decide +kernel
theorem dX2_keepUnlessError_33 : decode cX2_keepUnlessError 33 = .ok (.ireturn, 1) := by decide +kernel
set_option maxRecDepth 20000 in
theorem ggX2_takeBack_X2_nextRow : GoodIn wsX2_takeBack wsX2_nextRow := goodIn_r _ [7, 2, 8, 33, 34, 35] (by decide +kernel) (by decide +kernel)
set_option maxRecDepth 20000 in
theorem gX2_takeBack_X2_nextRow : GoodIn wsX2_takeBack (wsV RX2 22 RX2 yX2_nextRow wsX2_nextRow) := goodIn_app (goodIn_of _ (by decide +kernel)) ggX2_takeBack_X2_nextRow
set_option maxRecDepth 20000 in
theorem ggX2_takeBack_X1_copy : GoodIn wsX2_takeBack wsX1_copy := goodIn_r _ [12, 13, 14, 15, 16, 17, 18, 19, 20, 21, 22, 23, 24, 25, 26, 27, 28, 29, 30, 31, 32, 36, 37, 38, 39, 40, 41, 42, 43, 44, 45, 46, 47, 48, 49, 50, 51] (by decide +kernel) (by decide +kernel)
set_option maxRecDepth 20000 in
theorem gX2_takeBack_X1_copy : GoodIn wsX2_takeBack (va_wsS RX2 26 yX1_copy wsX1_copy) := goodIn_app (goodIn_of _ (by decide +kernel)) ggX2_takeBack_X1_copy
theorem dX2_takeBack_0 : decode cX2_takeBack 0 = .ok (.aload_n 0, 1) := by decide +kernel
theorem dX2_takeBack_1 : decode cX2_takeBack 1 = .ok (.getfield 30, 3) := by decide +kernel
theorem dX2_takeBack_4 : decode cX2_takeBack 4 = .ok (.ifCond .ne 6, 3) := by decide +kernel
theorem dX2_takeBack_7 : decode cX2_takeBack 7 = .ok (.bipush (-5), 2) := by decide +kernel
theorem dX2_takeBack_9 : decode cX2_takeBack 9 = .ok (.ireturn, 1) := by decide +kernel
theorem dX2_takeBack_10 : decode cX2_takeBack 10 = .ok (.aload_n 0, 1) := by decide +kernel
theorem dX2_takeBack_11 : decode cX2_takeBack 11 = .ok (.aload_n 0, 1) := by decide +kernel
theorem dX2_takeBack_12 : decode cX2_takeBack 12 = .ok (.getfield 18, 3) := by decide +kernel
theorem dX2_takeBack_15 : decode cX2_takeBack 15 = .ok (.bipush 7, 2) := by decide +kernel
theorem dX2_takeBack_17 : decode cX2_takeBack 17 = .ok (.iadd, 1) := by decide +kernel
theorem dX2_takeBack_18 : decode cX2_takeBack 18 = .ok (.iconst 1, 1) := by decide +kernel
theorem dX2_takeBack_19 : decode cX2_takeBack 19 = .ok (.isub, 1) := by decide +kernel
theorem dX2_takeBack_20 : decode cX2_takeBack 20 = .ok (.bipush 7, 2) := by decide +kernel
theorem dX2_takeBack_22 : decode cX2_takeBack 22 = .ok (.irem, 1) := by decide +kernel
theorem dX2_takeBack_23 : decode cX2_takeBack 23 = .ok (.putfield 18, 3) := by decide +kernel
theorem dX2_takeBack_26 : decode cX2_takeBack 26 = .ok (.aload_n 0, 1) := by decide +kernel
theorem dX2_takeBack_27 : decode cX2_takeBack 27 = .ok (.dup, 1) := by decide +kernel
theorem dX2_takeBack_28 : decode cX2_takeBack 28 = .ok (.getfield 30, 3) := by decide +kernel
theorem dX2_takeBack_31 : decode cX2_takeBack 31 = .ok (.iconst 1, 1) := by decide +kernel
theorem dX2_takeBack_32 : decode cX2_takeBack 32 = .ok (.isub, 1) := by decide +kernel
theorem dX2_takeBack_33 : decode cX2_takeBack 33 = .ok (.putfield 30, 3) := by decide +kernel
theorem dX2_takeBack_36 : decode cX2_takeBack 36 = .ok (.aload_n 0, 1) := by decide +kernel
theorem dX2_takeBack_37 : decode cX2_takeBack 37 = .ok (.invokevirtual 22, 3) := by decide +kernel
theorem dX2_takeBack_40 : decode cX2_takeBack 40 = .ok (.aload_n 1, 1) := by decide +kernel
theorem dX2_takeBack_41 : decode cX2_takeBack 41 = .ok (.invokestatic 26, 3) := by decide +kernel
theorem dX2_takeBack_44 : decode cX2_takeBack 44 = .ok (.aload_n 0, 1) := by decide +kernel
theorem dX2_takeBack_45 : decode cX2_takeBack 45 = .ok (.getfield 30, 3) := by decide +kernel
theorem dX2_takeBack_48 : decode cX2_takeBack 48 = .ok (.ireturn, 1) := by decide +kernel
theorem dX3_init_0 : decode cX3_init 0 = .ok (.aload_n 0, 1) := by decide +kernel
theorem dX3_init_1 : decode cX3_init 1 = .ok (.invokespecial 3, 3) := by decide +kernel
theorem dX3_init_4 : decode cX3_init 4 = .ok (.aload_n 0, 1) := by decide +kernel
theorem dX3_init_5 : decode cX3_init 5 = .ok (.bipush 80, 2) := by decide +kernel
theorem dX3_init_7 : decode cX3_init 7 = .ok (.newarray .char, 2) := by decide +kernel
theorem dX3_init_9 : decode cX3_init 9 = .ok (.putfield 9, 3) := by decide +kernel
theorem dX3_init_12 : decode cX3_init 12 = .ok (.return_, 1) := by decide +kernel
set_option maxRecDepth 20000 in
theorem ggX4_init_X1_init : GoodIn wsX4_init wsX1_init := goodIn_r _ [12, 13, 2, 3, 14, 15, 16, 17, 18, 19, 20, 23, 24, 25, 26, 27, 28, 29, 30, 31, 32, 33, 34, 35, 36, 37, 38] (by decide +kernel) (by decide +kernel)
set_option maxRecDepth 20000 in
theorem gX4_init_X1_init : GoodIn wsX4_init (wsX1_init) := ggX4_init_X1_init
theorem dX4_init_0 : decode cX4_init 0 = .ok (.aload_n 0, 1) := by decide +kernel
theorem dX4_init_1 : decode cX4_init 1 = .ok (.invokespecial 3, 3) := by decide +kernel
theorem dX4_init_4 : decode cX4_init 4 = .ok (.aload_n 0, 1) := by decide +kernel
theorem dX4_init_5 : decode cX4_init 5 = .ok (.iconst 2, 1) := by decide +kernel
theorem dX4_init_6 : decode cX4_init 6 = .ok (.anewarray 9, 3) := by decide +kernel
theorem dX4_init_9 : decode cX4_init 9 = .ok (.putfield 11, 3) := by decide +kernel
theorem dX4_init_12 : decode cX4_init 12 = .ok (.aload_n 0, 1) := by decide +kernel
theorem dX4_init_13 : decode cX4_init 13 = .ok (.iconst 2, 1) := by decide +kernel
theorem dX4_init_14 : decode cX4_init 14 = .ok (.newarray .boolean, 2) := by decide +kernel
theorem dX4_init_16 : decode cX4_init 16 = .ok (.putfield 17, 3) := by decide +kernel
theorem dX4_init_19 : decode cX4_init 19 = .ok (.iconst 0, 1) := by decide +kernel
theorem dX4_init_20 : decode cX4_init 20 = .ok (.istore_n 1, 1) := by decide +kernel
theorem dX4_init_21 : decode cX4_init 21 = .ok (.iload_n 1, 1) := by decide +kernel
theorem dX4_init_22 : decode cX4_init 22 = .ok (.iconst 2, 1) := by decide +kernel
theorem dX4_init_23 : decode cX4_init 23 = .ok (.if_icmp .ge 22, 3) := by decide +kernel
theorem dX4_init_26 : decode cX4_init 26 = .ok (.aload_n 0, 1) := by decide +kernel
theorem dX4_init_27 : decode cX4_init 27 = .ok (.getfield 11, 3) := by decide +kernel
theorem dX4_init_30 : decode cX4_init 30 = .ok (.iload_n 1, 1) := by decide +kernel
theorem dX4_init_31 : decode cX4_init 31 = .ok (.new 9, 3) := by decide +kernel
theorem dX4_init_34 : decode cX4_init 34 = .ok (.dup, 1) := by decide +kernel
theorem dX4_init_35 : decode cX4_init 35 = .ok (.invokespecial 21, 3) := by decide +kernel
theorem dX4_init_38 : decode cX4_init 38 = .ok (.aastore, 1) := by decide +kernel
theorem dX4_init_39 : decode cX4_init 39 = .ok (.iinc 1 1, 3) := by decide +kernel
theorem dX4_init_42 : decode cX4_init 42 = .ok (.goto (-21), 3) := by decide +kernel
theorem dX4_init_45 : decode cX4_init 45 = .ok (.return_, 1) := by decide +kernel
set_option maxRecDepth 20000 in
theorem ggX5_init_X1_init : GoodIn wsX5_init wsX1_init := goodIn_r _ [23, 24, 2, 3, 25, 26, 27, 28, 29, 30, 31, 54, 55, 56, 57, 58, 59, 60, 61, 62, 63, 64, 65, 66, 67, 68, 69] (by decide +kernel) (by decide +kernel)
set_option maxRecDepth 20000 in
theorem gX5_init_X1_init : GoodIn wsX5_init (wsX1_init) := ggX5_init_X1_init
set_option maxRecDepth 20000 in
theorem ggX5_init_X2_init : GoodIn wsX5_init wsX2_init := goodIn_r _ [34, 35, 2, 3, 36, 37, 5, 6, 38, 22, 23, 24, 25, 26, 27, 28, 29, 30, 31, 75, 76, 77, 54, 55, 56, 57, 58, 59, 60, 61, 62, 63, 64, 65, 66, 67, 68, 69] (by decide +kernel) (by decide +kernel)
set_option maxRecDepth 20000 in
theorem gX5_init_X2_init : GoodIn wsX5_init (wsX2_init) := ggX5_init_X2_init
set_option maxRecDepth 20000 in
theorem ggX5_init_X4_init : GoodIn wsX5_init wsX4_init := goodIn_r _ [41, 42, 2, 3, 43, 44, 45, 46, 5, 6, 47, 22, 23, 24, 25, 26, 27, 28, 29, 30, 31, 78, 79, 54, 55, 56, 57, 58, 59, 60, 61, 62, 63, 64, 65, 66, 67, 68, 69] (by decide +kernel) (by decide +kernel)
set_option maxRecDepth 20000 in
theorem gX5_init_X4_init : GoodIn wsX5_init (wsX4_init) := ggX5_init_X4_init
set_option maxRecDepth 20000 in
theorem ggX5_init_X3_init : GoodIn wsX5_init wsX3_init := goodIn_r _ [50, 51, 2, 3, 52, 53, 80, 81, 82, 83, 84, 85] (by decide +kernel) (by decide +kernel)
set_option maxRecDepth 20000 in
theorem gX5_init_X3_init : GoodIn wsX5_init (wsX3_init) := ggX5_init_X3_init
theorem dX5_init_0 : decode cX5_init 0 = .ok (.aload_n 0, 1) := by decide +kernel
theorem dX5_init_1 : decode cX5_init 1 = .ok (.invokespecial 1, 3) := by decide +kernel
theorem dX5_init_4 : decode cX5_init 4 = .ok (.aload_n 0, 1) := by decide +kernel
theorem dX5_init_5 : decode cX5_init 5 = .ok (.new 7, 3) := by decide +kernel
theorem dX5_init_8 : decode cX5_init 8 = .ok (.dup, 1) := by decide +kernel
theorem dX5_init_9 : decode cX5_init 9 = .ok (.invokespecial 9, 3) := by decide +kernel
theorem dX5_init_12 : decode cX5_init 12 = .ok (.putfield 10, 3) := by decide +kernel
theorem dX5_init_15 : decode cX5_init 15 = .ok (.aload_n 0, 1) := by decide +kernel
theorem dX5_init_16 : decode cX5_init 16 = .ok (.new 7, 3) := by decide +kernel
theorem dX5_init_19 : decode cX5_init 19 = .ok (.dup, 1) := by decide +kernel
theorem dX5_init_20 : decode cX5_init 20 = .ok (.invokespecial 9, 3) := by decide +kernel
theorem dX5_init_23 : decode cX5_init 23 = .ok (.putfield 16, 3) := by decide +kernel
theorem dX5_init_26 : decode cX5_init 26 = .ok (.aload_n 0, 1) := by decide +kernel
theorem dX5_init_27 : decode cX5_init 27 = .ok (.new 19, 3) := by decide +kernel
theorem dX5_init_30 : decode cX5_init 30 = .ok (.dup, 1) := by decide +kernel
theorem dX5_init_31 : decode cX5_init 31 = .ok (.invokespecial 21, 3) := by decide +kernel
theorem dX5_init_34 : decode cX5_init 34 = .ok (.putfield 22, 3) := by decide +kernel
theorem dX5_init_37 : decode cX5_init 37 = .ok (.aload_n 0, 1) := by decide +kernel
theorem dX5_init_38 : decode cX5_init 38 = .ok (.new 26, 3) := by decide +kernel
theorem dX5_init_41 : decode cX5_init 41 = .ok (.dup, 1) := by decide +kernel
theorem dX5_init_42 : decode cX5_init 42 = .ok (.invokespecial 28, 3) := by decide +kernel
theorem dX5_init_45 : decode cX5_init 45 = .ok (.putfield 29, 3) := by decide +kernel
theorem dX5_init_48 : decode cX5_init 48 = .ok (.aload_n 0, 1) := by decide +kernel
theorem dX5_init_49 : decode cX5_init 49 = .ok (.new 33, 3) := by decide +kernel
theorem dX5_init_52 : decode cX5_init 52 = .ok (.dup, 1) := by decide +kernel
theorem dX5_init_53 : decode cX5_init 53 = .ok (.invokespecial 35, 3) := by decide +kernel
theorem dX5_init_56 : decode cX5_init 56 = .ok (.putfield 36, 3) := by decide +kernel
theorem dX5_init_59 : decode cX5_init 59 = .ok (.return_, 1) := by decide +kernel
set_option maxRecDepth 20000 in
theorem ggX5_set_X2_prepare : GoodIn wsX5_set wsX2_prepare := goodIn_r _ [7, 8, 9, 10, 6, 11, 12, 13, 14, 15, 16, 17, 18, 19, 20, 21, 22, 23, 24, 25, 26, 27, 28, 29, 30, 31, 32, 33, 34, 35, 36, 37, 59, 60, 61, 62, 63, 64, 65, 66, 67, 68, 69, 70, 71, 72, 73, 74, 75, 76, 77] (by decide +kernel) (by decide +kernel)
set_option maxRecDepth 20000 in
theorem gX5_set_X2_prepare : GoodIn wsX5_set (wsV RX5 40 RX2 yX2_prepare wsX2_prepare) := goodIn_app (goodIn_of _ (by decide +kernel)) ggX5_set_X2_prepare
set_option maxRecDepth 20000 in
theorem ggX5_set_X1_adjust : GoodIn wsX5_set wsX1_adjust := goodIn_r _ [41, 18, 26, 25, 42, 43, 16, 44, 62, 63, 64, 65, 66, 67, 68, 69, 70, 71, 72, 73, 74, 75, 76, 77] (by decide +kernel) (by decide +kernel)
set_option maxRecDepth 20000 in
theorem gX5_set_X1_adjust : GoodIn wsX5_set (wsV RX5 44 RX1 yX1_adjust wsX1_adjust) := goodIn_app (goodIn_of _ (by decide +kernel)) ggX5_set_X1_adjust
set_option maxRecDepth 20000 in
theorem ggX5_set_X2_keepUnlessError : GoodIn wsX5_set wsX2_keepUnlessError := goodIn_r _ [48, 12, 49, 50, 51, 52, 53, 59, 60, 61] (by decide +kernel) (by decide +kernel)
set_option maxRecDepth 20000 in
theorem gX5_set_X2_keepUnlessError : GoodIn wsX5_set (wsV RX5 48 RX2 yX2_keepUnlessError wsX2_keepUnlessError) := goodIn_app (goodIn_of _ (by decide +kernel)) ggX5_set_X2_keepUnlessError
theorem dX5_set_0 : decode cX5_set 0 = .ok (.aload_n 0, 1) := by decide +kernel
theorem dX5_set_1 : decode cX5_set 1 = .ok (.getfield 22, 3) := by decide +kernel
theorem dX5_set_4 : decode cX5_set 4 = .ok (.aload_n 0, 1) := by decide +kernel
theorem dX5_set_5 : decode cX5_set 5 = .ok (.getfield 10, 3) := by decide +kernel
theorem dX5_set_8 : decode cX5_set 8 = .ok (.invokevirtual 40, 3) := by decide +kernel
theorem dX5_set_11 : decode cX5_set 11 = .ok (.aload_n 0, 1) := by decide +kernel
theorem dX5_set_12 : decode cX5_set 12 = .ok (.getfield 22, 3) := by decide +kernel
theorem dX5_set_15 : decode cX5_set 15 = .ok (.aload_n 0, 1) := by decide +kernel
theorem dX5_set_16 : decode cX5_set 16 = .ok (.getfield 10, 3) := by decide +kernel
theorem dX5_set_19 : decode cX5_set 19 = .ok (.iload_n 1, 1) := by decide +kernel
theorem dX5_set_20 : decode cX5_set 20 = .ok (.iload_n 2, 1) := by decide +kernel
theorem dX5_set_21 : decode cX5_set 21 = .ok (.invokevirtual 44, 3) := by decide +kernel
theorem dX5_set_24 : decode cX5_set 24 = .ok (.invokevirtual 48, 3) := by decide +kernel
theorem dX5_set_27 : decode cX5_set 27 = .ok (.ireturn, 1) := by decide +kernel
set_option maxRecDepth 20000 in
theorem ggX5_feed_X2_prepare : GoodIn wsX5_feed wsX2_prepare := goodIn_r _ [7, 8, 9, 10, 6, 11, 12, 13, 14, 15, 16, 17, 18, 19, 20, 21, 22, 23, 24, 25, 26, 27, 28, 29, 30, 31, 32, 33, 34, 35, 36, 37, 87, 88, 89, 90, 91, 92, 93, 94, 95, 96, 97, 98, 99, 100, 101, 102, 103, 104, 105] (by decide +kernel) (by decide +kernel)
set_option maxRecDepth 20000 in
theorem gX5_feed_X2_prepare : GoodIn wsX5_feed (wsV RX5 40 RX2 yX2_prepare wsX2_prepare) := goodIn_app (goodIn_of _ (by decide +kernel)) ggX5_feed_X2_prepare
set_option maxRecDepth 20000 in
theorem ggX5_feed_X1_pass : GoodIn wsX5_feed wsX1_pass := goodIn_r _ [41, 42, 24, 43, 44, 45, 16, 46, 29, 30, 28, 27, 34, 23, 47, 48, 49, 50, 51, 52, 53, 54, 55, 56, 57, 58, 18, 59, 60, 61, 62, 63, 64, 65, 32, 33, 25, 26, 31, 36, 37, 66, 67, 68, 69, 70, 71, 72, 35, 90, 91, 92, 93, 94, 95, 96, 97, 98, 99, 100, 101, 102, 103, 104, 105] (by decide +kernel) (by decide +kernel)
set_option maxRecDepth 20000 in
theorem gX5_feed_X1_pass : GoodIn wsX5_feed (wsV RX5 52 RX1 yX1_pass wsX1_pass) := goodIn_app (goodIn_of _ (by decide +kernel)) ggX5_feed_X1_pass
set_option maxRecDepth 20000 in
theorem ggX5_feed_X2_keepUnlessError : GoodIn wsX5_feed wsX2_keepUnlessError := goodIn_r _ [76, 12, 77, 78, 79, 80, 81, 87, 88, 89] (by decide +kernel) (by decide +kernel)
set_option maxRecDepth 20000 in
theorem gX5_feed_X2_keepUnlessError : GoodIn wsX5_feed (wsV RX5 48 RX2 yX2_keepUnlessError wsX2_keepUnlessError) := goodIn_app (goodIn_of _ (by decide +kernel)) ggX5_feed_X2_keepUnlessError
theorem dX5_feed_0 : decode cX5_feed 0 = .ok (.aload_n 0, 1) := by decide +kernel
theorem dX5_feed_1 : decode cX5_feed 1 = .ok (.getfield 22, 3) := by decide +kernel
theorem dX5_feed_4 : decode cX5_feed 4 = .ok (.aload_n 0, 1) := by decide +kernel
theorem dX5_feed_5 : decode cX5_feed 5 = .ok (.getfield 10, 3) := by decide +kernel
theorem dX5_feed_8 : decode cX5_feed 8 = .ok (.invokevirtual 40, 3) := by decide +kernel
theorem dX5_feed_11 : decode cX5_feed 11 = .ok (.aload_n 0, 1) := by decide +kernel
theorem dX5_feed_12 : decode cX5_feed 12 = .ok (.getfield 22, 3) := by decide +kernel
theorem dX5_feed_15 : decode cX5_feed 15 = .ok (.aload_n 0, 1) := by decide +kernel
theorem dX5_feed_16 : decode cX5_feed 16 = .ok (.getfield 10, 3) := by decide +kernel
theorem dX5_feed_19 : decode cX5_feed 19 = .ok (.iload_n 1, 1) := by decide +kernel
theorem dX5_feed_20 : decode cX5_feed 20 = .ok (.iload_n 2, 1) := by decide +kernel
theorem dX5_feed_21 : decode cX5_feed 21 = .ok (.iload_n 3, 1) := by decide +kernel
theorem dX5_feed_22 : decode cX5_feed 22 = .ok (.invokevirtual 52, 3) := by decide +kernel
theorem dX5_feed_25 : decode cX5_feed 25 = .ok (.invokevirtual 48, 3) := by decide +kernel
theorem dX5_feed_28 : decode cX5_feed 28 = .ok (.ireturn, 1) := by decide +kernel
set_option maxRecDepth 20000 in
theorem ggX5_turn_X2_prepare : GoodIn wsX5_turn wsX2_prepare := goodIn_r _ [7, 8, 9, 10, 6, 11, 12, 13, 14, 15, 16, 17, 18, 19, 20, 21, 22, 23, 24, 25, 26, 27, 28, 29, 30, 31, 32, 33, 34, 35, 36, 37, 93, 94, 95, 96, 97, 98, 99, 100, 101, 102, 103, 104, 105, 106, 107, 108, 109, 110, 111] (by decide +kernel) (by decide +kernel)
set_option maxRecDepth 20000 in
theorem gX5_turn_X2_prepare : GoodIn wsX5_turn (wsV RX5 40 RX2 yX2_prepare wsX2_prepare) := goodIn_app (goodIn_of _ (by decide +kernel)) ggX5_turn_X2_prepare
set_option maxRecDepth 20000 in
theorem ggX5_turn_X1_revolve : GoodIn wsX5_turn wsX1_revolve := goodIn_r _ [41, 42, 43, 44, 45, 46, 24, 27, 25, 47, 48, 49, 16, 50, 18, 51, 52, 53, 54, 55, 56, 57, 58, 59, 60, 29, 30, 28, 34, 23, 61, 62, 63, 64, 65, 66, 67, 68, 69, 70, 71, 72, 32, 33, 26, 31, 36, 37, 73, 74, 75, 76, 77, 78, 79, 35, 96, 97, 98, 99, 100, 101, 102, 103, 104, 105, 106, 107, 108, 109, 110, 111] (by decide +kernel) (by decide +kernel)
set_option maxRecDepth 20000 in
theorem gX5_turn_X1_revolve : GoodIn wsX5_turn (wsV RX5 56 RX1 yX1_revolve wsX1_revolve) := goodIn_app (goodIn_of _ (by decide +kernel)) ggX5_turn_X1_revolve
set_option maxRecDepth 20000 in
theorem ggX5_turn_X2_keepUnlessError : GoodIn wsX5_turn wsX2_keepUnlessError := goodIn_r _ [83, 12, 84, 85, 86, 44, 87, 93, 94, 95] (by decide +kernel) (by decide +kernel)
set_option maxRecDepth 20000 in
theorem gX5_turn_X2_keepUnlessError : GoodIn wsX5_turn (wsV RX5 48 RX2 yX2_keepUnlessError wsX2_keepUnlessError) := goodIn_app (goodIn_of _ (by decide +kernel)) ggX5_turn_X2_keepUnlessError
theorem dX5_turn_0 : decode cX5_turn 0 = .ok (.aload_n 0, 1) := by decide +kernel
theorem dX5_turn_1 : decode cX5_turn 1 = .ok (.getfield 22, 3) := by decide +kernel
theorem dX5_turn_4 : decode cX5_turn 4 = .ok (.aload_n 0, 1) := by decide +kernel
theorem dX5_turn_5 : decode cX5_turn 5 = .ok (.getfield 10, 3) := by decide +kernel
theorem dX5_turn_8 : decode cX5_turn 8 = .ok (.invokevirtual 40, 3) := by decide +kernel
theorem dX5_turn_11 : decode cX5_turn 11 = .ok (.aload_n 0, 1) := by decide +kernel
theorem dX5_turn_12 : decode cX5_turn 12 = .ok (.getfield 22, 3) := by decide +kernel
theorem dX5_turn_15 : decode cX5_turn 15 = .ok (.aload_n 0, 1) := by decide +kernel
theorem dX5_turn_16 : decode cX5_turn 16 = .ok (.getfield 10, 3) := by decide +kernel
theorem dX5_turn_19 : decode cX5_turn 19 = .ok (.iload_n 1, 1) := by decide +kernel
theorem dX5_turn_20 : decode cX5_turn 20 = .ok (.invokevirtual 56, 3) := by decide +kernel
theorem dX5_turn_23 : decode cX5_turn 23 = .ok (.invokevirtual 48, 3) := by decide +kernel
theorem dX5_turn_26 : decode cX5_turn 26 = .ok (.ireturn, 1) := by decide +kernel
set_option maxRecDepth 20000 in
theorem ggX5_zero_X2_prepare : GoodIn wsX5_zero wsX2_prepare := goodIn_r _ [7, 8, 9, 10, 6, 11, 12, 13, 14, 15, 16, 17, 18, 19, 20, 21, 22, 23, 24, 25, 26, 27, 28, 29, 30, 31, 32, 33, 34, 35, 36, 37, 56, 57, 58, 59, 60, 61, 62, 63, 64, 65, 66, 67, 68, 69, 70, 71, 72, 73, 74] (by decide +kernel) (by decide +kernel)
set_option maxRecDepth 20000 in
theorem gX5_zero_X2_prepare : GoodIn wsX5_zero (wsV RX5 40 RX2 yX2_prepare wsX2_prepare) := goodIn_app (goodIn_of _ (by decide +kernel)) ggX5_zero_X2_prepare
set_option maxRecDepth 20000 in
theorem ggX5_zero_X1_clear : GoodIn wsX5_zero wsX1_clear := goodIn_r _ [41, 25, 26, 59, 60, 61, 62, 63, 64, 65, 66, 67, 68, 69, 70, 71, 72, 73, 74] (by decide +kernel) (by decide +kernel)
set_option maxRecDepth 20000 in
theorem gX5_zero_X1_clear : GoodIn wsX5_zero (wsV RX5 59 RX1 yX1_clear wsX1_clear) := goodIn_app (goodIn_of _ (by decide +kernel)) ggX5_zero_X1_clear
set_option maxRecDepth 20000 in
theorem ggX5_zero_X2_keepUnlessError : GoodIn wsX5_zero wsX2_keepUnlessError := goodIn_r _ [45, 12, 46, 47, 48, 49, 50, 56, 57, 58] (by decide +kernel) (by decide +kernel)
set_option maxRecDepth 20000 in
theorem gX5_zero_X2_keepUnlessError : GoodIn wsX5_zero (wsV RX5 48 RX2 yX2_keepUnlessError wsX2_keepUnlessError) := goodIn_app (goodIn_of _ (by decide +kernel)) ggX5_zero_X2_keepUnlessError
theorem dX5_zero_0 : decode cX5_zero 0 = .ok (.aload_n 0, 1) := by decide +kernel
theorem dX5_zero_1 : decode cX5_zero 1 = .ok (.getfield 22, 3) := by decide +kernel
theorem dX5_zero_4 : decode cX5_zero 4 = .ok (.aload_n 0, 1) := by decide +kernel
theorem dX5_zero_5 : decode cX5_zero 5 = .ok (.getfield 10, 3) := by decide +kernel
theorem dX5_zero_8 : decode cX5_zero 8 = .ok (.invokevirtual 40, 3) := by decide +kernel
theorem dX5_zero_11 : decode cX5_zero 11 = .ok (.aload_n 0, 1) := by decide +kernel
theorem dX5_zero_12 : decode cX5_zero 12 = .ok (.getfield 22, 3) := by decide +kernel
theorem dX5_zero_15 : decode cX5_zero 15 = .ok (.aload_n 0, 1) := by decide +kernel
theorem dX5_zero_16 : decode cX5_zero 16 = .ok (.getfield 10, 3) := by decide +kernel
theorem dX5_zero_19 : decode cX5_zero 19 = .ok (.invokevirtual 59, 3) := by decide +kernel
theorem dX5_zero_22 : decode cX5_zero 22 = .ok (.invokevirtual 48, 3) := by decide +kernel
theorem dX5_zero_25 : decode cX5_zero 25 = .ok (.ireturn, 1) := by decide +kernel
set_option maxRecDepth 20000 in
theorem ggX5_log_X1_hasTick : GoodIn wsX5_log wsX1_hasTick := goodIn_r _ [6, 7, 8, 9, 5, 10, 11, 12, 13, 14, 15, 39, 40, 41, 42, 43, 44, 45, 46, 47, 48, 49, 50, 51, 52, 53, 54] (by decide +kernel) (by decide +kernel)
set_option maxRecDepth 20000 in
theorem gX5_log_X1_hasTick : GoodIn wsX5_log (wsV RX5 63 RX1 yX1_hasTick wsX1_hasTick) := goodIn_app (goodIn_of _ (by decide +kernel)) ggX5_log_X1_hasTick
set_option maxRecDepth 20000 in
theorem ggX5_log_X1_pairAt : GoodIn wsX5_log wsX1_pairAt := goodIn_r _ [19, 20, 21, 22, 5, 23, 11, 24, 25, 3, 4, 6, 7, 8, 9, 10, 12, 13, 14, 15, 39, 40, 41, 42, 43, 44, 45, 46, 47, 48, 49, 50, 51, 52, 53, 54] (by decide +kernel) (by decide +kernel)
set_option maxRecDepth 20000 in
theorem gX5_log_X1_pairAt : GoodIn wsX5_log (wsV RX5 67 RX1 yX1_pairAt wsX1_pairAt) := goodIn_app (goodIn_of _ (by decide +kernel)) ggX5_log_X1_pairAt
set_option maxRecDepth 20000 in
theorem ggX5_log_X1_indexAt : GoodIn wsX5_log wsX1_indexAt := goodIn_r _ [29, 20, 21, 22, 5, 23, 11, 24, 25, 3, 4, 6, 7, 8, 9, 10, 12, 13, 14, 15, 39, 40, 41, 42, 43, 44, 45, 46, 47, 48, 49, 50, 51, 52, 53, 54] (by decide +kernel) (by decide +kernel)
set_option maxRecDepth 20000 in
theorem gX5_log_X1_indexAt : GoodIn wsX5_log (wsV RX5 70 RX1 yX1_indexAt wsX1_indexAt) := goodIn_app (goodIn_of _ (by decide +kernel)) ggX5_log_X1_indexAt
set_option maxRecDepth 20000 in
theorem ggX5_log_X1_deedAt : GoodIn wsX5_log wsX1_deedAt := goodIn_r _ [33, 20, 21, 22, 5, 23, 11, 24, 25, 3, 4, 6, 7, 8, 9, 10, 12, 13, 14, 15, 39, 40, 41, 42, 43, 44, 45, 46, 47, 48, 49, 50, 51, 52, 53, 54] (by decide +kernel) (by decide +kernel)
set_option maxRecDepth 20000 in
theorem gX5_log_X1_deedAt : GoodIn wsX5_log (wsV RX5 73 RX1 yX1_deedAt wsX1_deedAt) := goodIn_app (goodIn_of _ (by decide +kernel)) ggX5_log_X1_deedAt
theorem dX5_log_0 : decode cX5_log 0 = .ok (.aload_n 0, 1) := by decide +kernel
theorem dX5_log_1 : decode cX5_log 1 = .ok (.getfield 10, 3) := by decide +kernel
theorem dX5_log_4 : decode cX5_log 4 = .ok (.iload_n 1, 1) := by decide +kernel
theorem dX5_log_5 : decode cX5_log 5 = .ok (.invokevirtual 63, 3) := by decide +kernel
theorem dX5_log_8 : decode cX5_log 8 = .ok (.ifCond .ne 5, 3) := by decide +kernel
theorem dX5_log_11 : decode cX5_log 11 = .ok (.iconst (-1), 1) := by decide +kernel
theorem dX5_log_12 : decode cX5_log 12 = .ok (.ireturn, 1) := by decide +kernel
theorem dX5_log_13 : decode cX5_log 13 = .ok (.iload_n 2, 1) := by decide +kernel
theorem dX5_log_14 : decode cX5_log 14 = .ok (.tableswitch 53 0 2 #[26, 35, 44], 26) := by decide +kernel
theorem dX5_log_40 : decode cX5_log 40 = .ok (.aload_n 0, 1) := by decide +kernel
theorem dX5_log_41 : decode cX5_log 41 = .ok (.getfield 10, 3) := by decide +kernel
theorem dX5_log_44 : decode cX5_log 44 = .ok (.iload_n 1, 1) := by decide +kernel
theorem dX5_log_45 : decode cX5_log 45 = .ok (.invokevirtual 67, 3) := by decide +kernel
theorem dX5_log_48 : decode cX5_log 48 = .ok (.ireturn, 1) := by decide +kernel
theorem dX5_log_49 : decode cX5_log 49 = .ok (.aload_n 0, 1) := by decide +kernel
theorem dX5_log_50 : decode cX5_log 50 = .ok (.getfield 10, 3) := by decide +kernel
theorem dX5_log_53 : decode cX5_log 53 = .ok (.iload_n 1, 1) := by decide +kernel
theorem dX5_log_54 : decode cX5_log 54 = .ok (.invokevirtual 70, 3) := by decide +kernel
theorem dX5_log_57 : decode cX5_log 57 = .ok (.ireturn, 1) := by decide +kernel
theorem dX5_log_58 : decode cX5_log 58 = .ok (.aload_n 0, 1) := by decide +kernel
theorem dX5_log_59 : decode cX5_log 59 = .ok (.getfield 10, 3) := by decide +kernel
theorem dX5_log_62 : decode cX5_log 62 = .ok (.iload_n 1, 1) := by decide +kernel
theorem dX5_log_63 : decode cX5_log 63 = .ok (.invokevirtual 73, 3) := by decide +kernel
theorem dX5_log_66 : decode cX5_log 66 = .ok (.ireturn, 1) := by decide +kernel
theorem dX5_log_67 : decode cX5_log 67 = .ok (.bipush (-2), 2) := by decide +kernel
theorem dX5_log_69 : decode cX5_log 69 = .ok (.ireturn, 1) := by decide +kernel
set_option maxRecDepth 20000 in
theorem ggX5_count_X1_logged : GoodIn wsX5_count wsX1_logged := goodIn_r _ [19, 20, 21, 22, 23, 24, 35, 36, 37, 38, 39, 40, 41, 42, 43, 44, 45, 46, 47, 48, 49, 50] (by decide +kernel) (by decide +kernel)
set_option maxRecDepth 20000 in
theorem gX5_count_X1_logged : GoodIn wsX5_count (wsV RX5 104 RX1 yX1_logged wsX1_logged) := goodIn_app (goodIn_of _ (by decide +kernel)) ggX5_count_X1_logged
set_option maxRecDepth 20000 in
theorem ggX5_count_X1_setting : GoodIn wsX5_count wsX1_setting := goodIn_r _ [28, 29, 35, 36, 37, 38, 39, 40, 41, 42, 43, 44, 45, 46, 47, 48, 49, 50] (by decide +kernel) (by decide +kernel)
set_option maxRecDepth 20000 in
theorem gX5_count_X1_setting : GoodIn wsX5_count (wsV RX5 113 RX1 yX1_setting wsX1_setting) := goodIn_app (goodIn_of _ (by decide +kernel)) ggX5_count_X1_setting
theorem dX5_count_0 : decode cX5_count 0 = .ok (.iload_n 1, 1) := by decide +kernel
theorem dX5_count_1 : decode cX5_count 1 = .ok (.tableswitch 179 0 16 #[83, 91, 99, 107, 115, 123, 131, 139, 147, 155, 179, 179, 179, 179, 179, 163, 171], 83) := by decide +kernel
theorem dX5_count_84 : decode cX5_count 84 = .ok (.aload_n 0, 1) := by decide +kernel
theorem dX5_count_85 : decode cX5_count 85 = .ok (.getfield 10, 3) := by decide +kernel
theorem dX5_count_88 : decode cX5_count 88 = .ok (.getfield 76, 3) := by decide +kernel
theorem dX5_count_91 : decode cX5_count 91 = .ok (.ireturn, 1) := by decide +kernel
theorem dX5_count_92 : decode cX5_count 92 = .ok (.aload_n 0, 1) := by decide +kernel
theorem dX5_count_93 : decode cX5_count 93 = .ok (.getfield 10, 3) := by decide +kernel
theorem dX5_count_96 : decode cX5_count 96 = .ok (.getfield 80, 3) := by decide +kernel
theorem dX5_count_99 : decode cX5_count 99 = .ok (.ireturn, 1) := by decide +kernel
theorem dX5_count_100 : decode cX5_count 100 = .ok (.aload_n 0, 1) := by decide +kernel
theorem dX5_count_101 : decode cX5_count 101 = .ok (.getfield 10, 3) := by decide +kernel
theorem dX5_count_104 : decode cX5_count 104 = .ok (.getfield 83, 3) := by decide +kernel
theorem dX5_count_107 : decode cX5_count 107 = .ok (.ireturn, 1) := by decide +kernel
theorem dX5_count_108 : decode cX5_count 108 = .ok (.aload_n 0, 1) := by decide +kernel
theorem dX5_count_109 : decode cX5_count 109 = .ok (.getfield 10, 3) := by decide +kernel
theorem dX5_count_112 : decode cX5_count 112 = .ok (.getfield 86, 3) := by decide +kernel
theorem dX5_count_115 : decode cX5_count 115 = .ok (.ireturn, 1) := by decide +kernel
theorem dX5_count_116 : decode cX5_count 116 = .ok (.aload_n 0, 1) := by decide +kernel
theorem dX5_count_117 : decode cX5_count 117 = .ok (.getfield 10, 3) := by decide +kernel
theorem dX5_count_120 : decode cX5_count 120 = .ok (.getfield 89, 3) := by decide +kernel
theorem dX5_count_123 : decode cX5_count 123 = .ok (.ireturn, 1) := by decide +kernel
theorem dX5_count_124 : decode cX5_count 124 = .ok (.aload_n 0, 1) := by decide +kernel
theorem dX5_count_125 : decode cX5_count 125 = .ok (.getfield 10, 3) := by decide +kernel
theorem dX5_count_128 : decode cX5_count 128 = .ok (.getfield 92, 3) := by decide +kernel
theorem dX5_count_131 : decode cX5_count 131 = .ok (.ireturn, 1) := by decide +kernel
theorem dX5_count_132 : decode cX5_count 132 = .ok (.aload_n 0, 1) := by decide +kernel
theorem dX5_count_133 : decode cX5_count 133 = .ok (.getfield 10, 3) := by decide +kernel
theorem dX5_count_136 : decode cX5_count 136 = .ok (.getfield 95, 3) := by decide +kernel
theorem dX5_count_139 : decode cX5_count 139 = .ok (.ireturn, 1) := by decide +kernel
theorem dX5_count_140 : decode cX5_count 140 = .ok (.aload_n 0, 1) := by decide +kernel
theorem dX5_count_141 : decode cX5_count 141 = .ok (.getfield 10, 3) := by decide +kernel
theorem dX5_count_144 : decode cX5_count 144 = .ok (.getfield 98, 3) := by decide +kernel
theorem dX5_count_147 : decode cX5_count 147 = .ok (.ireturn, 1) := by decide +kernel
theorem dX5_count_148 : decode cX5_count 148 = .ok (.aload_n 0, 1) := by decide +kernel
theorem dX5_count_149 : decode cX5_count 149 = .ok (.getfield 10, 3) := by decide +kernel
theorem dX5_count_152 : decode cX5_count 152 = .ok (.getfield 101, 3) := by decide +kernel
theorem dX5_count_155 : decode cX5_count 155 = .ok (.ireturn, 1) := by decide +kernel
theorem dX5_count_156 : decode cX5_count 156 = .ok (.aload_n 0, 1) := by decide +kernel
theorem dX5_count_157 : decode cX5_count 157 = .ok (.getfield 10, 3) := by decide +kernel
theorem dX5_count_160 : decode cX5_count 160 = .ok (.invokevirtual 104, 3) := by decide +kernel
theorem dX5_count_163 : decode cX5_count 163 = .ok (.ireturn, 1) := by decide +kernel
theorem dX5_count_164 : decode cX5_count 164 = .ok (.aload_n 0, 1) := by decide +kernel
theorem dX5_count_165 : decode cX5_count 165 = .ok (.getfield 36, 3) := by decide +kernel
theorem dX5_count_168 : decode cX5_count 168 = .ok (.getfield 107, 3) := by decide +kernel
theorem dX5_count_171 : decode cX5_count 171 = .ok (.ireturn, 1) := by decide +kernel
theorem dX5_count_172 : decode cX5_count 172 = .ok (.aload_n 0, 1) := by decide +kernel
theorem dX5_count_173 : decode cX5_count 173 = .ok (.getfield 22, 3) := by decide +kernel
theorem dX5_count_176 : decode cX5_count 176 = .ok (.getfield 110, 3) := by decide +kernel
theorem dX5_count_179 : decode cX5_count 179 = .ok (.ireturn, 1) := by decide +kernel
theorem dX5_count_180 : decode cX5_count 180 = .ok (.iload_n 1, 1) := by decide +kernel
theorem dX5_count_181 : decode cX5_count 181 = .ok (.bipush 10, 2) := by decide +kernel
theorem dX5_count_183 : decode cX5_count 183 = .ok (.if_icmp .lt 23, 3) := by decide +kernel
theorem dX5_count_186 : decode cX5_count 186 = .ok (.iload_n 1, 1) := by decide +kernel
theorem dX5_count_187 : decode cX5_count 187 = .ok (.bipush 14, 2) := by decide +kernel
theorem dX5_count_189 : decode cX5_count 189 = .ok (.if_icmp .gt 17, 3) := by decide +kernel
theorem dX5_count_192 : decode cX5_count 192 = .ok (.aload_n 0, 1) := by decide +kernel
theorem dX5_count_193 : decode cX5_count 193 = .ok (.getfield 10, 3) := by decide +kernel
theorem dX5_count_196 : decode cX5_count 196 = .ok (.iload_n 1, 1) := by decide +kernel
theorem dX5_count_197 : decode cX5_count 197 = .ok (.bipush 10, 2) := by decide +kernel
theorem dX5_count_199 : decode cX5_count 199 = .ok (.isub, 1) := by decide +kernel
theorem dX5_count_200 : decode cX5_count 200 = .ok (.invokevirtual 113, 3) := by decide +kernel
theorem dX5_count_203 : decode cX5_count 203 = .ok (.goto 5, 3) := by decide +kernel
theorem dX5_count_206 : decode cX5_count 206 = .ok (.bipush (-2), 2) := by decide +kernel
theorem dX5_count_208 : decode cX5_count 208 = .ok (.ireturn, 1) := by decide +kernel
set_option maxRecDepth 20000 in
theorem ggX5_speed_X1_stepsOfGate : GoodIn wsX5_speed wsX1_stepsOfGate := goodIn_r _ [7, 8, 9, 10, 11, 12, 13, 14, 6, 15, 16, 17, 18, 19, 20, 21, 22, 23, 24, 25, 26, 27, 28, 29, 30, 31, 32, 33, 34, 40, 41, 42, 43, 44, 45, 46, 47, 48, 49, 50, 51, 52, 53, 54, 55] (by decide +kernel) (by decide +kernel)
set_option maxRecDepth 20000 in
theorem gX5_speed_X1_stepsOfGate : GoodIn wsX5_speed (wsV RX5 116 RX1 yX1_stepsOfGate wsX1_stepsOfGate) := goodIn_app (goodIn_of _ (by decide +kernel)) ggX5_speed_X1_stepsOfGate
theorem dX5_speed_0 : decode cX5_speed 0 = .ok (.iload_n 1, 1) := by decide +kernel
theorem dX5_speed_1 : decode cX5_speed 1 = .ok (.lookupswitch 62 #[(0, 27), (1, 39)], 27) := by decide +kernel
theorem dX5_speed_28 : decode cX5_speed 28 = .ok (.sipush 1000, 3) := by decide +kernel
theorem dX5_speed_31 : decode cX5_speed 31 = .ok (.aload_n 0, 1) := by decide +kernel
theorem dX5_speed_32 : decode cX5_speed 32 = .ok (.getfield 10, 3) := by decide +kernel
theorem dX5_speed_35 : decode cX5_speed 35 = .ok (.invokevirtual 116, 3) := by decide +kernel
theorem dX5_speed_38 : decode cX5_speed 38 = .ok (.iadd, 1) := by decide +kernel
theorem dX5_speed_39 : decode cX5_speed 39 = .ok (.ireturn, 1) := by decide +kernel
theorem dX5_speed_40 : decode cX5_speed 40 = .ok (.aload_n 0, 1) := by decide +kernel
theorem dX5_speed_41 : decode cX5_speed 41 = .ok (.getfield 10, 3) := by decide +kernel
theorem dX5_speed_44 : decode cX5_speed 44 = .ok (.getfield 119, 3) := by decide +kernel
theorem dX5_speed_47 : decode cX5_speed 47 = .ok (.ifCond .le 13, 3) := by decide +kernel
theorem dX5_speed_50 : decode cX5_speed 50 = .ok (.aload_n 0, 1) := by decide +kernel
theorem dX5_speed_51 : decode cX5_speed 51 = .ok (.getfield 10, 3) := by decide +kernel
theorem dX5_speed_54 : decode cX5_speed 54 = .ok (.getfield 119, 3) := by decide +kernel
theorem dX5_speed_57 : decode cX5_speed 57 = .ok (.goto 5, 3) := by decide +kernel
theorem dX5_speed_60 : decode cX5_speed 60 = .ok (.bipush (-6), 2) := by decide +kernel
theorem dX5_speed_62 : decode cX5_speed 62 = .ok (.ireturn, 1) := by decide +kernel
theorem dX5_speed_63 : decode cX5_speed 63 = .ok (.bipush (-2), 2) := by decide +kernel
theorem dX5_speed_65 : decode cX5_speed 65 = .ok (.ireturn, 1) := by decide +kernel
set_option maxRecDepth 20000 in
theorem ggX5_rate_X1_setting : GoodIn wsX5_rate wsX1_setting := goodIn_r _ [9, 10, 23, 24, 25, 26, 27, 28, 29, 30, 31, 32, 33, 34, 35, 36, 37, 38] (by decide +kernel) (by decide +kernel)
set_option maxRecDepth 20000 in
theorem gX5_rate_X1_setting : GoodIn wsX5_rate (wsV RX5 113 RX1 yX1_setting wsX1_setting) := goodIn_app (goodIn_of _ (by decide +kernel)) ggX5_rate_X1_setting
set_option maxRecDepth 20000 in
theorem ggX5_rate_X0_ofDouble : GoodIn wsX5_rate wsX0_ofDouble := goodIn_r _ [14, 15, 16, 17] (by decide +kernel) (by decide +kernel)
set_option maxRecDepth 20000 in
theorem gX5_rate_X0_ofDouble : GoodIn wsX5_rate (va_wsS RX5 124 yX0_ofDouble wsX0_ofDouble) := goodIn_app (goodIn_of _ (by decide +kernel)) ggX5_rate_X0_ofDouble
theorem dX5_rate_0 : decode cX5_rate 0 = .ok (.aload_n 0, 1) := by decide +kernel
theorem dX5_rate_1 : decode cX5_rate 1 = .ok (.getfield 10, 3) := by decide +kernel
theorem dX5_rate_4 : decode cX5_rate 4 = .ok (.getfield 119, 3) := by decide +kernel
theorem dX5_rate_7 : decode cX5_rate 7 = .ok (.aload_n 0, 1) := by decide +kernel
theorem dX5_rate_8 : decode cX5_rate 8 = .ok (.getfield 10, 3) := by decide +kernel
theorem dX5_rate_11 : decode cX5_rate 11 = .ok (.iconst 0, 1) := by decide +kernel
theorem dX5_rate_12 : decode cX5_rate 12 = .ok (.invokevirtual 113, 3) := by decide +kernel
theorem dX5_rate_15 : decode cX5_rate 15 = .ok (.imul, 1) := by decide +kernel
theorem dX5_rate_16 : decode cX5_rate 16 = .ok (.istore_n 1, 1) := by decide +kernel
theorem dX5_rate_17 : decode cX5_rate 17 = .ok (.iload_n 1, 1) := by decide +kernel
theorem dX5_rate_18 : decode cX5_rate 18 = .ok (.ifCond .gt 5, 3) := by decide +kernel
theorem dX5_rate_21 : decode cX5_rate 21 = .ok (.lconst 0, 1) := by decide +kernel
theorem dX5_rate_22 : decode cX5_rate 22 = .ok (.lreturn, 1) := by decide +kernel
theorem dX5_rate_23 : decode cX5_rate 23 = .ok (.aload_n 0, 1) := by decide +kernel
theorem dX5_rate_24 : decode cX5_rate 24 = .ok (.getfield 10, 3) := by decide +kernel
theorem dX5_rate_27 : decode cX5_rate 27 = .ok (.getfield 89, 3) := by decide +kernel
theorem dX5_rate_30 : decode cX5_rate 30 = .ok (.iconst 1, 1) := by decide +kernel
theorem dX5_rate_31 : decode cX5_rate 31 = .ok (.if_icmp .ne 7, 3) := by decide +kernel
theorem dX5_rate_34 : decode cX5_rate 34 = .ok (.dconst 1, 1) := by decide +kernel
theorem dX5_rate_35 : decode cX5_rate 35 = .ok (.goto 6, 3) := by decide +kernel
theorem dX5_rate_38 : decode cX5_rate 38 = .ok (.ldc2_w 122, 3) := by decide +kernel
theorem dX5_rate_41 : decode cX5_rate 41 = .ok (.dstore_n 2, 1) := by decide +kernel
theorem dX5_rate_42 : decode cX5_rate 42 = .ok (.dload_n 2, 1) := by decide +kernel
theorem dX5_rate_43 : decode cX5_rate 43 = .ok (.iload_n 1, 1) := by decide +kernel
theorem dX5_rate_44 : decode cX5_rate 44 = .ok (.i2d, 1) := by decide +kernel
theorem dX5_rate_45 : decode cX5_rate 45 = .ok (.ddiv, 1) := by decide +kernel
theorem dX5_rate_46 : decode cX5_rate 46 = .ok (.invokestatic 124, 3) := by decide +kernel
theorem dX5_rate_49 : decode cX5_rate 49 = .ok (.lreturn, 1) := by decide +kernel
set_option maxRecDepth 20000 in
theorem ggX5_noise_X0_ofFloat : GoodIn wsX5_noise wsX0_ofFloat := goodIn_r _ [8, 9] (by decide +kernel) (by decide +kernel)
set_option maxRecDepth 20000 in
theorem gX5_noise_X0_ofFloat : GoodIn wsX5_noise (va_wsS RX5 130 yX0_ofFloat wsX0_ofFloat) := goodIn_app (goodIn_of _ (by decide +kernel)) ggX5_noise_X0_ofFloat
theorem dX5_noise_0 : decode cX5_noise 0 = .ok (.aload_n 0, 1) := by decide +kernel
theorem dX5_noise_1 : decode cX5_noise 1 = .ok (.getfield 10, 3) := by decide +kernel
theorem dX5_noise_4 : decode cX5_noise 4 = .ok (.getfield 92, 3) := by decide +kernel
theorem dX5_noise_7 : decode cX5_noise 7 = .ok (.aload_n 0, 1) := by decide +kernel
theorem dX5_noise_8 : decode cX5_noise 8 = .ok (.getfield 10, 3) := by decide +kernel
theorem dX5_noise_11 : decode cX5_noise 11 = .ok (.getfield 95, 3) := by decide +kernel
theorem dX5_noise_14 : decode cX5_noise 14 = .ok (.iadd, 1) := by decide +kernel
theorem dX5_noise_15 : decode cX5_noise 15 = .ok (.aload_n 0, 1) := by decide +kernel
theorem dX5_noise_16 : decode cX5_noise 16 = .ok (.getfield 10, 3) := by decide +kernel
theorem dX5_noise_19 : decode cX5_noise 19 = .ok (.getfield 98, 3) := by decide +kernel
theorem dX5_noise_22 : decode cX5_noise 22 = .ok (.iadd, 1) := by decide +kernel
theorem dX5_noise_23 : decode cX5_noise 23 = .ok (.istore_n 1, 1) := by decide +kernel
theorem dX5_noise_24 : decode cX5_noise 24 = .ok (.iload_n 1, 1) := by decide +kernel
theorem dX5_noise_25 : decode cX5_noise 25 = .ok (.ifCond .gt 6, 3) := by decide +kernel
theorem dX5_noise_28 : decode cX5_noise 28 = .ok (.bipush (-6), 2) := by decide +kernel
theorem dX5_noise_30 : decode cX5_noise 30 = .ok (.ireturn, 1) := by decide +kernel
theorem dX5_noise_31 : decode cX5_noise 31 = .ok (.aload_n 0, 1) := by decide +kernel
theorem dX5_noise_32 : decode cX5_noise 32 = .ok (.getfield 10, 3) := by decide +kernel
theorem dX5_noise_35 : decode cX5_noise 35 = .ok (.getfield 98, 3) := by decide +kernel
theorem dX5_noise_38 : decode cX5_noise 38 = .ok (.i2f, 1) := by decide +kernel
theorem dX5_noise_39 : decode cX5_noise 39 = .ok (.iload_n 1, 1) := by decide +kernel
theorem dX5_noise_40 : decode cX5_noise 40 = .ok (.i2f, 1) := by decide +kernel
theorem dX5_noise_41 : decode cX5_noise 41 = .ok (.fdiv, 1) := by decide +kernel
theorem dX5_noise_42 : decode cX5_noise 42 = .ok (.invokestatic 130, 3) := by decide +kernel
theorem dX5_noise_45 : decode cX5_noise 45 = .ok (.ireturn, 1) := by decide +kernel
set_option maxRecDepth 20000 in
theorem ggX5_replay_X1_follow : GoodIn wsX5_replay wsX1_follow := goodIn_r _ [13, 14, 15, 16, 17, 18, 19, 20, 21, 12, 22, 23, 24, 25, 26, 27, 28, 29, 30, 31, 32, 33, 34, 35, 36, 37, 38, 39, 40, 41, 42, 43, 44, 45, 46, 47, 48, 49, 50, 51, 52, 53, 54, 55, 56, 57, 58, 59, 60, 61, 62, 63, 64, 65, 66, 67, 68, 69, 70, 71, 72, 73, 74, 75, 76, 77, 78, 79, 80, 81, 82, 83, 84, 85, 86, 87, 88, 89, 90, 91, 97, 98, 99, 100, 101, 102, 103, 104, 105, 106, 107, 108, 109, 110, 111, 112] (by decide +kernel) (by decide +kernel)
set_option maxRecDepth 20000 in
theorem gX5_replay_X1_follow : GoodIn wsX5_replay (wsV RX5 141 RX1 yX1_follow wsX1_follow) := goodIn_app (goodIn_of _ (by decide +kernel)) ggX5_replay_X1_follow
theorem dX5_replay_0 : decode cX5_replay 0 = .ok (.iload_n 1, 1) := by decide +kernel
theorem dX5_replay_1 : decode cX5_replay 1 = .ok (.getstatic 134, 3) := by decide +kernel
theorem dX5_replay_4 : decode cX5_replay 4 = .ok (.iconst 2, 1) := by decide +kernel
theorem dX5_replay_5 : decode cX5_replay 5 = .ok (.iaload, 1) := by decide +kernel
theorem dX5_replay_6 : decode cX5_replay 6 = .ok (.if_icmp .lt 21, 3) := by decide +kernel
theorem dX5_replay_9 : decode cX5_replay 9 = .ok (.iload_n 1, 1) := by decide +kernel
theorem dX5_replay_10 : decode cX5_replay 10 = .ok (.getstatic 138, 3) := by decide +kernel
theorem dX5_replay_13 : decode cX5_replay 13 = .ok (.iconst 2, 1) := by decide +kernel
theorem dX5_replay_14 : decode cX5_replay 14 = .ok (.iaload, 1) := by decide +kernel
theorem dX5_replay_15 : decode cX5_replay 15 = .ok (.if_icmp .gt 12, 3) := by decide +kernel
theorem dX5_replay_18 : decode cX5_replay 18 = .ok (.iload_n 2, 1) := by decide +kernel
theorem dX5_replay_19 : decode cX5_replay 19 = .ok (.ifCond .lt 8, 3) := by decide +kernel
theorem dX5_replay_22 : decode cX5_replay 22 = .ok (.iload_n 2, 1) := by decide +kernel
theorem dX5_replay_23 : decode cX5_replay 23 = .ok (.iconst 3, 1) := by decide +kernel
theorem dX5_replay_24 : decode cX5_replay 24 = .ok (.if_icmp .le 6, 3) := by decide +kernel
theorem dX5_replay_27 : decode cX5_replay 27 = .ok (.bipush (-2), 2) := by decide +kernel
theorem dX5_replay_29 : decode cX5_replay 29 = .ok (.ireturn, 1) := by decide +kernel
theorem dX5_replay_30 : decode cX5_replay 30 = .ok (.aload_n 0, 1) := by decide +kernel
theorem dX5_replay_31 : decode cX5_replay 31 = .ok (.getfield 16, 3) := by decide +kernel
theorem dX5_replay_34 : decode cX5_replay 34 = .ok (.aload_n 0, 1) := by decide +kernel
theorem dX5_replay_35 : decode cX5_replay 35 = .ok (.getfield 10, 3) := by decide +kernel
theorem dX5_replay_38 : decode cX5_replay 38 = .ok (.iload_n 1, 1) := by decide +kernel
theorem dX5_replay_39 : decode cX5_replay 39 = .ok (.invokevirtual 141, 3) := by decide +kernel
theorem dX5_replay_42 : decode cX5_replay 42 = .ok (.iload_n 2, 1) := by decide +kernel
theorem dX5_replay_43 : decode cX5_replay 43 = .ok (.tableswitch 49 0 2 #[25, 33, 41], 25) := by decide +kernel
theorem dX5_replay_68 : decode cX5_replay 68 = .ok (.aload_n 0, 1) := by decide +kernel
theorem dX5_replay_69 : decode cX5_replay 69 = .ok (.getfield 16, 3) := by decide +kernel
theorem dX5_replay_72 : decode cX5_replay 72 = .ok (.getfield 92, 3) := by decide +kernel
theorem dX5_replay_75 : decode cX5_replay 75 = .ok (.ireturn, 1) := by decide +kernel
theorem dX5_replay_76 : decode cX5_replay 76 = .ok (.aload_n 0, 1) := by decide +kernel
theorem dX5_replay_77 : decode cX5_replay 77 = .ok (.getfield 16, 3) := by decide +kernel
theorem dX5_replay_80 : decode cX5_replay 80 = .ok (.getfield 95, 3) := by decide +kernel
theorem dX5_replay_83 : decode cX5_replay 83 = .ok (.ireturn, 1) := by decide +kernel
theorem dX5_replay_84 : decode cX5_replay 84 = .ok (.aload_n 0, 1) := by decide +kernel
theorem dX5_replay_85 : decode cX5_replay 85 = .ok (.getfield 16, 3) := by decide +kernel
theorem dX5_replay_88 : decode cX5_replay 88 = .ok (.getfield 98, 3) := by decide +kernel
theorem dX5_replay_91 : decode cX5_replay 91 = .ok (.ireturn, 1) := by decide +kernel
theorem dX5_replay_92 : decode cX5_replay 92 = .ok (.aload_n 0, 1) := by decide +kernel
theorem dX5_replay_93 : decode cX5_replay 93 = .ok (.getfield 16, 3) := by decide +kernel
theorem dX5_replay_96 : decode cX5_replay 96 = .ok (.getfield 80, 3) := by decide +kernel
theorem dX5_replay_99 : decode cX5_replay 99 = .ok (.ireturn, 1) := by decide +kernel
set_option maxRecDepth 20000 in
theorem ggX5_bestFilter_X1_follow : GoodIn wsX5_bestFilter wsX1_follow := goodIn_r _ [10, 11, 12, 13, 14, 15, 16, 17, 18, 9, 19, 20, 21, 22, 23, 24, 25, 26, 27, 28, 29, 30, 31, 32, 33, 34, 35, 36, 37, 38, 39, 40, 41, 42, 43, 44, 45, 46, 47, 48, 49, 50, 51, 52, 53, 54, 55, 56, 57, 58, 59, 60, 61, 62, 63, 64, 65, 66, 67, 68, 69, 70, 71, 72, 73, 74, 75, 76, 77, 78, 79, 80, 81, 82, 83, 84, 85, 86, 87, 88, 94, 95, 96, 97, 98, 99, 100, 101, 102, 103, 104, 105, 106, 107, 108, 109] (by decide +kernel) (by decide +kernel)
set_option maxRecDepth 20000 in
theorem gX5_bestFilter_X1_follow : GoodIn wsX5_bestFilter (wsV RX5 141 RX1 yX1_follow wsX1_follow) := goodIn_app (goodIn_of _ (by decide +kernel)) ggX5_bestFilter_X1_follow
theorem dX5_bestFilter_0 : decode cX5_bestFilter 0 = .ok (.iload_n 1, 1) := by decide +kernel
theorem dX5_bestFilter_1 : decode cX5_bestFilter 1 = .ok (.ifCond .lt 8, 3) := by decide +kernel
theorem dX5_bestFilter_4 : decode cX5_bestFilter 4 = .ok (.iload_n 1, 1) := by decide +kernel
theorem dX5_bestFilter_5 : decode cX5_bestFilter 5 = .ok (.iconst 1, 1) := by decide +kernel
theorem dX5_bestFilter_6 : decode cX5_bestFilter 6 = .ok (.if_icmp .le 6, 3) := by decide +kernel
theorem dX5_bestFilter_9 : decode cX5_bestFilter 9 = .ok (.bipush (-2), 2) := by decide +kernel
theorem dX5_bestFilter_11 : decode cX5_bestFilter 11 = .ok (.ireturn, 1) := by decide +kernel
theorem dX5_bestFilter_12 : decode cX5_bestFilter 12 = .ok (.iconst 0, 1) := by decide +kernel
theorem dX5_bestFilter_13 : decode cX5_bestFilter 13 = .ok (.istore_n 2, 1) := by decide +kernel
theorem dX5_bestFilter_14 : decode cX5_bestFilter 14 = .ok (.iconst 0, 1) := by decide +kernel
theorem dX5_bestFilter_15 : decode cX5_bestFilter 15 = .ok (.istore_n 3, 1) := by decide +kernel
theorem dX5_bestFilter_16 : decode cX5_bestFilter 16 = .ok (.getstatic 134, 3) := by decide +kernel
theorem dX5_bestFilter_19 : decode cX5_bestFilter 19 = .ok (.iconst 2, 1) := by decide +kernel
theorem dX5_bestFilter_20 : decode cX5_bestFilter 20 = .ok (.iaload, 1) := by decide +kernel
theorem dX5_bestFilter_21 : decode cX5_bestFilter 21 = .ok (.istore 4, 2) := by decide +kernel
theorem dX5_bestFilter_23 : decode cX5_bestFilter 23 = .ok (.iload 4, 2) := by decide +kernel
theorem dX5_bestFilter_25 : decode cX5_bestFilter 25 = .ok (.getstatic 138, 3) := by decide +kernel
theorem dX5_bestFilter_28 : decode cX5_bestFilter 28 = .ok (.iconst 2, 1) := by decide +kernel
theorem dX5_bestFilter_29 : decode cX5_bestFilter 29 = .ok (.iaload, 1) := by decide +kernel
theorem dX5_bestFilter_30 : decode cX5_bestFilter 30 = .ok (.if_icmp .gt 48, 3) := by decide +kernel
theorem dX5_bestFilter_33 : decode cX5_bestFilter 33 = .ok (.aload_n 0, 1) := by decide +kernel
theorem dX5_bestFilter_34 : decode cX5_bestFilter 34 = .ok (.getfield 16, 3) := by decide +kernel
theorem dX5_bestFilter_37 : decode cX5_bestFilter 37 = .ok (.aload_n 0, 1) := by decide +kernel
theorem dX5_bestFilter_38 : decode cX5_bestFilter 38 = .ok (.getfield 10, 3) := by decide +kernel
theorem dX5_bestFilter_41 : decode cX5_bestFilter 41 = .ok (.iload 4, 2) := by decide +kernel
theorem dX5_bestFilter_43 : decode cX5_bestFilter 43 = .ok (.invokevirtual 141, 3) := by decide +kernel
theorem dX5_bestFilter_46 : decode cX5_bestFilter 46 = .ok (.iload_n 2, 1) := by decide +kernel
theorem dX5_bestFilter_47 : decode cX5_bestFilter 47 = .ok (.ifCond .eq 14, 3) := by decide +kernel
theorem dX5_bestFilter_50 : decode cX5_bestFilter 50 = .ok (.aload_n 0, 1) := by decide +kernel
theorem dX5_bestFilter_51 : decode cX5_bestFilter 51 = .ok (.getfield 16, 3) := by decide +kernel
theorem dX5_bestFilter_54 : decode cX5_bestFilter 54 = .ok (.getfield 98, 3) := by decide +kernel
theorem dX5_bestFilter_57 : decode cX5_bestFilter 57 = .ok (.iload_n 3, 1) := by decide +kernel
theorem dX5_bestFilter_58 : decode cX5_bestFilter 58 = .ok (.if_icmp .ge 14, 3) := by decide +kernel
theorem dX5_bestFilter_61 : decode cX5_bestFilter 61 = .ok (.iload 4, 2) := by decide +kernel
theorem dX5_bestFilter_63 : decode cX5_bestFilter 63 = .ok (.istore_n 2, 1) := by decide +kernel
theorem dX5_bestFilter_64 : decode cX5_bestFilter 64 = .ok (.aload_n 0, 1) := by decide +kernel
theorem dX5_bestFilter_65 : decode cX5_bestFilter 65 = .ok (.getfield 16, 3) := by decide +kernel
theorem dX5_bestFilter_68 : decode cX5_bestFilter 68 = .ok (.getfield 98, 3) := by decide +kernel
theorem dX5_bestFilter_71 : decode cX5_bestFilter 71 = .ok (.istore_n 3, 1) := by decide +kernel
theorem dX5_bestFilter_72 : decode cX5_bestFilter 72 = .ok (.iinc 4 1, 3) := by decide +kernel
theorem dX5_bestFilter_75 : decode cX5_bestFilter 75 = .ok (.goto (-52), 3) := by decide +kernel
theorem dX5_bestFilter_78 : decode cX5_bestFilter 78 = .ok (.iload_n 1, 1) := by decide +kernel
theorem dX5_bestFilter_79 : decode cX5_bestFilter 79 = .ok (.ifCond .ne 7, 3) := by decide +kernel
theorem dX5_bestFilter_82 : decode cX5_bestFilter 82 = .ok (.iload_n 2, 1) := by decide +kernel
theorem dX5_bestFilter_83 : decode cX5_bestFilter 83 = .ok (.goto 4, 3) := by decide +kernel
theorem dX5_bestFilter_86 : decode cX5_bestFilter 86 = .ok (.iload_n 3, 1) := by decide +kernel
theorem dX5_bestFilter_87 : decode cX5_bestFilter 87 = .ok (.ireturn, 1) := by decide +kernel
set_option maxRecDepth 20000 in
theorem ggX5_would_X1_deedBy : GoodIn wsX5_would wsX1_deedBy := goodIn_r _ [6, 7, 8, 9, 10, 5, 11, 12, 13, 14, 15, 16, 17, 18, 19, 20, 21, 27, 28, 29, 30, 31, 32, 33, 34, 35, 36, 37, 38, 39, 40, 41, 42] (by decide +kernel) (by decide +kernel)
set_option maxRecDepth 20000 in
theorem gX5_would_X1_deedBy : GoodIn wsX5_would (wsV RX5 145 RX1 yX1_deedBy wsX1_deedBy) := goodIn_app (goodIn_of _ (by decide +kernel)) ggX5_would_X1_deedBy
theorem dX5_would_0 : decode cX5_would 0 = .ok (.iload_n 1, 1) := by decide +kernel
theorem dX5_would_1 : decode cX5_would 1 = .ok (.ifCond .lt 8, 3) := by decide +kernel
theorem dX5_would_4 : decode cX5_would 4 = .ok (.iload_n 1, 1) := by decide +kernel
theorem dX5_would_5 : decode cX5_would 5 = .ok (.iconst 3, 1) := by decide +kernel
theorem dX5_would_6 : decode cX5_would 6 = .ok (.if_icmp .le 8, 3) := by decide +kernel
theorem dX5_would_9 : decode cX5_would 9 = .ok (.bipush (-2), 2) := by decide +kernel
theorem dX5_would_11 : decode cX5_would 11 = .ok (.goto 11, 3) := by decide +kernel
theorem dX5_would_14 : decode cX5_would 14 = .ok (.aload_n 0, 1) := by decide +kernel
theorem dX5_would_15 : decode cX5_would 15 = .ok (.getfield 10, 3) := by decide +kernel
theorem dX5_would_18 : decode cX5_would 18 = .ok (.iload_n 1, 1) := by decide +kernel
theorem dX5_would_19 : decode cX5_would 19 = .ok (.invokevirtual 145, 3) := by decide +kernel
theorem dX5_would_22 : decode cX5_would 22 = .ok (.ireturn, 1) := by decide +kernel
set_option maxRecDepth 20000 in
theorem ggX5_deeds_X1_logged : GoodIn wsX5_deeds wsX1_logged := goodIn_r _ [6, 7, 8, 9, 10, 11, 31, 32, 33, 34, 35, 36, 37, 38, 39, 40, 41, 42, 43, 44, 45, 46] (by decide +kernel) (by decide +kernel)
set_option maxRecDepth 20000 in
theorem gX5_deeds_X1_logged : GoodIn wsX5_deeds (wsV RX5 104 RX1 yX1_logged wsX1_logged) := goodIn_app (goodIn_of _ (by decide +kernel)) ggX5_deeds_X1_logged
set_option maxRecDepth 20000 in
theorem ggX5_deeds_X1_deedAt : GoodIn wsX5_deeds wsX1_deedAt := goodIn_r _ [15, 16, 17, 18, 5, 19, 7, 20, 21, 22, 23, 24, 25, 3, 4, 6, 8, 9, 10, 11, 31, 32, 33, 34, 35, 36, 37, 38, 39, 40, 41, 42, 43, 44, 45, 46] (by decide +kernel) (by decide +kernel)
set_option maxRecDepth 20000 in
theorem gX5_deeds_X1_deedAt : GoodIn wsX5_deeds (wsV RX5 73 RX1 yX1_deedAt wsX1_deedAt) := goodIn_app (goodIn_of _ (by decide +kernel)) ggX5_deeds_X1_deedAt
theorem dX5_deeds_0 : decode cX5_deeds 0 = .ok (.iload_n 1, 1) := by decide +kernel
theorem dX5_deeds_1 : decode cX5_deeds 1 = .ok (.ifCond .lt 8, 3) := by decide +kernel
theorem dX5_deeds_4 : decode cX5_deeds 4 = .ok (.iload_n 1, 1) := by decide +kernel
theorem dX5_deeds_5 : decode cX5_deeds 5 = .ok (.iconst 3, 1) := by decide +kernel
theorem dX5_deeds_6 : decode cX5_deeds 6 = .ok (.if_icmp .le 6, 3) := by decide +kernel
theorem dX5_deeds_9 : decode cX5_deeds 9 = .ok (.bipush (-2), 2) := by decide +kernel
theorem dX5_deeds_11 : decode cX5_deeds 11 = .ok (.ireturn, 1) := by decide +kernel
theorem dX5_deeds_12 : decode cX5_deeds 12 = .ok (.iconst 0, 1) := by decide +kernel
theorem dX5_deeds_13 : decode cX5_deeds 13 = .ok (.istore_n 2, 1) := by decide +kernel
theorem dX5_deeds_14 : decode cX5_deeds 14 = .ok (.iconst 0, 1) := by decide +kernel
theorem dX5_deeds_15 : decode cX5_deeds 15 = .ok (.istore_n 3, 1) := by decide +kernel
theorem dX5_deeds_16 : decode cX5_deeds 16 = .ok (.iload_n 3, 1) := by decide +kernel
theorem dX5_deeds_17 : decode cX5_deeds 17 = .ok (.aload_n 0, 1) := by decide +kernel
theorem dX5_deeds_18 : decode cX5_deeds 18 = .ok (.getfield 10, 3) := by decide +kernel
theorem dX5_deeds_21 : decode cX5_deeds 21 = .ok (.invokevirtual 104, 3) := by decide +kernel
theorem dX5_deeds_24 : decode cX5_deeds 24 = .ok (.if_icmp .ge 24, 3) := by decide +kernel
theorem dX5_deeds_27 : decode cX5_deeds 27 = .ok (.aload_n 0, 1) := by decide +kernel
theorem dX5_deeds_28 : decode cX5_deeds 28 = .ok (.getfield 10, 3) := by decide +kernel
theorem dX5_deeds_31 : decode cX5_deeds 31 = .ok (.iload_n 3, 1) := by decide +kernel
theorem dX5_deeds_32 : decode cX5_deeds 32 = .ok (.invokevirtual 73, 3) := by decide +kernel
theorem dX5_deeds_35 : decode cX5_deeds 35 = .ok (.iload_n 1, 1) := by decide +kernel
theorem dX5_deeds_36 : decode cX5_deeds 36 = .ok (.if_icmp .ne 6, 3) := by decide +kernel
theorem dX5_deeds_39 : decode cX5_deeds 39 = .ok (.iinc 2 1, 3) := by decide +kernel
theorem dX5_deeds_42 : decode cX5_deeds 42 = .ok (.iinc 3 1, 3) := by decide +kernel
theorem dX5_deeds_45 : decode cX5_deeds 45 = .ok (.goto (-29), 3) := by decide +kernel
theorem dX5_deeds_48 : decode cX5_deeds 48 = .ok (.iload_n 2, 1) := by decide +kernel
theorem dX5_deeds_49 : decode cX5_deeds 49 = .ok (.ireturn, 1) := by decide +kernel
set_option maxRecDepth 20000 in
theorem ggX5_undo_X2_takeBack : GoodIn wsX5_undo wsX2_takeBack := goodIn_r _ [7, 8, 9, 10, 11, 12, 6, 13, 14, 15, 16, 17, 18, 19, 20, 21, 22, 23, 24, 25, 26, 27, 28, 29, 30, 31, 32, 33, 34, 35, 36, 37, 38, 44, 45, 46, 47, 48, 49, 50, 51, 52, 53, 54, 55, 56, 57, 58, 59, 60, 61, 62] (by decide +kernel) (by decide +kernel)
set_option maxRecDepth 20000 in
theorem gX5_undo_X2_takeBack : GoodIn wsX5_undo (wsV RX5 190 RX2 yX2_takeBack wsX2_takeBack) := goodIn_app (goodIn_of _ (by decide +kernel)) ggX5_undo_X2_takeBack
theorem dX5_undo_0 : decode cX5_undo 0 = .ok (.aload_n 0, 1) := by decide +kernel
theorem dX5_undo_1 : decode cX5_undo 1 = .ok (.getfield 22, 3) := by decide +kernel
theorem dX5_undo_4 : decode cX5_undo 4 = .ok (.aload_n 0, 1) := by decide +kernel
theorem dX5_undo_5 : decode cX5_undo 5 = .ok (.getfield 10, 3) := by decide +kernel
theorem dX5_undo_8 : decode cX5_undo 8 = .ok (.invokevirtual 190, 3) := by decide +kernel
theorem dX5_undo_11 : decode cX5_undo 11 = .ok (.ireturn, 1) := by decide +kernel
