set_option maxRecDepth 20000 in
theorem ggX2_init_X1_init : GoodIn wsX2_init wsX1_init := goodIn_r _ [10, 11, 2, 3, 12, 13, 14, 15, 16, 17, 18, 22, 23, 24, 25, 26, 27, 28, 29, 30, 31, 32, 33, 34, 35, 36, 37] (by decide +kernel) (by decide +kernel)
set_option maxRecDepth 20000 in
theorem gX2_init_X1_init : GoodIn wsX2_init (wsX1_init) := ggX2_init_X1_init
theorem dX2_init_0 : decode cX2_init 0 = .ok (.aload_n 0, 1) := by decide +kernel
theorem dX2_init_1 : decode cX2_init 1 = .ok (.invokespecial 3, 3) := by decide +kernel
theorem dX2_init_4 : decode cX2_init 4 = .ok (.aload_n 0, 1) := by decide +kernel
theorem dX2_init_5 : decode cX2_init 5 = .ok (.bipush 7, 2) := by decide +kernel
theorem dX2_init_7 : decode cX2_init 7 = .ok (.anewarray 11, 3) := by decide +kernel
theorem dX2_init_10 : decode cX2_init 10 = .ok (.putfield 13, 3) := by decide +kernel
theorem dX2_init_13 : decode cX2_init 13 = .ok (.iconst 0, 1) := by decide +kernel
theorem dX2_init_14 : decode cX2_init 14 = .ok (.istore_n 1, 1) := by decide +kernel
theorem dX2_init_15 : decode cX2_init 15 = .ok (.iload_n 1, 1) := by decide +kernel
theorem dX2_init_16 : decode cX2_init 16 = .ok (.bipush 7, 2) := by decide +kernel
theorem dX2_init_18 : decode cX2_init 18 = .ok (.if_icmp .ge 22, 3) := by decide +kernel
theorem dX2_init_21 : decode cX2_init 21 = .ok (.aload_n 0, 1) := by decide +kernel
theorem dX2_init_22 : decode cX2_init 22 = .ok (.getfield 13, 3) := by decide +kernel
theorem dX2_init_25 : decode cX2_init 25 = .ok (.iload_n 1, 1) := by decide +kernel
theorem dX2_init_26 : decode cX2_init 26 = .ok (.new 11, 3) := by decide +kernel
theorem dX2_init_29 : decode cX2_init 29 = .ok (.dup, 1) := by decide +kernel
theorem dX2_init_30 : decode cX2_init 30 = .ok (.invokespecial 17, 3) := by decide +kernel
theorem dX2_init_33 : decode cX2_init 33 = .ok (.aastore, 1) := by decide +kernel
theorem dX2_init_34 : decode cX2_init 34 = .ok (.iinc 1 1, 3) := by decide +kernel
theorem dX2_init_37 : decode cX2_init 37 = .ok (.goto (-22), 3) := by decide +kernel
theorem dX2_init_40 : decode cX2_init 40 = .ok (.return_, 1) := by decide +kernel
theorem dX2_nextRow_0 : decode cX2_nextRow 0 = .ok (.aload_n 0, 1) := by decide +kernel
theorem dX2_nextRow_1 : decode cX2_nextRow 1 = .ok (.getfield 18, 3) := by decide +kernel
theorem dX2_nextRow_4 : decode cX2_nextRow 4 = .ok (.ifCond .lt 24, 3) := by decide +kernel
theorem dX2_nextRow_7 : decode cX2_nextRow 7 = .ok (.aload_n 0, 1) := by decide +kernel
theorem dX2_nextRow_8 : decode cX2_nextRow 8 = .ok (.getfield 18, 3) := by decide +kernel
theorem dX2_nextRow_11 : decode cX2_nextRow 11 = .ok (.bipush 7, 2) := by decide +kernel
theorem dX2_nextRow_13 : decode cX2_nextRow 13 = .ok (.if_icmp .ge 15, 3) := by decide +kernel
theorem dX2_nextRow_16 : decode cX2_nextRow 16 = .ok (.aload_n 0, 1) := by decide +kernel
theorem dX2_nextRow_17 : decode cX2_nextRow 17 = .ok (.getfield 13, 3) := by decide +kernel
theorem dX2_nextRow_20 : decode cX2_nextRow 20 = .ok (.aload_n 0, 1) := by decide +kernel
theorem dX2_nextRow_21 : decode cX2_nextRow 21 = .ok (.getfield 18, 3) := by decide +kernel
theorem dX2_nextRow_24 : decode cX2_nextRow 24 = .ok (.aaload, 1) := by decide +kernel
theorem dX2_nextRow_25 : decode cX2_nextRow 25 = .ok (.goto 4, 3) := by decide +kernel
theorem dX2_nextRow_28 : decode cX2_nextRow 28 = .ok (.aconst_null, 1) := by decide +kernel
theorem dX2_nextRow_29 : decode cX2_nextRow 29 = .ok (.areturn, 1) := by decide +kernel
set_option maxRecDepth 20000 in
theorem ggX2_prepare_X2_nextRow : GoodIn wsX2_prepare wsX2_nextRow := goodIn_r _ [5, 6, 7, 32, 33, 34] (by decide +kernel) (by decide +kernel)
set_option maxRecDepth 20000 in
theorem gX2_prepare_X2_nextRow : GoodIn wsX2_prepare (wsV RX2 22 RX2 yX2_nextRow wsX2_nextRow) := goodIn_app (goodIn_of _ (by decide +kernel)) ggX2_prepare_X2_nextRow
set_option maxRecDepth 20000 in
theorem ggX2_prepare_X1_copy : GoodIn wsX2_prepare wsX1_copy := goodIn_r _ [11, 12, 13, 14, 15, 16, 17, 18, 19, 20, 21, 22, 23, 24, 25, 26, 27, 28, 29, 30, 31, 35, 36, 37, 38, 39, 40, 41, 42, 43, 44, 45, 46, 47, 48, 49, 50] (by decide +kernel) (by decide +kernel)
set_option maxRecDepth 20000 in
theorem gX2_prepare_X1_copy : GoodIn wsX2_prepare (va_wsS RX2 26 yX1_copy wsX1_copy) := goodIn_app (goodIn_of _ (by decide +kernel)) ggX2_prepare_X1_copy
theorem dX2_prepare_0 : decode cX2_prepare 0 = .ok (.aload_n 1, 1) := by decide +kernel
theorem dX2_prepare_1 : decode cX2_prepare 1 = .ok (.aload_n 0, 1) := by decide +kernel
theorem dX2_prepare_2 : decode cX2_prepare 2 = .ok (.invokevirtual 22, 3) := by decide +kernel
theorem dX2_prepare_5 : decode cX2_prepare 5 = .ok (.invokestatic 26, 3) := by decide +kernel
theorem dX2_prepare_8 : decode cX2_prepare 8 = .ok (.return_, 1) := by decide +kernel
theorem dX2_keepUnlessError_0 : decode cX2_keepUnlessError 0 = .ok (.iload_n 1, 1) := by decide +kernel
theorem dX2_keepUnlessError_1 : decode cX2_keepUnlessError 1 = .ok (.ifCond .lt 31, 3) := by decide +kernel
theorem dX2_keepUnlessError_4 : decode cX2_keepUnlessError 4 = .ok (.aload_n 0, 1) := by decide +kernel
theorem dX2_keepUnlessError_5 : decode cX2_keepUnlessError 5 = .ok (.aload_n 0, 1) := by decide +kernel
theorem dX2_keepUnlessError_6 : decode cX2_keepUnlessError 6 = .ok (.getfield 18, 3) := by decide +kernel
theorem dX2_keepUnlessError_9 : decode cX2_keepUnlessError 9 = .ok (.iconst 1, 1) := by decide +kernel
theorem dX2_keepUnlessError_10 : decode cX2_keepUnlessError 10 = .ok (.iadd, 1) := by decide +kernel
theorem dX2_keepUnlessError_11 : decode cX2_keepUnlessError 11 = .ok (.bipush 7, 2) := by decide +kernel
theorem dX2_keepUnlessError_13 : decode cX2_keepUnlessError 13 = .ok (.irem, 1) := by decide +kernel
theorem dX2_keepUnlessError_14 : decode cX2_keepUnlessError 14 = .ok (.putfield 18, 3) := by decide +kernel
theorem dX2_keepUnlessError_17 : decode cX2_keepUnlessError 17 = .ok (.aload_n 0, 1) := by decide +kernel
theorem dX2_keepUnlessError_18 : decode cX2_keepUnlessError 18 = .ok (.aload_n 0, 1) := by decide +kernel
theorem dX2_keepUnlessError_19 : decode cX2_keepUnlessError 19 = .ok (.getfield 30, 3) := by decide +kernel
theorem dX2_keepUnlessError_22 : decode cX2_keepUnlessError 22 = .ok (.iconst 1, 1) := by decide +kernel
theorem dX2_keepUnlessError_23 : decode cX2_keepUnlessError 23 = .ok (.iadd, 1) := by decide +kernel
theorem dX2_keepUnlessError_24 : decode cX2_keepUnlessError 24 = .ok (.bipush 6, 2) := by decide +kernel
theorem dX2_keepUnlessError_26 : decode cX2_keepUnlessError 26 = .ok (.invokestatic 33, 3) := by decide +kernel
theorem dX2_keepUnlessError_29 : decode cX2_keepUnlessError 29 = .ok (.putfield 30, 3) := by decide +kernel
theorem dX2_keepUnlessError_32 : decode cX2_keepUnlessError 32 = .ok (.iload_n 1, 1) := by decide +kernel
theorem dX2_keepUnlessError_33 : decode cX2_keepUnlessError 33 = .ok (.ireturn, 1) := by decide +kernel
set_option maxRecDepth 20000 in
theorem ggX2_takeBack_X2_nextRow : GoodIn wsX2_takeBack wsX2_nextRow := goodIn_r _ [7, 2, 8, 33, 34, 35] (by decide +kernel) (by decide +kernel)
set_option maxRecDepth 20000 in
theorem gX2_takeBack_X2_nextRow : GoodIn wsX2_takeBack (wsV RX2 22 RX2 yX2_nextRow wsX2_nextRow) := goodIn_app (goodIn_of _ (by decide +kernel)) ggX2_takeBack_X2_nextRow
set_option maxRecDepth 20000 in
theorem ggX2_takeBack_X1_copy : GoodIn wsX2_takeBack wsX1_copy := goodIn_r _ [12, 13, 14, 15, 16, 17, 18, 19, 20, 21, 22, 23, 24, 25, 26, 27, 28, 29, 30, 31, 32, 36, 37, 38, 39, 40, 41, 42, 43, 44, 45, 46, 47, 48, 49, 50, 51] (by decide +kernel) (by decide +kernel)
set_option maxRecDepth 20000 in
theorem gX2_takeBack_X1_copy : GoodIn wsX2_takeBack (va_wsS RX2 26 yX1_copy wsX1_copy) := goodIn_app (goodIn_of _ (by decide +kernel)) ggX2_takeBack_X1_copy
theorem dX2_takeBack_0 : decode cX2_takeBack 0 = .ok (.aload_n 0, 1) := by decide +kernel
theorem dX2_takeBack_1 : decode cX2_takeBack 1 = .ok (.getfield 30, 3) := by decide +kernel
theorem dX2_takeBack_4 : decode cX2_takeBack 4 = .ok (.ifCond .ne 6, 3) := by decide +kernel
theorem dX2_takeBack_7 : decode cX2_takeBack 7 = .ok (.bipush (-5), 2) := by decide +kernel
theorem dX2_takeBack_9 : decode cX2_takeBack 9 = .ok (.ireturn, 1) := by decide +kernel
theorem dX2_takeBack_10 : decode cX2_takeBack 10 = .ok (.aload_n 0, 1) := by decide +kernel
theorem dX2_takeBack_11 : decode cX2_takeBack 11 = .ok (.aload_n 0, 1) := by decide +kernel
theorem dX2_takeBack_12 : decode cX2_takeBack 12 = .ok (.getfield 18, 3) := by decide +kernel
theorem dX2_takeBack_15 : decode cX2_takeBack 15 = .ok (.bipush 7, 2) := by decide +kernel
theorem dX2_takeBack_17 : decode cX2_takeBack 17 = .ok (.iadd, 1) := by decide +kernel
theorem dX2_takeBack_18 : decode cX2_takeBack 18 = .ok (.iconst 1, 1) := by decide +kernel
theorem dX2_takeBack_19 : decode cX2_takeBack 19 = .ok (.isub, 1) := by decide +kernel
theorem dX2_takeBack_20 : decode cX2_takeBack 20 = .ok (.bipush 7, 2) := by decide +kernel
theorem dX2_takeBack_22 : decode cX2_takeBack 22 = .ok (.irem, 1) := by decide +kernel
theorem dX2_takeBack_23 : decode cX2_takeBack 23 = .ok (.putfield 18, 3) := by decide +kernel
theorem dX2_takeBack_26 : decode cX2_takeBack 26 = .ok (.aload_n 0, 1) := by decide +kernel
theorem dX2_takeBack_27 : decode cX2_takeBack 27 = .ok (.dup, 1) := by decide +kernel
theorem dX2_takeBack_28 : decode cX2_takeBack 28 = .ok (.getfield 30, 3) := by decide +kernel
theorem dX2_takeBack_31 : decode cX2_takeBack 31 = .ok (.iconst 1, 1) := by decide +kernel
theorem dX2_takeBack_32 : decode cX2_takeBack 32 = .ok (.isub, 1) := by decide +kernel
theorem dX2_takeBack_33 : decode cX2_takeBack 33 = .ok (.putfield 30, 3) := by decide +kernel
theorem dX2_takeBack_36 : decode cX2_takeBack 36 = .ok (.aload_n 0, 1) := by decide +kernel
theorem dX2_takeBack_37 : decode cX2_takeBack 37 = .ok (.invokevirtual 22, 3) := by decide +kernel
theorem dX2_takeBack_40 : decode cX2_takeBack 40 = .ok (.aload_n 1, 1) := by decide +kernel
theorem dX2_takeBack_41 : decode cX2_takeBack 41 = .ok (.invokestatic 26, 3) := by decide +kernel
theorem dX2_takeBack_44 : decode cX2_takeBack 44 = .ok (.aload_n 0, 1) := by decide +kernel
theorem dX2_takeBack_45 : decode cX2_takeBack 45 = .ok (.getfield 30, 3) := by decide +kernel
theorem dX2_takeBack_48 : decode cX2_takeBack 48 = .ok (.ireturn, 1) := by decide +kernel
theorem dX3_init_0 : decode cX3_init 0 = .ok (.aload_n 0, 1) := by decide +kernel
theorem dX3_init_1 : decode cX3_init 1 = .ok (.invokespecial 3, 3) := by decide +kernel
theorem dX3_init_4 : decode cX3_init 4 = .ok (.aload_n 0, 1) := by decide +kernel
theorem dX3_init_5 : decode cX3_init 5 = .ok (.bipush 80, 2) := by decide +kernel
theorem dX3_init_7 : decode cX3_init 7 = .ok (.newarray .char, 2) := by decide +kernel
theorem dX3_init_9 : decode cX3_init 9 = .ok (.putfield 9, 3) := by decide +kernel
theorem dX3_init_12 : decode cX3_init 12 = .ok (.return_, 1) := by decide +kernel
theorem dX3_append_0 : decode cX3_append 0 = .ok (.iconst 0, 1) := by decide +kernel
theorem dX3_append_1 : decode cX3_append 1 = .ok (.istore_n 3, 1) := by decide +kernel
theorem dX3_append_2 : decode cX3_append 2 = .ok (.lload_n 1, 1) := by decide +kernel
theorem dX3_append_3 : decode cX3_append 3 = .ok (.lstore 4, 2) := by decide +kernel
theorem dX3_append_5 : decode cX3_append 5 = .ok (.lload 4, 2) := by decide +kernel
theorem dX3_append_7 : decode cX3_append 7 = .ok (.lconst 0, 1) := by decide +kernel
theorem dX3_append_8 : decode cX3_append 8 = .ok (.lcmp, 1) := by decide +kernel
theorem dX3_append_9 : decode cX3_append 9 = .ok (.ifCond .eq 51, 3) := by decide +kernel
theorem dX3_append_12 : decode cX3_append 12 = .ok (.iload_n 3, 1) := by decide +kernel
theorem dX3_append_13 : decode cX3_append 13 = .ok (.bipush 8, 2) := by decide +kernel
theorem dX3_append_15 : decode cX3_append 15 = .ok (.if_icmp .ge 45, 3) := by decide +kernel
theorem dX3_append_18 : decode cX3_append 18 = .ok (.lload 4, 2) := by decide +kernel
theorem dX3_append_20 : decode cX3_append 20 = .ok (.ldc2_w 15, 3) := by decide +kernel
theorem dX3_append_23 : decode cX3_append 23 = .ok (.land, 1) := by decide +kernel
theorem dX3_append_24 : decode cX3_append 24 = .ok (.lstore 6, 2) := by decide +kernel
theorem dX3_append_26 : decode cX3_append 26 = .ok (.lload 6, 2) := by decide +kernel
theorem dX3_append_28 : decode cX3_append 28 = .ok (.ldc2_w 17, 3) := by decide +kernel
theorem dX3_append_31 : decode cX3_append 31 = .ok (.lcmp, 1) := by decide +kernel
theorem dX3_append_32 : decode cX3_append 32 = .ok (.ifCond .lt 12, 3) := by decide +kernel
theorem dX3_append_35 : decode cX3_append 35 = .ok (.lload 6, 2) := by decide +kernel
theorem dX3_append_37 : decode cX3_append 37 = .ok (.ldc2_w 19, 3) := by decide +kernel
theorem dX3_append_40 : decode cX3_append 40 = .ok (.lcmp, 1) := by decide +kernel
theorem dX3_append_41 : decode cX3_append 41 = .ok (.ifCond .le 6, 3) := by decide +kernel
theorem dX3_append_44 : decode cX3_append 44 = .ok (.bipush (-2), 2) := by decide +kernel
theorem dX3_append_46 : decode cX3_append 46 = .ok (.ireturn, 1) := by decide +kernel
theorem dX3_append_47 : decode cX3_append 47 = .ok (.iinc 3 1, 3) := by decide +kernel
theorem dX3_append_50 : decode cX3_append 50 = .ok (.lload 4, 2) := by decide +kernel
theorem dX3_append_52 : decode cX3_append 52 = .ok (.bipush 8, 2) := by decide +kernel
theorem dX3_append_54 : decode cX3_append 54 = .ok (.lushr, 1) := by decide +kernel
theorem dX3_append_55 : decode cX3_append 55 = .ok (.lstore 4, 2) := by decide +kernel
theorem dX3_append_57 : decode cX3_append 57 = .ok (.goto (-52), 3) := by decide +kernel
theorem dX3_append_60 : decode cX3_append 60 = .ok (.iload_n 3, 1) := by decide +kernel
theorem dX3_append_61 : decode cX3_append 61 = .ok (.ifCond .ne 6, 3) := by decide +kernel
theorem dX3_append_64 : decode cX3_append 64 = .ok (.bipush (-2), 2) := by decide +kernel
theorem dX3_append_66 : decode cX3_append 66 = .ok (.ireturn, 1) := by decide +kernel
theorem dX3_append_67 : decode cX3_append 67 = .ok (.iload_n 3, 1) := by decide +kernel
theorem dX3_append_68 : decode cX3_append 68 = .ok (.bipush 80, 2) := by decide +kernel
theorem dX3_append_70 : decode cX3_append 70 = .ok (.aload_n 0, 1) := by decide +kernel
theorem dX3_append_71 : decode cX3_append 71 = .ok (.getfield 21, 3) := by decide +kernel
theorem dX3_append_74 : decode cX3_append 74 = .ok (.isub, 1) := by decide +kernel
theorem dX3_append_75 : decode cX3_append 75 = .ok (.if_icmp .le 6, 3) := by decide +kernel
theorem dX3_append_78 : decode cX3_append 78 = .ok (.bipush (-4), 2) := by decide +kernel
theorem dX3_append_80 : decode cX3_append 80 = .ok (.ireturn, 1) := by decide +kernel
theorem dX3_append_81 : decode cX3_append 81 = .ok (.iload_n 3, 1) := by decide +kernel
theorem dX3_append_82 : decode cX3_append 82 = .ok (.iconst 1, 1) := by decide +kernel
theorem dX3_append_83 : decode cX3_append 83 = .ok (.isub, 1) := by decide +kernel
theorem dX3_append_84 : decode cX3_append 84 = .ok (.istore 4, 2) := by decide +kernel
theorem dX3_append_86 : decode cX3_append 86 = .ok (.iload 4, 2) := by decide +kernel
theorem dX3_append_88 : decode cX3_append 88 = .ok (.ifCond .lt 57, 3) := by decide +kernel
theorem dX3_append_91 : decode cX3_append 91 = .ok (.aload_n 0, 1) := by decide +kernel
theorem dX3_append_92 : decode cX3_append 92 = .ok (.getfield 21, 3) := by decide +kernel
theorem dX3_append_95 : decode cX3_append 95 = .ok (.ifCond .lt 44, 3) := by decide +kernel
theorem dX3_append_98 : decode cX3_append 98 = .ok (.aload_n 0, 1) := by decide +kernel
theorem dX3_append_99 : decode cX3_append 99 = .ok (.getfield 21, 3) := by decide +kernel
theorem dX3_append_102 : decode cX3_append 102 = .ok (.bipush 80, 2) := by decide +kernel
theorem dX3_append_104 : decode cX3_append 104 = .ok (.if_icmp .ge 35, 3) := by decide +kernel
theorem dX3_append_107 : decode cX3_append 107 = .ok (.aload_n 0, 1) := by decide +kernel
theorem dX3_append_108 : decode cX3_append 108 = .ok (.getfield 9, 3) := by decide +kernel
theorem dX3_append_111 : decode cX3_append 111 = .ok (.aload_n 0, 1) := by decide +kernel
theorem dX3_append_112 : decode cX3_append 112 = .ok (.getfield 21, 3) := by decide +kernel
theorem dX3_append_115 : decode cX3_append 115 = .ok (.lload_n 1, 1) := by decide +kernel
theorem dX3_append_116 : decode cX3_append 116 = .ok (.bipush 8, 2) := by decide +kernel
theorem dX3_append_118 : decode cX3_append 118 = .ok (.iload 4, 2) := by decide +kernel
theorem dX3_append_120 : decode cX3_append 120 = .ok (.imul, 1) := by decide +kernel
theorem dX3_append_121 : decode cX3_append 121 = .ok (.lushr, 1) := by decide +kernel
theorem dX3_append_122 : decode cX3_append 122 = .ok (.ldc2_w 15, 3) := by decide +kernel
theorem dX3_append_125 : decode cX3_append 125 = .ok (.land, 1) := by decide +kernel
theorem dX3_append_126 : decode cX3_append 126 = .ok (.l2i, 1) := by decide +kernel
theorem dX3_append_127 : decode cX3_append 127 = .ok (.i2c, 1) := by decide +kernel
theorem dX3_append_128 : decode cX3_append 128 = .ok (.castore, 1) := by decide +kernel
theorem dX3_append_129 : decode cX3_append 129 = .ok (.aload_n 0, 1) := by decide +kernel
theorem dX3_append_130 : decode cX3_append 130 = .ok (.dup, 1) := by decide +kernel
theorem dX3_append_131 : decode cX3_append 131 = .ok (.getfield 21, 3) := by decide +kernel
theorem dX3_append_134 : decode cX3_append 134 = .ok (.iconst 1, 1) := by decide +kernel
theorem dX3_append_135 : decode cX3_append 135 = .ok (.iadd, 1) := by decide +kernel
theorem dX3_append_136 : decode cX3_append 136 = .ok (.putfield 21, 3) := by decide +kernel
theorem dX3_append_139 : decode cX3_append 139 = .ok (.iinc 4 (-1), 3) := by decide +kernel
theorem dX3_append_142 : decode cX3_append 142 = .ok (.goto (-56), 3) := by decide +kernel
theorem dX3_append_145 : decode cX3_append 145 = .ok (.aload_n 0, 1) := by decide +kernel
theorem dX3_append_146 : decode cX3_append 146 = .ok (.getfield 21, 3) := by decide +kernel
theorem dX3_append_149 : decode cX3_append 149 = .ok (.ireturn, 1) := by decide +kernel
theorem dX3_empty_0 : decode cX3_empty 0 = .ok (.aload_n 0, 1) := by decide +kernel
theorem dX3_empty_1 : decode cX3_empty 1 = .ok (.getfield 21, 3) := by decide +kernel
theorem dX3_empty_4 : decode cX3_empty 4 = .ok (.istore_n 1, 1) := by decide +kernel
theorem dX3_empty_5 : decode cX3_empty 5 = .ok (.aload_n 0, 1) := by decide +kernel
theorem dX3_empty_6 : decode cX3_empty 6 = .ok (.iconst 0, 1) := by decide +kernel
theorem dX3_empty_7 : decode cX3_empty 7 = .ok (.putfield 21, 3) := by decide +kernel
theorem dX3_empty_10 : decode cX3_empty 10 = .ok (.iload_n 1, 1) := by decide +kernel
theorem dX3_empty_11 : decode cX3_empty 11 = .ok (.ireturn, 1) := by decide +kernel
set_option maxRecDepth 20000 in
theorem ggX3_firstFault_X3_begin : GoodIn wsX3_firstFault wsX3_begin := goodIn_r _ [7, 1, 40, 41, 42, 43, 44, 45] (by decide +kernel) (by decide +kernel)
set_option maxRecDepth 20000 in
theorem gX3_firstFault_X3_begin : GoodIn wsX3_firstFault (wsV RX3 25 RX3 yX3_begin wsX3_begin) := goodIn_app (goodIn_of _ (by decide +kernel)) ggX3_firstFault_X3_begin
set_option maxRecDepth 20000 in
theorem ggX3_firstFault_X3_readOrder : GoodIn wsX3_firstFault wsX3_readOrder := goodIn_r _ [11, 12, 13, 14, 6, 15, 1, 16, 17, 18, 19, 2, 20, 21, 22, 23, 24, 25, 26, 27, 28, 29, 30, 31, 32, 33, 34, 35, 36, 37, 38, 39, 40, 41, 42, 43, 44, 45] (by decide +kernel) (by decide +kernel)
set_option maxRecDepth 20000 in
theorem gX3_firstFault_X3_readOrder : GoodIn wsX3_firstFault (wsV RX3 28 RX3 yX3_readOrder wsX3_readOrder) := goodIn_app (goodIn_of _ (by decide +kernel)) ggX3_firstFault_X3_readOrder
set_option maxRecDepth 20000 in
theorem ggX3_firstFault_X3_skip : GoodIn wsX3_firstFault wsX3_skip := goodIn_r _ [15, 1, 16, 17, 18, 6, 19, 2, 20, 40, 41, 42, 43, 44, 45] (by decide +kernel) (by decide +kernel)
set_option maxRecDepth 20000 in
theorem gX3_firstFault_X3_skip : GoodIn wsX3_firstFault (wsV RX3 35 RX3 yX3_skip wsX3_skip) := goodIn_app (goodIn_of _ (by decide +kernel)) ggX3_firstFault_X3_skip
theorem dX3_firstFault_0 : decode cX3_firstFault 0 = .ok (.aload_n 0, 1) := by decide +kernel
theorem dX3_firstFault_1 : decode cX3_firstFault 1 = .ok (.invokevirtual 25, 3) := by decide +kernel
theorem dX3_firstFault_4 : decode cX3_firstFault 4 = .ok (.iconst 0, 1) := by decide +kernel
theorem dX3_firstFault_5 : decode cX3_firstFault 5 = .ok (.istore_n 1, 1) := by decide +kernel
theorem dX3_firstFault_6 : decode cX3_firstFault 6 = .ok (.iload_n 1, 1) := by decide +kernel
theorem dX3_firstFault_7 : decode cX3_firstFault 7 = .ok (.bipush 80, 2) := by decide +kernel
theorem dX3_firstFault_9 : decode cX3_firstFault 9 = .ok (.if_icmp .gt 33, 3) := by decide +kernel
theorem dX3_firstFault_12 : decode cX3_firstFault 12 = .ok (.aload_n 0, 1) := by decide +kernel
theorem dX3_firstFault_13 : decode cX3_firstFault 13 = .ok (.invokevirtual 28, 3) := by decide +kernel
theorem dX3_firstFault_16 : decode cX3_firstFault 16 = .ok (.ifCond .ne 8, 3) := by decide +kernel
theorem dX3_firstFault_19 : decode cX3_firstFault 19 = .ok (.aload_n 0, 1) := by decide +kernel
theorem dX3_firstFault_20 : decode cX3_firstFault 20 = .ok (.getfield 32, 3) := by decide +kernel
theorem dX3_firstFault_23 : decode cX3_firstFault 23 = .ok (.ireturn, 1) := by decide +kernel
theorem dX3_firstFault_24 : decode cX3_firstFault 24 = .ok (.aload_n 0, 1) := by decide +kernel
theorem dX3_firstFault_25 : decode cX3_firstFault 25 = .ok (.bipush 59, 2) := by decide +kernel
theorem dX3_firstFault_27 : decode cX3_firstFault 27 = .ok (.invokevirtual 35, 3) := by decide +kernel
theorem dX3_firstFault_30 : decode cX3_firstFault 30 = .ok (.ifCond .ne 6, 3) := by decide +kernel
theorem dX3_firstFault_33 : decode cX3_firstFault 33 = .ok (.goto 9, 3) := by decide +kernel
theorem dX3_firstFault_36 : decode cX3_firstFault 36 = .ok (.iinc 1 1, 3) := by decide +kernel
theorem dX3_firstFault_39 : decode cX3_firstFault 39 = .ok (.goto (-33), 3) := by decide +kernel
theorem dX3_firstFault_42 : decode cX3_firstFault 42 = .ok (.aload_n 0, 1) := by decide +kernel
theorem dX3_firstFault_43 : decode cX3_firstFault 43 = .ok (.getfield 32, 3) := by decide +kernel
theorem dX3_firstFault_46 : decode cX3_firstFault 46 = .ok (.aload_n 0, 1) := by decide +kernel
theorem dX3_firstFault_47 : decode cX3_firstFault 47 = .ok (.getfield 21, 3) := by decide +kernel
theorem dX3_firstFault_50 : decode cX3_firstFault 50 = .ok (.if_icmp .ge 10, 3) := by decide +kernel
theorem dX3_firstFault_53 : decode cX3_firstFault 53 = .ok (.aload_n 0, 1) := by decide +kernel
theorem dX3_firstFault_54 : decode cX3_firstFault 54 = .ok (.getfield 32, 3) := by decide +kernel
theorem dX3_firstFault_57 : decode cX3_firstFault 57 = .ok (.goto 5, 3) := by decide +kernel
theorem dX3_firstFault_60 : decode cX3_firstFault 60 = .ok (.bipush (-6), 2) := by decide +kernel
theorem dX3_firstFault_62 : decode cX3_firstFault 62 = .ok (.ireturn, 1) := by decide +kernel
theorem dX3_begin_0 : decode cX3_begin 0 = .ok (.aload_n 0, 1) := by decide +kernel
theorem dX3_begin_1 : decode cX3_begin 1 = .ok (.iconst 0, 1) := by decide +kernel
theorem dX3_begin_2 : decode cX3_begin 2 = .ok (.putfield 32, 3) := by decide +kernel
theorem dX3_begin_5 : decode cX3_begin 5 = .ok (.return_, 1) := by decide +kernel
theorem dX3_here_0 : decode cX3_here 0 = .ok (.aload_n 0, 1) := by decide +kernel
theorem dX3_here_1 : decode cX3_here 1 = .ok (.getfield 32, 3) := by decide +kernel
theorem dX3_here_4 : decode cX3_here 4 = .ok (.ifCond .lt 35, 3) := by decide +kernel
theorem dX3_here_7 : decode cX3_here 7 = .ok (.aload_n 0, 1) := by decide +kernel
theorem dX3_here_8 : decode cX3_here 8 = .ok (.getfield 32, 3) := by decide +kernel
theorem dX3_here_11 : decode cX3_here 11 = .ok (.aload_n 0, 1) := by decide +kernel
theorem dX3_here_12 : decode cX3_here 12 = .ok (.getfield 21, 3) := by decide +kernel
theorem dX3_here_15 : decode cX3_here 15 = .ok (.if_icmp .ge 24, 3) := by decide +kernel
theorem dX3_here_18 : decode cX3_here 18 = .ok (.aload_n 0, 1) := by decide +kernel
theorem dX3_here_19 : decode cX3_here 19 = .ok (.getfield 32, 3) := by decide +kernel
theorem dX3_here_22 : decode cX3_here 22 = .ok (.bipush 80, 2) := by decide +kernel
theorem dX3_here_24 : decode cX3_here 24 = .ok (.if_icmp .ge 15, 3) := by decide +kernel
theorem dX3_here_27 : decode cX3_here 27 = .ok (.aload_n 0, 1) := by decide +kernel
theorem dX3_here_28 : decode cX3_here 28 = .ok (.getfield 9, 3) := by decide +kernel
theorem dX3_here_31 : decode cX3_here 31 = .ok (.aload_n 0, 1) := by decide +kernel
theorem dX3_here_32 : decode cX3_here 32 = .ok (.getfield 32, 3) := by decide +kernel
theorem dX3_here_35 : decode cX3_here 35 = .ok (.caload, 1) := by decide +kernel
theorem dX3_here_36 : decode cX3_here 36 = .ok (.goto 4, 3) := by decide +kernel
theorem dX3_here_39 : decode cX3_here 39 = .ok (.iconst 0, 1) := by decide +kernel
theorem dX3_here_40 : decode cX3_here 40 = .ok (.ireturn, 1) := by decide +kernel
set_option maxRecDepth 20000 in
theorem ggX3_skip_X3_here : GoodIn wsX3_skip wsX3_here := goodIn_r _ [6, 1, 7, 8, 9, 10, 11, 12, 13, 14] (by decide +kernel) (by decide +kernel)
set_option maxRecDepth 20000 in
theorem gX3_skip_X3_here : GoodIn wsX3_skip (wsV RX3 39 RX3 yX3_here wsX3_here) := goodIn_app (goodIn_of _ (by decide +kernel)) ggX3_skip_X3_here
theorem dX3_skip_0 : decode cX3_skip 0 = .ok (.aload_n 0, 1) := by decide +kernel
theorem dX3_skip_1 : decode cX3_skip 1 = .ok (.invokevirtual 39, 3) := by decide +kernel
theorem dX3_skip_4 : decode cX3_skip 4 = .ok (.iload_n 1, 1) := by decide +kernel
theorem dX3_skip_5 : decode cX3_skip 5 = .ok (.if_icmp .eq 5, 3) := by decide +kernel
theorem dX3_skip_8 : decode cX3_skip 8 = .ok (.iconst 0, 1) := by decide +kernel
theorem dX3_skip_9 : decode cX3_skip 9 = .ok (.ireturn, 1) := by decide +kernel
theorem dX3_skip_10 : decode cX3_skip 10 = .ok (.aload_n 0, 1) := by decide +kernel
theorem dX3_skip_11 : decode cX3_skip 11 = .ok (.dup, 1) := by decide +kernel
theorem dX3_skip_12 : decode cX3_skip 12 = .ok (.getfield 32, 3) := by decide +kernel
theorem dX3_skip_15 : decode cX3_skip 15 = .ok (.iconst 1, 1) := by decide +kernel
theorem dX3_skip_16 : decode cX3_skip 16 = .ok (.iadd, 1) := by decide +kernel
theorem dX3_skip_17 : decode cX3_skip 17 = .ok (.putfield 32, 3) := by decide +kernel
theorem dX3_skip_20 : decode cX3_skip 20 = .ok (.iconst 1, 1) := by decide +kernel
theorem dX3_skip_21 : decode cX3_skip 21 = .ok (.ireturn, 1) := by decide +kernel
set_option maxRecDepth 20000 in
theorem ggX3_readOrder_X3_skip : GoodIn wsX3_readOrder wsX3_skip := goodIn_r _ [5, 6, 7, 8, 9, 4, 10, 11, 12, 32, 33, 34, 35, 36, 37] (by decide +kernel) (by decide +kernel)
set_option maxRecDepth 20000 in
theorem gX3_readOrder_X3_skip : GoodIn wsX3_readOrder (wsV RX3 35 RX3 yX3_skip wsX3_skip) := goodIn_app (goodIn_of _ (by decide +kernel)) ggX3_readOrder_X3_skip
set_option maxRecDepth 20000 in
theorem ggX3_readOrder_X3_readDigit : GoodIn wsX3_readOrder wsX3_readDigit := goodIn_r _ [16, 17, 6, 7, 8, 9, 4, 10, 11, 12, 32, 33, 34, 35, 36, 37] (by decide +kernel) (by decide +kernel)
set_option maxRecDepth 20000 in
theorem gX3_readOrder_X3_readDigit : GoodIn wsX3_readOrder (wsV RX3 43 RX3 yX3_readDigit wsX3_readDigit) := goodIn_app (goodIn_of _ (by decide +kernel)) ggX3_readOrder_X3_readDigit
set_option maxRecDepth 20000 in
theorem ggX3_readOrder_X3_readNumber : GoodIn wsX3_readOrder wsX3_readNumber := goodIn_r _ [21, 17, 6, 7, 8, 9, 4, 10, 11, 12, 32, 33, 34, 35, 36, 37] (by decide +kernel) (by decide +kernel)
set_option maxRecDepth 20000 in
theorem gX3_readOrder_X3_readNumber : GoodIn wsX3_readOrder (wsV RX3 46 RX3 yX3_readNumber wsX3_readNumber) := goodIn_app (goodIn_of _ (by decide +kernel)) ggX3_readOrder_X3_readNumber
set_option maxRecDepth 20000 in
theorem ggX3_readOrder_X3_readRuns : GoodIn wsX3_readOrder wsX3_readRuns := goodIn_r _ [25, 26, 27, 28, 4, 29, 30, 6, 31, 17, 7, 8, 9, 10, 11, 12, 1, 2, 3, 5, 18, 19, 20, 21, 32, 33, 34, 35, 36, 37] (by decide +kernel) (by decide +kernel)
set_option maxRecDepth 20000 in
theorem gX3_readOrder_X3_readRuns : GoodIn wsX3_readOrder (wsV RX3 49 RX3 yX3_readRuns wsX3_readRuns) := goodIn_app (goodIn_of _ (by decide +kernel)) ggX3_readOrder_X3_readRuns
theorem dX3_readOrder_0 : decode cX3_readOrder 0 = .ok (.aload_n 0, 1) := by decide +kernel
theorem dX3_readOrder_1 : decode cX3_readOrder 1 = .ok (.bipush 122, 2) := by decide +kernel
theorem dX3_readOrder_3 : decode cX3_readOrder 3 = .ok (.invokevirtual 35, 3) := by decide +kernel
theorem dX3_readOrder_6 : decode cX3_readOrder 6 = .ok (.ifCond .eq 5, 3) := by decide +kernel
theorem dX3_readOrder_9 : decode cX3_readOrder 9 = .ok (.iconst 1, 1) := by decide +kernel
theorem dX3_readOrder_10 : decode cX3_readOrder 10 = .ok (.ireturn, 1) := by decide +kernel
theorem dX3_readOrder_11 : decode cX3_readOrder 11 = .ok (.aload_n 0, 1) := by decide +kernel
theorem dX3_readOrder_12 : decode cX3_readOrder 12 = .ok (.bipush 110, 2) := by decide +kernel
theorem dX3_readOrder_14 : decode cX3_readOrder 14 = .ok (.invokevirtual 35, 3) := by decide +kernel
theorem dX3_readOrder_17 : decode cX3_readOrder 17 = .ok (.ifCond .eq 8, 3) := by decide +kernel
theorem dX3_readOrder_20 : decode cX3_readOrder 20 = .ok (.aload_n 0, 1) := by decide +kernel
theorem dX3_readOrder_21 : decode cX3_readOrder 21 = .ok (.invokevirtual 43, 3) := by decide +kernel
theorem dX3_readOrder_24 : decode cX3_readOrder 24 = .ok (.ireturn, 1) := by decide +kernel
theorem dX3_readOrder_25 : decode cX3_readOrder 25 = .ok (.aload_n 0, 1) := by decide +kernel
theorem dX3_readOrder_26 : decode cX3_readOrder 26 = .ok (.bipush 102, 2) := by decide +kernel
theorem dX3_readOrder_28 : decode cX3_readOrder 28 = .ok (.invokevirtual 35, 3) := by decide +kernel
theorem dX3_readOrder_31 : decode cX3_readOrder 31 = .ok (.ifCond .ne 12, 3) := by decide +kernel
theorem dX3_readOrder_34 : decode cX3_readOrder 34 = .ok (.aload_n 0, 1) := by decide +kernel
theorem dX3_readOrder_35 : decode cX3_readOrder 35 = .ok (.bipush 98, 2) := by decide +kernel
theorem dX3_readOrder_37 : decode cX3_readOrder 37 = .ok (.invokevirtual 35, 3) := by decide +kernel
theorem dX3_readOrder_40 : decode cX3_readOrder 40 = .ok (.ifCond .eq 8, 3) := by decide +kernel
theorem dX3_readOrder_43 : decode cX3_readOrder 43 = .ok (.aload_n 0, 1) := by decide +kernel
theorem dX3_readOrder_44 : decode cX3_readOrder 44 = .ok (.invokevirtual 46, 3) := by decide +kernel
theorem dX3_readOrder_47 : decode cX3_readOrder 47 = .ok (.ireturn, 1) := by decide +kernel
theorem dX3_readOrder_48 : decode cX3_readOrder 48 = .ok (.aload_n 0, 1) := by decide +kernel
theorem dX3_readOrder_49 : decode cX3_readOrder 49 = .ok (.invokevirtual 49, 3) := by decide +kernel
theorem dX3_readOrder_52 : decode cX3_readOrder 52 = .ok (.ireturn, 1) := by decide +kernel
set_option maxRecDepth 20000 in
theorem ggX3_readRuns_X3_readRun : GoodIn wsX3_readRuns wsX3_readRun := goodIn_r _ [5, 6, 7, 8, 9, 10, 11, 12, 4, 13, 14, 15, 16, 17, 18, 19, 20, 21, 22, 23, 24, 25, 26, 27, 28, 29] (by decide +kernel) (by decide +kernel)
set_option maxRecDepth 20000 in
theorem gX3_readRuns_X3_readRun : GoodIn wsX3_readRuns (wsV RX3 52 RX3 yX3_readRun wsX3_readRun) := goodIn_app (goodIn_of _ (by decide +kernel)) ggX3_readRuns_X3_readRun
set_option maxRecDepth 20000 in
theorem ggX3_readRuns_X3_skip : GoodIn wsX3_readRuns wsX3_skip := goodIn_r _ [19, 7, 10, 11, 12, 4, 13, 14, 15, 24, 25, 26, 27, 28, 29] (by decide +kernel) (by decide +kernel)
set_option maxRecDepth 20000 in
theorem gX3_readRuns_X3_skip : GoodIn wsX3_readRuns (wsV RX3 35 RX3 yX3_skip wsX3_skip) := goodIn_app (goodIn_of _ (by decide +kernel)) ggX3_readRuns_X3_skip
theorem dX3_readRuns_0 : decode cX3_readRuns 0 = .ok (.iconst 0, 1) := by decide +kernel
theorem dX3_readRuns_1 : decode cX3_readRuns 1 = .ok (.istore_n 1, 1) := by decide +kernel
theorem dX3_readRuns_2 : decode cX3_readRuns 2 = .ok (.iload_n 1, 1) := by decide +kernel
theorem dX3_readRuns_3 : decode cX3_readRuns 3 = .ok (.bipush 80, 2) := by decide +kernel
theorem dX3_readRuns_5 : decode cX3_readRuns 5 = .ok (.if_icmp .ge 29, 3) := by decide +kernel
theorem dX3_readRuns_8 : decode cX3_readRuns 8 = .ok (.aload_n 0, 1) := by decide +kernel
theorem dX3_readRuns_9 : decode cX3_readRuns 9 = .ok (.invokevirtual 52, 3) := by decide +kernel
theorem dX3_readRuns_12 : decode cX3_readRuns 12 = .ok (.ifCond .ne 5, 3) := by decide +kernel
theorem dX3_readRuns_15 : decode cX3_readRuns 15 = .ok (.iconst 0, 1) := by decide +kernel
theorem dX3_readRuns_16 : decode cX3_readRuns 16 = .ok (.ireturn, 1) := by decide +kernel
theorem dX3_readRuns_17 : decode cX3_readRuns 17 = .ok (.aload_n 0, 1) := by decide +kernel
theorem dX3_readRuns_18 : decode cX3_readRuns 18 = .ok (.bipush 44, 2) := by decide +kernel
theorem dX3_readRuns_20 : decode cX3_readRuns 20 = .ok (.invokevirtual 35, 3) := by decide +kernel
theorem dX3_readRuns_23 : decode cX3_readRuns 23 = .ok (.ifCond .ne 5, 3) := by decide +kernel
theorem dX3_readRuns_26 : decode cX3_readRuns 26 = .ok (.iconst 1, 1) := by decide +kernel
theorem dX3_readRuns_27 : decode cX3_readRuns 27 = .ok (.ireturn, 1) := by decide +kernel
theorem dX3_readRuns_28 : decode cX3_readRuns 28 = .ok (.iinc 1 1, 3) := by decide +kernel
theorem dX3_readRuns_31 : decode cX3_readRuns 31 = .ok (.goto (-29), 3) := by decide +kernel
theorem dX3_readRuns_34 : decode cX3_readRuns 34 = .ok (.iconst 0, 1) := by decide +kernel
theorem dX3_readRuns_35 : decode cX3_readRuns 35 = .ok (.ireturn, 1) := by decide +kernel
set_option maxRecDepth 20000 in
theorem ggX3_readRun_X3_here : GoodIn wsX3_readRun wsX3_here := goodIn_r _ [9, 2, 10, 11, 20, 21, 22, 23, 24, 25] (by decide +kernel) (by decide +kernel)
set_option maxRecDepth 20000 in
theorem gX3_readRun_X3_here : GoodIn wsX3_readRun (wsV RX3 39 RX3 yX3_here wsX3_here) := goodIn_app (goodIn_of _ (by decide +kernel)) ggX3_readRun_X3_here
set_option maxRecDepth 20000 in
theorem ggX3_readRun_X3_skip : GoodIn wsX3_readRun wsX3_skip := goodIn_r _ [15, 2, 5, 6, 7, 8, 9, 10, 11, 20, 21, 22, 23, 24, 25] (by decide +kernel) (by decide +kernel)
set_option maxRecDepth 20000 in
theorem gX3_readRun_X3_skip : GoodIn wsX3_readRun (wsV RX3 35 RX3 yX3_skip wsX3_skip) := goodIn_app (goodIn_of _ (by decide +kernel)) ggX3_readRun_X3_skip
set_option maxRecDepth 20000 in
theorem ggX3_readRun_X3_readNumber : GoodIn wsX3_readRun wsX3_readNumber := goodIn_r _ [19, 4, 2, 5, 6, 7, 8, 9, 10, 11, 20, 21, 22, 23, 24, 25] (by decide +kernel) (by decide +kernel)
set_option maxRecDepth 20000 in
theorem gX3_readRun_X3_readNumber : GoodIn wsX3_readRun (wsV RX3 46 RX3 yX3_readNumber wsX3_readNumber) := goodIn_app (goodIn_of _ (by decide +kernel)) ggX3_readRun_X3_readNumber
theorem dX3_readRun_0 : decode cX3_readRun 0 = .ok (.aload_n 0, 1) := by decide +kernel
theorem dX3_readRun_1 : decode cX3_readRun 1 = .ok (.invokevirtual 39, 3) := by decide +kernel
theorem dX3_readRun_4 : decode cX3_readRun 4 = .ok (.bipush 48, 2) := by decide +kernel
theorem dX3_readRun_6 : decode cX3_readRun 6 = .ok (.if_icmp .lt 12, 3) := by decide +kernel
theorem dX3_readRun_9 : decode cX3_readRun 9 = .ok (.aload_n 0, 1) := by decide +kernel
theorem dX3_readRun_10 : decode cX3_readRun 10 = .ok (.invokevirtual 39, 3) := by decide +kernel
theorem dX3_readRun_13 : decode cX3_readRun 13 = .ok (.bipush 51, 2) := by decide +kernel
theorem dX3_readRun_15 : decode cX3_readRun 15 = .ok (.if_icmp .le 5, 3) := by decide +kernel
theorem dX3_readRun_18 : decode cX3_readRun 18 = .ok (.iconst 0, 1) := by decide +kernel
theorem dX3_readRun_19 : decode cX3_readRun 19 = .ok (.ireturn, 1) := by decide +kernel
theorem dX3_readRun_20 : decode cX3_readRun 20 = .ok (.aload_n 0, 1) := by decide +kernel
theorem dX3_readRun_21 : decode cX3_readRun 21 = .ok (.aload_n 0, 1) := by decide +kernel
theorem dX3_readRun_22 : decode cX3_readRun 22 = .ok (.invokevirtual 39, 3) := by decide +kernel
theorem dX3_readRun_25 : decode cX3_readRun 25 = .ok (.bipush 48, 2) := by decide +kernel
theorem dX3_readRun_27 : decode cX3_readRun 27 = .ok (.isub, 1) := by decide +kernel
theorem dX3_readRun_28 : decode cX3_readRun 28 = .ok (.putfield 55, 3) := by decide +kernel
theorem dX3_readRun_31 : decode cX3_readRun 31 = .ok (.aload_n 0, 1) := by decide +kernel
theorem dX3_readRun_32 : decode cX3_readRun 32 = .ok (.dup, 1) := by decide +kernel
theorem dX3_readRun_33 : decode cX3_readRun 33 = .ok (.getfield 32, 3) := by decide +kernel
theorem dX3_readRun_36 : decode cX3_readRun 36 = .ok (.iconst 1, 1) := by decide +kernel
theorem dX3_readRun_37 : decode cX3_readRun 37 = .ok (.iadd, 1) := by decide +kernel
theorem dX3_readRun_38 : decode cX3_readRun 38 = .ok (.putfield 32, 3) := by decide +kernel
theorem dX3_readRun_41 : decode cX3_readRun 41 = .ok (.aload_n 0, 1) := by decide +kernel
theorem dX3_readRun_42 : decode cX3_readRun 42 = .ok (.aload_n 0, 1) := by decide +kernel
theorem dX3_readRun_43 : decode cX3_readRun 43 = .ok (.bipush 105, 2) := by decide +kernel
theorem dX3_readRun_45 : decode cX3_readRun 45 = .ok (.invokevirtual 35, 3) := by decide +kernel
theorem dX3_readRun_48 : decode cX3_readRun 48 = .ok (.ifCond .eq 7, 3) := by decide +kernel
theorem dX3_readRun_51 : decode cX3_readRun 51 = .ok (.iconst 1, 1) := by decide +kernel
theorem dX3_readRun_52 : decode cX3_readRun 52 = .ok (.goto 4, 3) := by decide +kernel
theorem dX3_readRun_55 : decode cX3_readRun 55 = .ok (.iconst 0, 1) := by decide +kernel
theorem dX3_readRun_56 : decode cX3_readRun 56 = .ok (.putfield 58, 3) := by decide +kernel
theorem dX3_readRun_59 : decode cX3_readRun 59 = .ok (.aload_n 0, 1) := by decide +kernel
theorem dX3_readRun_60 : decode cX3_readRun 60 = .ok (.iconst 1, 1) := by decide +kernel
theorem dX3_readRun_61 : decode cX3_readRun 61 = .ok (.putfield 61, 3) := by decide +kernel
theorem dX3_readRun_64 : decode cX3_readRun 64 = .ok (.aload_n 0, 1) := by decide +kernel
theorem dX3_readRun_65 : decode cX3_readRun 65 = .ok (.bipush 42, 2) := by decide +kernel
theorem dX3_readRun_67 : decode cX3_readRun 67 = .ok (.invokevirtual 35, 3) := by decide +kernel
theorem dX3_readRun_70 : decode cX3_readRun 70 = .ok (.ifCond .eq 10, 3) := by decide +kernel
theorem dX3_readRun_73 : decode cX3_readRun 73 = .ok (.aload_n 0, 1) := by decide +kernel
theorem dX3_readRun_74 : decode cX3_readRun 74 = .ok (.invokevirtual 46, 3) := by decide +kernel
theorem dX3_readRun_77 : decode cX3_readRun 77 = .ok (.ifCond .eq 7, 3) := by decide +kernel
theorem dX3_readRun_80 : decode cX3_readRun 80 = .ok (.iconst 1, 1) := by decide +kernel
theorem dX3_readRun_81 : decode cX3_readRun 81 = .ok (.goto 4, 3) := by decide +kernel
theorem dX3_readRun_84 : decode cX3_readRun 84 = .ok (.iconst 0, 1) := by decide +kernel
theorem dX3_readRun_85 : decode cX3_readRun 85 = .ok (.ireturn, 1) := by decide +kernel
set_option maxRecDepth 20000 in
theorem ggX3_readNumber_X3_here : GoodIn wsX3_readNumber wsX3_here := goodIn_r _ [7, 2, 8, 9, 10, 11, 12, 13, 14, 15] (by decide +kernel) (by decide +kernel)
set_option maxRecDepth 20000 in
theorem gX3_readNumber_X3_here : GoodIn wsX3_readNumber (wsV RX3 39 RX3 yX3_here wsX3_here) := goodIn_app (goodIn_of _ (by decide +kernel)) ggX3_readNumber_X3_here
theorem dX3_readNumber_0 : decode cX3_readNumber 0 = .ok (.aload_n 0, 1) := by decide +kernel
theorem dX3_readNumber_1 : decode cX3_readNumber 1 = .ok (.iconst 0, 1) := by decide +kernel
theorem dX3_readNumber_2 : decode cX3_readNumber 2 = .ok (.putfield 61, 3) := by decide +kernel
theorem dX3_readNumber_5 : decode cX3_readNumber 5 = .ok (.aload_n 0, 1) := by decide +kernel
theorem dX3_readNumber_6 : decode cX3_readNumber 6 = .ok (.invokevirtual 39, 3) := by decide +kernel
theorem dX3_readNumber_9 : decode cX3_readNumber 9 = .ok (.bipush 48, 2) := by decide +kernel
theorem dX3_readNumber_11 : decode cX3_readNumber 11 = .ok (.if_icmp .ne 15, 3) := by decide +kernel
theorem dX3_readNumber_14 : decode cX3_readNumber 14 = .ok (.aload_n 0, 1) := by decide +kernel
theorem dX3_readNumber_15 : decode cX3_readNumber 15 = .ok (.dup, 1) := by decide +kernel
theorem dX3_readNumber_16 : decode cX3_readNumber 16 = .ok (.getfield 32, 3) := by decide +kernel
theorem dX3_readNumber_19 : decode cX3_readNumber 19 = .ok (.iconst 1, 1) := by decide +kernel
theorem dX3_readNumber_20 : decode cX3_readNumber 20 = .ok (.iadd, 1) := by decide +kernel
theorem dX3_readNumber_21 : decode cX3_readNumber 21 = .ok (.putfield 32, 3) := by decide +kernel
theorem dX3_readNumber_24 : decode cX3_readNumber 24 = .ok (.iconst 1, 1) := by decide +kernel
theorem dX3_readNumber_25 : decode cX3_readNumber 25 = .ok (.ireturn, 1) := by decide +kernel
theorem dX3_readNumber_26 : decode cX3_readNumber 26 = .ok (.iconst 0, 1) := by decide +kernel
theorem dX3_readNumber_27 : decode cX3_readNumber 27 = .ok (.istore_n 1, 1) := by decide +kernel
theorem dX3_readNumber_28 : decode cX3_readNumber 28 = .ok (.iload_n 1, 1) := by decide +kernel
theorem dX3_readNumber_29 : decode cX3_readNumber 29 = .ok (.iconst 3, 1) := by decide +kernel
theorem dX3_readNumber_30 : decode cX3_readNumber 30 = .ok (.if_icmp .ge 56, 3) := by decide +kernel
theorem dX3_readNumber_33 : decode cX3_readNumber 33 = .ok (.aload_n 0, 1) := by decide +kernel
theorem dX3_readNumber_34 : decode cX3_readNumber 34 = .ok (.invokevirtual 39, 3) := by decide +kernel
theorem dX3_readNumber_37 : decode cX3_readNumber 37 = .ok (.bipush 48, 2) := by decide +kernel
theorem dX3_readNumber_39 : decode cX3_readNumber 39 = .ok (.if_icmp .lt 47, 3) := by decide +kernel
theorem dX3_readNumber_42 : decode cX3_readNumber 42 = .ok (.aload_n 0, 1) := by decide +kernel
theorem dX3_readNumber_43 : decode cX3_readNumber 43 = .ok (.invokevirtual 39, 3) := by decide +kernel
theorem dX3_readNumber_46 : decode cX3_readNumber 46 = .ok (.bipush 57, 2) := by decide +kernel
theorem dX3_readNumber_48 : decode cX3_readNumber 48 = .ok (.if_icmp .gt 38, 3) := by decide +kernel
theorem dX3_readNumber_51 : decode cX3_readNumber 51 = .ok (.aload_n 0, 1) := by decide +kernel
theorem dX3_readNumber_52 : decode cX3_readNumber 52 = .ok (.bipush 10, 2) := by decide +kernel
theorem dX3_readNumber_54 : decode cX3_readNumber 54 = .ok (.aload_n 0, 1) := by decide +kernel
theorem dX3_readNumber_55 : decode cX3_readNumber 55 = .ok (.getfield 61, 3) := by decide +kernel
theorem dX3_readNumber_58 : decode cX3_readNumber 58 = .ok (.imul, 1) := by decide +kernel
theorem dX3_readNumber_59 : decode cX3_readNumber 59 = .ok (.aload_n 0, 1) := by decide +kernel
theorem dX3_readNumber_60 : decode cX3_readNumber 60 = .ok (.invokevirtual 39, 3) := by decide +kernel
theorem dX3_readNumber_63 : decode cX3_readNumber 63 = .ok (.iadd, 1) := by decide +kernel
theorem dX3_readNumber_64 : decode cX3_readNumber 64 = .ok (.bipush 48, 2) := by decide +kernel
theorem dX3_readNumber_66 : decode cX3_readNumber 66 = .ok (.isub, 1) := by decide +kernel
theorem dX3_readNumber_67 : decode cX3_readNumber 67 = .ok (.putfield 61, 3) := by decide +kernel
theorem dX3_readNumber_70 : decode cX3_readNumber 70 = .ok (.aload_n 0, 1) := by decide +kernel
theorem dX3_readNumber_71 : decode cX3_readNumber 71 = .ok (.dup, 1) := by decide +kernel
theorem dX3_readNumber_72 : decode cX3_readNumber 72 = .ok (.getfield 32, 3) := by decide +kernel
theorem dX3_readNumber_75 : decode cX3_readNumber 75 = .ok (.iconst 1, 1) := by decide +kernel
theorem dX3_readNumber_76 : decode cX3_readNumber 76 = .ok (.iadd, 1) := by decide +kernel
theorem dX3_readNumber_77 : decode cX3_readNumber 77 = .ok (.putfield 32, 3) := by decide +kernel
theorem dX3_readNumber_80 : decode cX3_readNumber 80 = .ok (.iinc 1 1, 3) := by decide +kernel
theorem dX3_readNumber_83 : decode cX3_readNumber 83 = .ok (.goto (-55), 3) := by decide +kernel
theorem dX3_readNumber_86 : decode cX3_readNumber 86 = .ok (.iload_n 1, 1) := by decide +kernel
theorem dX3_readNumber_87 : decode cX3_readNumber 87 = .ok (.ifCond .le 7, 3) := by decide +kernel
theorem dX3_readNumber_90 : decode cX3_readNumber 90 = .ok (.iconst 1, 1) := by decide +kernel
theorem dX3_readNumber_91 : decode cX3_readNumber 91 = .ok (.goto 4, 3) := by decide +kernel
theorem dX3_readNumber_94 : decode cX3_readNumber 94 = .ok (.iconst 0, 1) := by decide +kernel
theorem dX3_readNumber_95 : decode cX3_readNumber 95 = .ok (.ireturn, 1) := by decide +kernel
set_option maxRecDepth 20000 in
theorem ggX3_readDigit_X3_here : GoodIn wsX3_readDigit wsX3_here := goodIn_r _ [7, 2, 8, 9, 10, 11, 12, 13, 14, 15] (by decide +kernel) (by decide +kernel)
set_option maxRecDepth 20000 in
theorem gX3_readDigit_X3_here : GoodIn wsX3_readDigit (wsV RX3 39 RX3 yX3_here wsX3_here) := goodIn_app (goodIn_of _ (by decide +kernel)) ggX3_readDigit_X3_here
theorem dX3_readDigit_0 : decode cX3_readDigit 0 = .ok (.aload_n 0, 1) := by decide +kernel
theorem dX3_readDigit_1 : decode cX3_readDigit 1 = .ok (.invokevirtual 39, 3) := by decide +kernel
theorem dX3_readDigit_4 : decode cX3_readDigit 4 = .ok (.bipush 49, 2) := by decide +kernel
theorem dX3_readDigit_6 : decode cX3_readDigit 6 = .ok (.if_icmp .lt 12, 3) := by decide +kernel
theorem dX3_readDigit_9 : decode cX3_readDigit 9 = .ok (.aload_n 0, 1) := by decide +kernel
theorem dX3_readDigit_10 : decode cX3_readDigit 10 = .ok (.invokevirtual 39, 3) := by decide +kernel
theorem dX3_readDigit_13 : decode cX3_readDigit 13 = .ok (.bipush 57, 2) := by decide +kernel
theorem dX3_readDigit_15 : decode cX3_readDigit 15 = .ok (.if_icmp .le 5, 3) := by decide +kernel
theorem dX3_readDigit_18 : decode cX3_readDigit 18 = .ok (.iconst 0, 1) := by decide +kernel
theorem dX3_readDigit_19 : decode cX3_readDigit 19 = .ok (.ireturn, 1) := by decide +kernel
theorem dX3_readDigit_20 : decode cX3_readDigit 20 = .ok (.aload_n 0, 1) := by decide +kernel
theorem dX3_readDigit_21 : decode cX3_readDigit 21 = .ok (.aload_n 0, 1) := by decide +kernel
theorem dX3_readDigit_22 : decode cX3_readDigit 22 = .ok (.invokevirtual 39, 3) := by decide +kernel
theorem dX3_readDigit_25 : decode cX3_readDigit 25 = .ok (.bipush 48, 2) := by decide +kernel
theorem dX3_readDigit_27 : decode cX3_readDigit 27 = .ok (.isub, 1) := by decide +kernel
theorem dX3_readDigit_28 : decode cX3_readDigit 28 = .ok (.putfield 61, 3) := by decide +kernel
theorem dX3_readDigit_31 : decode cX3_readDigit 31 = .ok (.aload_n 0, 1) := by decide +kernel
theorem dX3_readDigit_32 : decode cX3_readDigit 32 = .ok (.dup, 1) := by decide +kernel
theorem dX3_readDigit_33 : decode cX3_readDigit 33 = .ok (.getfield 32, 3) := by decide +kernel
theorem dX3_readDigit_36 : decode cX3_readDigit 36 = .ok (.iconst 1, 1) := by decide +kernel
theorem dX3_readDigit_37 : decode cX3_readDigit 37 = .ok (.iadd, 1) := by decide +kernel
theorem dX3_readDigit_38 : decode cX3_readDigit 38 = .ok (.putfield 32, 3) := by decide +kernel
theorem dX3_readDigit_41 : decode cX3_readDigit 41 = .ok (.iconst 1, 1) := by decide +kernel
theorem dX3_readDigit_42 : decode cX3_readDigit 42 = .ok (.ireturn, 1) := by decide +kernel
set_option maxRecDepth 20000 in
theorem ggX4_init_X1_init : GoodIn wsX4_init wsX1_init := goodIn_r _ [12, 13, 2, 3, 14, 15, 16, 17, 18, 19, 20, 23, 24, 25, 26, 27, 28, 29, 30, 31, 32, 33, 34, 35, 36, 37, 38] (by decide +kernel) (by decide +kernel)
set_option maxRecDepth 20000 in
theorem gX4_init_X1_init : GoodIn wsX4_init (wsX1_init) := ggX4_init_X1_init
theorem dX4_init_0 : decode cX4_init 0 = .ok (.aload_n 0, 1) := by decide +kernel
theorem dX4_init_1 : decode cX4_init 1 = .ok (.invokespecial 3, 3) := by decide +kernel
theorem dX4_init_4 : decode cX4_init 4 = .ok (.aload_n 0, 1) := by decide +kernel
theorem dX4_init_5 : decode cX4_init 5 = .ok (.iconst 2, 1) := by decide +kernel
theorem dX4_init_6 : decode cX4_init 6 = .ok (.anewarray 9, 3) := by decide +kernel
theorem dX4_init_9 : decode cX4_init 9 = .ok (.putfield 11, 3) := by decide +kernel
theorem dX4_init_12 : decode cX4_init 12 = .ok (.aload_n 0, 1) := by decide +kernel
theorem dX4_init_13 : decode cX4_init 13 = .ok (.iconst 2, 1) := by decide +kernel
theorem dX4_init_14 : decode cX4_init 14 = .ok (.newarray .boolean, 2) := by decide +kernel
theorem dX4_init_16 : decode cX4_init 16 = .ok (.putfield 17, 3) := by decide +kernel
theorem dX4_init_19 : decode cX4_init 19 = .ok (.iconst 0, 1) := by decide +kernel
theorem dX4_init_20 : decode cX4_init 20 = .ok (.istore_n 1, 1) := by decide +kernel
theorem dX4_init_21 : decode cX4_init 21 = .ok (.iload_n 1, 1) := by decide +kernel
theorem dX4_init_22 : decode cX4_init 22 = .ok (.iconst 2, 1) := by decide +kernel
theorem dX4_init_23 : decode cX4_init 23 = .ok (.if_icmp .ge 22, 3) := by decide +kernel
theorem dX4_init_26 : decode cX4_init 26 = .ok (.aload_n 0, 1) := by decide +kernel
theorem dX4_init_27 : decode cX4_init 27 = .ok (.getfield 11, 3) := by decide +kernel
theorem dX4_init_30 : decode cX4_init 30 = .ok (.iload_n 1, 1) := by decide +kernel
theorem dX4_init_31 : decode cX4_init 31 = .ok (.new 9, 3) := by decide +kernel
theorem dX4_init_34 : decode cX4_init 34 = .ok (.dup, 1) := by decide +kernel
theorem dX4_init_35 : decode cX4_init 35 = .ok (.invokespecial 21, 3) := by decide +kernel
theorem dX4_init_38 : decode cX4_init 38 = .ok (.aastore, 1) := by decide +kernel
theorem dX4_init_39 : decode cX4_init 39 = .ok (.iinc 1 1, 3) := by decide +kernel
theorem dX4_init_42 : decode cX4_init 42 = .ok (.goto (-21), 3) := by decide +kernel
theorem dX4_init_45 : decode cX4_init 45 = .ok (.return_, 1) := by decide +kernel
set_option maxRecDepth 20000 in
theorem ggX4_store_X1_copy : GoodIn wsX4_store wsX1_copy := goodIn_r _ [7, 8, 9, 10, 11, 12, 13, 14, 15, 16, 17, 18, 19, 20, 21, 22, 23, 24, 25, 26, 27, 30, 31, 32, 33, 34, 35, 36, 37, 38, 39, 40, 41, 42, 43, 44, 45] (by decide +kernel) (by decide +kernel)
set_option maxRecDepth 20000 in
theorem gX4_store_X1_copy : GoodIn wsX4_store (va_wsS RX4 22 yX1_copy wsX1_copy) := goodIn_app (goodIn_of _ (by decide +kernel)) ggX4_store_X1_copy
theorem dX4_store_0 : decode cX4_store 0 = .ok (.iload_n 1, 1) := by decide +kernel
theorem dX4_store_1 : decode cX4_store 1 = .ok (.ifCond .lt 12, 3) := by decide +kernel
theorem dX4_store_4 : decode cX4_store 4 = .ok (.iload_n 1, 1) := by decide +kernel
theorem dX4_store_5 : decode cX4_store 5 = .ok (.iconst 2, 1) := by decide +kernel
theorem dX4_store_6 : decode cX4_store 6 = .ok (.if_icmp .ge 7, 3) := by decide +kernel
theorem dX4_store_9 : decode cX4_store 9 = .ok (.aload_n 2, 1) := by decide +kernel
theorem dX4_store_10 : decode cX4_store 10 = .ok (.ifnonnull 6, 3) := by decide +kernel
theorem dX4_store_13 : decode cX4_store 13 = .ok (.bipush (-2), 2) := by decide +kernel
theorem dX4_store_15 : decode cX4_store 15 = .ok (.ireturn, 1) := by decide +kernel
theorem dX4_store_16 : decode cX4_store 16 = .ok (.aload_n 2, 1) := by decide +kernel
theorem dX4_store_17 : decode cX4_store 17 = .ok (.aload_n 0, 1) := by decide +kernel
theorem dX4_store_18 : decode cX4_store 18 = .ok (.getfield 11, 3) := by decide +kernel
theorem dX4_store_21 : decode cX4_store 21 = .ok (.iload_n 1, 1) := by decide +kernel
theorem dX4_store_22 : decode cX4_store 22 = .ok (.aaload, 1) := by decide +kernel
theorem dX4_store_23 : decode cX4_store 23 = .ok (.invokestatic 22, 3) := by decide +kernel
theorem dX4_store_26 : decode cX4_store 26 = .ok (.aload_n 0, 1) := by decide +kernel
theorem dX4_store_27 : decode cX4_store 27 = .ok (.getfield 17, 3) := by decide +kernel
theorem dX4_store_30 : decode cX4_store 30 = .ok (.iload_n 1, 1) := by decide +kernel
theorem dX4_store_31 : decode cX4_store 31 = .ok (.iconst 1, 1) := by decide +kernel
theorem dX4_store_32 : decode cX4_store 32 = .ok (.bastore, 1) := by decide +kernel
theorem dX4_store_33 : decode cX4_store 33 = .ok (.aload_n 2, 1) := by decide +kernel
theorem dX4_store_34 : decode cX4_store 34 = .ok (.getfield 26, 3) := by decide +kernel
theorem dX4_store_37 : decode cX4_store 37 = .ok (.ireturn, 1) := by decide +kernel
set_option maxRecDepth 20000 in
theorem ggX4_fetch_X1_copy : GoodIn wsX4_fetch wsX1_copy := goodIn_r _ [7, 8, 9, 10, 11, 12, 13, 14, 15, 16, 17, 18, 19, 20, 21, 22, 23, 24, 25, 26, 27, 30, 31, 32, 33, 34, 35, 36, 37, 38, 39, 40, 41, 42, 43, 44, 45] (by decide +kernel) (by decide +kernel)
set_option maxRecDepth 20000 in
theorem gX4_fetch_X1_copy : GoodIn wsX4_fetch (va_wsS RX4 22 yX1_copy wsX1_copy) := goodIn_app (goodIn_of _ (by decide +kernel)) ggX4_fetch_X1_copy
theorem dX4_fetch_0 : decode cX4_fetch 0 = .ok (.iload_n 1, 1) := by decide +kernel
theorem dX4_fetch_1 : decode cX4_fetch 1 = .ok (.ifCond .lt 12, 3) := by decide +kernel
theorem dX4_fetch_4 : decode cX4_fetch 4 = .ok (.iload_n 1, 1) := by decide +kernel
theorem dX4_fetch_5 : decode cX4_fetch 5 = .ok (.iconst 2, 1) := by decide +kernel
theorem dX4_fetch_6 : decode cX4_fetch 6 = .ok (.if_icmp .ge 7, 3) := by decide +kernel
theorem dX4_fetch_9 : decode cX4_fetch 9 = .ok (.aload_n 2, 1) := by decide +kernel
theorem dX4_fetch_10 : decode cX4_fetch 10 = .ok (.ifnonnull 6, 3) := by decide +kernel
theorem dX4_fetch_13 : decode cX4_fetch 13 = .ok (.bipush (-2), 2) := by decide +kernel
theorem dX4_fetch_15 : decode cX4_fetch 15 = .ok (.ireturn, 1) := by decide +kernel
theorem dX4_fetch_16 : decode cX4_fetch 16 = .ok (.aload_n 0, 1) := by decide +kernel
theorem dX4_fetch_17 : decode cX4_fetch 17 = .ok (.getfield 17, 3) := by decide +kernel
theorem dX4_fetch_20 : decode cX4_fetch 20 = .ok (.iload_n 1, 1) := by decide +kernel
theorem dX4_fetch_21 : decode cX4_fetch 21 = .ok (.baload, 1) := by decide +kernel
theorem dX4_fetch_22 : decode cX4_fetch 22 = .ok (.ifCond .ne 6, 3) := by decide +kernel
theorem dX4_fetch_25 : decode cX4_fetch 25 = .ok (.bipush (-5), 2) := by decide +kernel
theorem dX4_fetch_27 : decode cX4_fetch 27 = .ok (.ireturn, 1) := by decide +kernel
theorem dX4_fetch_28 : decode cX4_fetch 28 = .ok (.aload_n 0, 1) := by decide +kernel
theorem dX4_fetch_29 : decode cX4_fetch 29 = .ok (.getfield 11, 3) := by decide +kernel
theorem dX4_fetch_32 : decode cX4_fetch 32 = .ok (.iload_n 1, 1) := by decide +kernel
theorem dX4_fetch_33 : decode cX4_fetch 33 = .ok (.aaload, 1) := by decide +kernel
theorem dX4_fetch_34 : decode cX4_fetch 34 = .ok (.aload_n 2, 1) := by decide +kernel
theorem dX4_fetch_35 : decode cX4_fetch 35 = .ok (.invokestatic 22, 3) := by decide +kernel
theorem dX4_fetch_38 : decode cX4_fetch 38 = .ok (.aload_n 2, 1) := by decide +kernel
theorem dX4_fetch_39 : decode cX4_fetch 39 = .ok (.getfield 26, 3) := by decide +kernel
theorem dX4_fetch_42 : decode cX4_fetch 42 = .ok (.ireturn, 1) := by decide +kernel
set_option maxRecDepth 20000 in
theorem ggX5_init_X1_init : GoodIn wsX5_init wsX1_init := goodIn_r _ [23, 24, 2, 3, 25, 26, 27, 28, 29, 30, 31, 54, 55, 56, 57, 58, 59, 60, 61, 62, 63, 64, 65, 66, 67, 68, 69] (by decide +kernel) (by decide +kernel)
set_option maxRecDepth 20000 in
theorem gX5_init_X1_init : GoodIn wsX5_init (wsX1_init) := ggX5_init_X1_init
set_option maxRecDepth 20000 in
theorem ggX5_init_X2_init : GoodIn wsX5_init wsX2_init := goodIn_r _ [34, 35, 2, 3, 36, 37, 5, 6, 38, 22, 23, 24, 25, 26, 27, 28, 29, 30, 31, 75, 76, 77, 54, 55, 56, 57, 58, 59, 60, 61, 62, 63, 64, 65, 66, 67, 68, 69] (by decide +kernel) (by decide +kernel)
set_option maxRecDepth 20000 in
theorem gX5_init_X2_init : GoodIn wsX5_init (wsX2_init) := ggX5_init_X2_init
set_option maxRecDepth 20000 in
theorem ggX5_init_X4_init : GoodIn wsX5_init wsX4_init := goodIn_r _ [41, 42, 2, 3, 43, 44, 45, 46, 5, 6, 47, 22, 23, 24, 25, 26, 27, 28, 29, 30, 31, 78, 79, 54, 55, 56, 57, 58, 59, 60, 61, 62, 63, 64, 65, 66, 67, 68, 69] (by decide +kernel) (by decide +kernel)
set_option maxRecDepth 20000 in
theorem gX5_init_X4_init : GoodIn wsX5_init (wsX4_init) := ggX5_init_X4_init
set_option maxRecDepth 20000 in
theorem ggX5_init_X3_init : GoodIn wsX5_init wsX3_init := goodIn_r _ [50, 51, 2, 3, 52, 53, 80, 81, 82, 83, 84, 85] (by decide +kernel) (by decide +kernel)
set_option maxRecDepth 20000 in
theorem gX5_init_X3_init : GoodIn wsX5_init (wsX3_init) := ggX5_init_X3_init
theorem dX5_init_0 : decode cX5_init 0 = .ok (.aload_n 0, 1) := by decide +kernel
theorem dX5_init_1 : decode cX5_init 1 = .ok (.invokespecial 1, 3) := by decide +kernel
theorem dX5_init_4 : decode cX5_init 4 = .ok (.aload_n 0, 1) := by decide +kernel
theorem dX5_init_5 : decode cX5_init 5 = .ok (.new 7, 3) := by decide +kernel
theorem dX5_init_8 : decode cX5_init 8 = .ok (.dup, 1) := by decide +kernel
theorem dX5_init_9 : decode cX5_init 9 = .ok (.invokespecial 9, 3) := by decide +kernel
theorem dX5_init_12 : decode cX5_init 12 = .ok (.putfield 10, 3) := by decide +kernel
theorem dX5_init_15 : decode cX5_init 15 = .ok (.aload_n 0, 1) := by decide +kernel
theorem dX5_init_16 : decode cX5_init 16 = .ok (.new 7, 3) := by decide +kernel
theorem dX5_init_19 : decode cX5_init 19 = .ok (.dup, 1) := by decide +kernel
theorem dX5_init_20 : decode cX5_init 20 = .ok (.invokespecial 9, 3) := by decide +kernel
theorem dX5_init_23 : decode cX5_init 23 = .ok (.putfield 16, 3) := by decide +kernel
theorem dX5_init_26 : decode cX5_init 26 = .ok (.aload_n 0, 1) := by decide +kernel
theorem dX5_init_27 : decode cX5_init 27 = .ok (.new 19, 3) := by decide +kernel
theorem dX5_init_30 : decode cX5_init 30 = .ok (.dup, 1) := by decide +kernel
theorem dX5_init_31 : decode cX5_init 31 = .ok (.invokespecial 21, 3) := by decide +kernel
theorem dX5_init_34 : decode cX5_init 34 = .ok (.putfield 22, 3) := by decide +kernel
theorem dX5_init_37 : decode cX5_init 37 = .ok (.aload_n 0, 1) := by decide +kernel
theorem dX5_init_38 : decode cX5_init 38 = .ok (.new 26, 3) := by decide +kernel
theorem dX5_init_41 : decode cX5_init 41 = .ok (.dup, 1) := by decide +kernel
theorem dX5_init_42 : decode cX5_init 42 = .ok (.invokespecial 28, 3) := by decide +kernel
theorem dX5_init_45 : decode cX5_init 45 = .ok (.putfield 29, 3) := by decide +kernel
theorem dX5_init_48 : decode cX5_init 48 = .ok (.aload_n 0, 1) := by decide +kernel
theorem dX5_init_49 : decode cX5_init 49 = .ok (.new 33, 3) := by decide +kernel
theorem dX5_init_52 : decode cX5_init 52 = .ok (.dup, 1) := by decide +kernel
theorem dX5_init_53 : decode cX5_init 53 = .ok (.invokespecial 35, 3) := by decide +kernel
theorem dX5_init_56 : decode cX5_init 56 = .ok (.putfield 36, 3) := by decide +kernel
theorem dX5_init_59 : decode cX5_init 59 = .ok (.return_, 1) := by decide +kernel
set_option maxRecDepth 20000 in
theorem ggX5_set_X2_prepare : GoodIn wsX5_set wsX2_prepare := goodIn_r _ [7, 8, 9, 10, 6, 11, 12, 13, 14, 15, 16, 17, 18, 19, 20, 21, 22, 23, 24, 25, 26, 27, 28, 29, 30, 31, 32, 33, 34, 35, 36, 37, 59, 60, 61, 62, 63, 64, 65, 66, 67, 68, 69, 70, 71, 72, 73, 74, 75, 76, 77] (by decide +kernel) (by decide +kernel)
set_option maxRecDepth 20000 in
theorem gX5_set_X2_prepare : GoodIn wsX5_set (wsV RX5 40 RX2 yX2_prepare wsX2_prepare) := goodIn_app (goodIn_of _ (by decide +kernel)) ggX5_set_X2_prepare
set_option maxRecDepth 20000 in
theorem ggX5_set_X1_adjust : GoodIn wsX5_set wsX1_adjust := goodIn_r _ [41, 18, 26, 25, 42, 43, 16, 44, 62, 63, 64, 65, 66, 67, 68, 69, 70, 71, 72, 73, 74, 75, 76, 77] (by decide +kernel) (by decide +kernel)
set_option maxRecDepth 20000 in
theorem gX5_set_X1_adjust : GoodIn wsX5_set (wsV RX5 44 RX1 yX1_adjust wsX1_adjust) := goodIn_app (goodIn_of _ (by decide +kernel)) ggX5_set_X1_adjust
set_option maxRecDepth 20000 in
theorem ggX5_set_X2_keepUnlessError : GoodIn wsX5_set wsX2_keepUnlessError := goodIn_r _ [48, 12, 49, 50, 51, 52, 53, 59, 60, 61] (by decide +kernel) (by decide +kernel)
set_option maxRecDepth 20000 in
theorem gX5_set_X2_keepUnlessError : GoodIn wsX5_set (wsV RX5 48 RX2 yX2_keepUnlessError wsX2_keepUnlessError) := goodIn_app (goodIn_of _ (by decide +kernel)) ggX5_set_X2_keepUnlessError
theorem dX5_set_0 : decode cX5_set 0 = .ok (.aload_n 0, 1) := by decide +kernel
theorem dX5_set_1 : decode cX5_set 1 = .ok (.getfield 22, 3) := by decide +kernel
theorem dX5_set_4 : decode cX5_set 4 = .ok (.aload_n 0, 1) := by decide +kernel
theorem dX5_set_5 : decode cX5_set 5 = .ok (.getfield 10, 3) := by decide +kernel
theorem dX5_set_8 : decode cX5_set 8 = .ok (.invokevirtual 40, 3) := by decide +kernel
theorem dX5_set_11 : decode cX5_set 11 = .ok (.aload_n 0, 1) := by decide +kernel
theorem dX5_set_12 : decode cX5_set 12 = .ok (.getfield 22, 3) := by decide +kernel
theorem dX5_set_15 : decode cX5_set 15 = .ok (.aload_n 0, 1) := by decide +kernel
theorem dX5_set_16 : decode cX5_set 16 = .ok (.getfield 10, 3) := by decide +kernel
theorem dX5_set_19 : decode cX5_set 19 = .ok (.iload_n 1, 1) := by decide +kernel
theorem dX5_set_20 : decode cX5_set 20 = .ok (.iload_n 2, 1) := by decide +kernel
theorem dX5_set_21 : decode cX5_set 21 = .ok (.invokevirtual 44, 3) := by decide +kernel
theorem dX5_set_24 : decode cX5_set 24 = .ok (.invokevirtual 48, 3) := by decide +kernel
theorem dX5_set_27 : decode cX5_set 27 = .ok (.ireturn, 1) := by decide +kernel
set_option maxRecDepth 20000 in
theorem ggX5_feed_X2_prepare : GoodIn wsX5_feed wsX2_prepare := goodIn_r _ [7, 8, 9, 10, 6, 11, 12, 13, 14, 15, 16, 17, 18, 19, 20, 21, 22, 23, 24, 25, 26, 27, 28, 29, 30, 31, 32, 33, 34, 35, 36, 37, 87, 88, 89, 90, 91, 92, 93, 94, 95, 96, 97, 98, 99, 100, 101, 102, 103, 104, 105] (by decide +kernel) (by decide +kernel)
set_option maxRecDepth 20000 in
theorem gX5_feed_X2_prepare : GoodIn wsX5_feed (wsV RX5 40 RX2 yX2_prepare wsX2_prepare) := goodIn_app (goodIn_of _ (by decide +kernel)) ggX5_feed_X2_prepare
set_option maxRecDepth 20000 in
theorem ggX5_feed_X1_pass : GoodIn wsX5_feed wsX1_pass := goodIn_r _ [41, 42, 24, 43, 44, 45, 16, 46, 29, 30, 28, 27, 34, 23, 47, 48, 49, 50, 51, 52, 53, 54, 55, 56, 57, 58, 18, 59, 60, 61, 62, 63, 64, 65, 32, 33, 25, 26, 31, 36, 37, 66, 67, 68, 69, 70, 71, 72, 35, 90, 91, 92, 93, 94, 95, 96, 97, 98, 99, 100, 101, 102, 103, 104, 105] (by decide +kernel) (by decide +kernel)
set_option maxRecDepth 20000 in
theorem gX5_feed_X1_pass : GoodIn wsX5_feed (wsV RX5 52 RX1 yX1_pass wsX1_pass) := goodIn_app (goodIn_of _ (by decide +kernel)) ggX5_feed_X1_pass
set_option maxRecDepth 20000 in
theorem ggX5_feed_X2_keepUnlessError : GoodIn wsX5_feed wsX2_keepUnlessError := goodIn_r _ [76, 12, 77, 78, 79, 80, 81, 87, 88, 89] (by decide +kernel) (by decide +kernel)
set_option maxRecDepth 20000 in
theorem gX5_feed_X2_keepUnlessError : GoodIn wsX5_feed (wsV RX5 48 RX2 yX2_keepUnlessError wsX2_keepUnlessError) := goodIn_app (goodIn_of _ (by decide +kernel)) ggX5_feed_X2_keepUnlessError
theorem dX5_feed_0 : decode cX5_feed 0 = .ok (.aload_n 0, 1) := by decide +kernel
theorem dX5_feed_1 : decode cX5_feed 1 = .ok (.getfield 22, 3) := by decide +kernel
theorem dX5_feed_4 : decode cX5_feed 4 = .ok (.aload_n 0, 1) := by decide +kernel
theorem dX5_feed_5 : decode cX5_feed 5 = .ok (.getfield 10, 3) := by decide +kernel
theorem dX5_feed_8 : decode cX5_feed 8 = .ok (.invokevirtual 40, 3) := by decide +kernel
theorem dX5_feed_11 : decode cX5_feed 11 = .ok (.aload_n 0, 1) := by decide +kernel
theorem dX5_feed_12 : decode cX5_feed 12 = .ok (.getfield 22, 3) := by decide +kernel
theorem dX5_feed_15 : decode cX5_feed 15 = .ok (.aload_n 0, 1) := by decide +kernel
theorem dX5_feed_16 : decode cX5_feed 16 = .ok (.getfield 10, 3) := by decide +kernel
theorem dX5_feed_19 : decode cX5_feed 19 = .ok (.iload_n 1, 1) := by decide +kernel
theorem dX5_feed_20 : decode cX5_feed 20 = .ok (.iload_n 2, 1) := by decide +kernel
theorem dX5_feed_21 : decode cX5_feed 21 = .ok (.iload_n 3, 1) := by decide +kernel
theorem dX5_feed_22 : decode cX5_feed 22 = .ok (.invokevirtual 52, 3) := by decide +kernel
theorem dX5_feed_25 : decode cX5_feed 25 = .ok (.invokevirtual 48, 3) := by decide +kernel
theorem dX5_feed_28 : decode cX5_feed 28 = .ok (.ireturn, 1) := by decide +kernel
set_option maxRecDepth 20000 in
theorem ggX5_turn_X2_prepare : GoodIn wsX5_turn wsX2_prepare := goodIn_r _ [7, 8, 9, 10, 6, 11, 12, 13, 14, 15, 16, 17, 18, 19, 20, 21, 22, 23, 24, 25, 26, 27, 28, 29, 30, 31, 32, 33, 34, 35, 36, 37, 93, 94, 95, 96, 97, 98, 99, 100, 101, 102, 103, 104, 105, 106, 107, 108, 109, 110, 111] (by decide +kernel) (by decide +kernel)
set_option maxRecDepth 20000 in
theorem gX5_turn_X2_prepare : GoodIn wsX5_turn (wsV RX5 40 RX2 yX2_prepare wsX2_prepare) := goodIn_app (goodIn_of _ (by decide +kernel)) ggX5_turn_X2_prepare
set_option maxRecDepth 20000 in
theorem ggX5_turn_X1_revolve : GoodIn wsX5_turn wsX1_revolve := goodIn_r _ [41, 42, 43, 44, 45, 46, 24, 27, 25, 47, 48, 49, 16, 50, 18, 51, 52, 53, 54, 55, 56, 57, 58, 59, 60, 29, 30, 28, 34, 23, 61, 62, 63, 64, 65, 66, 67, 68, 69, 70, 71, 72, 32, 33, 26, 31, 36, 37, 73, 74, 75, 76, 77, 78, 79, 35, 96, 97, 98, 99, 100, 101, 102, 103, 104, 105, 106, 107, 108, 109, 110, 111] (by decide +kernel) (by decide +kernel)
set_option maxRecDepth 20000 in
theorem gX5_turn_X1_revolve : GoodIn wsX5_turn (wsV RX5 56 RX1 yX1_revolve wsX1_revolve) := goodIn_app (goodIn_of _ (by decide +kernel)) ggX5_turn_X1_revolve
set_option maxRecDepth 20000 in
theorem ggX5_turn_X2_keepUnlessError : GoodIn wsX5_turn wsX2_keepUnlessError := goodIn_r _ [83, 12, 84, 85, 86, 44, 87, 93, 94, 95] (by decide +kernel) (by decide +kernel)
set_option maxRecDepth 20000 in
theorem gX5_turn_X2_keepUnlessError : GoodIn wsX5_turn (wsV RX5 48 RX2 yX2_keepUnlessError wsX2_keepUnlessError) := goodIn_app (goodIn_of _ (by decide +kernel)) ggX5_turn_X2_keepUnlessError
theorem dX5_turn_0 : decode cX5_turn 0 = .ok (.aload_n 0, 1) := by decide +kernel
theorem dX5_turn_1 : decode cX5_turn 1 = .ok (.getfield 22, 3) := by decide +kernel
theorem dX5_turn_4 : decode cX5_turn 4 = .ok (.aload_n 0, 1) := by decide +kernel
theorem dX5_turn_5 : decode cX5_turn 5 = .ok (.getfield 10, 3) := by decide +kernel
theorem dX5_turn_8 : decode cX5_turn 8 = .ok (.invokevirtual 40, 3) := by decide +kernel
theorem dX5_turn_11 : decode cX5_turn 11 = .ok (.aload_n 0, 1) := by decide +kernel
theorem dX5_turn_12 : decode cX5_turn 12 = .ok (.getfield 22, 3) := by decide +kernel
theorem dX5_turn_15 : decode cX5_turn 15 = .ok (.aload_n 0, 1) := by decide +kernel
theorem dX5_turn_16 : decode cX5_turn 16 = .ok (.getfield 10, 3) := by decide +kernel
theorem dX5_turn_19 : decode cX5_turn 19 = .ok (.iload_n 1, 1) := by decide +kernel
theorem dX5_turn_20 : decode cX5_turn 20 = .ok (.invokevirtual 56, 3) := by decide +kernel
theorem dX5_turn_23 : decode cX5_turn 23 = .ok (.invokevirtual 48, 3) := by decide +kernel
theorem dX5_turn_26 : decode cX5_turn 26 = .ok (.ireturn, 1) := by decide +kernel
set_option maxRecDepth 20000 in
theorem ggX5_zero_X2_prepare : GoodIn wsX5_zero wsX2_prepare := goodIn_r _ [7, 8, 9, 10, 6, 11, 12, 13, 14, 15, 16, 17, 18, 19, 20, 21, 22, 23, 24, 25, 26, 27, 28, 29, 30, 31, 32, 33, 34, 35, 36, 37, 56, 57, 58, 59, 60, 61, 62, 63, 64, 65, 66, 67, 68, 69, 70, 71, 72, 73, 74] (by decide +kernel) (by decide +kernel)
set_option maxRecDepth 20000 in
theorem gX5_zero_X2_prepare : GoodIn wsX5_zero (wsV RX5 40 RX2 yX2_prepare wsX2_prepare) := goodIn_app (goodIn_of _ (by decide +kernel)) ggX5_zero_X2_prepare
set_option maxRecDepth 20000 in
theorem ggX5_zero_X1_clear : GoodIn wsX5_zero wsX1_clear := goodIn_r _ [41, 25, 26, 59, 60, 61, 62, 63, 64, 65, 66, 67, 68, 69, 70, 71, 72, 73, 74] (by decide +kernel) (by decide +kernel)
set_option maxRecDepth 20000 in
theorem gX5_zero_X1_clear : GoodIn wsX5_zero (wsV RX5 59 RX1 yX1_clear wsX1_clear) := goodIn_app (goodIn_of _ (by decide +kernel)) ggX5_zero_X1_clear
set_option maxRecDepth 20000 in
theorem ggX5_zero_X2_keepUnlessError : GoodIn wsX5_zero wsX2_keepUnlessError := goodIn_r _ [45, 12, 46, 47, 48, 49, 50, 56, 57, 58] (by decide +kernel) (by decide +kernel)
set_option maxRecDepth 20000 in
theorem gX5_zero_X2_keepUnlessError : GoodIn wsX5_zero (wsV RX5 48 RX2 yX2_keepUnlessError wsX2_keepUnlessError) := goodIn_app (goodIn_of _ (by decide +kernel)) ggX5_zero_X2_keepUnlessError
theorem dX5_zero_0 : decode cX5_zero 0 = .ok (.aload_n 0, 1) := by decide +kernel
theorem dX5_zero_1 : decode cX5_zero 1 = .ok (.getfield 22, 3) := by decide +kernel
theorem dX5_zero_4 : decode cX5_zero 4 = .ok (.aload_n 0, 1) := by decide +kernel
theorem dX5_zero_5 : decode cX5_zero 5 = .ok (.getfield 10, 3) := by decide +kernel
theorem dX5_zero_8 : decode cX5_zero 8 = .ok (.invokevirtual 40, 3) := by decide +kernel
theorem dX5_zero_11 : decode cX5_zero 11 = .ok (.aload_n 0, 1) := by decide +kernel
theorem dX5_zero_12 : decode cX5_zero 12 = .ok (.getfield 22, 3) := by decide +kernel
theorem dX5_zero_15 : decode cX5_zero 15 = .ok (.aload_n 0, 1) := by decide +kernel
theorem dX5_zero_16 : decode cX5_zero 16 = .ok (.getfield 10, 3) := by decide +kernel
theorem dX5_zero_19 : decode cX5_zero 19 = .ok (.invokevirtual 59, 3) := by decide +kernel
theorem dX5_zero_22 : decode cX5_zero 22 = .ok (.invokevirtual 48, 3) := by decide +kernel
theorem dX5_zero_25 : decode cX5_zero 25 = .ok (.ireturn, 1) := by decide +kernel
set_option maxRecDepth 20000 in
theorem ggX5_log_X1_hasTick : GoodIn wsX5_log wsX1_hasTick := goodIn_r _ [6, 7, 8, 9, 5, 10, 11, 12, 13, 14, 15, 39, 40, 41, 42, 43, 44, 45, 46, 47, 48, 49, 50, 51, 52, 53, 54] (by decide +kernel) (by decide +kernel)
set_option maxRecDepth 20000 in
theorem gX5_log_X1_hasTick : GoodIn wsX5_log (wsV RX5 63 RX1 yX1_hasTick wsX1_hasTick) := goodIn_app (goodIn_of _ (by decide +kernel)) ggX5_log_X1_hasTick
set_option maxRecDepth 20000 in
theorem ggX5_log_X1_pairAt : GoodIn wsX5_log wsX1_pairAt := goodIn_r _ [19, 20, 21, 22, 5, 23, 11, 24, 25, 3, 4, 6, 7, 8, 9, 10, 12, 13, 14, 15, 39, 40, 41, 42, 43, 44, 45, 46, 47, 48, 49, 50, 51, 52, 53, 54] (by decide +kernel) (by decide +kernel)
set_option maxRecDepth 20000 in
theorem gX5_log_X1_pairAt : GoodIn wsX5_log (wsV RX5 67 RX1 yX1_pairAt wsX1_pairAt) := goodIn_app (goodIn_of _ (by decide +kernel)) ggX5_log_X1_pairAt
set_option maxRecDepth 20000 in
theorem ggX5_log_X1_indexAt : GoodIn wsX5_log wsX1_indexAt := goodIn_r _ [29, 20, 21, 22, 5, 23, 11, 24, 25, 3, 4, 6, 7, 8, 9, 10, 12, 13, 14, 15, 39, 40, 41, 42, 43, 44, 45, 46, 47, 48, 49, 50, 51, 52, 53, 54] (by decide +kernel) (by decide +kernel)
set_option maxRecDepth 20000 in
theorem gX5_log_X1_indexAt : GoodIn wsX5_log (wsV RX5 70 RX1 yX1_indexAt wsX1_indexAt) := goodIn_app (goodIn_of _ (by decide +kernel)) ggX5_log_X1_indexAt
set_option maxRecDepth 20000 in
theorem ggX5_log_X1_deedAt : GoodIn wsX5_log wsX1_deedAt := goodIn_r _ [33, 20, 21, 22, 5, 23, 11, 24, 25, 3, 4, 6, 7, 8, 9, 10, 12, 13, 14, 15, 39, 40, 41, 42, 43, 44, 45, 46, 47, 48, 49, 50, 51, 52, 53, 54] (by decide +kernel) (by decide +kernel)
set_option maxRecDepth 20000 in
theorem gX5_log_X1_deedAt : GoodIn wsX5_log (wsV RX5 73 RX1 yX1_deedAt wsX1_deedAt) := goodIn_app (goodIn_of _ (by decide +kernel)) ggX5_log_X1_deedAt
theorem dX5_log_0 : decode cX5_log 0 = .ok (.aload_n 0, 1) := by decide +kernel
theorem dX5_log_1 : decode cX5_log 1 = .ok (.getfield 10, 3) := by decide +kernel
theorem dX5_log_4 : decode cX5_log 4 = .ok (.iload_n 1, 1) := by decide +kernel
theorem dX5_log_5 : decode cX5_log 5 = .ok (.invokevirtual 63, 3) := by decide +kernel
theorem dX5_log_8 : decode cX5_log 8 = .ok (.ifCond .ne 5, 3) := by decide +kernel
theorem dX5_log_11 : decode cX5_log 11 = .ok (.iconst (-1), 1) := by decide +kernel
theorem dX5_log_12 : decode cX5_log 12 = .ok (.ireturn, 1) := by decide +kernel
theorem dX5_log_13 : decode cX5_log 13 = .ok (.iload_n 2, 1) := by decide +kernel
theorem dX5_log_14 : decode cX5_log 14 = .ok (.tableswitch 53 0 2 #[26, 35, 44], 26) := by decide +kernel
theorem dX5_log_40 : decode cX5_log 40 = .ok (.aload_n 0, 1) := by decide +kernel
theorem dX5_log_41 : decode cX5_log 41 = .ok (.getfield 10, 3) := by decide +kernel
theorem dX5_log_44 : decode cX5_log 44 = .ok (.iload_n 1, 1) := by decide +kernel
theorem dX5_log_45 : decode cX5_log 45 = .ok (.invokevirtual 67, 3) := by decide +kernel
theorem dX5_log_48 : decode cX5_log 48 = .ok (.ireturn, 1) := by decide +kernel
theorem dX5_log_49 : decode cX5_log 49 = .ok (.aload_n 0, 1) := by decide +kernel
theorem dX5_log_50 : decode cX5_log 50 = .ok (.getfield 10, 3) := by decide +kernel
theorem dX5_log_53 : decode cX5_log 53 = .ok (.iload_n 1, 1) := by decide +kernel
theorem dX5_log_54 : decode cX5_log 54 = .ok (.invokevirtual 70, 3) := by decide +kernel
theorem dX5_log_57 : decode cX5_log 57 = .ok (.ireturn, 1) := by decide +kernel
theorem dX5_log_58 : decode cX5_log 58 = .ok (.aload_n 0, 1) := by decide +kernel
theorem dX5_log_59 : decode cX5_log 59 = .ok (.getfield 10, 3) := by decide +kernel
theorem dX5_log_62 : decode cX5_log 62 = .ok (.iload_n 1, 1) := by decide +kernel
theorem dX5_log_63 : decode cX5_log 63 = .ok (.invokevirtual 73, 3) := by decide +kernel
theorem dX5_log_66 : decode cX5_log 66 = .ok (.ireturn, 1) := by decide +kernel
theorem dX5_log_67 : decode cX5_log 67 = .ok (.bipush (-2), 2) := by decide +kernel
theorem dX5_log_69 : decode cX5_log 69 = .ok (.ireturn, 1) := by decide +kernel
set_option maxRecDepth 20000 in
theorem ggX5_count_X1_logged : GoodIn wsX5_count wsX1_logged := goodIn_r _ [19, 20, 21, 22, 23, 24, 35, 36, 37, 38, 39, 40, 41, 42, 43, 44, 45, 46, 47, 48, 49, 50] (by decide +kernel) (by decide +kernel)
set_option maxRecDepth 20000 in
theorem gX5_count_X1_logged : GoodIn wsX5_count (wsV RX5 104 RX1 yX1_logged wsX1_logged) := goodIn_app (goodIn_of _ (by decide +kernel)) ggX5_count_X1_logged
set_option maxRecDepth 20000 in
theorem ggX5_count_X1_setting : GoodIn wsX5_count wsX1_setting := goodIn_r _ [28, 29, 35, 36, 37, 38, 39, 40, 41, 42, 43, 44, 45, 46, 47, 48, 49, 50] (by decide +kernel) (by decide +kernel)
set_option maxRecDepth 20000 in
theorem gX5_count_X1_setting : GoodIn wsX5_count (wsV RX5 113 RX1 yX1_setting wsX1_setting) := goodIn_app (goodIn_of _ (by decide +kernel)) ggX5_count_X1_setting
theorem dX5_count_0 : decode cX5_count 0 = .ok (.iload_n 1, 1) := by decide +kernel
theorem dX5_count_1 : decode cX5_count 1 = .ok (.tableswitch 179 0 16 #[83, 91, 99, 107, 115, 123, 131, 139, 147, 155, 179, 179, 179, 179, 179, 163, 171], 83) := by decide +kernel
theorem dX5_count_84 : decode cX5_count 84 = .ok (.aload_n 0, 1) := by decide +kernel
theorem dX5_count_85 : decode cX5_count 85 = .ok (.getfield 10, 3) := by decide +kernel
theorem dX5_count_88 : decode cX5_count 88 = .ok (.getfield 76, 3) := by decide +kernel
theorem dX5_count_91 : decode cX5_count 91 = .ok (.ireturn, 1) := by decide +kernel
theorem dX5_count_92 : decode cX5_count 92 = .ok (.aload_n 0, 1) := by decide +kernel
theorem dX5_count_93 : decode cX5_count 93 = .ok (.getfield 10, 3) := by decide +kernel
theorem dX5_count_96 : decode cX5_count 96 = .ok (.getfield 80, 3) := by decide +kernel
theorem dX5_count_99 : decode cX5_count 99 = .ok (.ireturn, 1) := by decide +kernel
theorem dX5_count_100 : decode cX5_count 100 = .ok (.aload_n 0, 1) := by decide +kernel
theorem dX5_count_101 : decode cX5_count 101 = .ok (.getfield 10, 3) := by decide +kernel
theorem dX5_count_104 : decode cX5_count 104 = .ok (.getfield 83, 3) := by decide +kernel
theorem dX5_count_107 : decode cX5_count 107 = .ok (.ireturn, 1) := by decide +kernel
theorem dX5_count_108 : decode cX5_count 108 = .ok (.aload_n 0, 1) := by decide +kernel
theorem dX5_count_109 : decode cX5_count 109 = .ok (.getfield 10, 3) := by decide +kernel
theorem dX5_count_112 : decode cX5_count 112 = .ok (.getfield 86, 3) := by decide +kernel
theorem dX5_count_115 : decode cX5_count 115 = .ok (.ireturn, 1) := by decide +kernel
theorem dX5_count_116 : decode cX5_count 116 = .ok (.aload_n 0, 1) := by decide +kernel
theorem dX5_count_117 : decode cX5_count 117 = .ok (.getfield 10, 3) := by decide +kernel
theorem dX5_count_120 : decode cX5_count 120 = .ok (.getfield 89, 3) := by decide +kernel
theorem dX5_count_123 : decode cX5_count 123 = .ok (.ireturn, 1) := by decide +kernel
theorem dX5_count_124 : decode cX5_count 124 = .ok (.aload_n 0, 1) := by decide +kernel
theorem dX5_count_125 : decode cX5_count 125 = .ok (.getfield 10, 3) := by decide +kernel
theorem dX5_count_128 : decode cX5_count 128 = .ok (.getfield 92, 3) := by decide +kernel
theorem dX5_count_131 : decode cX5_count 131 = .ok (.ireturn, 1) := by decide +kernel
theorem dX5_count_132 : decode cX5_count 132 = .ok (.aload_n 0, 1) := by decide +kernel
theorem dX5_count_133 : decode cX5_count 133 = .ok (.getfield 10, 3) := by decide +kernel
theorem dX5_count_136 : decode cX5_count 136 = .ok (.getfield 95, 3) := by decide +kernel
theorem dX5_count_139 : decode cX5_count 139 = .ok (.ireturn, 1) := by decide +kernel
theorem dX5_count_140 : decode cX5_count 140 = .ok (.aload_n 0, 1) := by decide +kernel
theorem dX5_count_141 : decode cX5_count 141 = .ok (.getfield 10, 3) := by decide +kernel
theorem dX5_count_144 : decode cX5_count 144 = .ok (.getfield 98, 3) := by decide +kernel
theorem dX5_count_147 : decode cX5_count 147 = .ok (.ireturn, 1) := by decide +kernel
theorem dX5_count_148 : decode cX5_count 148 = .ok (.aload_n 0, 1) := by decide +kernel
theorem dX5_count_149 : decode cX5_count 149 = .ok (.getfield 10, 3) := by decide +kernel
theorem dX5_count_152 : decode cX5_count 152 = .ok (.getfield 101, 3) := by decide +kernel
theorem dX5_count_155 : decode cX5_count 155 = .ok (.ireturn, 1) := by decide +kernel
theorem dX5_count_156 : decode cX5_count 156 = .ok (.aload_n 0, 1) := by decide +kernel
theorem dX5_count_157 : decode cX5_count 157 = .ok (.getfield 10, 3) := by decide +kernel
theorem dX5_count_160 : decode cX5_count 160 = .ok (.invokevirtual 104, 3) := by decide +kernel
theorem dX5_count_163 : decode cX5_count 163 = .ok (.ireturn, 1) := by decide +kernel
theorem dX5_count_164 : decode cX5_count 164 = .ok (.aload_n 0, 1) := by decide +kernel
theorem dX5_count_165 : decode cX5_count 165 = .ok (.getfield 36, 3) := by decide +kernel
theorem dX5_count_168 : decode cX5_count 168 = .ok (.getfield 107, 3) := by decide +kernel
theorem dX5_count_171 : decode cX5_count 171 = .ok (.ireturn, 1) := by decide +kernel
theorem dX5_count_172 : decode cX5_count 172 = .ok (.aload_n 0, 1) := by decide +kernel
theorem dX5_count_173 : decode cX5_count 173 = .ok (.getfield 22, 3) := by decide +kernel
theorem dX5_count_176 : decode cX5_count 176 = .ok (.getfield 110, 3) := by decide +kernel
theorem dX5_count_179 : decode cX5_count 179 = .ok (.ireturn, 1) := by decide +kernel
theorem dX5_count_180 : decode cX5_count 180 = .ok (.iload_n 1, 1) := by decide +kernel
theorem dX5_count_181 : decode cX5_count 181 = .ok (.bipush 10, 2) := by decide +kernel
theorem dX5_count_183 : decode cX5_count 183 = .ok (.if_icmp .lt 23, 3) := by decide +kernel
theorem dX5_count_186 : decode cX5_count 186 = .ok (.iload_n 1, 1) := by decide +kernel
theorem dX5_count_187 : decode cX5_count 187 = .ok (.bipush 14, 2) := by decide +kernel
theorem dX5_count_189 : decode cX5_count 189 = .ok (.if_icmp .gt 17, 3) := by decide +kernel
theorem dX5_count_192 : decode cX5_count 192 = .ok (.aload_n 0, 1) := by decide +kernel
theorem dX5_count_193 : decode cX5_count 193 = .ok (.getfield 10, 3) := by decide +kernel
theorem dX5_count_196 : decode cX5_count 196 = .ok (.iload_n 1, 1) := by decide +kernel
theorem dX5_count_197 : decode cX5_count 197 = .ok (.bipush 10, 2) := by decide +kernel
theorem dX5_count_199 : decode cX5_count 199 = .ok (.isub, 1) := by decide +kernel
theorem dX5_count_200 : decode cX5_count 200 = .ok (.invokevirtual 113, 3) := by decide +kernel
theorem dX5_count_203 : decode cX5_count 203 = .ok (.goto 5, 3) := by decide +kernel
theorem dX5_count_206 : decode cX5_count 206 = .ok (.bipush (-2), 2) := by decide +kernel
theorem dX5_count_208 : decode cX5_count 208 = .ok (.ireturn, 1) := by decide +kernel
set_option maxRecDepth 20000 in
theorem ggX5_speed_X1_stepsOfGate : GoodIn wsX5_speed wsX1_stepsOfGate := goodIn_r _ [7, 8, 9, 10, 11, 12, 13, 14, 6, 15, 16, 17, 18, 19, 20, 21, 22, 23, 24, 25, 26, 27, 28, 29, 30, 31, 32, 33, 34, 40, 41, 42, 43, 44, 45, 46, 47, 48, 49, 50, 51, 52, 53, 54, 55] (by decide +kernel) (by decide +kernel)
set_option maxRecDepth 20000 in
theorem gX5_speed_X1_stepsOfGate : GoodIn wsX5_speed (wsV RX5 116 RX1 yX1_stepsOfGate wsX1_stepsOfGate) := goodIn_app (goodIn_of _ (by decide +kernel)) ggX5_speed_X1_stepsOfGate
theorem dX5_speed_0 : decode cX5_speed 0 = .ok (.iload_n 1, 1) := by decide +kernel
theorem dX5_speed_1 : decode cX5_speed 1 = .ok (.lookupswitch 62 #[(0, 27), (1, 39)], 27) := by decide +kernel
theorem dX5_speed_28 : decode cX5_speed 28 = .ok (.sipush 1000, 3) := by decide +kernel
theorem dX5_speed_31 : decode cX5_speed 31 = .ok (.aload_n 0, 1) := by decide +kernel
theorem dX5_speed_32 : decode cX5_speed 32 = .ok (.getfield 10, 3) := by decide +kernel
theorem dX5_speed_35 : decode cX5_speed 35 = .ok (.invokevirtual 116, 3) := by decide +kernel
theorem dX5_speed_38 : decode cX5_speed 38 = .ok (.iadd, 1) := by decide +kernel
theorem dX5_speed_39 : decode cX5_speed 39 = .ok (.ireturn, 1) := by decide +kernel
theorem dX5_speed_40 : decode cX5_speed 40 = .ok (.aload_n 0, 1) := by decide +kernel
theorem dX5_speed_41 : decode cX5_speed 41 = .ok (.getfield 10, 3) := by decide +kernel
theorem dX5_speed_44 : decode cX5_speed 44 = .ok (.getfield 119, 3) := by decide +kernel
theorem dX5_speed_47 : decode cX5_speed 47 = .ok (.ifCond .le 13, 3) := by decide +kernel
theorem dX5_speed_50 : decode cX5_speed 50 = .ok (.aload_n 0, 1) := by decide +kernel
theorem dX5_speed_51 : decode cX5_speed 51 = .ok (.getfield 10, 3) := by decide +kernel
theorem dX5_speed_54 : decode cX5_speed 54 = .ok (.getfield 119, 3) := by decide +kernel
theorem dX5_speed_57 : decode cX5_speed 57 = .ok (.goto 5, 3) := by decide +kernel
theorem dX5_speed_60 : decode cX5_speed 60 = .ok (.bipush (-6), 2) := by decide +kernel
theorem dX5_speed_62 : decode cX5_speed 62 = .ok (.ireturn, 1) := by decide +kernel
theorem dX5_speed_63 : decode cX5_speed 63 = .ok (.bipush (-2), 2) := by decide +kernel
theorem dX5_speed_65 : decode cX5_speed 65 = .ok (.ireturn, 1) := by decide +kernel
set_option maxRecDepth 20000 in
theorem ggX5_rate_X1_setting : GoodIn wsX5_rate wsX1_setting := goodIn_r _ [9, 10, 23, 24, 25, 26, 27, 28, 29, 30, 31, 32, 33, 34, 35, 36, 37, 38] (by decide +kernel) (by decide +kernel)
set_option maxRecDepth 20000 in
theorem gX5_rate_X1_setting : GoodIn wsX5_rate (wsV RX5 113 RX1 yX1_setting wsX1_setting) := goodIn_app (goodIn_of _ (by decide +kernel)) ggX5_rate_X1_setting
set_option maxRecDepth 20000 in
theorem ggX5_rate_X0_ofDouble : GoodIn wsX5_rate wsX0_ofDouble := goodIn_r _ [14, 15, 16, 17] (by decide +kernel) (by decide +kernel)
set_option maxRecDepth 20000 in
theorem gX5_rate_X0_ofDouble : GoodIn wsX5_rate (va_wsS RX5 124 yX0_ofDouble wsX0_ofDouble) := goodIn_app (goodIn_of _ (by decide +kernel)) ggX5_rate_X0_ofDouble
theorem dX5_rate_0 : decode cX5_rate 0 = .ok (.aload_n 0, 1) := by decide +kernel
theorem dX5_rate_1 : decode cX5_rate 1 = .ok (.getfield 10, 3) := by decide +kernel
theorem dX5_rate_4 : decode cX5_rate 4 = .ok (.getfield 119, 3) := by decide +kernel
theorem dX5_rate_7 : decode cX5_rate 7 = .ok (.aload_n 0, 1) := by decide +kernel
theorem dX5_rate_8 : decode cX5_rate 8 = .ok (.getfield 10, 3) := by decide +kernel
theorem dX5_rate_11 : decode cX5_rate 11 = .ok (.iconst 0, 1) := by decide +kernel
theorem dX5_rate_12 : decode cX5_rate 12 = .ok (.invokevirtual 113, 3) := by decide +kernel
theorem dX5_rate_15 : decode cX5_rate 15 = .ok (.imul, 1) := by decide +kernel
theorem dX5_rate_16 : decode cX5_rate 16 = .ok (.istore_n 1, 1) := by decide +kernel
theorem dX5_rate_17 : decode cX5_rate 17 = .ok (.iload_n 1, 1) := by decide +kernel
theorem dX5_rate_18 : decode cX5_rate 18 = .ok (.ifCond .gt 5, 3) := by decide +kernel
theorem dX5_rate_21 : decode cX5_rate 21 = .ok (.lconst 0, 1) := by decide +kernel
theorem dX5_rate_22 : decode cX5_rate 22 = .ok (.lreturn, 1) := by decide +kernel
theorem dX5_rate_23 : decode cX5_rate 23 = .ok (.aload_n 0, 1) := by decide +kernel
theorem dX5_rate_24 : decode cX5_rate 24 = .ok (.getfield 10, 3) := by decide +kernel
theorem dX5_rate_27 : decode cX5_rate 27 = .ok (.getfield 89, 3) := by decide +kernel
theorem dX5_rate_30 : decode cX5_rate 30 = .ok (.iconst 1, 1) := by decide +kernel
theorem dX5_rate_31 : decode cX5_rate 31 = .ok (.if_icmp .ne 7, 3) := by decide +kernel
theorem dX5_rate_34 : decode cX5_rate 34 = .ok (.dconst 1, 1) := by decide +kernel
theorem dX5_rate_35 : decode cX5_rate 35 = .ok (.goto 6, 3) := by decide +kernel
theorem dX5_rate_38 : decode cX5_rate 38 = .ok (.ldc2_w 122, 3) := by decide +kernel
theorem dX5_rate_41 : decode cX5_rate 41 = .ok (.dstore_n 2, 1) := by decide +kernel
theorem dX5_rate_42 : decode cX5_rate 42 = .ok (.dload_n 2, 1) := by decide +kernel
theorem dX5_rate_43 : decode cX5_rate 43 = .ok (.iload_n 1, 1) := by decide +kernel
theorem dX5_rate_44 : decode cX5_rate 44 = .ok (.i2d, 1) := by decide +kernel
theorem dX5_rate_45 : decode cX5_rate 45 = .ok (.ddiv, 1) := by decide +kernel
theorem dX5_rate_46 : decode cX5_rate 46 = .ok (.invokestatic 124, 3) := by decide +kernel
theorem dX5_rate_49 : decode cX5_rate 49 = .ok (.lreturn, 1) := by decide +kernel
set_option maxRecDepth 20000 in
theorem ggX5_noise_X0_ofFloat : GoodIn wsX5_noise wsX0_ofFloat := goodIn_r _ [8, 9] (by decide +kernel) (by decide +kernel)
set_option maxRecDepth 20000 in
theorem gX5_noise_X0_ofFloat : GoodIn wsX5_noise (va_wsS RX5 130 yX0_ofFloat wsX0_ofFloat) := goodIn_app (goodIn_of _ (by decide +kernel)) ggX5_noise_X0_ofFloat
theorem dX5_noise_0 : decode cX5_noise 0 = .ok (.aload_n 0, 1) := by decide +kernel
theorem dX5_noise_1 : decode cX5_noise 1 = .ok (.getfield 10, 3) := by decide +kernel
theorem dX5_noise_4 : decode cX5_noise 4 = .ok (.getfield 92, 3) := by decide +kernel
theorem dX5_noise_7 : decode cX5_noise 7 = .ok (.aload_n 0, 1) := by decide +kernel
theorem dX5_noise_8 : decode cX5_noise 8 = .ok (.getfield 10, 3) := by decide +kernel
theorem dX5_noise_11 : decode cX5_noise 11 = .ok (.getfield 95, 3) := by decide +kernel
theorem dX5_noise_14 : decode cX5_noise 14 = .ok (.iadd, 1) := by decide +kernel
theorem dX5_noise_15 : decode cX5_noise 15 = .ok (.aload_n 0, 1) := by decide +kernel
theorem dX5_noise_16 : decode cX5_noise 16 = .ok (.getfield 10, 3) := by decide +kernel
theorem dX5_noise_19 : decode cX5_noise 19 = .ok (.getfield 98, 3) := by decide +kernel
theorem dX5_noise_22 : decode cX5_noise 22 = .ok (.iadd, 1) := by decide +kernel
theorem dX5_noise_23 : decode cX5_noise 23 = .ok (.istore_n 1, 1) := by decide +kernel
theorem dX5_noise_24 : decode cX5_noise 24 = .ok (.iload_n 1, 1) := by decide +kernel
theorem dX5_noise_25 : decode cX5_noise 25 = .ok (.ifCond .gt 6, 3) := by decide +kernel
theorem dX5_noise_28 : decode cX5_noise 28 = .ok (.bipush (-6), 2) := by decide +kernel
theorem dX5_noise_30 : decode cX5_noise 30 = .ok (.ireturn, 1) := by decide +kernel
theorem dX5_noise_31 : decode cX5_noise 31 = .ok (.aload_n 0, 1) := by decide +kernel
theorem dX5_noise_32 : decode cX5_noise 32 = .ok (.getfield 10, 3) := by decide +kernel
theorem dX5_noise_35 : decode cX5_noise 35 = .ok (.getfield 98, 3) := by decide +kernel
theorem dX5_noise_38 : decode cX5_noise 38 = .ok (.i2f, 1) := by decide +kernel
theorem dX5_noise_39 : decode cX5_noise 39 = .ok (.iload_n 1, 1) := by decide +kernel
theorem dX5_noise_40 : decode cX5_noise 40 = .ok (.i2f, 1) := by decide +kernel
theorem dX5_noise_41 : decode cX5_noise 41 = .ok (.fdiv, 1) := by decide +kernel
theorem dX5_noise_42 : decode cX5_noise 42 = .ok (.invokestatic 130, 3) := by decide +kernel
theorem dX5_noise_45 : decode cX5_noise 45 = .ok (.ireturn, 1) := by decide +kernel
set_option maxRecDepth 20000 in
theorem ggX5_replay_X1_follow : GoodIn wsX5_replay wsX1_follow := goodIn_r _ [13, 14, 15, 16, 17, 18, 19, 20, 21, 12, 22, 23, 24, 25, 26, 27, 28, 29, 30, 31, 32, 33, 34, 35, 36, 37, 38, 39, 40, 41, 42, 43, 44, 45, 46, 47, 48, 49, 50, 51, 52, 53, 54, 55, 56, 57, 58, 59, 60, 61, 62, 63, 64, 65, 66, 67, 68, 69, 70, 71, 72, 73, 74, 75, 76, 77, 78, 79, 80, 81, 82, 83, 84, 85, 86, 87, 88, 89, 90, 91, 97, 98, 99, 100, 101, 102, 103, 104, 105, 106, 107, 108, 109, 110, 111, 112] (by decide +kernel) (by decide +kernel)
set_option maxRecDepth 20000 in
theorem gX5_replay_X1_follow : GoodIn wsX5_replay (wsV RX5 141 RX1 yX1_follow wsX1_follow) := goodIn_app (goodIn_of _ (by decide +kernel)) ggX5_replay_X1_follow
theorem dX5_replay_0 : decode cX5_replay 0 = .ok (.iload_n 1, 1) := by decide +kernel
theorem dX5_replay_1 : decode cX5_replay 1 = .ok (.getstatic 134, 3) := by decide +kernel
theorem dX5_replay_4 : decode cX5_replay 4 = .ok (.iconst 2, 1) := by decide +kernel
theorem dX5_replay_5 : decode cX5_replay 5 = .ok (.iaload, 1) := by decide +kernel
theorem dX5_replay_6 : decode cX5_replay 6 = .ok (.if_icmp .lt 21, 3) := by decide +kernel
theorem dX5_replay_9 : decode cX5_replay 9 = .ok (.iload_n 1, 1) := by decide +kernel
theorem dX5_replay_10 : decode cX5_replay 10 = .ok (.getstatic 138, 3) := by decide +kernel
theorem dX5_replay_13 : decode cX5_replay 13 = .ok (.iconst 2, 1) := by decide +kernel
theorem dX5_replay_14 : decode cX5_replay 14 = .ok (.iaload, 1) := by decide +kernel
theorem dX5_replay_15 : decode cX5_replay 15 = .ok (.if_icmp .gt 12, 3) := by decide +kernel
theorem dX5_replay_18 : decode cX5_replay 18 = .ok (.iload_n 2, 1) := by decide +kernel
theorem dX5_replay_19 : decode cX5_replay 19 = .ok (.ifCond .lt 8, 3) := by decide +kernel
theorem dX5_replay_22 : decode cX5_replay 22 = .ok (.iload_n 2, 1) := by decide +kernel
theorem dX5_replay_23 : decode cX5_replay 23 = .ok (.iconst 3, 1) := by decide +kernel
theorem dX5_replay_24 : decode cX5_replay 24 = .ok (.if_icmp .le 6, 3) := by decide +kernel
theorem dX5_replay_27 : decode cX5_replay 27 = .ok (.bipush (-2), 2) := by decide +kernel
theorem dX5_replay_29 : decode cX5_replay 29 = .ok (.ireturn, 1) := by decide +kernel
theorem dX5_replay_30 : decode cX5_replay 30 = .ok (.aload_n 0, 1) := by decide +kernel
theorem dX5_replay_31 : decode cX5_replay 31 = .ok (.getfield 16, 3) := by decide +kernel
theorem dX5_replay_34 : decode cX5_replay 34 = .ok (.aload_n 0, 1) := by decide +kernel
theorem dX5_replay_35 : decode cX5_replay 35 = .ok (.getfield 10, 3) := by decide +kernel
theorem dX5_replay_38 : decode cX5_replay 38 = .ok (.iload_n 1, 1) := by decide +kernel
theorem dX5_replay_39 : decode cX5_replay 39 = .ok (.invokevirtual 141, 3) := by decide +kernel
theorem dX5_replay_42 : decode cX5_replay 42 = .ok (.iload_n 2, 1) := by decide +kernel
theorem dX5_replay_43 : decode cX5_replay 43 = .ok (.tableswitch 49 0 2 #[25, 33, 41], 25) := by decide +kernel
theorem dX5_replay_68 : decode cX5_replay 68 = .ok (.aload_n 0, 1) := by decide +kernel
theorem dX5_replay_69 : decode cX5_replay 69 = .ok (.getfield 16, 3) := by decide +kernel
theorem dX5_replay_72 : decode cX5_replay 72 = .ok (.getfield 92, 3) := by decide +kernel
theorem dX5_replay_75 : decode cX5_replay 75 = .ok (.ireturn, 1) := by decide +kernel
theorem dX5_replay_76 : decode cX5_replay 76 = .ok (.aload_n 0, 1) := by decide +kernel
theorem dX5_replay_77 : decode cX5_replay 77 = .ok (.getfield 16, 3) := by decide +kernel
theorem dX5_replay_80 : decode cX5_replay 80 = .ok (.getfield 95, 3) := by decide +kernel
theorem dX5_replay_83 : decode cX5_replay 83 = .ok (.ireturn, 1) := by decide +kernel
theorem dX5_replay_84 : decode cX5_replay 84 = .ok (.aload_n 0, 1) := by decide +kernel
theorem dX5_replay_85 : decode cX5_replay 85 = .ok (.getfield 16, 3) := by decide +kernel
theorem dX5_replay_88 : decode cX5_replay 88 = .ok (.getfield 98, 3) := by decide +kernel
theorem dX5_replay_91 : decode cX5_replay 91 = .ok (.ireturn, 1) := by decide +kernel
theorem dX5_replay_92 : decode cX5_replay 92 = .ok (.aload_n 0, 1) := by decide +kernel
theorem dX5_replay_93 : decode cX5_replay 93 = .ok (.getfield 16, 3) := by decide +kernel
theorem dX5_replay_96 : decode cX5_replay 96 = .ok (.getfield 80, 3) := by decide +kernel
theorem dX5_replay_99 : decode cX5_replay 99 = .ok (.ireturn, 1) := by decide +kernel
set_option maxRecDepth 20000 in
theorem ggX5_bestFilter_X1_follow : GoodIn wsX5_bestFilter wsX1_follow := goodIn_r _ [10, 11, 12, 13, 14, 15, 16, 17, 18, 9, 19, 20, 21, 22, 23, 24, 25, 26, 27, 28, 29, 30, 31, 32, 33, 34, 35, 36, 37, 38, 39, 40, 41, 42, 43, 44, 45, 46, 47, 48, 49, 50, 51, 52, 53, 54, 55, 56, 57, 58, 59, 60, 61, 62, 63, 64, 65, 66, 67, 68, 69, 70, 71, 72, 73, 74, 75, 76, 77, 78, 79, 80, 81, 82, 83, 84, 85, 86, 87, 88, 94, 95, 96, 97, 98, 99, 100, 101, 102, 103, 104, 105, 106, 107, 108, 109] (by decide +kernel) (by decide +kernel)
set_option maxRecDepth 20000 in
theorem gX5_bestFilter_X1_follow : GoodIn wsX5_bestFilter (wsV RX5 141 RX1 yX1_follow wsX1_follow) := goodIn_app (goodIn_of _ (by decide +kernel)) ggX5_bestFilter_X1_follow
theorem dX5_bestFilter_0 : decode cX5_bestFilter 0 = .ok (.iload_n 1, 1) := by decide +kernel
theorem dX5_bestFilter_1 : decode cX5_bestFilter 1 = .ok (.ifCond .lt 8, 3) := by decide +kernel
theorem dX5_bestFilter_4 : decode cX5_bestFilter 4 = .ok (.iload_n 1, 1) := by decide +kernel
theorem dX5_bestFilter_5 : decode cX5_bestFilter 5 = .ok (.iconst 1, 1) := by decide +kernel
theorem dX5_bestFilter_6 : decode cX5_bestFilter 6 = .ok (.if_icmp .le 6, 3) := by decide +kernel
theorem dX5_bestFilter_9 : decode cX5_bestFilter 9 = .ok (.bipush (-2), 2) := by decide +kernel
theorem dX5_bestFilter_11 : decode cX5_bestFilter 11 = .ok (.ireturn, 1) := by decide +kernel
theorem dX5_bestFilter_12 : decode cX5_bestFilter 12 = .ok (.iconst 0, 1) := by decide +kernel
theorem dX5_bestFilter_13 : decode cX5_bestFilter 13 = .ok (.istore_n 2, 1) := by decide +kernel
theorem dX5_bestFilter_14 : decode cX5_bestFilter 14 = .ok (.iconst 0, 1) := by decide +kernel
theorem dX5_bestFilter_15 : decode cX5_bestFilter 15 = .ok (.istore_n 3, 1) := by decide +kernel
theorem dX5_bestFilter_16 : decode cX5_bestFilter 16 = .ok (.getstatic 134, 3) := by decide +kernel
theorem dX5_bestFilter_19 : decode cX5_bestFilter 19 = .ok (.iconst 2, 1) := by decide +kernel
theorem dX5_bestFilter_20 : decode cX5_bestFilter 20 = .ok (.iaload, 1) := by decide +kernel
theorem dX5_bestFilter_21 : decode cX5_bestFilter 21 = .ok (.istore 4, 2) := by decide +kernel
theorem dX5_bestFilter_23 : decode cX5_bestFilter 23 = .ok (.iload 4, 2) := by decide +kernel
theorem dX5_bestFilter_25 : decode cX5_bestFilter 25 = .ok (.getstatic 138, 3) := by decide +kernel
theorem dX5_bestFilter_28 : decode cX5_bestFilter 28 = .ok (.iconst 2, 1) := by decide +kernel
theorem dX5_bestFilter_29 : decode cX5_bestFilter 29 = .ok (.iaload, 1) := by decide +kernel
theorem dX5_bestFilter_30 : decode cX5_bestFilter 30 = .ok (.if_icmp .gt 48, 3) := by decide +kernel
theorem dX5_bestFilter_33 : decode cX5_bestFilter 33 = .ok (.aload_n 0, 1) := by decide +kernel
theorem dX5_bestFilter_34 : decode cX5_bestFilter 34 = .ok (.getfield 16, 3) := by decide +kernel
theorem dX5_bestFilter_37 : decode cX5_bestFilter 37 = .ok (.aload_n 0, 1) := by decide +kernel
theorem dX5_bestFilter_38 : decode cX5_bestFilter 38 = .ok (.getfield 10, 3) := by decide +kernel
theorem dX5_bestFilter_41 : decode cX5_bestFilter 41 = .ok (.iload 4, 2) := by decide +kernel
theorem dX5_bestFilter_43 : decode cX5_bestFilter 43 = .ok (.invokevirtual 141, 3) := by decide +kernel
theorem dX5_bestFilter_46 : decode cX5_bestFilter 46 = .ok (.iload_n 2, 1) := by decide +kernel
theorem dX5_bestFilter_47 : decode cX5_bestFilter 47 = .ok (.ifCond .eq 14, 3) := by decide +kernel
theorem dX5_bestFilter_50 : decode cX5_bestFilter 50 = .ok (.aload_n 0, 1) := by decide +kernel
theorem dX5_bestFilter_51 : decode cX5_bestFilter 51 = .ok (.getfield 16, 3) := by decide +kernel
theorem dX5_bestFilter_54 : decode cX5_bestFilter 54 = .ok (.getfield 98, 3) := by decide +kernel
theorem dX5_bestFilter_57 : decode cX5_bestFilter 57 = .ok (.iload_n 3, 1) := by decide +kernel
theorem dX5_bestFilter_58 : decode cX5_bestFilter 58 = .ok (.if_icmp .ge 14, 3) := by decide +kernel
theorem dX5_bestFilter_61 : decode cX5_bestFilter 61 = .ok (.iload 4, 2) := by decide +kernel
theorem dX5_bestFilter_63 : decode cX5_bestFilter 63 = .ok (.istore_n 2, 1) := by decide +kernel
theorem dX5_bestFilter_64 : decode cX5_bestFilter 64 = .ok (.aload_n 0, 1) := by decide +kernel
theorem dX5_bestFilter_65 : decode cX5_bestFilter 65 = .ok (.getfield 16, 3) := by decide +kernel
theorem dX5_bestFilter_68 : decode cX5_bestFilter 68 = .ok (.getfield 98, 3) := by decide +kernel
theorem dX5_bestFilter_71 : decode cX5_bestFilter 71 = .ok (.istore_n 3, 1) := by decide +kernel
theorem dX5_bestFilter_72 : decode cX5_bestFilter 72 = .ok (.iinc 4 1, 3) := by decide +kernel
theorem dX5_bestFilter_75 : decode cX5_bestFilter 75 = .ok (.goto (-52), 3) := by decide +kernel
theorem dX5_bestFilter_78 : decode cX5_bestFilter 78 = .ok (.iload_n 1, 1) := by decide +kernel
theorem dX5_bestFilter_79 : decode cX5_bestFilter 79 = .ok (.ifCond .ne 7, 3) := by decide +kernel
theorem dX5_bestFilter_82 : decode cX5_bestFilter 82 = .ok (.iload_n 2, 1) := by decide +kernel
theorem dX5_bestFilter_83 : decode cX5_bestFilter 83 = .ok (.goto 4, 3) := by decide +kernel
theorem dX5_bestFilter_86 : decode cX5_bestFilter 86 = .ok (.iload_n 3, 1) := by decide +kernel
theorem dX5_bestFilter_87 : decode cX5_bestFilter 87 = .ok (.ireturn, 1) := by decide +kernel
set_option maxRecDepth 20000 in
theorem ggX5_would_X1_deedBy : GoodIn wsX5_would wsX1_deedBy := goodIn_r _ [6, 7, 8, 9, 10, 5, 11, 12, 13, 14, 15, 16, 17, 18, 19, 20, 21, 27, 28, 29, 30, 31, 32, 33, 34, 35, 36, 37, 38, 39, 40, 41, 42] (by decide +kernel) (by decide +kernel)
set_option maxRecDepth 20000 in
theorem gX5_would_X1_deedBy : GoodIn wsX5_would (wsV RX5 145 RX1 yX1_deedBy wsX1_deedBy) := goodIn_app (goodIn_of _ (by decide +kernel)) ggX5_would_X1_deedBy
theorem dX5_would_0 : decode cX5_would 0 = .ok (.iload_n 1, 1) := by decide +kernel
theorem dX5_would_1 : decode cX5_would 1 = .ok (.ifCond .lt 8, 3) := by decide +kernel
theorem dX5_would_4 : decode cX5_would 4 = .ok (.iload_n 1, 1) := by decide +kernel
theorem dX5_would_5 : decode cX5_would 5 = .ok (.iconst 3, 1) := by decide +kernel
theorem dX5_would_6 : decode cX5_would 6 = .ok (.if_icmp .le 8, 3) := by decide +kernel
theorem dX5_would_9 : decode cX5_would 9 = .ok (.bipush (-2), 2) := by decide +kernel
theorem dX5_would_11 : decode cX5_would 11 = .ok (.goto 11, 3) := by decide +kernel
theorem dX5_would_14 : decode cX5_would 14 = .ok (.aload_n 0, 1) := by decide +kernel
theorem dX5_would_15 : decode cX5_would 15 = .ok (.getfield 10, 3) := by decide +kernel
theorem dX5_would_18 : decode cX5_would 18 = .ok (.iload_n 1, 1) := by decide +kernel
theorem dX5_would_19 : decode cX5_would 19 = .ok (.invokevirtual 145, 3) := by decide +kernel
theorem dX5_would_22 : decode cX5_would 22 = .ok (.ireturn, 1) := by decide +kernel
set_option maxRecDepth 20000 in
theorem ggX5_deeds_X1_logged : GoodIn wsX5_deeds wsX1_logged := goodIn_r _ [6, 7, 8, 9, 10, 11, 31, 32, 33, 34, 35, 36, 37, 38, 39, 40, 41, 42, 43, 44, 45, 46] (by decide +kernel) (by decide +kernel)
set_option maxRecDepth 20000 in
theorem gX5_deeds_X1_logged : GoodIn wsX5_deeds (wsV RX5 104 RX1 yX1_logged wsX1_logged) := goodIn_app (goodIn_of _ (by decide +kernel)) ggX5_deeds_X1_logged
set_option maxRecDepth 20000 in
theorem ggX5_deeds_X1_deedAt : GoodIn wsX5_deeds wsX1_deedAt := goodIn_r _ [15, 16, 17, 18, 5, 19, 7, 20, 21, 22, 23, 24, 25, 3, 4, 6, 8, 9, 10, 11, 31, 32, 33, 34, 35, 36, 37, 38, 39, 40, 41, 42, 43, 44, 45, 46] (by decide +kernel) (by decide +kernel)
set_option maxRecDepth 20000 in
theorem gX5_deeds_X1_deedAt : GoodIn wsX5_deeds (wsV RX5 73 RX1 yX1_deedAt wsX1_deedAt) := goodIn_app (goodIn_of _ (by decide +kernel)) ggX5_deeds_X1_deedAt
theorem dX5_deeds_0 : decode cX5_deeds 0 = .ok (.iload_n 1, 1) := by decide +kernel
theorem dX5_deeds_1 : decode cX5_deeds 1 = .ok (.ifCond .lt 8, 3) := by decide +kernel
theorem dX5_deeds_4 : decode cX5_deeds 4 = .ok (.iload_n 1, 1) := by decide +kernel
theorem dX5_deeds_5 : decode cX5_deeds 5 = .ok (.iconst 3, 1) := by decide +kernel
theorem dX5_deeds_6 : decode cX5_deeds 6 = .ok (.if_icmp .le 6, 3) := by decide +kernel
theorem dX5_deeds_9 : decode cX5_deeds 9 = .ok (.bipush (-2), 2) := by decide +kernel
theorem dX5_deeds_11 : decode cX5_deeds 11 = .ok (.ireturn, 1) := by decide +kernel
theorem dX5_deeds_12 : decode cX5_deeds 12 = .ok (.iconst 0, 1) := by decide +kernel
theorem dX5_deeds_13 : decode cX5_deeds 13 = .ok (.istore_n 2, 1) := by decide +kernel
theorem dX5_deeds_14 : decode cX5_deeds 14 = .ok (.iconst 0, 1) := by decide +kernel
theorem dX5_deeds_15 : decode cX5_deeds 15 = .ok (.istore_n 3, 1) := by decide +kernel
theorem dX5_deeds_16 : decode cX5_deeds 16 = .ok (.iload_n 3, 1) := by decide +kernel
theorem dX5_deeds_17 : decode cX5_deeds 17 = .ok (.aload_n 0, 1) := by decide +kernel
theorem dX5_deeds_18 : decode cX5_deeds 18 = .ok (.getfield 10, 3) := by decide +kernel
theorem dX5_deeds_21 : decode cX5_deeds 21 = .ok (.invokevirtual 104, 3) := by decide +kernel
theorem dX5_deeds_24 : decode cX5_deeds 24 = .ok (.if_icmp .ge 24, 3) := by decide +kernel
theorem dX5_deeds_27 : decode cX5_deeds 27 = .ok (.aload_n 0, 1) := by decide +kernel
theorem dX5_deeds_28 : decode cX5_deeds 28 = .ok (.getfield 10, 3) := by decide +kernel
theorem dX5_deeds_31 : decode cX5_deeds 31 = .ok (.iload_n 3, 1) := by decide +kernel
theorem dX5_deeds_32 : decode cX5_deeds 32 = .ok (.invokevirtual 73, 3) := by decide +kernel
theorem dX5_deeds_35 : decode cX5_deeds 35 = .ok (.iload_n 1, 1) := by decide +kernel
theorem dX5_deeds_36 : decode cX5_deeds 36 = .ok (.if_icmp .ne 6, 3) := by decide +kernel
theorem dX5_deeds_39 : decode cX5_deeds 39 = .ok (.iinc 2 1, 3) := by decide +kernel
theorem dX5_deeds_42 : decode cX5_deeds 42 = .ok (.iinc 3 1, 3) := by decide +kernel
theorem dX5_deeds_45 : decode cX5_deeds 45 = .ok (.goto (-29), 3) := by decide +kernel
theorem dX5_deeds_48 : decode cX5_deeds 48 = .ok (.iload_n 2, 1) := by decide +kernel
theorem dX5_deeds_49 : decode cX5_deeds 49 = .ok (.ireturn, 1) := by decide +kernel
set_option maxRecDepth 20000 in
theorem ggX5_put_X3_append : GoodIn wsX5_put wsX3_append := goodIn_r _ [6, 7, 8, 9, 10, 11, 17, 18, 19, 20, 21, 22] (by decide +kernel) (by decide +kernel)
set_option maxRecDepth 20000 in
theorem gX5_put_X3_append : GoodIn wsX5_put (wsV RX5 148 RX3 yX3_append wsX3_append) := goodIn_app (goodIn_of _ (by decide +kernel)) ggX5_put_X3_append
theorem dX5_put_0 : decode cX5_put 0 = .ok (.aload_n 0, 1) := by decide +kernel
theorem dX5_put_1 : decode cX5_put 1 = .ok (.getfield 36, 3) := by decide +kernel
theorem dX5_put_4 : decode cX5_put 4 = .ok (.lload_n 1, 1) := by decide +kernel
theorem dX5_put_5 : decode cX5_put 5 = .ok (.invokevirtual 148, 3) := by decide +kernel
theorem dX5_put_8 : decode cX5_put 8 = .ok (.ireturn, 1) := by decide +kernel
set_option maxRecDepth 20000 in
theorem ggX5_wipe_X3_empty : GoodIn wsX5_wipe wsX3_empty := goodIn_r _ [6, 7, 13, 14, 15, 16, 17, 18] (by decide +kernel) (by decide +kernel)
set_option maxRecDepth 20000 in
theorem gX5_wipe_X3_empty : GoodIn wsX5_wipe (wsV RX5 152 RX3 yX3_empty wsX3_empty) := goodIn_app (goodIn_of _ (by decide +kernel)) ggX5_wipe_X3_empty
theorem dX5_wipe_0 : decode cX5_wipe 0 = .ok (.aload_n 0, 1) := by decide +kernel
theorem dX5_wipe_1 : decode cX5_wipe 1 = .ok (.getfield 36, 3) := by decide +kernel
theorem dX5_wipe_4 : decode cX5_wipe 4 = .ok (.invokevirtual 152, 3) := by decide +kernel
theorem dX5_wipe_7 : decode cX5_wipe 7 = .ok (.ireturn, 1) := by decide +kernel
set_option maxRecDepth 20000 in
theorem ggX5_fault_X3_firstFault : GoodIn wsX5_fault wsX3_firstFault := goodIn_r _ [6, 7, 8, 9, 10, 11, 5, 12, 13, 14, 15, 16, 17, 18, 19, 20, 21, 22, 23, 24, 25, 26, 27, 28, 29, 30, 31, 32, 33, 34, 35, 36, 37, 38, 39, 40, 41, 42, 43, 44, 50, 51, 52, 53, 54, 55] (by decide +kernel) (by decide +kernel)
set_option maxRecDepth 20000 in
theorem gX5_fault_X3_firstFault : GoodIn wsX5_fault (wsV RX5 155 RX3 yX3_firstFault wsX3_firstFault) := goodIn_app (goodIn_of _ (by decide +kernel)) ggX5_fault_X3_firstFault
theorem dX5_fault_0 : decode cX5_fault 0 = .ok (.aload_n 0, 1) := by decide +kernel
theorem dX5_fault_1 : decode cX5_fault 1 = .ok (.getfield 36, 3) := by decide +kernel
theorem dX5_fault_4 : decode cX5_fault 4 = .ok (.invokevirtual 155, 3) := by decide +kernel
theorem dX5_fault_7 : decode cX5_fault 7 = .ok (.ireturn, 1) := by decide +kernel
set_option maxRecDepth 20000 in
theorem ggX5_carryOut_X3_firstFault : GoodIn wsX5_carryOut wsX3_firstFault := goodIn_r _ [8, 9, 10, 11, 12, 13, 7, 14, 15, 16, 17, 18, 19, 20, 21, 22, 23, 24, 25, 26, 27, 28, 29, 30, 31, 32, 33, 34, 35, 36, 37, 38, 39, 40, 41, 42, 43, 44, 45, 46, 170, 171, 172, 173, 174, 175] (by decide +kernel) (by decide +kernel)
set_option maxRecDepth 20000 in
theorem gX5_carryOut_X3_firstFault : GoodIn wsX5_carryOut (wsV RX5 155 RX3 yX3_firstFault wsX3_firstFault) := goodIn_app (goodIn_of _ (by decide +kernel)) ggX5_carryOut_X3_firstFault
set_option maxRecDepth 20000 in
theorem ggX5_carryOut_X2_prepare : GoodIn wsX5_carryOut wsX2_prepare := goodIn_r _ [51, 52, 53, 54, 50, 55, 56, 57, 58, 59, 60, 61, 62, 63, 64, 65, 66, 67, 68, 69, 70, 71, 72, 73, 74, 75, 76, 77, 78, 79, 80, 81, 176, 177, 178, 179, 180, 181, 182, 183, 184, 185, 186, 187, 188, 189, 190, 191, 192, 193, 194] (by decide +kernel) (by decide +kernel)
set_option maxRecDepth 20000 in
theorem gX5_carryOut_X2_prepare : GoodIn wsX5_carryOut (wsV RX5 40 RX2 yX2_prepare wsX2_prepare) := goodIn_app (goodIn_of _ (by decide +kernel)) ggX5_carryOut_X2_prepare
set_option maxRecDepth 20000 in
theorem ggX5_carryOut_X3_begin : GoodIn wsX5_carryOut wsX3_begin := goodIn_r _ [14, 9, 170, 171, 172, 173, 174, 175] (by decide +kernel) (by decide +kernel)
set_option maxRecDepth 20000 in
theorem gX5_carryOut_X3_begin : GoodIn wsX5_carryOut (wsV RX5 158 RX3 yX3_begin wsX3_begin) := goodIn_app (goodIn_of _ (by decide +kernel)) ggX5_carryOut_X3_begin
set_option maxRecDepth 20000 in
theorem ggX5_carryOut_X5_carryOrder : GoodIn wsX5_carryOut wsX5_carryOrder := goodIn_r _ [87, 1, 3, 88, 89, 20, 21, 7, 22, 9, 23, 24, 25, 26, 10, 27, 90, 91, 92, 60, 93, 69, 70, 94, 29, 30, 31, 32, 95, 96, 97, 98, 62, 99, 100, 101, 102, 34, 35, 36, 103, 104, 105, 106, 107, 108, 109, 110, 111, 68, 71, 112, 113, 114, 115, 116, 117, 118, 119, 120, 121, 122, 123, 124, 125, 73, 74, 72, 78, 67, 126, 127, 128, 129, 130, 131, 132, 133, 134, 135, 136, 137, 76, 77, 75, 80, 81, 138, 139, 140, 141, 79, 142, 143, 144, 86, 145, 146, 147, 148, 42, 43, 44, 45, 46, 19, 33, 149, 150, 151, 152, 165, 166, 167, 168, 169, 170, 171, 172, 173, 174, 175, 179, 180, 181, 182, 183, 184, 185, 186, 187, 188, 189, 190, 191, 192, 193, 194] (by decide +kernel) (by decide +kernel)
set_option maxRecDepth 20000 in
theorem gX5_carryOut_X5_carryOrder : GoodIn wsX5_carryOut (wsV RX5 161 RX5 yX5_carryOrder wsX5_carryOrder) := goodIn_app (goodIn_of _ (by decide +kernel)) ggX5_carryOut_X5_carryOrder
set_option maxRecDepth 20000 in
theorem ggX5_carryOut_X3_skip : GoodIn wsX5_carryOut wsX3_skip := goodIn_r _ [22, 9, 23, 24, 25, 7, 26, 10, 27, 170, 171, 172, 173, 174, 175] (by decide +kernel) (by decide +kernel)
set_option maxRecDepth 20000 in
theorem gX5_carryOut_X3_skip : GoodIn wsX5_carryOut (wsV RX5 164 RX3 yX3_skip wsX3_skip) := goodIn_app (goodIn_of _ (by decide +kernel)) ggX5_carryOut_X3_skip
set_option maxRecDepth 20000 in
theorem ggX5_carryOut_X3_empty : GoodIn wsX5_carryOut wsX3_empty := goodIn_r _ [156, 10, 170, 171, 172, 173, 174, 175] (by decide +kernel) (by decide +kernel)
set_option maxRecDepth 20000 in
theorem gX5_carryOut_X3_empty : GoodIn wsX5_carryOut (wsV RX5 152 RX3 yX3_empty wsX3_empty) := goodIn_app (goodIn_of _ (by decide +kernel)) ggX5_carryOut_X3_empty
set_option maxRecDepth 20000 in
theorem ggX5_carryOut_X2_keepUnlessError : GoodIn wsX5_carryOut wsX2_keepUnlessError := goodIn_r _ [160, 56, 161, 162, 163, 109, 164, 176, 177, 178] (by decide +kernel) (by decide +kernel)
set_option maxRecDepth 20000 in
theorem gX5_carryOut_X2_keepUnlessError : GoodIn wsX5_carryOut (wsV RX5 48 RX2 yX2_keepUnlessError wsX2_keepUnlessError) := goodIn_app (goodIn_of _ (by decide +kernel)) ggX5_carryOut_X2_keepUnlessError
theorem dX5_carryOut_0 : decode cX5_carryOut 0 = .ok (.aload_n 0, 1) := by decide +kernel
theorem dX5_carryOut_1 : decode cX5_carryOut 1 = .ok (.getfield 36, 3) := by decide +kernel
theorem dX5_carryOut_4 : decode cX5_carryOut 4 = .ok (.invokevirtual 155, 3) := by decide +kernel
theorem dX5_carryOut_7 : decode cX5_carryOut 7 = .ok (.bipush (-6), 2) := by decide +kernel
theorem dX5_carryOut_9 : decode cX5_carryOut 9 = .ok (.if_icmp .eq 6, 3) := by decide +kernel
theorem dX5_carryOut_12 : decode cX5_carryOut 12 = .ok (.bipush (-3), 2) := by decide +kernel
theorem dX5_carryOut_14 : decode cX5_carryOut 14 = .ok (.ireturn, 1) := by decide +kernel
theorem dX5_carryOut_15 : decode cX5_carryOut 15 = .ok (.aload_n 0, 1) := by decide +kernel
theorem dX5_carryOut_16 : decode cX5_carryOut 16 = .ok (.getfield 22, 3) := by decide +kernel
theorem dX5_carryOut_19 : decode cX5_carryOut 19 = .ok (.aload_n 0, 1) := by decide +kernel
theorem dX5_carryOut_20 : decode cX5_carryOut 20 = .ok (.getfield 10, 3) := by decide +kernel
theorem dX5_carryOut_23 : decode cX5_carryOut 23 = .ok (.invokevirtual 40, 3) := by decide +kernel
theorem dX5_carryOut_26 : decode cX5_carryOut 26 = .ok (.aload_n 0, 1) := by decide +kernel
theorem dX5_carryOut_27 : decode cX5_carryOut 27 = .ok (.getfield 36, 3) := by decide +kernel
theorem dX5_carryOut_30 : decode cX5_carryOut 30 = .ok (.invokevirtual 158, 3) := by decide +kernel
theorem dX5_carryOut_33 : decode cX5_carryOut 33 = .ok (.iconst 0, 1) := by decide +kernel
theorem dX5_carryOut_34 : decode cX5_carryOut 34 = .ok (.istore_n 1, 1) := by decide +kernel
theorem dX5_carryOut_35 : decode cX5_carryOut 35 = .ok (.iload_n 1, 1) := by decide +kernel
theorem dX5_carryOut_36 : decode cX5_carryOut 36 = .ok (.bipush 80, 2) := by decide +kernel
theorem dX5_carryOut_38 : decode cX5_carryOut 38 = .ok (.if_icmp .ge 28, 3) := by decide +kernel
theorem dX5_carryOut_41 : decode cX5_carryOut 41 = .ok (.aload_n 0, 1) := by decide +kernel
theorem dX5_carryOut_42 : decode cX5_carryOut 42 = .ok (.invokevirtual 161, 3) := by decide +kernel
theorem dX5_carryOut_45 : decode cX5_carryOut 45 = .ok (.ifCond .lt 21, 3) := by decide +kernel
theorem dX5_carryOut_48 : decode cX5_carryOut 48 = .ok (.iinc 1 1, 3) := by decide +kernel
theorem dX5_carryOut_51 : decode cX5_carryOut 51 = .ok (.aload_n 0, 1) := by decide +kernel
theorem dX5_carryOut_52 : decode cX5_carryOut 52 = .ok (.getfield 36, 3) := by decide +kernel
theorem dX5_carryOut_55 : decode cX5_carryOut 55 = .ok (.bipush 59, 2) := by decide +kernel
theorem dX5_carryOut_57 : decode cX5_carryOut 57 = .ok (.invokevirtual 164, 3) := by decide +kernel
theorem dX5_carryOut_60 : decode cX5_carryOut 60 = .ok (.ifCond .ne (-25), 3) := by decide +kernel
theorem dX5_carryOut_63 : decode cX5_carryOut 63 = .ok (.goto 3, 3) := by decide +kernel
theorem dX5_carryOut_66 : decode cX5_carryOut 66 = .ok (.aload_n 0, 1) := by decide +kernel
theorem dX5_carryOut_67 : decode cX5_carryOut 67 = .ok (.getfield 36, 3) := by decide +kernel
theorem dX5_carryOut_70 : decode cX5_carryOut 70 = .ok (.invokevirtual 152, 3) := by decide +kernel
theorem dX5_carryOut_73 : decode cX5_carryOut 73 = .ok (.pop, 1) := by decide +kernel
theorem dX5_carryOut_74 : decode cX5_carryOut 74 = .ok (.aload_n 0, 1) := by decide +kernel
theorem dX5_carryOut_75 : decode cX5_carryOut 75 = .ok (.getfield 22, 3) := by decide +kernel
theorem dX5_carryOut_78 : decode cX5_carryOut 78 = .ok (.iload_n 1, 1) := by decide +kernel
theorem dX5_carryOut_79 : decode cX5_carryOut 79 = .ok (.invokevirtual 48, 3) := by decide +kernel
theorem dX5_carryOut_82 : decode cX5_carryOut 82 = .ok (.ireturn, 1) := by decide +kernel
set_option maxRecDepth 20000 in
theorem ggX5_carryOrder_X3_skip : GoodIn wsX5_carryOrder wsX3_skip := goodIn_r _ [8, 9, 10, 11, 12, 7, 13, 14, 15, 116, 117, 118, 119, 120, 121] (by decide +kernel) (by decide +kernel)
set_option maxRecDepth 20000 in
theorem gX5_carryOrder_X3_skip : GoodIn wsX5_carryOrder (wsV RX5 164 RX3 yX3_skip wsX3_skip) := goodIn_app (goodIn_of _ (by decide +kernel)) ggX5_carryOrder_X3_skip
set_option maxRecDepth 20000 in
theorem ggX5_carryOrder_X1_clear : GoodIn wsX5_carryOrder wsX1_clear := goodIn_r _ [20, 21, 22, 122, 123, 124, 125, 126, 127, 128, 129, 130, 131, 132, 133, 134, 135, 136, 137] (by decide +kernel) (by decide +kernel)
set_option maxRecDepth 20000 in
theorem gX5_carryOrder_X1_clear : GoodIn wsX5_carryOrder (wsV RX5 59 RX1 yX1_clear wsX1_clear) := goodIn_app (goodIn_of _ (by decide +kernel)) ggX5_carryOrder_X1_clear
set_option maxRecDepth 20000 in
theorem ggX5_carryOrder_X3_readDigit : GoodIn wsX5_carryOrder wsX3_readDigit := goodIn_r _ [26, 27, 9, 10, 11, 12, 7, 13, 14, 15, 116, 117, 118, 119, 120, 121] (by decide +kernel) (by decide +kernel)
set_option maxRecDepth 20000 in
theorem gX5_carryOrder_X3_readDigit : GoodIn wsX5_carryOrder (wsV RX5 168 RX3 yX3_readDigit wsX3_readDigit) := goodIn_app (goodIn_of _ (by decide +kernel)) ggX5_carryOrder_X3_readDigit
set_option maxRecDepth 20000 in
theorem ggX5_carryOrder_X1_adjust : GoodIn wsX5_carryOrder wsX1_adjust := goodIn_r _ [31, 32, 22, 21, 33, 34, 19, 35, 122, 123, 124, 125, 126, 127, 128, 129, 130, 131, 132, 133, 134, 135, 136, 137] (by decide +kernel) (by decide +kernel)
set_option maxRecDepth 20000 in
theorem gX5_carryOrder_X1_adjust : GoodIn wsX5_carryOrder (wsV RX5 44 RX1 yX1_adjust wsX1_adjust) := goodIn_app (goodIn_of _ (by decide +kernel)) ggX5_carryOrder_X1_adjust
set_option maxRecDepth 20000 in
theorem ggX5_carryOrder_X3_readNumber : GoodIn wsX5_carryOrder wsX3_readNumber := goodIn_r _ [39, 27, 9, 10, 11, 12, 7, 13, 14, 15, 116, 117, 118, 119, 120, 121] (by decide +kernel) (by decide +kernel)
set_option maxRecDepth 20000 in
theorem gX5_carryOrder_X3_readNumber : GoodIn wsX5_carryOrder (wsV RX5 175 RX3 yX3_readNumber wsX3_readNumber) := goodIn_app (goodIn_of _ (by decide +kernel)) ggX5_carryOrder_X3_readNumber
set_option maxRecDepth 20000 in
theorem ggX5_carryOrder_X1_revolve : GoodIn wsX5_carryOrder wsX1_revolve := goodIn_r _ [43, 44, 45, 46, 47, 48, 49, 50, 21, 51, 52, 53, 19, 54, 32, 55, 56, 57, 58, 59, 60, 61, 62, 63, 64, 65, 66, 67, 68, 69, 70, 71, 72, 73, 74, 75, 76, 77, 78, 79, 80, 81, 82, 83, 22, 84, 85, 86, 33, 34, 35, 87, 88, 89, 90, 91, 122, 123, 124, 125, 126, 127, 128, 129, 130, 131, 132, 133, 134, 135, 136, 137] (by decide +kernel) (by decide +kernel)
set_option maxRecDepth 20000 in
theorem gX5_carryOrder_X1_revolve : GoodIn wsX5_carryOrder (wsV RX5 56 RX1 yX1_revolve wsX1_revolve) := goodIn_app (goodIn_of _ (by decide +kernel)) ggX5_carryOrder_X1_revolve
set_option maxRecDepth 20000 in
theorem ggX5_carryOrder_X5_carryRuns : GoodIn wsX5_carryOrder wsX5_carryRuns := goodIn_r _ [96, 1, 2, 97, 98, 3, 99, 100, 101, 7, 102, 103, 9, 104, 27, 10, 11, 12, 13, 14, 15, 105, 5, 6, 8, 106, 37, 38, 39, 107, 108, 109, 19, 110, 48, 49, 61, 62, 63, 64, 65, 66, 67, 50, 68, 69, 70, 71, 72, 73, 74, 75, 76, 77, 51, 52, 53, 54, 32, 55, 56, 57, 78, 79, 80, 81, 82, 83, 21, 22, 84, 85, 86, 33, 34, 35, 87, 88, 89, 90, 91, 4, 111, 112, 113, 114, 115, 116, 117, 118, 119, 120, 121, 122, 123, 124, 125, 126, 127, 128, 129, 130, 131, 132, 133, 134, 135, 136, 137] (by decide +kernel) (by decide +kernel)
set_option maxRecDepth 20000 in
theorem gX5_carryOrder_X5_carryRuns : GoodIn wsX5_carryOrder (wsV RX5 178 RX5 yX5_carryRuns wsX5_carryRuns) := goodIn_app (goodIn_of _ (by decide +kernel)) ggX5_carryOrder_X5_carryRuns
theorem dX5_carryOrder_0 : decode cX5_carryOrder 0 = .ok (.aload_n 0, 1) := by decide +kernel
theorem dX5_carryOrder_1 : decode cX5_carryOrder 1 = .ok (.getfield 36, 3) := by decide +kernel
theorem dX5_carryOrder_4 : decode cX5_carryOrder 4 = .ok (.bipush 122, 2) := by decide +kernel
theorem dX5_carryOrder_6 : decode cX5_carryOrder 6 = .ok (.invokevirtual 164, 3) := by decide +kernel
theorem dX5_carryOrder_9 : decode cX5_carryOrder 9 = .ok (.ifCond .eq 11, 3) := by decide +kernel
theorem dX5_carryOrder_12 : decode cX5_carryOrder 12 = .ok (.aload_n 0, 1) := by decide +kernel
theorem dX5_carryOrder_13 : decode cX5_carryOrder 13 = .ok (.getfield 10, 3) := by decide +kernel
theorem dX5_carryOrder_16 : decode cX5_carryOrder 16 = .ok (.invokevirtual 59, 3) := by decide +kernel
theorem dX5_carryOrder_19 : decode cX5_carryOrder 19 = .ok (.ireturn, 1) := by decide +kernel
theorem dX5_carryOrder_20 : decode cX5_carryOrder 20 = .ok (.aload_n 0, 1) := by decide +kernel
theorem dX5_carryOrder_21 : decode cX5_carryOrder 21 = .ok (.getfield 36, 3) := by decide +kernel
theorem dX5_carryOrder_24 : decode cX5_carryOrder 24 = .ok (.bipush 110, 2) := by decide +kernel
theorem dX5_carryOrder_26 : decode cX5_carryOrder 26 = .ok (.invokevirtual 164, 3) := by decide +kernel
theorem dX5_carryOrder_29 : decode cX5_carryOrder 29 = .ok (.ifCond .eq 34, 3) := by decide +kernel
theorem dX5_carryOrder_32 : decode cX5_carryOrder 32 = .ok (.aload_n 0, 1) := by decide +kernel
theorem dX5_carryOrder_33 : decode cX5_carryOrder 33 = .ok (.getfield 36, 3) := by decide +kernel
theorem dX5_carryOrder_36 : decode cX5_carryOrder 36 = .ok (.invokevirtual 168, 3) := by decide +kernel
theorem dX5_carryOrder_39 : decode cX5_carryOrder 39 = .ok (.ifCond .eq 21, 3) := by decide +kernel
theorem dX5_carryOrder_42 : decode cX5_carryOrder 42 = .ok (.aload_n 0, 1) := by decide +kernel
theorem dX5_carryOrder_43 : decode cX5_carryOrder 43 = .ok (.getfield 10, 3) := by decide +kernel
theorem dX5_carryOrder_46 : decode cX5_carryOrder 46 = .ok (.iconst 2, 1) := by decide +kernel
theorem dX5_carryOrder_47 : decode cX5_carryOrder 47 = .ok (.aload_n 0, 1) := by decide +kernel
theorem dX5_carryOrder_48 : decode cX5_carryOrder 48 = .ok (.getfield 36, 3) := by decide +kernel
theorem dX5_carryOrder_51 : decode cX5_carryOrder 51 = .ok (.getfield 172, 3) := by decide +kernel
theorem dX5_carryOrder_54 : decode cX5_carryOrder 54 = .ok (.invokevirtual 44, 3) := by decide +kernel
theorem dX5_carryOrder_57 : decode cX5_carryOrder 57 = .ok (.goto 5, 3) := by decide +kernel
theorem dX5_carryOrder_60 : decode cX5_carryOrder 60 = .ok (.bipush (-3), 2) := by decide +kernel
theorem dX5_carryOrder_62 : decode cX5_carryOrder 62 = .ok (.ireturn, 1) := by decide +kernel
theorem dX5_carryOrder_63 : decode cX5_carryOrder 63 = .ok (.aload_n 0, 1) := by decide +kernel
theorem dX5_carryOrder_64 : decode cX5_carryOrder 64 = .ok (.getfield 36, 3) := by decide +kernel
theorem dX5_carryOrder_67 : decode cX5_carryOrder 67 = .ok (.bipush 102, 2) := by decide +kernel
theorem dX5_carryOrder_69 : decode cX5_carryOrder 69 = .ok (.invokevirtual 164, 3) := by decide +kernel
theorem dX5_carryOrder_72 : decode cX5_carryOrder 72 = .ok (.ifCond .eq 33, 3) := by decide +kernel
theorem dX5_carryOrder_75 : decode cX5_carryOrder 75 = .ok (.aload_n 0, 1) := by decide +kernel
theorem dX5_carryOrder_76 : decode cX5_carryOrder 76 = .ok (.getfield 36, 3) := by decide +kernel
theorem dX5_carryOrder_79 : decode cX5_carryOrder 79 = .ok (.invokevirtual 175, 3) := by decide +kernel
theorem dX5_carryOrder_82 : decode cX5_carryOrder 82 = .ok (.ifCond .eq 20, 3) := by decide +kernel
theorem dX5_carryOrder_85 : decode cX5_carryOrder 85 = .ok (.aload_n 0, 1) := by decide +kernel
theorem dX5_carryOrder_86 : decode cX5_carryOrder 86 = .ok (.getfield 10, 3) := by decide +kernel
theorem dX5_carryOrder_89 : decode cX5_carryOrder 89 = .ok (.aload_n 0, 1) := by decide +kernel
theorem dX5_carryOrder_90 : decode cX5_carryOrder 90 = .ok (.getfield 36, 3) := by decide +kernel
theorem dX5_carryOrder_93 : decode cX5_carryOrder 93 = .ok (.getfield 172, 3) := by decide +kernel
theorem dX5_carryOrder_96 : decode cX5_carryOrder 96 = .ok (.invokevirtual 56, 3) := by decide +kernel
theorem dX5_carryOrder_99 : decode cX5_carryOrder 99 = .ok (.goto 5, 3) := by decide +kernel
theorem dX5_carryOrder_102 : decode cX5_carryOrder 102 = .ok (.bipush (-3), 2) := by decide +kernel
theorem dX5_carryOrder_104 : decode cX5_carryOrder 104 = .ok (.ireturn, 1) := by decide +kernel
theorem dX5_carryOrder_105 : decode cX5_carryOrder 105 = .ok (.aload_n 0, 1) := by decide +kernel
theorem dX5_carryOrder_106 : decode cX5_carryOrder 106 = .ok (.getfield 36, 3) := by decide +kernel
theorem dX5_carryOrder_109 : decode cX5_carryOrder 109 = .ok (.bipush 98, 2) := by decide +kernel
theorem dX5_carryOrder_111 : decode cX5_carryOrder 111 = .ok (.invokevirtual 164, 3) := by decide +kernel
theorem dX5_carryOrder_114 : decode cX5_carryOrder 114 = .ok (.ifCond .eq 34, 3) := by decide +kernel
theorem dX5_carryOrder_117 : decode cX5_carryOrder 117 = .ok (.aload_n 0, 1) := by decide +kernel
theorem dX5_carryOrder_118 : decode cX5_carryOrder 118 = .ok (.getfield 36, 3) := by decide +kernel
theorem dX5_carryOrder_121 : decode cX5_carryOrder 121 = .ok (.invokevirtual 175, 3) := by decide +kernel
theorem dX5_carryOrder_124 : decode cX5_carryOrder 124 = .ok (.ifCond .eq 21, 3) := by decide +kernel
theorem dX5_carryOrder_127 : decode cX5_carryOrder 127 = .ok (.aload_n 0, 1) := by decide +kernel
theorem dX5_carryOrder_128 : decode cX5_carryOrder 128 = .ok (.getfield 10, 3) := by decide +kernel
theorem dX5_carryOrder_131 : decode cX5_carryOrder 131 = .ok (.aload_n 0, 1) := by decide +kernel
theorem dX5_carryOrder_132 : decode cX5_carryOrder 132 = .ok (.getfield 36, 3) := by decide +kernel
theorem dX5_carryOrder_135 : decode cX5_carryOrder 135 = .ok (.getfield 172, 3) := by decide +kernel
theorem dX5_carryOrder_138 : decode cX5_carryOrder 138 = .ok (.ineg, 1) := by decide +kernel
theorem dX5_carryOrder_139 : decode cX5_carryOrder 139 = .ok (.invokevirtual 56, 3) := by decide +kernel
theorem dX5_carryOrder_142 : decode cX5_carryOrder 142 = .ok (.goto 5, 3) := by decide +kernel
theorem dX5_carryOrder_145 : decode cX5_carryOrder 145 = .ok (.bipush (-3), 2) := by decide +kernel
theorem dX5_carryOrder_147 : decode cX5_carryOrder 147 = .ok (.ireturn, 1) := by decide +kernel
theorem dX5_carryOrder_148 : decode cX5_carryOrder 148 = .ok (.aload_n 0, 1) := by decide +kernel
theorem dX5_carryOrder_149 : decode cX5_carryOrder 149 = .ok (.invokevirtual 178, 3) := by decide +kernel
theorem dX5_carryOrder_152 : decode cX5_carryOrder 152 = .ok (.ireturn, 1) := by decide +kernel
set_option maxRecDepth 20000 in
theorem ggX5_carryRuns_X3_readRun : GoodIn wsX5_carryRuns wsX3_readRun := goodIn_r _ [10, 11, 12, 13, 14, 15, 16, 17, 9, 18, 19, 20, 21, 22, 23, 24, 25, 26, 27, 28, 87, 88, 89, 90, 91, 92] (by decide +kernel) (by decide +kernel)
set_option maxRecDepth 20000 in
theorem gX5_carryRuns_X3_readRun : GoodIn wsX5_carryRuns (wsV RX5 181 RX3 yX3_readRun wsX3_readRun) := goodIn_app (goodIn_of _ (by decide +kernel)) ggX5_carryRuns_X3_readRun
set_option maxRecDepth 20000 in
theorem ggX5_carryRuns_X1_pass : GoodIn wsX5_carryRuns wsX1_pass := goodIn_r _ [33, 34, 35, 36, 37, 38, 32, 39, 40, 41, 42, 43, 44, 45, 46, 47, 48, 49, 50, 51, 52, 53, 54, 55, 56, 57, 58, 59, 60, 61, 62, 63, 64, 65, 66, 67, 68, 69, 70, 71, 72, 73, 74, 75, 76, 77, 78, 79, 80, 93, 94, 95, 96, 97, 98, 99, 100, 101, 102, 103, 104, 105, 106, 107, 108] (by decide +kernel) (by decide +kernel)
set_option maxRecDepth 20000 in
theorem gX5_carryRuns_X1_pass : GoodIn wsX5_carryRuns (wsV RX5 52 RX1 yX1_pass wsX1_pass) := goodIn_app (goodIn_of _ (by decide +kernel)) ggX5_carryRuns_X1_pass
set_option maxRecDepth 20000 in
theorem ggX5_carryRuns_X3_skip : GoodIn wsX5_carryRuns wsX3_skip := goodIn_r _ [24, 12, 15, 16, 17, 9, 18, 19, 20, 87, 88, 89, 90, 91, 92] (by decide +kernel) (by decide +kernel)
set_option maxRecDepth 20000 in
theorem gX5_carryRuns_X3_skip : GoodIn wsX5_carryRuns (wsV RX5 164 RX3 yX3_skip wsX3_skip) := goodIn_app (goodIn_of _ (by decide +kernel)) ggX5_carryRuns_X3_skip
theorem dX5_carryRuns_0 : decode cX5_carryRuns 0 = .ok (.iconst 0, 1) := by decide +kernel
theorem dX5_carryRuns_1 : decode cX5_carryRuns 1 = .ok (.istore_n 1, 1) := by decide +kernel
theorem dX5_carryRuns_2 : decode cX5_carryRuns 2 = .ok (.iload_n 1, 1) := by decide +kernel
theorem dX5_carryRuns_3 : decode cX5_carryRuns 3 = .ok (.bipush 80, 2) := by decide +kernel
theorem dX5_carryRuns_5 : decode cX5_carryRuns 5 = .ok (.if_icmp .ge 69, 3) := by decide +kernel
theorem dX5_carryRuns_8 : decode cX5_carryRuns 8 = .ok (.aload_n 0, 1) := by decide +kernel
theorem dX5_carryRuns_9 : decode cX5_carryRuns 9 = .ok (.getfield 36, 3) := by decide +kernel
theorem dX5_carryRuns_12 : decode cX5_carryRuns 12 = .ok (.invokevirtual 181, 3) := by decide +kernel
theorem dX5_carryRuns_15 : decode cX5_carryRuns 15 = .ok (.ifCond .ne 6, 3) := by decide +kernel
theorem dX5_carryRuns_18 : decode cX5_carryRuns 18 = .ok (.bipush (-3), 2) := by decide +kernel
theorem dX5_carryRuns_20 : decode cX5_carryRuns 20 = .ok (.ireturn, 1) := by decide +kernel
theorem dX5_carryRuns_21 : decode cX5_carryRuns 21 = .ok (.aload_n 0, 1) := by decide +kernel
theorem dX5_carryRuns_22 : decode cX5_carryRuns 22 = .ok (.getfield 10, 3) := by decide +kernel
theorem dX5_carryRuns_25 : decode cX5_carryRuns 25 = .ok (.aload_n 0, 1) := by decide +kernel
theorem dX5_carryRuns_26 : decode cX5_carryRuns 26 = .ok (.getfield 36, 3) := by decide +kernel
theorem dX5_carryRuns_29 : decode cX5_carryRuns 29 = .ok (.getfield 184, 3) := by decide +kernel
theorem dX5_carryRuns_32 : decode cX5_carryRuns 32 = .ok (.aload_n 0, 1) := by decide +kernel
theorem dX5_carryRuns_33 : decode cX5_carryRuns 33 = .ok (.getfield 36, 3) := by decide +kernel
theorem dX5_carryRuns_36 : decode cX5_carryRuns 36 = .ok (.getfield 187, 3) := by decide +kernel
theorem dX5_carryRuns_39 : decode cX5_carryRuns 39 = .ok (.aload_n 0, 1) := by decide +kernel
theorem dX5_carryRuns_40 : decode cX5_carryRuns 40 = .ok (.getfield 36, 3) := by decide +kernel
theorem dX5_carryRuns_43 : decode cX5_carryRuns 43 = .ok (.getfield 172, 3) := by decide +kernel
theorem dX5_carryRuns_46 : decode cX5_carryRuns 46 = .ok (.invokevirtual 52, 3) := by decide +kernel
theorem dX5_carryRuns_49 : decode cX5_carryRuns 49 = .ok (.istore_n 2, 1) := by decide +kernel
theorem dX5_carryRuns_50 : decode cX5_carryRuns 50 = .ok (.iload_n 2, 1) := by decide +kernel
theorem dX5_carryRuns_51 : decode cX5_carryRuns 51 = .ok (.ifCond .lt 15, 3) := by decide +kernel
theorem dX5_carryRuns_54 : decode cX5_carryRuns 54 = .ok (.aload_n 0, 1) := by decide +kernel
theorem dX5_carryRuns_55 : decode cX5_carryRuns 55 = .ok (.getfield 36, 3) := by decide +kernel
theorem dX5_carryRuns_58 : decode cX5_carryRuns 58 = .ok (.bipush 44, 2) := by decide +kernel
theorem dX5_carryRuns_60 : decode cX5_carryRuns 60 = .ok (.invokevirtual 164, 3) := by decide +kernel
theorem dX5_carryRuns_63 : decode cX5_carryRuns 63 = .ok (.ifCond .ne 5, 3) := by decide +kernel
theorem dX5_carryRuns_66 : decode cX5_carryRuns 66 = .ok (.iload_n 2, 1) := by decide +kernel
theorem dX5_carryRuns_67 : decode cX5_carryRuns 67 = .ok (.ireturn, 1) := by decide +kernel
theorem dX5_carryRuns_68 : decode cX5_carryRuns 68 = .ok (.iinc 1 1, 3) := by decide +kernel
theorem dX5_carryRuns_71 : decode cX5_carryRuns 71 = .ok (.goto (-69), 3) := by decide +kernel
theorem dX5_carryRuns_74 : decode cX5_carryRuns 74 = .ok (.bipush (-3), 2) := by decide +kernel
theorem dX5_carryRuns_76 : decode cX5_carryRuns 76 = .ok (.ireturn, 1) := by decide +kernel
set_option maxRecDepth 20000 in
theorem ggX5_undo_X2_takeBack : GoodIn wsX5_undo wsX2_takeBack := goodIn_r _ [7, 8, 9, 10, 11, 12, 6, 13, 14, 15, 16, 17, 18, 19, 20, 21, 22, 23, 24, 25, 26, 27, 28, 29, 30, 31, 32, 33, 34, 35, 36, 37, 38, 44, 45, 46, 47, 48, 49, 50, 51, 52, 53, 54, 55, 56, 57, 58, 59, 60, 61, 62] (by decide +kernel) (by decide +kernel)
set_option maxRecDepth 20000 in
theorem gX5_undo_X2_takeBack : GoodIn wsX5_undo (wsV RX5 190 RX2 yX2_takeBack wsX2_takeBack) := goodIn_app (goodIn_of _ (by decide +kernel)) ggX5_undo_X2_takeBack
theorem dX5_undo_0 : decode cX5_undo 0 = .ok (.aload_n 0, 1) := by decide +kernel
theorem dX5_undo_1 : decode cX5_undo 1 = .ok (.getfield 22, 3) := by decide +kernel
theorem dX5_undo_4 : decode cX5_undo 4 = .ok (.aload_n 0, 1) := by decide +kernel
theorem dX5_undo_5 : decode cX5_undo 5 = .ok (.getfield 10, 3) := by decide +kernel
theorem dX5_undo_8 : decode cX5_undo 8 = .ok (.invokevirtual 190, 3) := by decide +kernel
theorem dX5_undo_11 : decode cX5_undo 11 = .ok (.ireturn, 1) := by decide +kernel
set_option maxRecDepth 20000 in
theorem ggX5_save_X4_store : GoodIn wsX5_save wsX4_store := goodIn_r _ [7, 8, 9, 10, 11, 12, 13, 14, 15, 16, 17, 18, 19, 20, 21, 22, 23, 24, 25, 26, 27, 28, 29, 30, 31, 32, 33, 34, 40, 41, 42, 43, 44, 45, 46, 47, 48, 49, 50, 51, 52, 53, 54, 55, 56, 57] (by decide +kernel) (by decide +kernel)
set_option maxRecDepth 20000 in
theorem gX5_save_X4_store : GoodIn wsX5_save (wsV RX5 194 RX4 yX4_store wsX4_store) := goodIn_app (goodIn_of _ (by decide +kernel)) ggX5_save_X4_store
theorem dX5_save_0 : decode cX5_save 0 = .ok (.aload_n 0, 1) := by decide +kernel
theorem dX5_save_1 : decode cX5_save 1 = .ok (.getfield 29, 3) := by decide +kernel
theorem dX5_save_4 : decode cX5_save 4 = .ok (.iload_n 1, 1) := by decide +kernel
theorem dX5_save_5 : decode cX5_save 5 = .ok (.aload_n 0, 1) := by decide +kernel
theorem dX5_save_6 : decode cX5_save 6 = .ok (.getfield 10, 3) := by decide +kernel
theorem dX5_save_9 : decode cX5_save 9 = .ok (.invokevirtual 194, 3) := by decide +kernel
theorem dX5_save_12 : decode cX5_save 12 = .ok (.ireturn, 1) := by decide +kernel
set_option maxRecDepth 20000 in
theorem ggX5_restore_X2_prepare : GoodIn wsX5_restore wsX2_prepare := goodIn_r _ [8, 9, 10, 11, 7, 12, 13, 14, 15, 16, 17, 18, 19, 20, 21, 22, 23, 24, 25, 26, 27, 28, 29, 30, 31, 32, 33, 34, 35, 36, 37, 38, 62, 63, 64, 65, 66, 67, 68, 69, 70, 71, 72, 73, 74, 75, 76, 77, 78, 79, 80] (by decide +kernel) (by decide +kernel)
set_option maxRecDepth 20000 in
theorem gX5_restore_X2_prepare : GoodIn wsX5_restore (wsV RX5 40 RX2 yX2_prepare wsX2_prepare) := goodIn_app (goodIn_of _ (by decide +kernel)) ggX5_restore_X2_prepare
set_option maxRecDepth 20000 in
theorem ggX5_restore_X4_fetch : GoodIn wsX5_restore wsX4_fetch := goodIn_r _ [43, 44, 45, 46, 47, 16, 17, 18, 19, 20, 21, 22, 23, 24, 25, 26, 27, 28, 29, 30, 31, 32, 33, 34, 35, 36, 37, 38, 81, 82, 65, 66, 67, 68, 69, 70, 71, 72, 73, 74, 75, 76, 77, 78, 79, 80] (by decide +kernel) (by decide +kernel)
set_option maxRecDepth 20000 in
theorem gX5_restore_X4_fetch : GoodIn wsX5_restore (wsV RX5 198 RX4 yX4_fetch wsX4_fetch) := goodIn_app (goodIn_of _ (by decide +kernel)) ggX5_restore_X4_fetch
set_option maxRecDepth 20000 in
theorem ggX5_restore_X2_keepUnlessError : GoodIn wsX5_restore wsX2_keepUnlessError := goodIn_r _ [51, 13, 52, 53, 54, 55, 56, 62, 63, 64] (by decide +kernel) (by decide +kernel)
set_option maxRecDepth 20000 in
theorem gX5_restore_X2_keepUnlessError : GoodIn wsX5_restore (wsV RX5 48 RX2 yX2_keepUnlessError wsX2_keepUnlessError) := goodIn_app (goodIn_of _ (by decide +kernel)) ggX5_restore_X2_keepUnlessError
theorem dX5_restore_0 : decode cX5_restore 0 = .ok (.aload_n 0, 1) := by decide +kernel
theorem dX5_restore_1 : decode cX5_restore 1 = .ok (.getfield 22, 3) := by decide +kernel
theorem dX5_restore_4 : decode cX5_restore 4 = .ok (.aload_n 0, 1) := by decide +kernel
theorem dX5_restore_5 : decode cX5_restore 5 = .ok (.getfield 10, 3) := by decide +kernel
theorem dX5_restore_8 : decode cX5_restore 8 = .ok (.invokevirtual 40, 3) := by decide +kernel
theorem dX5_restore_11 : decode cX5_restore 11 = .ok (.aload_n 0, 1) := by decide +kernel
theorem dX5_restore_12 : decode cX5_restore 12 = .ok (.getfield 22, 3) := by decide +kernel
theorem dX5_restore_15 : decode cX5_restore 15 = .ok (.aload_n 0, 1) := by decide +kernel
theorem dX5_restore_16 : decode cX5_restore 16 = .ok (.getfield 29, 3) := by decide +kernel
theorem dX5_restore_19 : decode cX5_restore 19 = .ok (.iload_n 1, 1) := by decide +kernel
theorem dX5_restore_20 : decode cX5_restore 20 = .ok (.aload_n 0, 1) := by decide +kernel
theorem dX5_restore_21 : decode cX5_restore 21 = .ok (.getfield 10, 3) := by decide +kernel
theorem dX5_restore_24 : decode cX5_restore 24 = .ok (.invokevirtual 198, 3) := by decide +kernel
theorem dX5_restore_27 : decode cX5_restore 27 = .ok (.invokevirtual 48, 3) := by decide +kernel
theorem dX5_restore_30 : decode cX5_restore 30 = .ok (.ireturn, 1) := by decide +kernel
