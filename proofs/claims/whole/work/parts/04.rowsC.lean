set_option maxRecDepth 20000 in
theorem ggX6_init_X6_beginsAnew : GoodIn wsX6_init wsX6_beginsAnew := goodIn_r _ [16, 5, 17, 18, 19, 20, 21, 22, 23, 24, 25, 26, 27, 28, 29] (by decide +kernel) (by decide +kernel)
set_option maxRecDepth 20000 in
theorem gX6_init_X6_beginsAnew : GoodIn wsX6_init (wsV RX6 31 RX6 yX6_beginsAnew wsX6_beginsAnew) := goodIn_app (goodIn_of _ (by decide +kernel)) ggX6_init_X6_beginsAnew
theorem dX6_init_0 : decode cX6_init 0 = .ok (.aload_n 0, 1) := by decide +kernel
theorem dX6_init_1 : decode cX6_init 1 = .ok (.invokespecial 1, 3) := by decide +kernel
theorem dX6_init_4 : decode cX6_init 4 = .ok (.aload_n 0, 1) := by decide +kernel
theorem dX6_init_5 : decode cX6_init 5 = .ok (.sipush 222, 3) := by decide +kernel
theorem dX6_init_8 : decode cX6_init 8 = .ok (.newarray .int, 2) := by decide +kernel
theorem dX6_init_10 : decode cX6_init 10 = .ok (.putfield 7, 3) := by decide +kernel
theorem dX6_init_13 : decode cX6_init 13 = .ok (.aload_n 0, 1) := by decide +kernel
theorem dX6_init_14 : decode cX6_init 14 = .ok (.sipush 222, 3) := by decide +kernel
theorem dX6_init_17 : decode cX6_init 17 = .ok (.newarray .int, 2) := by decide +kernel
theorem dX6_init_19 : decode cX6_init 19 = .ok (.putfield 13, 3) := by decide +kernel
theorem dX6_init_22 : decode cX6_init 22 = .ok (.aload_n 0, 1) := by decide +kernel
theorem dX6_init_23 : decode cX6_init 23 = .ok (.sipush 222, 3) := by decide +kernel
theorem dX6_init_26 : decode cX6_init 26 = .ok (.newarray .int, 2) := by decide +kernel
theorem dX6_init_28 : decode cX6_init 28 = .ok (.putfield 16, 3) := by decide +kernel
theorem dX6_init_31 : decode cX6_init 31 = .ok (.aload_n 0, 1) := by decide +kernel
theorem dX6_init_32 : decode cX6_init 32 = .ok (.sipush 1332, 3) := by decide +kernel
theorem dX6_init_35 : decode cX6_init 35 = .ok (.newarray .int, 2) := by decide +kernel
theorem dX6_init_37 : decode cX6_init 37 = .ok (.putfield 19, 3) := by decide +kernel
theorem dX6_init_40 : decode cX6_init 40 = .ok (.aload_n 0, 1) := by decide +kernel
theorem dX6_init_41 : decode cX6_init 41 = .ok (.sipush 444, 3) := by decide +kernel
theorem dX6_init_44 : decode cX6_init 44 = .ok (.newarray .int, 2) := by decide +kernel
theorem dX6_init_46 : decode cX6_init 46 = .ok (.putfield 22, 3) := by decide +kernel
theorem dX6_init_49 : decode cX6_init 49 = .ok (.aload_n 0, 1) := by decide +kernel
theorem dX6_init_50 : decode cX6_init 50 = .ok (.iconst 2, 1) := by decide +kernel
theorem dX6_init_51 : decode cX6_init 51 = .ok (.newarray .int, 2) := by decide +kernel
theorem dX6_init_53 : decode cX6_init 53 = .ok (.putfield 25, 3) := by decide +kernel
theorem dX6_init_56 : decode cX6_init 56 = .ok (.aload_n 0, 1) := by decide +kernel
theorem dX6_init_57 : decode cX6_init 57 = .ok (.bipush 80, 2) := by decide +kernel
theorem dX6_init_59 : decode cX6_init 59 = .ok (.newarray .int, 2) := by decide +kernel
theorem dX6_init_61 : decode cX6_init 61 = .ok (.putfield 28, 3) := by decide +kernel
theorem dX6_init_64 : decode cX6_init 64 = .ok (.aload_n 0, 1) := by decide +kernel
theorem dX6_init_65 : decode cX6_init 65 = .ok (.getfield 7, 3) := by decide +kernel
theorem dX6_init_68 : decode cX6_init 68 = .ok (.iconst 0, 1) := by decide +kernel
theorem dX6_init_69 : decode cX6_init 69 = .ok (.bipush 40, 2) := by decide +kernel
theorem dX6_init_71 : decode cX6_init 71 = .ok (.iastore, 1) := by decide +kernel
theorem dX6_init_72 : decode cX6_init 72 = .ok (.aload_n 0, 1) := by decide +kernel
theorem dX6_init_73 : decode cX6_init 73 = .ok (.getfield 7, 3) := by decide +kernel
theorem dX6_init_76 : decode cX6_init 76 = .ok (.iconst 1, 1) := by decide +kernel
theorem dX6_init_77 : decode cX6_init 77 = .ok (.sipush 1000, 3) := by decide +kernel
theorem dX6_init_80 : decode cX6_init 80 = .ok (.iastore, 1) := by decide +kernel
theorem dX6_init_81 : decode cX6_init 81 = .ok (.aload_n 0, 1) := by decide +kernel
theorem dX6_init_82 : decode cX6_init 82 = .ok (.getfield 7, 3) := by decide +kernel
theorem dX6_init_85 : decode cX6_init 85 = .ok (.iconst 2, 1) := by decide +kernel
theorem dX6_init_86 : decode cX6_init 86 = .ok (.iconst 1, 1) := by decide +kernel
theorem dX6_init_87 : decode cX6_init 87 = .ok (.iastore, 1) := by decide +kernel
theorem dX6_init_88 : decode cX6_init 88 = .ok (.aload_n 0, 1) := by decide +kernel
theorem dX6_init_89 : decode cX6_init 89 = .ok (.getfield 7, 3) := by decide +kernel
theorem dX6_init_92 : decode cX6_init 92 = .ok (.iconst 3, 1) := by decide +kernel
theorem dX6_init_93 : decode cX6_init 93 = .ok (.bipush 10, 2) := by decide +kernel
theorem dX6_init_95 : decode cX6_init 95 = .ok (.iastore, 1) := by decide +kernel
theorem dX6_init_96 : decode cX6_init 96 = .ok (.aload_n 0, 1) := by decide +kernel
theorem dX6_init_97 : decode cX6_init 97 = .ok (.getfield 7, 3) := by decide +kernel
theorem dX6_init_100 : decode cX6_init 100 = .ok (.iconst 4, 1) := by decide +kernel
theorem dX6_init_101 : decode cX6_init 101 = .ok (.iconst 1, 1) := by decide +kernel
theorem dX6_init_102 : decode cX6_init 102 = .ok (.iastore, 1) := by decide +kernel
theorem dX6_init_103 : decode cX6_init 103 = .ok (.aload_n 0, 1) := by decide +kernel
theorem dX6_init_104 : decode cX6_init 104 = .ok (.invokevirtual 31, 3) := by decide +kernel
theorem dX6_init_107 : decode cX6_init 107 = .ok (.return_, 1) := by decide +kernel
theorem dX6_in_0 : decode cX6_in 0 = .ok (.lload_n 0, 1) := by decide +kernel
theorem dX6_in_1 : decode cX6_in 1 = .ok (.lload_n 2, 1) := by decide +kernel
theorem dX6_in_2 : decode cX6_in 2 = .ok (.lcmp, 1) := by decide +kernel
theorem dX6_in_3 : decode cX6_in 3 = .ok (.ifCond .lt 14, 3) := by decide +kernel
theorem dX6_in_6 : decode cX6_in 6 = .ok (.lload_n 0, 1) := by decide +kernel
theorem dX6_in_7 : decode cX6_in 7 = .ok (.lload 4, 2) := by decide +kernel
theorem dX6_in_9 : decode cX6_in 9 = .ok (.lcmp, 1) := by decide +kernel
theorem dX6_in_10 : decode cX6_in 10 = .ok (.ifCond .gt 7, 3) := by decide +kernel
theorem dX6_in_13 : decode cX6_in 13 = .ok (.iconst 1, 1) := by decide +kernel
theorem dX6_in_14 : decode cX6_in 14 = .ok (.goto 4, 3) := by decide +kernel
theorem dX6_in_17 : decode cX6_in 17 = .ok (.iconst 0, 1) := by decide +kernel
theorem dX6_in_18 : decode cX6_in 18 = .ok (.ireturn, 1) := by decide +kernel
theorem dX6_copy_0 : decode cX6_copy 0 = .ok (.iconst 0, 1) := by decide +kernel
theorem dX6_copy_1 : decode cX6_copy 1 = .ok (.istore_n 2, 1) := by decide +kernel
theorem dX6_copy_2 : decode cX6_copy 2 = .ok (.iload_n 2, 1) := by decide +kernel
theorem dX6_copy_3 : decode cX6_copy 3 = .ok (.sipush 222, 3) := by decide +kernel
theorem dX6_copy_6 : decode cX6_copy 6 = .ok (.if_icmp .ge 15, 3) := by decide +kernel
theorem dX6_copy_9 : decode cX6_copy 9 = .ok (.aload_n 1, 1) := by decide +kernel
theorem dX6_copy_10 : decode cX6_copy 10 = .ok (.iload_n 2, 1) := by decide +kernel
theorem dX6_copy_11 : decode cX6_copy 11 = .ok (.aload_n 0, 1) := by decide +kernel
theorem dX6_copy_12 : decode cX6_copy 12 = .ok (.iload_n 2, 1) := by decide +kernel
theorem dX6_copy_13 : decode cX6_copy 13 = .ok (.iaload, 1) := by decide +kernel
theorem dX6_copy_14 : decode cX6_copy 14 = .ok (.iastore, 1) := by decide +kernel
theorem dX6_copy_15 : decode cX6_copy 15 = .ok (.iinc 2 1, 3) := by decide +kernel
theorem dX6_copy_18 : decode cX6_copy 18 = .ok (.goto (-16), 3) := by decide +kernel
theorem dX6_copy_21 : decode cX6_copy 21 = .ok (.return_, 1) := by decide +kernel
theorem dX6_changed_0 : decode cX6_changed 0 = .ok (.aload_n 0, 1) := by decide +kernel
theorem dX6_changed_1 : decode cX6_changed 1 = .ok (.getfield 34, 3) := by decide +kernel
theorem dX6_changed_4 : decode cX6_changed 4 = .ok (.bipush 6, 2) := by decide +kernel
theorem dX6_changed_6 : decode cX6_changed 6 = .ok (.if_icmp .ne 44, 3) := by decide +kernel
theorem dX6_changed_9 : decode cX6_changed 9 = .ok (.iconst 0, 1) := by decide +kernel
theorem dX6_changed_10 : decode cX6_changed 10 = .ok (.istore_n 2, 1) := by decide +kernel
theorem dX6_changed_11 : decode cX6_changed 11 = .ok (.iload_n 2, 1) := by decide +kernel
theorem dX6_changed_12 : decode cX6_changed 12 = .ok (.sipush 1110, 3) := by decide +kernel
theorem dX6_changed_15 : decode cX6_changed 15 = .ok (.if_icmp .ge 25, 3) := by decide +kernel
theorem dX6_changed_18 : decode cX6_changed 18 = .ok (.aload_n 0, 1) := by decide +kernel
theorem dX6_changed_19 : decode cX6_changed 19 = .ok (.getfield 19, 3) := by decide +kernel
theorem dX6_changed_22 : decode cX6_changed 22 = .ok (.iload_n 2, 1) := by decide +kernel
theorem dX6_changed_23 : decode cX6_changed 23 = .ok (.aload_n 0, 1) := by decide +kernel
theorem dX6_changed_24 : decode cX6_changed 24 = .ok (.getfield 19, 3) := by decide +kernel
theorem dX6_changed_27 : decode cX6_changed 27 = .ok (.iload_n 2, 1) := by decide +kernel
theorem dX6_changed_28 : decode cX6_changed 28 = .ok (.sipush 222, 3) := by decide +kernel
theorem dX6_changed_31 : decode cX6_changed 31 = .ok (.iadd, 1) := by decide +kernel
theorem dX6_changed_32 : decode cX6_changed 32 = .ok (.iaload, 1) := by decide +kernel
theorem dX6_changed_33 : decode cX6_changed 33 = .ok (.iastore, 1) := by decide +kernel
theorem dX6_changed_34 : decode cX6_changed 34 = .ok (.iinc 2 1, 3) := by decide +kernel
theorem dX6_changed_37 : decode cX6_changed 37 = .ok (.goto (-26), 3) := by decide +kernel
theorem dX6_changed_40 : decode cX6_changed 40 = .ok (.aload_n 0, 1) := by decide +kernel
theorem dX6_changed_41 : decode cX6_changed 41 = .ok (.dup, 1) := by decide +kernel
theorem dX6_changed_42 : decode cX6_changed 42 = .ok (.getfield 34, 3) := by decide +kernel
theorem dX6_changed_45 : decode cX6_changed 45 = .ok (.iconst 1, 1) := by decide +kernel
theorem dX6_changed_46 : decode cX6_changed 46 = .ok (.isub, 1) := by decide +kernel
theorem dX6_changed_47 : decode cX6_changed 47 = .ok (.putfield 34, 3) := by decide +kernel
theorem dX6_changed_50 : decode cX6_changed 50 = .ok (.iconst 0, 1) := by decide +kernel
theorem dX6_changed_51 : decode cX6_changed 51 = .ok (.istore_n 2, 1) := by decide +kernel
theorem dX6_changed_52 : decode cX6_changed 52 = .ok (.iload_n 2, 1) := by decide +kernel
theorem dX6_changed_53 : decode cX6_changed 53 = .ok (.sipush 222, 3) := by decide +kernel
theorem dX6_changed_56 : decode cX6_changed 56 = .ok (.if_icmp .ge 30, 3) := by decide +kernel
theorem dX6_changed_59 : decode cX6_changed 59 = .ok (.aload_n 0, 1) := by decide +kernel
theorem dX6_changed_60 : decode cX6_changed 60 = .ok (.getfield 19, 3) := by decide +kernel
theorem dX6_changed_63 : decode cX6_changed 63 = .ok (.sipush 222, 3) := by decide +kernel
theorem dX6_changed_66 : decode cX6_changed 66 = .ok (.aload_n 0, 1) := by decide +kernel
theorem dX6_changed_67 : decode cX6_changed 67 = .ok (.getfield 34, 3) := by decide +kernel
theorem dX6_changed_70 : decode cX6_changed 70 = .ok (.imul, 1) := by decide +kernel
theorem dX6_changed_71 : decode cX6_changed 71 = .ok (.iload_n 2, 1) := by decide +kernel
theorem dX6_changed_72 : decode cX6_changed 72 = .ok (.iadd, 1) := by decide +kernel
theorem dX6_changed_73 : decode cX6_changed 73 = .ok (.aload_n 0, 1) := by decide +kernel
theorem dX6_changed_74 : decode cX6_changed 74 = .ok (.getfield 13, 3) := by decide +kernel
theorem dX6_changed_77 : decode cX6_changed 77 = .ok (.iload_n 2, 1) := by decide +kernel
theorem dX6_changed_78 : decode cX6_changed 78 = .ok (.iaload, 1) := by decide +kernel
theorem dX6_changed_79 : decode cX6_changed 79 = .ok (.iastore, 1) := by decide +kernel
theorem dX6_changed_80 : decode cX6_changed 80 = .ok (.iinc 2 1, 3) := by decide +kernel
theorem dX6_changed_83 : decode cX6_changed 83 = .ok (.goto (-31), 3) := by decide +kernel
theorem dX6_changed_86 : decode cX6_changed 86 = .ok (.aload_n 0, 1) := by decide +kernel
theorem dX6_changed_87 : decode cX6_changed 87 = .ok (.dup, 1) := by decide +kernel
theorem dX6_changed_88 : decode cX6_changed 88 = .ok (.getfield 34, 3) := by decide +kernel
theorem dX6_changed_91 : decode cX6_changed 91 = .ok (.iconst 1, 1) := by decide +kernel
theorem dX6_changed_92 : decode cX6_changed 92 = .ok (.iadd, 1) := by decide +kernel
theorem dX6_changed_93 : decode cX6_changed 93 = .ok (.putfield 34, 3) := by decide +kernel
theorem dX6_changed_96 : decode cX6_changed 96 = .ok (.iload_n 1, 1) := by decide +kernel
theorem dX6_changed_97 : decode cX6_changed 97 = .ok (.ireturn, 1) := by decide +kernel
theorem dX6_beginsAnew_0 : decode cX6_beginsAnew 0 = .ok (.iconst 5, 1) := by decide +kernel
theorem dX6_beginsAnew_1 : decode cX6_beginsAnew 1 = .ok (.istore_n 1, 1) := by decide +kernel
theorem dX6_beginsAnew_2 : decode cX6_beginsAnew 2 = .ok (.iload_n 1, 1) := by decide +kernel
theorem dX6_beginsAnew_3 : decode cX6_beginsAnew 3 = .ok (.sipush 222, 3) := by decide +kernel
theorem dX6_beginsAnew_6 : decode cX6_beginsAnew 6 = .ok (.if_icmp .ge 16, 3) := by decide +kernel
theorem dX6_beginsAnew_9 : decode cX6_beginsAnew 9 = .ok (.aload_n 0, 1) := by decide +kernel
theorem dX6_beginsAnew_10 : decode cX6_beginsAnew 10 = .ok (.getfield 7, 3) := by decide +kernel
theorem dX6_beginsAnew_13 : decode cX6_beginsAnew 13 = .ok (.iload_n 1, 1) := by decide +kernel
theorem dX6_beginsAnew_14 : decode cX6_beginsAnew 14 = .ok (.iconst 0, 1) := by decide +kernel
theorem dX6_beginsAnew_15 : decode cX6_beginsAnew 15 = .ok (.iastore, 1) := by decide +kernel
theorem dX6_beginsAnew_16 : decode cX6_beginsAnew 16 = .ok (.iinc 1 1, 3) := by decide +kernel
theorem dX6_beginsAnew_19 : decode cX6_beginsAnew 19 = .ok (.goto (-17), 3) := by decide +kernel
theorem dX6_beginsAnew_22 : decode cX6_beginsAnew 22 = .ok (.aload_n 0, 1) := by decide +kernel
theorem dX6_beginsAnew_23 : decode cX6_beginsAnew 23 = .ok (.getfield 7, 3) := by decide +kernel
theorem dX6_beginsAnew_26 : decode cX6_beginsAnew 26 = .ok (.bipush 18, 2) := by decide +kernel
theorem dX6_beginsAnew_28 : decode cX6_beginsAnew 28 = .ok (.bipush (-6), 2) := by decide +kernel
theorem dX6_beginsAnew_30 : decode cX6_beginsAnew 30 = .ok (.iastore, 1) := by decide +kernel
theorem dX6_beginsAnew_31 : decode cX6_beginsAnew 31 = .ok (.aload_n 0, 1) := by decide +kernel
theorem dX6_beginsAnew_32 : decode cX6_beginsAnew 32 = .ok (.getfield 7, 3) := by decide +kernel
theorem dX6_beginsAnew_35 : decode cX6_beginsAnew 35 = .ok (.bipush 19, 2) := by decide +kernel
theorem dX6_beginsAnew_37 : decode cX6_beginsAnew 37 = .ok (.bipush (-6), 2) := by decide +kernel
theorem dX6_beginsAnew_39 : decode cX6_beginsAnew 39 = .ok (.iastore, 1) := by decide +kernel
theorem dX6_beginsAnew_40 : decode cX6_beginsAnew 40 = .ok (.return_, 1) := by decide +kernel
theorem dX6_orderOf_0 : decode cX6_orderOf 0 = .ok (.iload_n 0, 1) := by decide +kernel
theorem dX6_orderOf_1 : decode cX6_orderOf 1 = .ok (.iconst 2, 1) := by decide +kernel
theorem dX6_orderOf_2 : decode cX6_orderOf 2 = .ok (.if_icmp .ge 7, 3) := by decide +kernel
theorem dX6_orderOf_5 : decode cX6_orderOf 5 = .ok (.iload_n 0, 1) := by decide +kernel
theorem dX6_orderOf_6 : decode cX6_orderOf 6 = .ok (.goto 6, 3) := by decide +kernel
theorem dX6_orderOf_9 : decode cX6_orderOf 9 = .ok (.iconst 5, 1) := by decide +kernel
theorem dX6_orderOf_10 : decode cX6_orderOf 10 = .ok (.iload_n 0, 1) := by decide +kernel
theorem dX6_orderOf_11 : decode cX6_orderOf 11 = .ok (.isub, 1) := by decide +kernel
theorem dX6_orderOf_12 : decode cX6_orderOf 12 = .ok (.ireturn, 1) := by decide +kernel
theorem dX6_pairAt_0 : decode cX6_pairAt 0 = .ok (.iload_n 0, 1) := by decide +kernel
theorem dX6_pairAt_1 : decode cX6_pairAt 1 = .ok (.iconst 2, 1) := by decide +kernel
theorem dX6_pairAt_2 : decode cX6_pairAt 2 = .ok (.if_icmp .ge 7, 3) := by decide +kernel
theorem dX6_pairAt_5 : decode cX6_pairAt 5 = .ok (.iload_n 0, 1) := by decide +kernel
theorem dX6_pairAt_6 : decode cX6_pairAt 6 = .ok (.goto 6, 3) := by decide +kernel
theorem dX6_pairAt_9 : decode cX6_pairAt 9 = .ok (.iconst 5, 1) := by decide +kernel
theorem dX6_pairAt_10 : decode cX6_pairAt 10 = .ok (.iload_n 0, 1) := by decide +kernel
theorem dX6_pairAt_11 : decode cX6_pairAt 11 = .ok (.isub, 1) := by decide +kernel
theorem dX6_pairAt_12 : decode cX6_pairAt 12 = .ok (.ireturn, 1) := by decide +kernel
set_option maxRecDepth 20000 in
theorem ggX6_deedOf_X6_orderOf : GoodIn wsX6_deedOf wsX6_orderOf := goodIn_r _ [5] (by decide +kernel) (by decide +kernel)
set_option maxRecDepth 20000 in
theorem gX6_deedOf_X6_orderOf : GoodIn wsX6_deedOf (va_wsS RX6 38 yX6_orderOf wsX6_orderOf) := goodIn_app (goodIn_of _ (by decide +kernel)) ggX6_deedOf_X6_orderOf
theorem dX6_deedOf_0 : decode cX6_deedOf 0 = .ok (.iload_n 1, 1) := by decide +kernel
theorem dX6_deedOf_1 : decode cX6_deedOf 1 = .ok (.aload_n 0, 1) := by decide +kernel
theorem dX6_deedOf_2 : decode cX6_deedOf 2 = .ok (.getfield 7, 3) := by decide +kernel
theorem dX6_deedOf_5 : decode cX6_deedOf 5 = .ok (.bipush 15, 2) := by decide +kernel
theorem dX6_deedOf_7 : decode cX6_deedOf 7 = .ok (.iaload, 1) := by decide +kernel
theorem dX6_deedOf_8 : decode cX6_deedOf 8 = .ok (.if_icmp .ne 24, 3) := by decide +kernel
theorem dX6_deedOf_11 : decode cX6_deedOf 11 = .ok (.aload_n 0, 1) := by decide +kernel
theorem dX6_deedOf_12 : decode cX6_deedOf 12 = .ok (.getfield 7, 3) := by decide +kernel
theorem dX6_deedOf_15 : decode cX6_deedOf 15 = .ok (.iconst 5, 1) := by decide +kernel
theorem dX6_deedOf_16 : decode cX6_deedOf 16 = .ok (.iaload, 1) := by decide +kernel
theorem dX6_deedOf_17 : decode cX6_deedOf 17 = .ok (.ifCond .le 15, 3) := by decide +kernel
theorem dX6_deedOf_20 : decode cX6_deedOf 20 = .ok (.aload_n 0, 1) := by decide +kernel
theorem dX6_deedOf_21 : decode cX6_deedOf 21 = .ok (.getfield 7, 3) := by decide +kernel
theorem dX6_deedOf_24 : decode cX6_deedOf 24 = .ok (.bipush 16, 2) := by decide +kernel
theorem dX6_deedOf_26 : decode cX6_deedOf 26 = .ok (.iaload, 1) := by decide +kernel
theorem dX6_deedOf_27 : decode cX6_deedOf 27 = .ok (.iconst 1, 1) := by decide +kernel
theorem dX6_deedOf_28 : decode cX6_deedOf 28 = .ok (.iadd, 1) := by decide +kernel
theorem dX6_deedOf_29 : decode cX6_deedOf 29 = .ok (.goto 4, 3) := by decide +kernel
theorem dX6_deedOf_32 : decode cX6_deedOf 32 = .ok (.iconst 1, 1) := by decide +kernel
theorem dX6_deedOf_33 : decode cX6_deedOf 33 = .ok (.istore_n 2, 1) := by decide +kernel
theorem dX6_deedOf_34 : decode cX6_deedOf 34 = .ok (.iload_n 1, 1) := by decide +kernel
theorem dX6_deedOf_35 : decode cX6_deedOf 35 = .ok (.aload_n 0, 1) := by decide +kernel
theorem dX6_deedOf_36 : decode cX6_deedOf 36 = .ok (.getfield 7, 3) := by decide +kernel
theorem dX6_deedOf_39 : decode cX6_deedOf 39 = .ok (.bipush 8, 2) := by decide +kernel
theorem dX6_deedOf_41 : decode cX6_deedOf 41 = .ok (.iaload, 1) := by decide +kernel
theorem dX6_deedOf_42 : decode cX6_deedOf 42 = .ok (.if_icmp .eq 13, 3) := by decide +kernel
theorem dX6_deedOf_45 : decode cX6_deedOf 45 = .ok (.iload_n 2, 1) := by decide +kernel
theorem dX6_deedOf_46 : decode cX6_deedOf 46 = .ok (.aload_n 0, 1) := by decide +kernel
theorem dX6_deedOf_47 : decode cX6_deedOf 47 = .ok (.getfield 7, 3) := by decide +kernel
theorem dX6_deedOf_50 : decode cX6_deedOf 50 = .ok (.iconst 2, 1) := by decide +kernel
theorem dX6_deedOf_51 : decode cX6_deedOf 51 = .ok (.iaload, 1) := by decide +kernel
theorem dX6_deedOf_52 : decode cX6_deedOf 52 = .ok (.if_icmp .ge 5, 3) := by decide +kernel
theorem dX6_deedOf_55 : decode cX6_deedOf 55 = .ok (.iconst 0, 1) := by decide +kernel
theorem dX6_deedOf_56 : decode cX6_deedOf 56 = .ok (.ireturn, 1) := by decide +kernel
theorem dX6_deedOf_57 : decode cX6_deedOf 57 = .ok (.iload_n 1, 1) := by decide +kernel
theorem dX6_deedOf_58 : decode cX6_deedOf 58 = .ok (.invokestatic 38, 3) := by decide +kernel
theorem dX6_deedOf_61 : decode cX6_deedOf 61 = .ok (.iconst 4, 1) := by decide +kernel
theorem dX6_deedOf_62 : decode cX6_deedOf 62 = .ok (.iadd, 1) := by decide +kernel
theorem dX6_deedOf_63 : decode cX6_deedOf 63 = .ok (.aload_n 0, 1) := by decide +kernel
theorem dX6_deedOf_64 : decode cX6_deedOf 64 = .ok (.getfield 7, 3) := by decide +kernel
theorem dX6_deedOf_67 : decode cX6_deedOf 67 = .ok (.bipush 8, 2) := by decide +kernel
theorem dX6_deedOf_69 : decode cX6_deedOf 69 = .ok (.iaload, 1) := by decide +kernel
theorem dX6_deedOf_70 : decode cX6_deedOf 70 = .ok (.invokestatic 38, 3) := by decide +kernel
theorem dX6_deedOf_73 : decode cX6_deedOf 73 = .ok (.isub, 1) := by decide +kernel
theorem dX6_deedOf_74 : decode cX6_deedOf 74 = .ok (.iconst 4, 1) := by decide +kernel
theorem dX6_deedOf_75 : decode cX6_deedOf 75 = .ok (.irem, 1) := by decide +kernel
theorem dX6_deedOf_76 : decode cX6_deedOf 76 = .ok (.istore_n 3, 1) := by decide +kernel
theorem dX6_deedOf_77 : decode cX6_deedOf 77 = .ok (.iload_n 3, 1) := by decide +kernel
theorem dX6_deedOf_78 : decode cX6_deedOf 78 = .ok (.iconst 1, 1) := by decide +kernel
theorem dX6_deedOf_79 : decode cX6_deedOf 79 = .ok (.if_icmp .ne 7, 3) := by decide +kernel
theorem dX6_deedOf_82 : decode cX6_deedOf 82 = .ok (.iconst 1, 1) := by decide +kernel
theorem dX6_deedOf_83 : decode cX6_deedOf 83 = .ok (.goto 13, 3) := by decide +kernel
theorem dX6_deedOf_86 : decode cX6_deedOf 86 = .ok (.iload_n 3, 1) := by decide +kernel
theorem dX6_deedOf_87 : decode cX6_deedOf 87 = .ok (.iconst 3, 1) := by decide +kernel
theorem dX6_deedOf_88 : decode cX6_deedOf 88 = .ok (.if_icmp .ne 7, 3) := by decide +kernel
theorem dX6_deedOf_91 : decode cX6_deedOf 91 = .ok (.iconst 2, 1) := by decide +kernel
theorem dX6_deedOf_92 : decode cX6_deedOf 92 = .ok (.goto 4, 3) := by decide +kernel
theorem dX6_deedOf_95 : decode cX6_deedOf 95 = .ok (.iconst 3, 1) := by decide +kernel
theorem dX6_deedOf_96 : decode cX6_deedOf 96 = .ok (.ireturn, 1) := by decide +kernel
theorem dX6_steps_0 : decode cX6_steps 0 = .ok (.iload_n 1, 1) := by decide +kernel
theorem dX6_steps_1 : decode cX6_steps 1 = .ok (.iconst 1, 1) := by decide +kernel
theorem dX6_steps_2 : decode cX6_steps 2 = .ok (.if_icmp .ne 7, 3) := by decide +kernel
theorem dX6_steps_5 : decode cX6_steps 5 = .ok (.iconst 1, 1) := by decide +kernel
theorem dX6_steps_6 : decode cX6_steps 6 = .ok (.goto 4, 3) := by decide +kernel
theorem dX6_steps_9 : decode cX6_steps 9 = .ok (.iconst (-1), 1) := by decide +kernel
theorem dX6_steps_10 : decode cX6_steps 10 = .ok (.istore_n 2, 1) := by decide +kernel
theorem dX6_steps_11 : decode cX6_steps 11 = .ok (.aload_n 0, 1) := by decide +kernel
theorem dX6_steps_12 : decode cX6_steps 12 = .ok (.getfield 7, 3) := by decide +kernel
theorem dX6_steps_15 : decode cX6_steps 15 = .ok (.bipush 6, 2) := by decide +kernel
theorem dX6_steps_17 : decode cX6_steps 17 = .ok (.aload_n 0, 1) := by decide +kernel
theorem dX6_steps_18 : decode cX6_steps 18 = .ok (.getfield 7, 3) := by decide +kernel
theorem dX6_steps_21 : decode cX6_steps 21 = .ok (.bipush 6, 2) := by decide +kernel
theorem dX6_steps_23 : decode cX6_steps 23 = .ok (.iaload, 1) := by decide +kernel
theorem dX6_steps_24 : decode cX6_steps 24 = .ok (.iload_n 2, 1) := by decide +kernel
theorem dX6_steps_25 : decode cX6_steps 25 = .ok (.iadd, 1) := by decide +kernel
theorem dX6_steps_26 : decode cX6_steps 26 = .ok (.aload_n 0, 1) := by decide +kernel
theorem dX6_steps_27 : decode cX6_steps 27 = .ok (.getfield 7, 3) := by decide +kernel
theorem dX6_steps_30 : decode cX6_steps 30 = .ok (.iconst 1, 1) := by decide +kernel
theorem dX6_steps_31 : decode cX6_steps 31 = .ok (.iaload, 1) := by decide +kernel
theorem dX6_steps_32 : decode cX6_steps 32 = .ok (.iadd, 1) := by decide +kernel
theorem dX6_steps_33 : decode cX6_steps 33 = .ok (.aload_n 0, 1) := by decide +kernel
theorem dX6_steps_34 : decode cX6_steps 34 = .ok (.getfield 7, 3) := by decide +kernel
theorem dX6_steps_37 : decode cX6_steps 37 = .ok (.iconst 1, 1) := by decide +kernel
theorem dX6_steps_38 : decode cX6_steps 38 = .ok (.iaload, 1) := by decide +kernel
theorem dX6_steps_39 : decode cX6_steps 39 = .ok (.irem, 1) := by decide +kernel
theorem dX6_steps_40 : decode cX6_steps 40 = .ok (.iastore, 1) := by decide +kernel
theorem dX6_steps_41 : decode cX6_steps 41 = .ok (.aload_n 0, 1) := by decide +kernel
theorem dX6_steps_42 : decode cX6_steps 42 = .ok (.getfield 7, 3) := by decide +kernel
theorem dX6_steps_45 : decode cX6_steps 45 = .ok (.bipush 7, 2) := by decide +kernel
theorem dX6_steps_47 : decode cX6_steps 47 = .ok (.aload_n 0, 1) := by decide +kernel
theorem dX6_steps_48 : decode cX6_steps 48 = .ok (.getfield 7, 3) := by decide +kernel
theorem dX6_steps_51 : decode cX6_steps 51 = .ok (.bipush 7, 2) := by decide +kernel
theorem dX6_steps_53 : decode cX6_steps 53 = .ok (.iaload, 1) := by decide +kernel
theorem dX6_steps_54 : decode cX6_steps 54 = .ok (.iload_n 2, 1) := by decide +kernel
theorem dX6_steps_55 : decode cX6_steps 55 = .ok (.iadd, 1) := by decide +kernel
theorem dX6_steps_56 : decode cX6_steps 56 = .ok (.aload_n 0, 1) := by decide +kernel
theorem dX6_steps_57 : decode cX6_steps 57 = .ok (.getfield 7, 3) := by decide +kernel
theorem dX6_steps_60 : decode cX6_steps 60 = .ok (.iconst 0, 1) := by decide +kernel
theorem dX6_steps_61 : decode cX6_steps 61 = .ok (.iaload, 1) := by decide +kernel
theorem dX6_steps_62 : decode cX6_steps 62 = .ok (.iadd, 1) := by decide +kernel
theorem dX6_steps_63 : decode cX6_steps 63 = .ok (.aload_n 0, 1) := by decide +kernel
theorem dX6_steps_64 : decode cX6_steps 64 = .ok (.getfield 7, 3) := by decide +kernel
theorem dX6_steps_67 : decode cX6_steps 67 = .ok (.iconst 0, 1) := by decide +kernel
theorem dX6_steps_68 : decode cX6_steps 68 = .ok (.iaload, 1) := by decide +kernel
theorem dX6_steps_69 : decode cX6_steps 69 = .ok (.irem, 1) := by decide +kernel
theorem dX6_steps_70 : decode cX6_steps 70 = .ok (.iastore, 1) := by decide +kernel
theorem dX6_steps_71 : decode cX6_steps 71 = .ok (.aload_n 0, 1) := by decide +kernel
theorem dX6_steps_72 : decode cX6_steps 72 = .ok (.getfield 7, 3) := by decide +kernel
theorem dX6_steps_75 : decode cX6_steps 75 = .ok (.bipush 19, 2) := by decide +kernel
theorem dX6_steps_77 : decode cX6_steps 77 = .ok (.aload_n 0, 1) := by decide +kernel
theorem dX6_steps_78 : decode cX6_steps 78 = .ok (.getfield 7, 3) := by decide +kernel
theorem dX6_steps_81 : decode cX6_steps 81 = .ok (.bipush 18, 2) := by decide +kernel
theorem dX6_steps_83 : decode cX6_steps 83 = .ok (.iaload, 1) := by decide +kernel
theorem dX6_steps_84 : decode cX6_steps 84 = .ok (.iastore, 1) := by decide +kernel
theorem dX6_steps_85 : decode cX6_steps 85 = .ok (.aload_n 0, 1) := by decide +kernel
theorem dX6_steps_86 : decode cX6_steps 86 = .ok (.getfield 7, 3) := by decide +kernel
theorem dX6_steps_89 : decode cX6_steps 89 = .ok (.bipush 20, 2) := by decide +kernel
theorem dX6_steps_91 : decode cX6_steps 91 = .ok (.aload_n 0, 1) := by decide +kernel
theorem dX6_steps_92 : decode cX6_steps 92 = .ok (.getfield 7, 3) := by decide +kernel
theorem dX6_steps_95 : decode cX6_steps 95 = .ok (.bipush 9, 2) := by decide +kernel
theorem dX6_steps_97 : decode cX6_steps 97 = .ok (.iaload, 1) := by decide +kernel
theorem dX6_steps_98 : decode cX6_steps 98 = .ok (.iastore, 1) := by decide +kernel
theorem dX6_steps_99 : decode cX6_steps 99 = .ok (.aload_n 0, 1) := by decide +kernel
theorem dX6_steps_100 : decode cX6_steps 100 = .ok (.getfield 7, 3) := by decide +kernel
theorem dX6_steps_103 : decode cX6_steps 103 = .ok (.bipush 18, 2) := by decide +kernel
theorem dX6_steps_105 : decode cX6_steps 105 = .ok (.aload_n 0, 1) := by decide +kernel
theorem dX6_steps_106 : decode cX6_steps 106 = .ok (.getfield 7, 3) := by decide +kernel
theorem dX6_steps_109 : decode cX6_steps 109 = .ok (.iconst 5, 1) := by decide +kernel
theorem dX6_steps_110 : decode cX6_steps 110 = .ok (.iaload, 1) := by decide +kernel
theorem dX6_steps_111 : decode cX6_steps 111 = .ok (.iastore, 1) := by decide +kernel
theorem dX6_steps_112 : decode cX6_steps 112 = .ok (.aload_n 0, 1) := by decide +kernel
theorem dX6_steps_113 : decode cX6_steps 113 = .ok (.getfield 7, 3) := by decide +kernel
theorem dX6_steps_116 : decode cX6_steps 116 = .ok (.bipush 9, 2) := by decide +kernel
theorem dX6_steps_118 : decode cX6_steps 118 = .ok (.iload_n 1, 1) := by decide +kernel
theorem dX6_steps_119 : decode cX6_steps 119 = .ok (.iastore, 1) := by decide +kernel
theorem dX6_steps_120 : decode cX6_steps 120 = .ok (.aload_n 0, 1) := by decide +kernel
theorem dX6_steps_121 : decode cX6_steps 121 = .ok (.getfield 7, 3) := by decide +kernel
theorem dX6_steps_124 : decode cX6_steps 124 = .ok (.iload_n 1, 1) := by decide +kernel
theorem dX6_steps_125 : decode cX6_steps 125 = .ok (.iconst 1, 1) := by decide +kernel
theorem dX6_steps_126 : decode cX6_steps 126 = .ok (.if_icmp .ne 8, 3) := by decide +kernel
theorem dX6_steps_129 : decode cX6_steps 129 = .ok (.bipush 10, 2) := by decide +kernel
theorem dX6_steps_131 : decode cX6_steps 131 = .ok (.goto 5, 3) := by decide +kernel
theorem dX6_steps_134 : decode cX6_steps 134 = .ok (.bipush 11, 2) := by decide +kernel
theorem dX6_steps_136 : decode cX6_steps 136 = .ok (.dup2, 1) := by decide +kernel
theorem dX6_steps_137 : decode cX6_steps 137 = .ok (.iaload, 1) := by decide +kernel
theorem dX6_steps_138 : decode cX6_steps 138 = .ok (.iconst 1, 1) := by decide +kernel
theorem dX6_steps_139 : decode cX6_steps 139 = .ok (.iadd, 1) := by decide +kernel
theorem dX6_steps_140 : decode cX6_steps 140 = .ok (.iastore, 1) := by decide +kernel
theorem dX6_steps_141 : decode cX6_steps 141 = .ok (.return_, 1) := by decide +kernel
theorem dX6_rises_0 : decode cX6_rises 0 = .ok (.aload_n 0, 1) := by decide +kernel
theorem dX6_rises_1 : decode cX6_rises 1 = .ok (.getfield 7, 3) := by decide +kernel
theorem dX6_rises_4 : decode cX6_rises 4 = .ok (.iconst 4, 1) := by decide +kernel
theorem dX6_rises_5 : decode cX6_rises 5 = .ok (.iaload, 1) := by decide +kernel
theorem dX6_rises_6 : decode cX6_rises 6 = .ok (.iconst 1, 1) := by decide +kernel
theorem dX6_rises_7 : decode cX6_rises 7 = .ok (.if_icmp .ne 39, 3) := by decide +kernel
theorem dX6_rises_10 : decode cX6_rises 10 = .ok (.aload_n 0, 1) := by decide +kernel
theorem dX6_rises_11 : decode cX6_rises 11 = .ok (.getfield 7, 3) := by decide +kernel
theorem dX6_rises_14 : decode cX6_rises 14 = .ok (.bipush 13, 2) := by decide +kernel
theorem dX6_rises_16 : decode cX6_rises 16 = .ok (.dup2, 1) := by decide +kernel
theorem dX6_rises_17 : decode cX6_rises 17 = .ok (.iaload, 1) := by decide +kernel
theorem dX6_rises_18 : decode cX6_rises 18 = .ok (.aload_n 0, 1) := by decide +kernel
theorem dX6_rises_19 : decode cX6_rises 19 = .ok (.getfield 7, 3) := by decide +kernel
theorem dX6_rises_22 : decode cX6_rises 22 = .ok (.bipush 7, 2) := by decide +kernel
theorem dX6_rises_24 : decode cX6_rises 24 = .ok (.iaload, 1) := by decide +kernel
theorem dX6_rises_25 : decode cX6_rises 25 = .ok (.ifCond .eq 7, 3) := by decide +kernel
theorem dX6_rises_28 : decode cX6_rises 28 = .ok (.iconst 1, 1) := by decide +kernel
theorem dX6_rises_29 : decode cX6_rises 29 = .ok (.goto 4, 3) := by decide +kernel
theorem dX6_rises_32 : decode cX6_rises 32 = .ok (.iconst 0, 1) := by decide +kernel
theorem dX6_rises_33 : decode cX6_rises 33 = .ok (.iadd, 1) := by decide +kernel
theorem dX6_rises_34 : decode cX6_rises 34 = .ok (.iastore, 1) := by decide +kernel
theorem dX6_rises_35 : decode cX6_rises 35 = .ok (.aload_n 0, 1) := by decide +kernel
theorem dX6_rises_36 : decode cX6_rises 36 = .ok (.getfield 7, 3) := by decide +kernel
theorem dX6_rises_39 : decode cX6_rises 39 = .ok (.bipush 7, 2) := by decide +kernel
theorem dX6_rises_41 : decode cX6_rises 41 = .ok (.iconst 0, 1) := by decide +kernel
theorem dX6_rises_42 : decode cX6_rises 42 = .ok (.iastore, 1) := by decide +kernel
theorem dX6_rises_43 : decode cX6_rises 43 = .ok (.goto 29, 3) := by decide +kernel
theorem dX6_rises_46 : decode cX6_rises 46 = .ok (.aload_n 0, 1) := by decide +kernel
theorem dX6_rises_47 : decode cX6_rises 47 = .ok (.getfield 7, 3) := by decide +kernel
theorem dX6_rises_50 : decode cX6_rises 50 = .ok (.iconst 4, 1) := by decide +kernel
theorem dX6_rises_51 : decode cX6_rises 51 = .ok (.iaload, 1) := by decide +kernel
theorem dX6_rises_52 : decode cX6_rises 52 = .ok (.iconst 2, 1) := by decide +kernel
theorem dX6_rises_53 : decode cX6_rises 53 = .ok (.if_icmp .ne 19, 3) := by decide +kernel
theorem dX6_rises_56 : decode cX6_rises 56 = .ok (.aload_n 0, 1) := by decide +kernel
theorem dX6_rises_57 : decode cX6_rises 57 = .ok (.getfield 7, 3) := by decide +kernel
theorem dX6_rises_60 : decode cX6_rises 60 = .ok (.bipush 7, 2) := by decide +kernel
theorem dX6_rises_62 : decode cX6_rises 62 = .ok (.iconst 0, 1) := by decide +kernel
theorem dX6_rises_63 : decode cX6_rises 63 = .ok (.iastore, 1) := by decide +kernel
theorem dX6_rises_64 : decode cX6_rises 64 = .ok (.aload_n 0, 1) := by decide +kernel
theorem dX6_rises_65 : decode cX6_rises 65 = .ok (.getfield 7, 3) := by decide +kernel
theorem dX6_rises_68 : decode cX6_rises 68 = .ok (.bipush 6, 2) := by decide +kernel
theorem dX6_rises_70 : decode cX6_rises 70 = .ok (.iconst 0, 1) := by decide +kernel
theorem dX6_rises_71 : decode cX6_rises 71 = .ok (.iastore, 1) := by decide +kernel
theorem dX6_rises_72 : decode cX6_rises 72 = .ok (.return_, 1) := by decide +kernel
set_option maxRecDepth 20000 in
theorem ggX6_ticks_X6_deedOf : GoodIn wsX6_ticks wsX6_deedOf := goodIn_r _ [6, 1, 7, 8, 5, 9, 18, 19, 20, 21, 22, 23, 24, 25, 26, 27, 28, 29, 30] (by decide +kernel) (by decide +kernel)
set_option maxRecDepth 20000 in
theorem gX6_ticks_X6_deedOf : GoodIn wsX6_ticks (wsV RX6 42 RX6 yX6_deedOf wsX6_deedOf) := goodIn_app (goodIn_of _ (by decide +kernel)) ggX6_ticks_X6_deedOf
set_option maxRecDepth 20000 in
theorem ggX6_ticks_X6_steps : GoodIn wsX6_ticks wsX6_steps := goodIn_r _ [13, 1, 18, 19, 20, 21, 22, 23, 24, 25, 26, 27, 28, 29, 30] (by decide +kernel) (by decide +kernel)
set_option maxRecDepth 20000 in
theorem gX6_ticks_X6_steps : GoodIn wsX6_ticks (wsV RX6 45 RX6 yX6_steps wsX6_steps) := goodIn_app (goodIn_of _ (by decide +kernel)) ggX6_ticks_X6_steps
set_option maxRecDepth 20000 in
theorem ggX6_ticks_X6_rises : GoodIn wsX6_ticks wsX6_rises := goodIn_r _ [17, 1, 18, 19, 20, 21, 22, 23, 24, 25, 26, 27, 28, 29, 30] (by decide +kernel) (by decide +kernel)
set_option maxRecDepth 20000 in
theorem gX6_ticks_X6_rises : GoodIn wsX6_ticks (wsV RX6 49 RX6 yX6_rises wsX6_rises) := goodIn_app (goodIn_of _ (by decide +kernel)) ggX6_ticks_X6_rises
theorem dX6_ticks_0 : decode cX6_ticks 0 = .ok (.aload_n 0, 1) := by decide +kernel
theorem dX6_ticks_1 : decode cX6_ticks 1 = .ok (.iload_n 1, 1) := by decide +kernel
theorem dX6_ticks_2 : decode cX6_ticks 2 = .ok (.invokevirtual 42, 3) := by decide +kernel
theorem dX6_ticks_5 : decode cX6_ticks 5 = .ok (.istore_n 3, 1) := by decide +kernel
theorem dX6_ticks_6 : decode cX6_ticks 6 = .ok (.iload_n 3, 1) := by decide +kernel
theorem dX6_ticks_7 : decode cX6_ticks 7 = .ok (.iconst 1, 1) := by decide +kernel
theorem dX6_ticks_8 : decode cX6_ticks 8 = .ok (.if_icmp .eq 8, 3) := by decide +kernel
theorem dX6_ticks_11 : decode cX6_ticks 11 = .ok (.iload_n 3, 1) := by decide +kernel
theorem dX6_ticks_12 : decode cX6_ticks 12 = .ok (.iconst 2, 1) := by decide +kernel
theorem dX6_ticks_13 : decode cX6_ticks 13 = .ok (.if_icmp .ne 8, 3) := by decide +kernel
theorem dX6_ticks_16 : decode cX6_ticks 16 = .ok (.aload_n 0, 1) := by decide +kernel
theorem dX6_ticks_17 : decode cX6_ticks 17 = .ok (.iload_n 3, 1) := by decide +kernel
theorem dX6_ticks_18 : decode cX6_ticks 18 = .ok (.invokevirtual 45, 3) := by decide +kernel
theorem dX6_ticks_21 : decode cX6_ticks 21 = .ok (.aload_n 0, 1) := by decide +kernel
theorem dX6_ticks_22 : decode cX6_ticks 22 = .ok (.getfield 7, 3) := by decide +kernel
theorem dX6_ticks_25 : decode cX6_ticks 25 = .ok (.bipush 12, 2) := by decide +kernel
theorem dX6_ticks_27 : decode cX6_ticks 27 = .ok (.dup2, 1) := by decide +kernel
theorem dX6_ticks_28 : decode cX6_ticks 28 = .ok (.iaload, 1) := by decide +kernel
theorem dX6_ticks_29 : decode cX6_ticks 29 = .ok (.iload_n 3, 1) := by decide +kernel
theorem dX6_ticks_30 : decode cX6_ticks 30 = .ok (.iconst 3, 1) := by decide +kernel
theorem dX6_ticks_31 : decode cX6_ticks 31 = .ok (.if_icmp .ne 7, 3) := by decide +kernel
theorem dX6_ticks_34 : decode cX6_ticks 34 = .ok (.iconst 1, 1) := by decide +kernel
theorem dX6_ticks_35 : decode cX6_ticks 35 = .ok (.goto 4, 3) := by decide +kernel
theorem dX6_ticks_38 : decode cX6_ticks 38 = .ok (.iconst 0, 1) := by decide +kernel
theorem dX6_ticks_39 : decode cX6_ticks 39 = .ok (.iadd, 1) := by decide +kernel
theorem dX6_ticks_40 : decode cX6_ticks 40 = .ok (.iastore, 1) := by decide +kernel
theorem dX6_ticks_41 : decode cX6_ticks 41 = .ok (.aload_n 0, 1) := by decide +kernel
theorem dX6_ticks_42 : decode cX6_ticks 42 = .ok (.getfield 7, 3) := by decide +kernel
theorem dX6_ticks_45 : decode cX6_ticks 45 = .ok (.bipush 8, 2) := by decide +kernel
theorem dX6_ticks_47 : decode cX6_ticks 47 = .ok (.iload_n 3, 1) := by decide +kernel
theorem dX6_ticks_48 : decode cX6_ticks 48 = .ok (.ifCond .le 7, 3) := by decide +kernel
theorem dX6_ticks_51 : decode cX6_ticks 51 = .ok (.iload_n 1, 1) := by decide +kernel
theorem dX6_ticks_52 : decode cX6_ticks 52 = .ok (.goto 10, 3) := by decide +kernel
theorem dX6_ticks_55 : decode cX6_ticks 55 = .ok (.aload_n 0, 1) := by decide +kernel
theorem dX6_ticks_56 : decode cX6_ticks 56 = .ok (.getfield 7, 3) := by decide +kernel
theorem dX6_ticks_59 : decode cX6_ticks 59 = .ok (.bipush 8, 2) := by decide +kernel
theorem dX6_ticks_61 : decode cX6_ticks 61 = .ok (.iaload, 1) := by decide +kernel
theorem dX6_ticks_62 : decode cX6_ticks 62 = .ok (.iastore, 1) := by decide +kernel
theorem dX6_ticks_63 : decode cX6_ticks 63 = .ok (.iload_n 2, 1) := by decide +kernel
theorem dX6_ticks_64 : decode cX6_ticks 64 = .ok (.iconst 1, 1) := by decide +kernel
theorem dX6_ticks_65 : decode cX6_ticks 65 = .ok (.if_icmp .ne 17, 3) := by decide +kernel
theorem dX6_ticks_68 : decode cX6_ticks 68 = .ok (.aload_n 0, 1) := by decide +kernel
theorem dX6_ticks_69 : decode cX6_ticks 69 = .ok (.getfield 7, 3) := by decide +kernel
theorem dX6_ticks_72 : decode cX6_ticks 72 = .ok (.bipush 17, 2) := by decide +kernel
theorem dX6_ticks_74 : decode cX6_ticks 74 = .ok (.iaload, 1) := by decide +kernel
theorem dX6_ticks_75 : decode cX6_ticks 75 = .ok (.ifCond .ne 7, 3) := by decide +kernel
theorem dX6_ticks_78 : decode cX6_ticks 78 = .ok (.aload_n 0, 1) := by decide +kernel
theorem dX6_ticks_79 : decode cX6_ticks 79 = .ok (.invokevirtual 49, 3) := by decide +kernel
theorem dX6_ticks_82 : decode cX6_ticks 82 = .ok (.aload_n 0, 1) := by decide +kernel
theorem dX6_ticks_83 : decode cX6_ticks 83 = .ok (.getfield 7, 3) := by decide +kernel
theorem dX6_ticks_86 : decode cX6_ticks 86 = .ok (.bipush 16, 2) := by decide +kernel
theorem dX6_ticks_88 : decode cX6_ticks 88 = .ok (.iload_n 1, 1) := by decide +kernel
theorem dX6_ticks_89 : decode cX6_ticks 89 = .ok (.aload_n 0, 1) := by decide +kernel
theorem dX6_ticks_90 : decode cX6_ticks 90 = .ok (.getfield 7, 3) := by decide +kernel
theorem dX6_ticks_93 : decode cX6_ticks 93 = .ok (.bipush 15, 2) := by decide +kernel
theorem dX6_ticks_95 : decode cX6_ticks 95 = .ok (.iaload, 1) := by decide +kernel
theorem dX6_ticks_96 : decode cX6_ticks 96 = .ok (.if_icmp .ne 24, 3) := by decide +kernel
theorem dX6_ticks_99 : decode cX6_ticks 99 = .ok (.aload_n 0, 1) := by decide +kernel
theorem dX6_ticks_100 : decode cX6_ticks 100 = .ok (.getfield 7, 3) := by decide +kernel
theorem dX6_ticks_103 : decode cX6_ticks 103 = .ok (.iconst 5, 1) := by decide +kernel
theorem dX6_ticks_104 : decode cX6_ticks 104 = .ok (.iaload, 1) := by decide +kernel
theorem dX6_ticks_105 : decode cX6_ticks 105 = .ok (.ifCond .le 15, 3) := by decide +kernel
theorem dX6_ticks_108 : decode cX6_ticks 108 = .ok (.aload_n 0, 1) := by decide +kernel
theorem dX6_ticks_109 : decode cX6_ticks 109 = .ok (.getfield 7, 3) := by decide +kernel
theorem dX6_ticks_112 : decode cX6_ticks 112 = .ok (.bipush 16, 2) := by decide +kernel
theorem dX6_ticks_114 : decode cX6_ticks 114 = .ok (.iaload, 1) := by decide +kernel
theorem dX6_ticks_115 : decode cX6_ticks 115 = .ok (.iconst 1, 1) := by decide +kernel
theorem dX6_ticks_116 : decode cX6_ticks 116 = .ok (.iadd, 1) := by decide +kernel
theorem dX6_ticks_117 : decode cX6_ticks 117 = .ok (.goto 4, 3) := by decide +kernel
theorem dX6_ticks_120 : decode cX6_ticks 120 = .ok (.iconst 1, 1) := by decide +kernel
theorem dX6_ticks_121 : decode cX6_ticks 121 = .ok (.iastore, 1) := by decide +kernel
theorem dX6_ticks_122 : decode cX6_ticks 122 = .ok (.aload_n 0, 1) := by decide +kernel
theorem dX6_ticks_123 : decode cX6_ticks 123 = .ok (.getfield 7, 3) := by decide +kernel
theorem dX6_ticks_126 : decode cX6_ticks 126 = .ok (.bipush 15, 2) := by decide +kernel
theorem dX6_ticks_128 : decode cX6_ticks 128 = .ok (.iload_n 1, 1) := by decide +kernel
theorem dX6_ticks_129 : decode cX6_ticks 129 = .ok (.iastore, 1) := by decide +kernel
theorem dX6_ticks_130 : decode cX6_ticks 130 = .ok (.aload_n 0, 1) := by decide +kernel
theorem dX6_ticks_131 : decode cX6_ticks 131 = .ok (.getfield 7, 3) := by decide +kernel
theorem dX6_ticks_134 : decode cX6_ticks 134 = .ok (.bipush 17, 2) := by decide +kernel
theorem dX6_ticks_136 : decode cX6_ticks 136 = .ok (.iload_n 2, 1) := by decide +kernel
theorem dX6_ticks_137 : decode cX6_ticks 137 = .ok (.iastore, 1) := by decide +kernel
theorem dX6_ticks_138 : decode cX6_ticks 138 = .ok (.aload_n 0, 1) := by decide +kernel
theorem dX6_ticks_139 : decode cX6_ticks 139 = .ok (.getfield 7, 3) := by decide +kernel
theorem dX6_ticks_142 : decode cX6_ticks 142 = .ok (.iconst 5, 1) := by decide +kernel
theorem dX6_ticks_143 : decode cX6_ticks 143 = .ok (.dup2, 1) := by decide +kernel
theorem dX6_ticks_144 : decode cX6_ticks 144 = .ok (.iaload, 1) := by decide +kernel
theorem dX6_ticks_145 : decode cX6_ticks 145 = .ok (.iconst 1, 1) := by decide +kernel
theorem dX6_ticks_146 : decode cX6_ticks 146 = .ok (.iadd, 1) := by decide +kernel
theorem dX6_ticks_147 : decode cX6_ticks 147 = .ok (.iastore, 1) := by decide +kernel
theorem dX6_ticks_148 : decode cX6_ticks 148 = .ok (.aload_n 0, 1) := by decide +kernel
theorem dX6_ticks_149 : decode cX6_ticks 149 = .ok (.getfield 7, 3) := by decide +kernel
theorem dX6_ticks_152 : decode cX6_ticks 152 = .ok (.bipush 14, 2) := by decide +kernel
theorem dX6_ticks_154 : decode cX6_ticks 154 = .ok (.dup2, 1) := by decide +kernel
theorem dX6_ticks_155 : decode cX6_ticks 155 = .ok (.iaload, 1) := by decide +kernel
theorem dX6_ticks_156 : decode cX6_ticks 156 = .ok (.aload_n 0, 1) := by decide +kernel
theorem dX6_ticks_157 : decode cX6_ticks 157 = .ok (.getfield 7, 3) := by decide +kernel
theorem dX6_ticks_160 : decode cX6_ticks 160 = .ok (.bipush 14, 2) := by decide +kernel
theorem dX6_ticks_162 : decode cX6_ticks 162 = .ok (.iaload, 1) := by decide +kernel
theorem dX6_ticks_163 : decode cX6_ticks 163 = .ok (.sipush 200, 3) := by decide +kernel
theorem dX6_ticks_166 : decode cX6_ticks 166 = .ok (.if_icmp .ge 7, 3) := by decide +kernel
theorem dX6_ticks_169 : decode cX6_ticks 169 = .ok (.iconst 1, 1) := by decide +kernel
theorem dX6_ticks_170 : decode cX6_ticks 170 = .ok (.goto 4, 3) := by decide +kernel
theorem dX6_ticks_173 : decode cX6_ticks 173 = .ok (.iconst 0, 1) := by decide +kernel
theorem dX6_ticks_174 : decode cX6_ticks 174 = .ok (.iadd, 1) := by decide +kernel
theorem dX6_ticks_175 : decode cX6_ticks 175 = .ok (.iastore, 1) := by decide +kernel
theorem dX6_ticks_176 : decode cX6_ticks 176 = .ok (.aload_n 0, 1) := by decide +kernel
theorem dX6_ticks_177 : decode cX6_ticks 177 = .ok (.getfield 7, 3) := by decide +kernel
theorem dX6_ticks_180 : decode cX6_ticks 180 = .ok (.bipush 14, 2) := by decide +kernel
theorem dX6_ticks_182 : decode cX6_ticks 182 = .ok (.iaload, 1) := by decide +kernel
theorem dX6_ticks_183 : decode cX6_ticks 183 = .ok (.iconst 1, 1) := by decide +kernel
theorem dX6_ticks_184 : decode cX6_ticks 184 = .ok (.isub, 1) := by decide +kernel
theorem dX6_ticks_185 : decode cX6_ticks 185 = .ok (.istore 4, 2) := by decide +kernel
theorem dX6_ticks_187 : decode cX6_ticks 187 = .ok (.iload 4, 2) := by decide +kernel
theorem dX6_ticks_189 : decode cX6_ticks 189 = .ok (.ifCond .le 31, 3) := by decide +kernel
theorem dX6_ticks_192 : decode cX6_ticks 192 = .ok (.aload_n 0, 1) := by decide +kernel
theorem dX6_ticks_193 : decode cX6_ticks 193 = .ok (.getfield 7, 3) := by decide +kernel
theorem dX6_ticks_196 : decode cX6_ticks 196 = .ok (.bipush 21, 2) := by decide +kernel
theorem dX6_ticks_198 : decode cX6_ticks 198 = .ok (.iload 4, 2) := by decide +kernel
theorem dX6_ticks_200 : decode cX6_ticks 200 = .ok (.iadd, 1) := by decide +kernel
theorem dX6_ticks_201 : decode cX6_ticks 201 = .ok (.aload_n 0, 1) := by decide +kernel
theorem dX6_ticks_202 : decode cX6_ticks 202 = .ok (.getfield 7, 3) := by decide +kernel
theorem dX6_ticks_205 : decode cX6_ticks 205 = .ok (.bipush 21, 2) := by decide +kernel
theorem dX6_ticks_207 : decode cX6_ticks 207 = .ok (.iload 4, 2) := by decide +kernel
theorem dX6_ticks_209 : decode cX6_ticks 209 = .ok (.iadd, 1) := by decide +kernel
theorem dX6_ticks_210 : decode cX6_ticks 210 = .ok (.iconst 1, 1) := by decide +kernel
theorem dX6_ticks_211 : decode cX6_ticks 211 = .ok (.isub, 1) := by decide +kernel
theorem dX6_ticks_212 : decode cX6_ticks 212 = .ok (.iaload, 1) := by decide +kernel
theorem dX6_ticks_213 : decode cX6_ticks 213 = .ok (.iastore, 1) := by decide +kernel
theorem dX6_ticks_214 : decode cX6_ticks 214 = .ok (.iinc 4 (-1), 3) := by decide +kernel
theorem dX6_ticks_217 : decode cX6_ticks 217 = .ok (.goto (-30), 3) := by decide +kernel
theorem dX6_ticks_220 : decode cX6_ticks 220 = .ok (.aload_n 0, 1) := by decide +kernel
theorem dX6_ticks_221 : decode cX6_ticks 221 = .ok (.getfield 7, 3) := by decide +kernel
theorem dX6_ticks_224 : decode cX6_ticks 224 = .ok (.bipush 21, 2) := by decide +kernel
theorem dX6_ticks_226 : decode cX6_ticks 226 = .ok (.bipush 8, 2) := by decide +kernel
theorem dX6_ticks_228 : decode cX6_ticks 228 = .ok (.iload_n 1, 1) := by decide +kernel
theorem dX6_ticks_229 : decode cX6_ticks 229 = .ok (.imul, 1) := by decide +kernel
theorem dX6_ticks_230 : decode cX6_ticks 230 = .ok (.iconst 4, 1) := by decide +kernel
theorem dX6_ticks_231 : decode cX6_ticks 231 = .ok (.iload_n 2, 1) := by decide +kernel
theorem dX6_ticks_232 : decode cX6_ticks 232 = .ok (.imul, 1) := by decide +kernel
theorem dX6_ticks_233 : decode cX6_ticks 233 = .ok (.iadd, 1) := by decide +kernel
theorem dX6_ticks_234 : decode cX6_ticks 234 = .ok (.iload_n 3, 1) := by decide +kernel
theorem dX6_ticks_235 : decode cX6_ticks 235 = .ok (.iadd, 1) := by decide +kernel
theorem dX6_ticks_236 : decode cX6_ticks 236 = .ok (.iastore, 1) := by decide +kernel
theorem dX6_ticks_237 : decode cX6_ticks 237 = .ok (.iload_n 3, 1) := by decide +kernel
theorem dX6_ticks_238 : decode cX6_ticks 238 = .ok (.iconst 1, 1) := by decide +kernel
theorem dX6_ticks_239 : decode cX6_ticks 239 = .ok (.if_icmp .eq 8, 3) := by decide +kernel
theorem dX6_ticks_242 : decode cX6_ticks 242 = .ok (.iload_n 3, 1) := by decide +kernel
theorem dX6_ticks_243 : decode cX6_ticks 243 = .ok (.iconst 2, 1) := by decide +kernel
theorem dX6_ticks_244 : decode cX6_ticks 244 = .ok (.if_icmp .ne 7, 3) := by decide +kernel
theorem dX6_ticks_247 : decode cX6_ticks 247 = .ok (.iconst 1, 1) := by decide +kernel
theorem dX6_ticks_248 : decode cX6_ticks 248 = .ok (.goto 4, 3) := by decide +kernel
theorem dX6_ticks_251 : decode cX6_ticks 251 = .ok (.iconst 0, 1) := by decide +kernel
theorem dX6_ticks_252 : decode cX6_ticks 252 = .ok (.ireturn, 1) := by decide +kernel
set_option maxRecDepth 20000 in
theorem ggX6_isSetting_X6_in : GoodIn wsX6_isSetting wsX6_in := goodIn_r _ [11] (by decide +kernel) (by decide +kernel)
set_option maxRecDepth 20000 in
theorem gX6_isSetting_X6_in : GoodIn wsX6_isSetting (va_wsS RX6 56 yX6_in wsX6_in) := goodIn_app (goodIn_of _ (by decide +kernel)) ggX6_isSetting_X6_in
theorem dX6_isSetting_0 : decode cX6_isSetting 0 = .ok (.iload_n 0, 1) := by decide +kernel
theorem dX6_isSetting_1 : decode cX6_isSetting 1 = .ok (.tableswitch 89 0 3 #[31, 57, 69, 79], 31) := by decide +kernel
theorem dX6_isSetting_32 : decode cX6_isSetting 32 = .ok (.iload_n 1, 1) := by decide +kernel
theorem dX6_isSetting_33 : decode cX6_isSetting 33 = .ok (.i2l, 1) := by decide +kernel
theorem dX6_isSetting_34 : decode cX6_isSetting 34 = .ok (.ldc2_w 52, 3) := by decide +kernel
theorem dX6_isSetting_37 : decode cX6_isSetting 37 = .ok (.ldc2_w 54, 3) := by decide +kernel
theorem dX6_isSetting_40 : decode cX6_isSetting 40 = .ok (.invokestatic 56, 3) := by decide +kernel
theorem dX6_isSetting_43 : decode cX6_isSetting 43 = .ok (.ifCond .eq 13, 3) := by decide +kernel
theorem dX6_isSetting_46 : decode cX6_isSetting 46 = .ok (.iload_n 1, 1) := by decide +kernel
theorem dX6_isSetting_47 : decode cX6_isSetting 47 = .ok (.iconst 4, 1) := by decide +kernel
theorem dX6_isSetting_48 : decode cX6_isSetting 48 = .ok (.irem, 1) := by decide +kernel
theorem dX6_isSetting_49 : decode cX6_isSetting 49 = .ok (.ifCond .ne 7, 3) := by decide +kernel
theorem dX6_isSetting_52 : decode cX6_isSetting 52 = .ok (.iconst 1, 1) := by decide +kernel
theorem dX6_isSetting_53 : decode cX6_isSetting 53 = .ok (.goto 4, 3) := by decide +kernel
theorem dX6_isSetting_56 : decode cX6_isSetting 56 = .ok (.iconst 0, 1) := by decide +kernel
theorem dX6_isSetting_57 : decode cX6_isSetting 57 = .ok (.ireturn, 1) := by decide +kernel
theorem dX6_isSetting_58 : decode cX6_isSetting 58 = .ok (.iload_n 1, 1) := by decide +kernel
theorem dX6_isSetting_59 : decode cX6_isSetting 59 = .ok (.i2l, 1) := by decide +kernel
theorem dX6_isSetting_60 : decode cX6_isSetting 60 = .ok (.ldc2_w 60, 3) := by decide +kernel
theorem dX6_isSetting_63 : decode cX6_isSetting 63 = .ok (.ldc2_w 62, 3) := by decide +kernel
theorem dX6_isSetting_66 : decode cX6_isSetting 66 = .ok (.invokestatic 56, 3) := by decide +kernel
theorem dX6_isSetting_69 : decode cX6_isSetting 69 = .ok (.ireturn, 1) := by decide +kernel
theorem dX6_isSetting_70 : decode cX6_isSetting 70 = .ok (.iload_n 1, 1) := by decide +kernel
theorem dX6_isSetting_71 : decode cX6_isSetting 71 = .ok (.i2l, 1) := by decide +kernel
theorem dX6_isSetting_72 : decode cX6_isSetting 72 = .ok (.lconst 1, 1) := by decide +kernel
theorem dX6_isSetting_73 : decode cX6_isSetting 73 = .ok (.ldc2_w 64, 3) := by decide +kernel
theorem dX6_isSetting_76 : decode cX6_isSetting 76 = .ok (.invokestatic 56, 3) := by decide +kernel
theorem dX6_isSetting_79 : decode cX6_isSetting 79 = .ok (.ireturn, 1) := by decide +kernel
theorem dX6_isSetting_80 : decode cX6_isSetting 80 = .ok (.iload_n 1, 1) := by decide +kernel
theorem dX6_isSetting_81 : decode cX6_isSetting 81 = .ok (.i2l, 1) := by decide +kernel
theorem dX6_isSetting_82 : decode cX6_isSetting 82 = .ok (.lconst 1, 1) := by decide +kernel
theorem dX6_isSetting_83 : decode cX6_isSetting 83 = .ok (.ldc2_w 66, 3) := by decide +kernel
theorem dX6_isSetting_86 : decode cX6_isSetting 86 = .ok (.invokestatic 56, 3) := by decide +kernel
theorem dX6_isSetting_89 : decode cX6_isSetting 89 = .ok (.ireturn, 1) := by decide +kernel
theorem dX6_isSetting_90 : decode cX6_isSetting 90 = .ok (.iload_n 0, 1) := by decide +kernel
theorem dX6_isSetting_91 : decode cX6_isSetting 91 = .ok (.iconst 4, 1) := by decide +kernel
theorem dX6_isSetting_92 : decode cX6_isSetting 92 = .ok (.if_icmp .ne 19, 3) := by decide +kernel
theorem dX6_isSetting_95 : decode cX6_isSetting 95 = .ok (.iload_n 1, 1) := by decide +kernel
theorem dX6_isSetting_96 : decode cX6_isSetting 96 = .ok (.i2l, 1) := by decide +kernel
theorem dX6_isSetting_97 : decode cX6_isSetting 97 = .ok (.lconst 0, 1) := by decide +kernel
theorem dX6_isSetting_98 : decode cX6_isSetting 98 = .ok (.ldc2_w 68, 3) := by decide +kernel
theorem dX6_isSetting_101 : decode cX6_isSetting 101 = .ok (.invokestatic 56, 3) := by decide +kernel
theorem dX6_isSetting_104 : decode cX6_isSetting 104 = .ok (.ifCond .eq 7, 3) := by decide +kernel
theorem dX6_isSetting_107 : decode cX6_isSetting 107 = .ok (.iconst 1, 1) := by decide +kernel
theorem dX6_isSetting_108 : decode cX6_isSetting 108 = .ok (.goto 4, 3) := by decide +kernel
theorem dX6_isSetting_111 : decode cX6_isSetting 111 = .ok (.iconst 0, 1) := by decide +kernel
theorem dX6_isSetting_112 : decode cX6_isSetting 112 = .ok (.ireturn, 1) := by decide +kernel
set_option maxRecDepth 20000 in
theorem ggX6_doSet_X6_isSetting : GoodIn wsX6_doSet wsX6_isSetting := goodIn_r _ [5, 6, 7, 8, 9, 10, 11, 12, 13, 14, 4, 15] (by decide +kernel) (by decide +kernel)
set_option maxRecDepth 20000 in
theorem gX6_doSet_X6_isSetting : GoodIn wsX6_doSet (va_wsS RX6 70 yX6_isSetting wsX6_isSetting) := goodIn_app (goodIn_of _ (by decide +kernel)) ggX6_doSet_X6_isSetting
theorem dX6_doSet_0 : decode cX6_doSet 0 = .ok (.iload_n 1, 1) := by decide +kernel
theorem dX6_doSet_1 : decode cX6_doSet 1 = .ok (.iload_n 2, 1) := by decide +kernel
theorem dX6_doSet_2 : decode cX6_doSet 2 = .ok (.invokestatic 70, 3) := by decide +kernel
theorem dX6_doSet_5 : decode cX6_doSet 5 = .ok (.ifCond .ne 6, 3) := by decide +kernel
theorem dX6_doSet_8 : decode cX6_doSet 8 = .ok (.bipush (-2), 2) := by decide +kernel
theorem dX6_doSet_10 : decode cX6_doSet 10 = .ok (.ireturn, 1) := by decide +kernel
theorem dX6_doSet_11 : decode cX6_doSet 11 = .ok (.aload_n 0, 1) := by decide +kernel
theorem dX6_doSet_12 : decode cX6_doSet 12 = .ok (.getfield 7, 3) := by decide +kernel
theorem dX6_doSet_15 : decode cX6_doSet 15 = .ok (.iload_n 1, 1) := by decide +kernel
theorem dX6_doSet_16 : decode cX6_doSet 16 = .ok (.iaload, 1) := by decide +kernel
theorem dX6_doSet_17 : decode cX6_doSet 17 = .ok (.istore_n 3, 1) := by decide +kernel
theorem dX6_doSet_18 : decode cX6_doSet 18 = .ok (.aload_n 0, 1) := by decide +kernel
theorem dX6_doSet_19 : decode cX6_doSet 19 = .ok (.getfield 7, 3) := by decide +kernel
theorem dX6_doSet_22 : decode cX6_doSet 22 = .ok (.iload_n 1, 1) := by decide +kernel
theorem dX6_doSet_23 : decode cX6_doSet 23 = .ok (.iload_n 2, 1) := by decide +kernel
theorem dX6_doSet_24 : decode cX6_doSet 24 = .ok (.iastore, 1) := by decide +kernel
theorem dX6_doSet_25 : decode cX6_doSet 25 = .ok (.aload_n 0, 1) := by decide +kernel
theorem dX6_doSet_26 : decode cX6_doSet 26 = .ok (.getfield 7, 3) := by decide +kernel
theorem dX6_doSet_29 : decode cX6_doSet 29 = .ok (.bipush 7, 2) := by decide +kernel
theorem dX6_doSet_31 : decode cX6_doSet 31 = .ok (.dup2, 1) := by decide +kernel
theorem dX6_doSet_32 : decode cX6_doSet 32 = .ok (.iaload, 1) := by decide +kernel
theorem dX6_doSet_33 : decode cX6_doSet 33 = .ok (.aload_n 0, 1) := by decide +kernel
theorem dX6_doSet_34 : decode cX6_doSet 34 = .ok (.getfield 7, 3) := by decide +kernel
theorem dX6_doSet_37 : decode cX6_doSet 37 = .ok (.iconst 0, 1) := by decide +kernel
theorem dX6_doSet_38 : decode cX6_doSet 38 = .ok (.iaload, 1) := by decide +kernel
theorem dX6_doSet_39 : decode cX6_doSet 39 = .ok (.irem, 1) := by decide +kernel
theorem dX6_doSet_40 : decode cX6_doSet 40 = .ok (.iastore, 1) := by decide +kernel
theorem dX6_doSet_41 : decode cX6_doSet 41 = .ok (.aload_n 0, 1) := by decide +kernel
theorem dX6_doSet_42 : decode cX6_doSet 42 = .ok (.getfield 7, 3) := by decide +kernel
theorem dX6_doSet_45 : decode cX6_doSet 45 = .ok (.bipush 6, 2) := by decide +kernel
theorem dX6_doSet_47 : decode cX6_doSet 47 = .ok (.dup2, 1) := by decide +kernel
theorem dX6_doSet_48 : decode cX6_doSet 48 = .ok (.iaload, 1) := by decide +kernel
theorem dX6_doSet_49 : decode cX6_doSet 49 = .ok (.aload_n 0, 1) := by decide +kernel
theorem dX6_doSet_50 : decode cX6_doSet 50 = .ok (.getfield 7, 3) := by decide +kernel
theorem dX6_doSet_53 : decode cX6_doSet 53 = .ok (.iconst 1, 1) := by decide +kernel
theorem dX6_doSet_54 : decode cX6_doSet 54 = .ok (.iaload, 1) := by decide +kernel
theorem dX6_doSet_55 : decode cX6_doSet 55 = .ok (.irem, 1) := by decide +kernel
theorem dX6_doSet_56 : decode cX6_doSet 56 = .ok (.iastore, 1) := by decide +kernel
theorem dX6_doSet_57 : decode cX6_doSet 57 = .ok (.iload_n 3, 1) := by decide +kernel
theorem dX6_doSet_58 : decode cX6_doSet 58 = .ok (.ireturn, 1) := by decide +kernel
set_option maxRecDepth 20000 in
theorem ggX6_doFeed_X6_in : GoodIn wsX6_doFeed wsX6_in := goodIn_r _ [8] (by decide +kernel) (by decide +kernel)
set_option maxRecDepth 20000 in
theorem gX6_doFeed_X6_in : GoodIn wsX6_doFeed (va_wsS RX6 56 yX6_in wsX6_in) := goodIn_app (goodIn_of _ (by decide +kernel)) ggX6_doFeed_X6_in
set_option maxRecDepth 20000 in
theorem ggX6_doFeed_X6_ticks : GoodIn wsX6_doFeed wsX6_ticks := goodIn_r _ [12, 3, 13, 14, 15, 7, 16, 17, 18, 19, 20, 21, 22, 23, 24, 25, 26, 27, 28, 29, 30, 31, 32, 33, 34, 35, 36, 37, 38, 39, 40] (by decide +kernel) (by decide +kernel)
set_option maxRecDepth 20000 in
theorem gX6_doFeed_X6_ticks : GoodIn wsX6_doFeed (wsV RX6 77 RX6 yX6_ticks wsX6_ticks) := goodIn_app (goodIn_of _ (by decide +kernel)) ggX6_doFeed_X6_ticks
theorem dX6_doFeed_0 : decode cX6_doFeed 0 = .ok (.iload_n 1, 1) := by decide +kernel
theorem dX6_doFeed_1 : decode cX6_doFeed 1 = .ok (.i2l, 1) := by decide +kernel
theorem dX6_doFeed_2 : decode cX6_doFeed 2 = .ok (.lconst 0, 1) := by decide +kernel
theorem dX6_doFeed_3 : decode cX6_doFeed 3 = .ok (.ldc2_w 74, 3) := by decide +kernel
theorem dX6_doFeed_6 : decode cX6_doFeed 6 = .ok (.invokestatic 56, 3) := by decide +kernel
theorem dX6_doFeed_9 : decode cX6_doFeed 9 = .ok (.ifCond .eq 25, 3) := by decide +kernel
theorem dX6_doFeed_12 : decode cX6_doFeed 12 = .ok (.iload_n 2, 1) := by decide +kernel
theorem dX6_doFeed_13 : decode cX6_doFeed 13 = .ok (.i2l, 1) := by decide +kernel
theorem dX6_doFeed_14 : decode cX6_doFeed 14 = .ok (.lconst 0, 1) := by decide +kernel
theorem dX6_doFeed_15 : decode cX6_doFeed 15 = .ok (.lconst 1, 1) := by decide +kernel
theorem dX6_doFeed_16 : decode cX6_doFeed 16 = .ok (.invokestatic 56, 3) := by decide +kernel
theorem dX6_doFeed_19 : decode cX6_doFeed 19 = .ok (.ifCond .eq 15, 3) := by decide +kernel
theorem dX6_doFeed_22 : decode cX6_doFeed 22 = .ok (.iload_n 3, 1) := by decide +kernel
theorem dX6_doFeed_23 : decode cX6_doFeed 23 = .ok (.i2l, 1) := by decide +kernel
theorem dX6_doFeed_24 : decode cX6_doFeed 24 = .ok (.lconst 1, 1) := by decide +kernel
theorem dX6_doFeed_25 : decode cX6_doFeed 25 = .ok (.ldc2_w 66, 3) := by decide +kernel
theorem dX6_doFeed_28 : decode cX6_doFeed 28 = .ok (.invokestatic 56, 3) := by decide +kernel
theorem dX6_doFeed_31 : decode cX6_doFeed 31 = .ok (.ifCond .ne 6, 3) := by decide +kernel
theorem dX6_doFeed_34 : decode cX6_doFeed 34 = .ok (.bipush (-2), 2) := by decide +kernel
theorem dX6_doFeed_36 : decode cX6_doFeed 36 = .ok (.ireturn, 1) := by decide +kernel
theorem dX6_doFeed_37 : decode cX6_doFeed 37 = .ok (.aload_n 0, 1) := by decide +kernel
theorem dX6_doFeed_38 : decode cX6_doFeed 38 = .ok (.getfield 7, 3) := by decide +kernel
theorem dX6_doFeed_41 : decode cX6_doFeed 41 = .ok (.iconst 5, 1) := by decide +kernel
theorem dX6_doFeed_42 : decode cX6_doFeed 42 = .ok (.iaload, 1) := by decide +kernel
theorem dX6_doFeed_43 : decode cX6_doFeed 43 = .ok (.iload_n 3, 1) := by decide +kernel
theorem dX6_doFeed_44 : decode cX6_doFeed 44 = .ok (.iadd, 1) := by decide +kernel
theorem dX6_doFeed_45 : decode cX6_doFeed 45 = .ok (.ldc 76, 2) := by decide +kernel
theorem dX6_doFeed_47 : decode cX6_doFeed 47 = .ok (.if_icmp .le 6, 3) := by decide +kernel
theorem dX6_doFeed_50 : decode cX6_doFeed 50 = .ok (.bipush (-5), 2) := by decide +kernel
theorem dX6_doFeed_52 : decode cX6_doFeed 52 = .ok (.ireturn, 1) := by decide +kernel
theorem dX6_doFeed_53 : decode cX6_doFeed 53 = .ok (.iconst 0, 1) := by decide +kernel
theorem dX6_doFeed_54 : decode cX6_doFeed 54 = .ok (.istore 4, 2) := by decide +kernel
theorem dX6_doFeed_56 : decode cX6_doFeed 56 = .ok (.iconst 0, 1) := by decide +kernel
theorem dX6_doFeed_57 : decode cX6_doFeed 57 = .ok (.istore 5, 2) := by decide +kernel
theorem dX6_doFeed_59 : decode cX6_doFeed 59 = .ok (.iload 5, 2) := by decide +kernel
theorem dX6_doFeed_61 : decode cX6_doFeed 61 = .ok (.iload_n 3, 1) := by decide +kernel
theorem dX6_doFeed_62 : decode cX6_doFeed 62 = .ok (.if_icmp .ge 28, 3) := by decide +kernel
theorem dX6_doFeed_65 : decode cX6_doFeed 65 = .ok (.iload 4, 2) := by decide +kernel
theorem dX6_doFeed_67 : decode cX6_doFeed 67 = .ok (.aload_n 0, 1) := by decide +kernel
theorem dX6_doFeed_68 : decode cX6_doFeed 68 = .ok (.iload_n 1, 1) := by decide +kernel
theorem dX6_doFeed_69 : decode cX6_doFeed 69 = .ok (.iload_n 2, 1) := by decide +kernel
theorem dX6_doFeed_70 : decode cX6_doFeed 70 = .ok (.invokevirtual 77, 3) := by decide +kernel
theorem dX6_doFeed_73 : decode cX6_doFeed 73 = .ok (.ifCond .eq 7, 3) := by decide +kernel
theorem dX6_doFeed_76 : decode cX6_doFeed 76 = .ok (.iconst 1, 1) := by decide +kernel
theorem dX6_doFeed_77 : decode cX6_doFeed 77 = .ok (.goto 4, 3) := by decide +kernel
theorem dX6_doFeed_80 : decode cX6_doFeed 80 = .ok (.iconst 0, 1) := by decide +kernel
theorem dX6_doFeed_81 : decode cX6_doFeed 81 = .ok (.iadd, 1) := by decide +kernel
theorem dX6_doFeed_82 : decode cX6_doFeed 82 = .ok (.istore 4, 2) := by decide +kernel
theorem dX6_doFeed_84 : decode cX6_doFeed 84 = .ok (.iinc 5 1, 3) := by decide +kernel
theorem dX6_doFeed_87 : decode cX6_doFeed 87 = .ok (.goto (-28), 3) := by decide +kernel
theorem dX6_doFeed_90 : decode cX6_doFeed 90 = .ok (.iload 4, 2) := by decide +kernel
theorem dX6_doFeed_92 : decode cX6_doFeed 92 = .ok (.ireturn, 1) := by decide +kernel
set_option maxRecDepth 20000 in
theorem ggX6_doTurn_X6_in : GoodIn wsX6_doTurn wsX6_in := goodIn_r _ [8] (by decide +kernel) (by decide +kernel)
set_option maxRecDepth 20000 in
theorem gX6_doTurn_X6_in : GoodIn wsX6_doTurn (va_wsS RX6 56 yX6_in wsX6_in) := goodIn_app (goodIn_of _ (by decide +kernel)) ggX6_doTurn_X6_in
set_option maxRecDepth 20000 in
theorem ggX6_doTurn_X6_orderOf : GoodIn wsX6_doTurn wsX6_orderOf := goodIn_r _ [11] (by decide +kernel) (by decide +kernel)
set_option maxRecDepth 20000 in
theorem gX6_doTurn_X6_orderOf : GoodIn wsX6_doTurn (va_wsS RX6 38 yX6_orderOf wsX6_orderOf) := goodIn_app (goodIn_of _ (by decide +kernel)) ggX6_doTurn_X6_orderOf
set_option maxRecDepth 20000 in
theorem ggX6_doTurn_X6_pairAt : GoodIn wsX6_doTurn wsX6_pairAt := goodIn_r _ [14] (by decide +kernel) (by decide +kernel)
set_option maxRecDepth 20000 in
theorem gX6_doTurn_X6_pairAt : GoodIn wsX6_doTurn (va_wsS RX6 82 yX6_pairAt wsX6_pairAt) := goodIn_app (goodIn_of _ (by decide +kernel)) ggX6_doTurn_X6_pairAt
set_option maxRecDepth 20000 in
theorem ggX6_doTurn_X6_ticks : GoodIn wsX6_doTurn wsX6_ticks := goodIn_r _ [18, 3, 19, 20, 21, 7, 22, 9, 10, 11, 23, 24, 25, 26, 27, 28, 29, 30, 31, 32, 33, 34, 35, 36, 37, 38, 39, 40, 41, 42, 43] (by decide +kernel) (by decide +kernel)
set_option maxRecDepth 20000 in
theorem gX6_doTurn_X6_ticks : GoodIn wsX6_doTurn (wsV RX6 77 RX6 yX6_ticks wsX6_ticks) := goodIn_app (goodIn_of _ (by decide +kernel)) ggX6_doTurn_X6_ticks
theorem dX6_doTurn_0 : decode cX6_doTurn 0 = .ok (.iload_n 1, 1) := by decide +kernel
theorem dX6_doTurn_1 : decode cX6_doTurn 1 = .ok (.i2l, 1) := by decide +kernel
theorem dX6_doTurn_2 : decode cX6_doTurn 2 = .ok (.ldc2_w 80, 3) := by decide +kernel
theorem dX6_doTurn_5 : decode cX6_doTurn 5 = .ok (.ldc2_w 66, 3) := by decide +kernel
theorem dX6_doTurn_8 : decode cX6_doTurn 8 = .ok (.invokestatic 56, 3) := by decide +kernel
theorem dX6_doTurn_11 : decode cX6_doTurn 11 = .ok (.ifCond .eq 7, 3) := by decide +kernel
theorem dX6_doTurn_14 : decode cX6_doTurn 14 = .ok (.iload_n 1, 1) := by decide +kernel
theorem dX6_doTurn_15 : decode cX6_doTurn 15 = .ok (.ifCond .ne 6, 3) := by decide +kernel
theorem dX6_doTurn_18 : decode cX6_doTurn 18 = .ok (.bipush (-2), 2) := by decide +kernel
theorem dX6_doTurn_20 : decode cX6_doTurn 20 = .ok (.ireturn, 1) := by decide +kernel
theorem dX6_doTurn_21 : decode cX6_doTurn 21 = .ok (.iload_n 1, 1) := by decide +kernel
theorem dX6_doTurn_22 : decode cX6_doTurn 22 = .ok (.ifCond .ge 8, 3) := by decide +kernel
theorem dX6_doTurn_25 : decode cX6_doTurn 25 = .ok (.iload_n 1, 1) := by decide +kernel
theorem dX6_doTurn_26 : decode cX6_doTurn 26 = .ok (.ineg, 1) := by decide +kernel
theorem dX6_doTurn_27 : decode cX6_doTurn 27 = .ok (.goto 4, 3) := by decide +kernel
theorem dX6_doTurn_30 : decode cX6_doTurn 30 = .ok (.iload_n 1, 1) := by decide +kernel
theorem dX6_doTurn_31 : decode cX6_doTurn 31 = .ok (.istore_n 2, 1) := by decide +kernel
theorem dX6_doTurn_32 : decode cX6_doTurn 32 = .ok (.aload_n 0, 1) := by decide +kernel
theorem dX6_doTurn_33 : decode cX6_doTurn 33 = .ok (.getfield 7, 3) := by decide +kernel
theorem dX6_doTurn_36 : decode cX6_doTurn 36 = .ok (.iconst 5, 1) := by decide +kernel
theorem dX6_doTurn_37 : decode cX6_doTurn 37 = .ok (.iaload, 1) := by decide +kernel
theorem dX6_doTurn_38 : decode cX6_doTurn 38 = .ok (.iload_n 2, 1) := by decide +kernel
theorem dX6_doTurn_39 : decode cX6_doTurn 39 = .ok (.aload_n 0, 1) := by decide +kernel
theorem dX6_doTurn_40 : decode cX6_doTurn 40 = .ok (.getfield 7, 3) := by decide +kernel
theorem dX6_doTurn_43 : decode cX6_doTurn 43 = .ok (.iconst 2, 1) := by decide +kernel
theorem dX6_doTurn_44 : decode cX6_doTurn 44 = .ok (.iaload, 1) := by decide +kernel
theorem dX6_doTurn_45 : decode cX6_doTurn 45 = .ok (.imul, 1) := by decide +kernel
theorem dX6_doTurn_46 : decode cX6_doTurn 46 = .ok (.iadd, 1) := by decide +kernel
theorem dX6_doTurn_47 : decode cX6_doTurn 47 = .ok (.ldc 76, 2) := by decide +kernel
theorem dX6_doTurn_49 : decode cX6_doTurn 49 = .ok (.if_icmp .le 6, 3) := by decide +kernel
theorem dX6_doTurn_52 : decode cX6_doTurn 52 = .ok (.bipush (-5), 2) := by decide +kernel
theorem dX6_doTurn_54 : decode cX6_doTurn 54 = .ok (.ireturn, 1) := by decide +kernel
theorem dX6_doTurn_55 : decode cX6_doTurn 55 = .ok (.iconst 0, 1) := by decide +kernel
theorem dX6_doTurn_56 : decode cX6_doTurn 56 = .ok (.istore_n 3, 1) := by decide +kernel
theorem dX6_doTurn_57 : decode cX6_doTurn 57 = .ok (.iload_n 3, 1) := by decide +kernel
theorem dX6_doTurn_58 : decode cX6_doTurn 58 = .ok (.iload_n 2, 1) := by decide +kernel
theorem dX6_doTurn_59 : decode cX6_doTurn 59 = .ok (.if_icmp .ge 65, 3) := by decide +kernel
theorem dX6_doTurn_62 : decode cX6_doTurn 62 = .ok (.aload_n 0, 1) := by decide +kernel
theorem dX6_doTurn_63 : decode cX6_doTurn 63 = .ok (.getfield 7, 3) := by decide +kernel
theorem dX6_doTurn_66 : decode cX6_doTurn 66 = .ok (.bipush 8, 2) := by decide +kernel
theorem dX6_doTurn_68 : decode cX6_doTurn 68 = .ok (.iaload, 1) := by decide +kernel
theorem dX6_doTurn_69 : decode cX6_doTurn 69 = .ok (.invokestatic 38, 3) := by decide +kernel
theorem dX6_doTurn_72 : decode cX6_doTurn 72 = .ok (.iload_n 1, 1) := by decide +kernel
theorem dX6_doTurn_73 : decode cX6_doTurn 73 = .ok (.ifCond .ge 7, 3) := by decide +kernel
theorem dX6_doTurn_76 : decode cX6_doTurn 76 = .ok (.iconst 3, 1) := by decide +kernel
theorem dX6_doTurn_77 : decode cX6_doTurn 77 = .ok (.goto 4, 3) := by decide +kernel
theorem dX6_doTurn_80 : decode cX6_doTurn 80 = .ok (.iconst 1, 1) := by decide +kernel
theorem dX6_doTurn_81 : decode cX6_doTurn 81 = .ok (.iadd, 1) := by decide +kernel
theorem dX6_doTurn_82 : decode cX6_doTurn 82 = .ok (.iconst 4, 1) := by decide +kernel
theorem dX6_doTurn_83 : decode cX6_doTurn 83 = .ok (.irem, 1) := by decide +kernel
theorem dX6_doTurn_84 : decode cX6_doTurn 84 = .ok (.invokestatic 82, 3) := by decide +kernel
theorem dX6_doTurn_87 : decode cX6_doTurn 87 = .ok (.istore 4, 2) := by decide +kernel
theorem dX6_doTurn_89 : decode cX6_doTurn 89 = .ok (.iconst 0, 1) := by decide +kernel
theorem dX6_doTurn_90 : decode cX6_doTurn 90 = .ok (.istore 5, 2) := by decide +kernel
theorem dX6_doTurn_92 : decode cX6_doTurn 92 = .ok (.iload 5, 2) := by decide +kernel
theorem dX6_doTurn_94 : decode cX6_doTurn 94 = .ok (.aload_n 0, 1) := by decide +kernel
theorem dX6_doTurn_95 : decode cX6_doTurn 95 = .ok (.getfield 7, 3) := by decide +kernel
theorem dX6_doTurn_98 : decode cX6_doTurn 98 = .ok (.iconst 2, 1) := by decide +kernel
theorem dX6_doTurn_99 : decode cX6_doTurn 99 = .ok (.iaload, 1) := by decide +kernel
theorem dX6_doTurn_100 : decode cX6_doTurn 100 = .ok (.if_icmp .ge 18, 3) := by decide +kernel
theorem dX6_doTurn_103 : decode cX6_doTurn 103 = .ok (.aload_n 0, 1) := by decide +kernel
theorem dX6_doTurn_104 : decode cX6_doTurn 104 = .ok (.iload 4, 2) := by decide +kernel
theorem dX6_doTurn_106 : decode cX6_doTurn 106 = .ok (.iconst 0, 1) := by decide +kernel
theorem dX6_doTurn_107 : decode cX6_doTurn 107 = .ok (.invokevirtual 77, 3) := by decide +kernel
theorem dX6_doTurn_110 : decode cX6_doTurn 110 = .ok (.istore 6, 2) := by decide +kernel
theorem dX6_doTurn_112 : decode cX6_doTurn 112 = .ok (.iinc 5 1, 3) := by decide +kernel
theorem dX6_doTurn_115 : decode cX6_doTurn 115 = .ok (.goto (-23), 3) := by decide +kernel
theorem dX6_doTurn_118 : decode cX6_doTurn 118 = .ok (.iinc 3 1, 3) := by decide +kernel
theorem dX6_doTurn_121 : decode cX6_doTurn 121 = .ok (.goto (-64), 3) := by decide +kernel
theorem dX6_doTurn_124 : decode cX6_doTurn 124 = .ok (.aload_n 0, 1) := by decide +kernel
theorem dX6_doTurn_125 : decode cX6_doTurn 125 = .ok (.getfield 7, 3) := by decide +kernel
theorem dX6_doTurn_128 : decode cX6_doTurn 128 = .ok (.bipush 6, 2) := by decide +kernel
theorem dX6_doTurn_130 : decode cX6_doTurn 130 = .ok (.iaload, 1) := by decide +kernel
theorem dX6_doTurn_131 : decode cX6_doTurn 131 = .ok (.ireturn, 1) := by decide +kernel
theorem dX6_doZero_0 : decode cX6_doZero 0 = .ok (.aload_n 0, 1) := by decide +kernel
theorem dX6_doZero_1 : decode cX6_doZero 1 = .ok (.getfield 7, 3) := by decide +kernel
theorem dX6_doZero_4 : decode cX6_doZero 4 = .ok (.bipush 6, 2) := by decide +kernel
theorem dX6_doZero_6 : decode cX6_doZero 6 = .ok (.iaload, 1) := by decide +kernel
theorem dX6_doZero_7 : decode cX6_doZero 7 = .ok (.istore_n 1, 1) := by decide +kernel
theorem dX6_doZero_8 : decode cX6_doZero 8 = .ok (.aload_n 0, 1) := by decide +kernel
theorem dX6_doZero_9 : decode cX6_doZero 9 = .ok (.getfield 7, 3) := by decide +kernel
theorem dX6_doZero_12 : decode cX6_doZero 12 = .ok (.bipush 6, 2) := by decide +kernel
theorem dX6_doZero_14 : decode cX6_doZero 14 = .ok (.iconst 0, 1) := by decide +kernel
theorem dX6_doZero_15 : decode cX6_doZero 15 = .ok (.iastore, 1) := by decide +kernel
theorem dX6_doZero_16 : decode cX6_doZero 16 = .ok (.aload_n 0, 1) := by decide +kernel
theorem dX6_doZero_17 : decode cX6_doZero 17 = .ok (.getfield 7, 3) := by decide +kernel
theorem dX6_doZero_20 : decode cX6_doZero 20 = .ok (.bipush 7, 2) := by decide +kernel
theorem dX6_doZero_22 : decode cX6_doZero 22 = .ok (.iconst 0, 1) := by decide +kernel
theorem dX6_doZero_23 : decode cX6_doZero 23 = .ok (.iastore, 1) := by decide +kernel
theorem dX6_doZero_24 : decode cX6_doZero 24 = .ok (.iload_n 1, 1) := by decide +kernel
theorem dX6_doZero_25 : decode cX6_doZero 25 = .ok (.ireturn, 1) := by decide +kernel
set_option maxRecDepth 20000 in
theorem ggX6_set_X6_copy : GoodIn wsX6_set wsX6_copy := goodIn_r _ [6] (by decide +kernel) (by decide +kernel)
set_option maxRecDepth 20000 in
theorem gX6_set_X6_copy : GoodIn wsX6_set (va_wsS RX6 85 yX6_copy wsX6_copy) := goodIn_app (goodIn_of _ (by decide +kernel)) ggX6_set_X6_copy
set_option maxRecDepth 20000 in
theorem ggX6_set_X6_doSet : GoodIn wsX6_set wsX6_doSet := goodIn_r _ [10, 1, 11, 12, 5, 13, 14, 15, 16, 17, 18, 19, 20, 21, 22, 23, 30, 31, 32, 33, 34, 35, 36, 37, 38, 39, 40, 41, 42] (by decide +kernel) (by decide +kernel)
set_option maxRecDepth 20000 in
theorem gX6_set_X6_doSet : GoodIn wsX6_set (wsV RX6 89 RX6 yX6_doSet wsX6_doSet) := goodIn_app (goodIn_of _ (by decide +kernel)) ggX6_set_X6_doSet
set_option maxRecDepth 20000 in
theorem ggX6_set_X6_changed : GoodIn wsX6_set wsX6_changed := goodIn_r _ [27, 28, 29, 2, 30, 31, 32, 33, 34, 35, 36, 37, 38, 39, 40, 41, 42] (by decide +kernel) (by decide +kernel)
set_option maxRecDepth 20000 in
theorem gX6_set_X6_changed : GoodIn wsX6_set (wsV RX6 93 RX6 yX6_changed wsX6_changed) := goodIn_app (goodIn_of _ (by decide +kernel)) ggX6_set_X6_changed
theorem dX6_set_0 : decode cX6_set 0 = .ok (.aload_n 0, 1) := by decide +kernel
theorem dX6_set_1 : decode cX6_set 1 = .ok (.getfield 7, 3) := by decide +kernel
theorem dX6_set_4 : decode cX6_set 4 = .ok (.aload_n 0, 1) := by decide +kernel
theorem dX6_set_5 : decode cX6_set 5 = .ok (.getfield 13, 3) := by decide +kernel
theorem dX6_set_8 : decode cX6_set 8 = .ok (.invokestatic 85, 3) := by decide +kernel
theorem dX6_set_11 : decode cX6_set 11 = .ok (.aload_n 0, 1) := by decide +kernel
theorem dX6_set_12 : decode cX6_set 12 = .ok (.iload_n 1, 1) := by decide +kernel
theorem dX6_set_13 : decode cX6_set 13 = .ok (.iload_n 2, 1) := by decide +kernel
theorem dX6_set_14 : decode cX6_set 14 = .ok (.invokevirtual 89, 3) := by decide +kernel
theorem dX6_set_17 : decode cX6_set 17 = .ok (.istore_n 3, 1) := by decide +kernel
theorem dX6_set_18 : decode cX6_set 18 = .ok (.iload_n 3, 1) := by decide +kernel
theorem dX6_set_19 : decode cX6_set 19 = .ok (.ifCond .ge 7, 3) := by decide +kernel
theorem dX6_set_22 : decode cX6_set 22 = .ok (.iload_n 3, 1) := by decide +kernel
theorem dX6_set_23 : decode cX6_set 23 = .ok (.goto 8, 3) := by decide +kernel
theorem dX6_set_26 : decode cX6_set 26 = .ok (.aload_n 0, 1) := by decide +kernel
theorem dX6_set_27 : decode cX6_set 27 = .ok (.iload_n 3, 1) := by decide +kernel
theorem dX6_set_28 : decode cX6_set 28 = .ok (.invokevirtual 93, 3) := by decide +kernel
theorem dX6_set_31 : decode cX6_set 31 = .ok (.ireturn, 1) := by decide +kernel
set_option maxRecDepth 20000 in
theorem ggX6_feed_X6_copy : GoodIn wsX6_feed wsX6_copy := goodIn_r _ [6] (by decide +kernel) (by decide +kernel)
set_option maxRecDepth 20000 in
theorem gX6_feed_X6_copy : GoodIn wsX6_feed (va_wsS RX6 85 yX6_copy wsX6_copy) := goodIn_app (goodIn_of _ (by decide +kernel)) ggX6_feed_X6_copy
set_option maxRecDepth 20000 in
theorem ggX6_feed_X6_doFeed : GoodIn wsX6_feed wsX6_doFeed := goodIn_r _ [10, 11, 12, 1, 13, 14, 15, 5, 16, 17, 18, 19, 20, 21, 22, 23, 24, 25, 26, 27, 28, 29, 30, 31, 32, 33, 34, 35, 42, 43, 44, 45, 46, 47, 48, 49, 50, 51, 52, 53, 54] (by decide +kernel) (by decide +kernel)
set_option maxRecDepth 20000 in
theorem gX6_feed_X6_doFeed : GoodIn wsX6_feed (wsV RX6 96 RX6 yX6_doFeed wsX6_doFeed) := goodIn_app (goodIn_of _ (by decide +kernel)) ggX6_feed_X6_doFeed
set_option maxRecDepth 20000 in
theorem ggX6_feed_X6_changed : GoodIn wsX6_feed wsX6_changed := goodIn_r _ [39, 40, 41, 2, 42, 43, 44, 45, 46, 47, 48, 49, 50, 51, 52, 53, 54] (by decide +kernel) (by decide +kernel)
set_option maxRecDepth 20000 in
theorem gX6_feed_X6_changed : GoodIn wsX6_feed (wsV RX6 93 RX6 yX6_changed wsX6_changed) := goodIn_app (goodIn_of _ (by decide +kernel)) ggX6_feed_X6_changed
theorem dX6_feed_0 : decode cX6_feed 0 = .ok (.aload_n 0, 1) := by decide +kernel
theorem dX6_feed_1 : decode cX6_feed 1 = .ok (.getfield 7, 3) := by decide +kernel
theorem dX6_feed_4 : decode cX6_feed 4 = .ok (.aload_n 0, 1) := by decide +kernel
theorem dX6_feed_5 : decode cX6_feed 5 = .ok (.getfield 13, 3) := by decide +kernel
theorem dX6_feed_8 : decode cX6_feed 8 = .ok (.invokestatic 85, 3) := by decide +kernel
theorem dX6_feed_11 : decode cX6_feed 11 = .ok (.aload_n 0, 1) := by decide +kernel
theorem dX6_feed_12 : decode cX6_feed 12 = .ok (.iload_n 1, 1) := by decide +kernel
theorem dX6_feed_13 : decode cX6_feed 13 = .ok (.iload_n 2, 1) := by decide +kernel
theorem dX6_feed_14 : decode cX6_feed 14 = .ok (.iload_n 3, 1) := by decide +kernel
theorem dX6_feed_15 : decode cX6_feed 15 = .ok (.invokevirtual 96, 3) := by decide +kernel
theorem dX6_feed_18 : decode cX6_feed 18 = .ok (.istore 4, 2) := by decide +kernel
theorem dX6_feed_20 : decode cX6_feed 20 = .ok (.iload 4, 2) := by decide +kernel
theorem dX6_feed_22 : decode cX6_feed 22 = .ok (.ifCond .ge 8, 3) := by decide +kernel
theorem dX6_feed_25 : decode cX6_feed 25 = .ok (.iload 4, 2) := by decide +kernel
theorem dX6_feed_27 : decode cX6_feed 27 = .ok (.goto 9, 3) := by decide +kernel
theorem dX6_feed_30 : decode cX6_feed 30 = .ok (.aload_n 0, 1) := by decide +kernel
theorem dX6_feed_31 : decode cX6_feed 31 = .ok (.iload 4, 2) := by decide +kernel
theorem dX6_feed_33 : decode cX6_feed 33 = .ok (.invokevirtual 93, 3) := by decide +kernel
theorem dX6_feed_36 : decode cX6_feed 36 = .ok (.ireturn, 1) := by decide +kernel
set_option maxRecDepth 20000 in
theorem ggX6_turn_X6_copy : GoodIn wsX6_turn wsX6_copy := goodIn_r _ [6] (by decide +kernel) (by decide +kernel)
set_option maxRecDepth 20000 in
theorem gX6_turn_X6_copy : GoodIn wsX6_turn (va_wsS RX6 85 yX6_copy wsX6_copy) := goodIn_app (goodIn_of _ (by decide +kernel)) ggX6_turn_X6_copy
set_option maxRecDepth 20000 in
theorem ggX6_turn_X6_doTurn : GoodIn wsX6_turn wsX6_doTurn := goodIn_r _ [10, 11, 12, 1, 13, 14, 15, 5, 16, 17, 18, 19, 20, 21, 22, 23, 24, 25, 26, 27, 28, 29, 30, 31, 32, 33, 34, 35, 36, 37, 38, 45, 46, 47, 48, 49, 50, 51, 52, 53, 54, 55, 56, 57] (by decide +kernel) (by decide +kernel)
set_option maxRecDepth 20000 in
theorem gX6_turn_X6_doTurn : GoodIn wsX6_turn (wsV RX6 100 RX6 yX6_doTurn wsX6_doTurn) := goodIn_app (goodIn_of _ (by decide +kernel)) ggX6_turn_X6_doTurn
set_option maxRecDepth 20000 in
theorem ggX6_turn_X6_changed : GoodIn wsX6_turn wsX6_changed := goodIn_r _ [42, 43, 44, 2, 45, 46, 47, 48, 49, 50, 51, 52, 53, 54, 55, 56, 57] (by decide +kernel) (by decide +kernel)
set_option maxRecDepth 20000 in
theorem gX6_turn_X6_changed : GoodIn wsX6_turn (wsV RX6 93 RX6 yX6_changed wsX6_changed) := goodIn_app (goodIn_of _ (by decide +kernel)) ggX6_turn_X6_changed
theorem dX6_turn_0 : decode cX6_turn 0 = .ok (.aload_n 0, 1) := by decide +kernel
theorem dX6_turn_1 : decode cX6_turn 1 = .ok (.getfield 7, 3) := by decide +kernel
theorem dX6_turn_4 : decode cX6_turn 4 = .ok (.aload_n 0, 1) := by decide +kernel
theorem dX6_turn_5 : decode cX6_turn 5 = .ok (.getfield 13, 3) := by decide +kernel
theorem dX6_turn_8 : decode cX6_turn 8 = .ok (.invokestatic 85, 3) := by decide +kernel
theorem dX6_turn_11 : decode cX6_turn 11 = .ok (.aload_n 0, 1) := by decide +kernel
theorem dX6_turn_12 : decode cX6_turn 12 = .ok (.iload_n 1, 1) := by decide +kernel
theorem dX6_turn_13 : decode cX6_turn 13 = .ok (.invokevirtual 100, 3) := by decide +kernel
theorem dX6_turn_16 : decode cX6_turn 16 = .ok (.istore_n 2, 1) := by decide +kernel
theorem dX6_turn_17 : decode cX6_turn 17 = .ok (.iload_n 2, 1) := by decide +kernel
theorem dX6_turn_18 : decode cX6_turn 18 = .ok (.ifCond .ge 7, 3) := by decide +kernel
theorem dX6_turn_21 : decode cX6_turn 21 = .ok (.iload_n 2, 1) := by decide +kernel
theorem dX6_turn_22 : decode cX6_turn 22 = .ok (.goto 8, 3) := by decide +kernel
theorem dX6_turn_25 : decode cX6_turn 25 = .ok (.aload_n 0, 1) := by decide +kernel
theorem dX6_turn_26 : decode cX6_turn 26 = .ok (.iload_n 2, 1) := by decide +kernel
theorem dX6_turn_27 : decode cX6_turn 27 = .ok (.invokevirtual 93, 3) := by decide +kernel
theorem dX6_turn_30 : decode cX6_turn 30 = .ok (.ireturn, 1) := by decide +kernel
set_option maxRecDepth 20000 in
theorem ggX6_zero_X6_copy : GoodIn wsX6_zero wsX6_copy := goodIn_r _ [6] (by decide +kernel) (by decide +kernel)
set_option maxRecDepth 20000 in
theorem gX6_zero_X6_copy : GoodIn wsX6_zero (va_wsS RX6 85 yX6_copy wsX6_copy) := goodIn_app (goodIn_of _ (by decide +kernel)) ggX6_zero_X6_copy
set_option maxRecDepth 20000 in
theorem ggX6_zero_X6_doZero : GoodIn wsX6_zero wsX6_doZero := goodIn_r _ [10, 1, 17, 18, 19, 20, 21, 22, 23, 24, 25, 26, 27, 28, 29] (by decide +kernel) (by decide +kernel)
set_option maxRecDepth 20000 in
theorem gX6_zero_X6_doZero : GoodIn wsX6_zero (wsV RX6 103 RX6 yX6_doZero wsX6_doZero) := goodIn_app (goodIn_of _ (by decide +kernel)) ggX6_zero_X6_doZero
set_option maxRecDepth 20000 in
theorem ggX6_zero_X6_changed : GoodIn wsX6_zero wsX6_changed := goodIn_r _ [14, 15, 16, 2, 17, 18, 19, 20, 21, 22, 23, 24, 25, 26, 27, 28, 29] (by decide +kernel) (by decide +kernel)
set_option maxRecDepth 20000 in
theorem gX6_zero_X6_changed : GoodIn wsX6_zero (wsV RX6 93 RX6 yX6_changed wsX6_changed) := goodIn_app (goodIn_of _ (by decide +kernel)) ggX6_zero_X6_changed
theorem dX6_zero_0 : decode cX6_zero 0 = .ok (.aload_n 0, 1) := by decide +kernel
theorem dX6_zero_1 : decode cX6_zero 1 = .ok (.getfield 7, 3) := by decide +kernel
theorem dX6_zero_4 : decode cX6_zero 4 = .ok (.aload_n 0, 1) := by decide +kernel
theorem dX6_zero_5 : decode cX6_zero 5 = .ok (.getfield 13, 3) := by decide +kernel
theorem dX6_zero_8 : decode cX6_zero 8 = .ok (.invokestatic 85, 3) := by decide +kernel
theorem dX6_zero_11 : decode cX6_zero 11 = .ok (.aload_n 0, 1) := by decide +kernel
theorem dX6_zero_12 : decode cX6_zero 12 = .ok (.aload_n 0, 1) := by decide +kernel
theorem dX6_zero_13 : decode cX6_zero 13 = .ok (.invokevirtual 103, 3) := by decide +kernel
theorem dX6_zero_16 : decode cX6_zero 16 = .ok (.invokevirtual 93, 3) := by decide +kernel
theorem dX6_zero_19 : decode cX6_zero 19 = .ok (.ireturn, 1) := by decide +kernel
set_option maxRecDepth 20000 in
theorem ggX6_log_X6_in : GoodIn wsX6_log wsX6_in := goodIn_r _ [5] (by decide +kernel) (by decide +kernel)
set_option maxRecDepth 20000 in
theorem gX6_log_X6_in : GoodIn wsX6_log (va_wsS RX6 56 yX6_in wsX6_in) := goodIn_app (goodIn_of _ (by decide +kernel)) ggX6_log_X6_in
theorem dX6_log_0 : decode cX6_log 0 = .ok (.iload_n 1, 1) := by decide +kernel
theorem dX6_log_1 : decode cX6_log 1 = .ok (.i2l, 1) := by decide +kernel
theorem dX6_log_2 : decode cX6_log 2 = .ok (.lconst 0, 1) := by decide +kernel
theorem dX6_log_3 : decode cX6_log 3 = .ok (.aload_n 0, 1) := by decide +kernel
theorem dX6_log_4 : decode cX6_log 4 = .ok (.getfield 7, 3) := by decide +kernel
theorem dX6_log_7 : decode cX6_log 7 = .ok (.bipush 14, 2) := by decide +kernel
theorem dX6_log_9 : decode cX6_log 9 = .ok (.iaload, 1) := by decide +kernel
theorem dX6_log_10 : decode cX6_log 10 = .ok (.i2l, 1) := by decide +kernel
theorem dX6_log_11 : decode cX6_log 11 = .ok (.lconst 1, 1) := by decide +kernel
theorem dX6_log_12 : decode cX6_log 12 = .ok (.lsub, 1) := by decide +kernel
theorem dX6_log_13 : decode cX6_log 13 = .ok (.invokestatic 56, 3) := by decide +kernel
theorem dX6_log_16 : decode cX6_log 16 = .ok (.ifCond .ne 5, 3) := by decide +kernel
theorem dX6_log_19 : decode cX6_log 19 = .ok (.iconst (-1), 1) := by decide +kernel
theorem dX6_log_20 : decode cX6_log 20 = .ok (.ireturn, 1) := by decide +kernel
theorem dX6_log_21 : decode cX6_log 21 = .ok (.aload_n 0, 1) := by decide +kernel
theorem dX6_log_22 : decode cX6_log 22 = .ok (.getfield 7, 3) := by decide +kernel
theorem dX6_log_25 : decode cX6_log 25 = .ok (.bipush 21, 2) := by decide +kernel
theorem dX6_log_27 : decode cX6_log 27 = .ok (.iload_n 1, 1) := by decide +kernel
theorem dX6_log_28 : decode cX6_log 28 = .ok (.iadd, 1) := by decide +kernel
theorem dX6_log_29 : decode cX6_log 29 = .ok (.iaload, 1) := by decide +kernel
theorem dX6_log_30 : decode cX6_log 30 = .ok (.istore_n 3, 1) := by decide +kernel
theorem dX6_log_31 : decode cX6_log 31 = .ok (.iload_n 2, 1) := by decide +kernel
theorem dX6_log_32 : decode cX6_log 32 = .ok (.ifCond .ne 10, 3) := by decide +kernel
theorem dX6_log_35 : decode cX6_log 35 = .ok (.iload_n 3, 1) := by decide +kernel
theorem dX6_log_36 : decode cX6_log 36 = .ok (.bipush 8, 2) := by decide +kernel
theorem dX6_log_38 : decode cX6_log 38 = .ok (.idiv, 1) := by decide +kernel
theorem dX6_log_39 : decode cX6_log 39 = .ok (.goto 29, 3) := by decide +kernel
theorem dX6_log_42 : decode cX6_log 42 = .ok (.iload_n 2, 1) := by decide +kernel
theorem dX6_log_43 : decode cX6_log 43 = .ok (.iconst 1, 1) := by decide +kernel
theorem dX6_log_44 : decode cX6_log 44 = .ok (.if_icmp .ne 11, 3) := by decide +kernel
theorem dX6_log_47 : decode cX6_log 47 = .ok (.iload_n 3, 1) := by decide +kernel
theorem dX6_log_48 : decode cX6_log 48 = .ok (.iconst 4, 1) := by decide +kernel
theorem dX6_log_49 : decode cX6_log 49 = .ok (.idiv, 1) := by decide +kernel
theorem dX6_log_50 : decode cX6_log 50 = .ok (.iconst 2, 1) := by decide +kernel
theorem dX6_log_51 : decode cX6_log 51 = .ok (.irem, 1) := by decide +kernel
theorem dX6_log_52 : decode cX6_log 52 = .ok (.goto 16, 3) := by decide +kernel
theorem dX6_log_55 : decode cX6_log 55 = .ok (.iload_n 2, 1) := by decide +kernel
theorem dX6_log_56 : decode cX6_log 56 = .ok (.iconst 2, 1) := by decide +kernel
theorem dX6_log_57 : decode cX6_log 57 = .ok (.if_icmp .ne 9, 3) := by decide +kernel
theorem dX6_log_60 : decode cX6_log 60 = .ok (.iload_n 3, 1) := by decide +kernel
theorem dX6_log_61 : decode cX6_log 61 = .ok (.iconst 4, 1) := by decide +kernel
theorem dX6_log_62 : decode cX6_log 62 = .ok (.irem, 1) := by decide +kernel
theorem dX6_log_63 : decode cX6_log 63 = .ok (.goto 5, 3) := by decide +kernel
theorem dX6_log_66 : decode cX6_log 66 = .ok (.bipush (-2), 2) := by decide +kernel
theorem dX6_log_68 : decode cX6_log 68 = .ok (.ireturn, 1) := by decide +kernel
set_option maxRecDepth 20000 in
theorem ggX6_count_X6_in : GoodIn wsX6_count wsX6_in := goodIn_r _ [10] (by decide +kernel) (by decide +kernel)
set_option maxRecDepth 20000 in
theorem gX6_count_X6_in : GoodIn wsX6_count (va_wsS RX6 56 yX6_in wsX6_in) := goodIn_app (goodIn_of _ (by decide +kernel)) ggX6_count_X6_in
theorem dX6_count_0 : decode cX6_count 0 = .ok (.iload_n 1, 1) := by decide +kernel
theorem dX6_count_1 : decode cX6_count 1 = .ok (.i2l, 1) := by decide +kernel
theorem dX6_count_2 : decode cX6_count 2 = .ok (.lconst 0, 1) := by decide +kernel
theorem dX6_count_3 : decode cX6_count 3 = .ok (.ldc2_w 64, 3) := by decide +kernel
theorem dX6_count_6 : decode cX6_count 6 = .ok (.invokestatic 56, 3) := by decide +kernel
theorem dX6_count_9 : decode cX6_count 9 = .ok (.ifCond .eq 12, 3) := by decide +kernel
theorem dX6_count_12 : decode cX6_count 12 = .ok (.aload_n 0, 1) := by decide +kernel
theorem dX6_count_13 : decode cX6_count 13 = .ok (.getfield 7, 3) := by decide +kernel
theorem dX6_count_16 : decode cX6_count 16 = .ok (.iconst 5, 1) := by decide +kernel
theorem dX6_count_17 : decode cX6_count 17 = .ok (.iload_n 1, 1) := by decide +kernel
theorem dX6_count_18 : decode cX6_count 18 = .ok (.iadd, 1) := by decide +kernel
theorem dX6_count_19 : decode cX6_count 19 = .ok (.iaload, 1) := by decide +kernel
theorem dX6_count_20 : decode cX6_count 20 = .ok (.ireturn, 1) := by decide +kernel
theorem dX6_count_21 : decode cX6_count 21 = .ok (.iload_n 1, 1) := by decide +kernel
theorem dX6_count_22 : decode cX6_count 22 = .ok (.i2l, 1) := by decide +kernel
theorem dX6_count_23 : decode cX6_count 23 = .ok (.ldc2_w 60, 3) := by decide +kernel
theorem dX6_count_26 : decode cX6_count 26 = .ok (.ldc2_w 107, 3) := by decide +kernel
theorem dX6_count_29 : decode cX6_count 29 = .ok (.invokestatic 56, 3) := by decide +kernel
theorem dX6_count_32 : decode cX6_count 32 = .ok (.ifCond .eq 13, 3) := by decide +kernel
theorem dX6_count_35 : decode cX6_count 35 = .ok (.aload_n 0, 1) := by decide +kernel
theorem dX6_count_36 : decode cX6_count 36 = .ok (.getfield 7, 3) := by decide +kernel
theorem dX6_count_39 : decode cX6_count 39 = .ok (.iload_n 1, 1) := by decide +kernel
theorem dX6_count_40 : decode cX6_count 40 = .ok (.bipush 10, 2) := by decide +kernel
theorem dX6_count_42 : decode cX6_count 42 = .ok (.isub, 1) := by decide +kernel
theorem dX6_count_43 : decode cX6_count 43 = .ok (.iaload, 1) := by decide +kernel
theorem dX6_count_44 : decode cX6_count 44 = .ok (.ireturn, 1) := by decide +kernel
theorem dX6_count_45 : decode cX6_count 45 = .ok (.iload_n 1, 1) := by decide +kernel
theorem dX6_count_46 : decode cX6_count 46 = .ok (.bipush 15, 2) := by decide +kernel
theorem dX6_count_48 : decode cX6_count 48 = .ok (.if_icmp .ne 10, 3) := by decide +kernel
theorem dX6_count_51 : decode cX6_count 51 = .ok (.aload_n 0, 1) := by decide +kernel
theorem dX6_count_52 : decode cX6_count 52 = .ok (.getfield 109, 3) := by decide +kernel
theorem dX6_count_55 : decode cX6_count 55 = .ok (.goto 18, 3) := by decide +kernel
theorem dX6_count_58 : decode cX6_count 58 = .ok (.iload_n 1, 1) := by decide +kernel
theorem dX6_count_59 : decode cX6_count 59 = .ok (.bipush 16, 2) := by decide +kernel
theorem dX6_count_61 : decode cX6_count 61 = .ok (.if_icmp .ne 10, 3) := by decide +kernel
theorem dX6_count_64 : decode cX6_count 64 = .ok (.aload_n 0, 1) := by decide +kernel
theorem dX6_count_65 : decode cX6_count 65 = .ok (.getfield 34, 3) := by decide +kernel
theorem dX6_count_68 : decode cX6_count 68 = .ok (.goto 5, 3) := by decide +kernel
theorem dX6_count_71 : decode cX6_count 71 = .ok (.bipush (-2), 2) := by decide +kernel
