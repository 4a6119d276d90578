theorem dX0_ofDouble_0 : decode cX0_ofDouble 0 = .ok (.dload_n 0, 1) := by decide +kernel
theorem dX0_ofDouble_1 : decode cX0_ofDouble 1 = .ok (.dconst 0, 1) := by decide +kernel
theorem dX0_ofDouble_2 : decode cX0_ofDouble 2 = .ok (.dcmp .l, 1) := by decide +kernel
theorem dX0_ofDouble_3 : decode cX0_ofDouble 3 = .ok (.ifCond .ne 5, 3) := by decide +kernel
theorem dX0_ofDouble_6 : decode cX0_ofDouble 6 = .ok (.lconst 0, 1) := by decide +kernel
theorem dX0_ofDouble_7 : decode cX0_ofDouble 7 = .ok (.lreturn, 1) := by decide +kernel
theorem dX0_ofDouble_8 : decode cX0_ofDouble 8 = .ok (.dload_n 0, 1) := by decide +kernel
theorem dX0_ofDouble_9 : decode cX0_ofDouble 9 = .ok (.dconst 0, 1) := by decide +kernel
theorem dX0_ofDouble_10 : decode cX0_ofDouble 10 = .ok (.dcmp .g, 1) := by decide +kernel
theorem dX0_ofDouble_11 : decode cX0_ofDouble 11 = .ok (.ifCond .ge 8, 3) := by decide +kernel
theorem dX0_ofDouble_14 : decode cX0_ofDouble 14 = .ok (.dload_n 0, 1) := by decide +kernel
theorem dX0_ofDouble_15 : decode cX0_ofDouble 15 = .ok (.dneg, 1) := by decide +kernel
theorem dX0_ofDouble_16 : decode cX0_ofDouble 16 = .ok (.goto 4, 3) := by decide +kernel
theorem dX0_ofDouble_19 : decode cX0_ofDouble 19 = .ok (.dload_n 0, 1) := by decide +kernel
theorem dX0_ofDouble_20 : decode cX0_ofDouble 20 = .ok (.dstore_n 2, 1) := by decide +kernel
theorem dX0_ofDouble_21 : decode cX0_ofDouble 21 = .ok (.ldc2_w 7, 3) := by decide +kernel
theorem dX0_ofDouble_24 : decode cX0_ofDouble 24 = .ok (.lstore 4, 2) := by decide +kernel
theorem dX0_ofDouble_26 : decode cX0_ofDouble 26 = .ok (.iconst 0, 1) := by decide +kernel
theorem dX0_ofDouble_27 : decode cX0_ofDouble 27 = .ok (.istore 6, 2) := by decide +kernel
theorem dX0_ofDouble_29 : decode cX0_ofDouble 29 = .ok (.iload 6, 2) := by decide +kernel
theorem dX0_ofDouble_31 : decode cX0_ofDouble 31 = .ok (.sipush 2000, 3) := by decide +kernel
theorem dX0_ofDouble_34 : decode cX0_ofDouble 34 = .ok (.if_icmp .ge 27, 3) := by decide +kernel
theorem dX0_ofDouble_37 : decode cX0_ofDouble 37 = .ok (.dload_n 2, 1) := by decide +kernel
theorem dX0_ofDouble_38 : decode cX0_ofDouble 38 = .ok (.dconst 1, 1) := by decide +kernel
theorem dX0_ofDouble_39 : decode cX0_ofDouble 39 = .ok (.dcmp .g, 1) := by decide +kernel
theorem dX0_ofDouble_40 : decode cX0_ofDouble 40 = .ok (.ifCond .ge 21, 3) := by decide +kernel
theorem dX0_ofDouble_43 : decode cX0_ofDouble 43 = .ok (.dload_n 2, 1) := by decide +kernel
theorem dX0_ofDouble_44 : decode cX0_ofDouble 44 = .ok (.ldc2_w 11, 3) := by decide +kernel
theorem dX0_ofDouble_47 : decode cX0_ofDouble 47 = .ok (.dmul, 1) := by decide +kernel
theorem dX0_ofDouble_48 : decode cX0_ofDouble 48 = .ok (.dstore_n 2, 1) := by decide +kernel
theorem dX0_ofDouble_49 : decode cX0_ofDouble 49 = .ok (.lload 4, 2) := by decide +kernel
theorem dX0_ofDouble_51 : decode cX0_ofDouble 51 = .ok (.lconst 1, 1) := by decide +kernel
theorem dX0_ofDouble_52 : decode cX0_ofDouble 52 = .ok (.lsub, 1) := by decide +kernel
theorem dX0_ofDouble_53 : decode cX0_ofDouble 53 = .ok (.lstore 4, 2) := by decide +kernel
theorem dX0_ofDouble_55 : decode cX0_ofDouble 55 = .ok (.iinc 6 1, 3) := by decide +kernel
theorem dX0_ofDouble_58 : decode cX0_ofDouble 58 = .ok (.goto (-29), 3) := by decide +kernel
theorem dX0_ofDouble_61 : decode cX0_ofDouble 61 = .ok (.dload_n 2, 1) := by decide +kernel
theorem dX0_ofDouble_62 : decode cX0_ofDouble 62 = .ok (.dconst 1, 1) := by decide +kernel
theorem dX0_ofDouble_63 : decode cX0_ofDouble 63 = .ok (.dsub, 1) := by decide +kernel
theorem dX0_ofDouble_64 : decode cX0_ofDouble 64 = .ok (.ldc2_w 13, 3) := by decide +kernel
theorem dX0_ofDouble_67 : decode cX0_ofDouble 67 = .ok (.dmul, 1) := by decide +kernel
theorem dX0_ofDouble_68 : decode cX0_ofDouble 68 = .ok (.d2l, 1) := by decide +kernel
theorem dX0_ofDouble_69 : decode cX0_ofDouble 69 = .ok (.lstore 6, 2) := by decide +kernel
theorem dX0_ofDouble_71 : decode cX0_ofDouble 71 = .ok (.dload_n 0, 1) := by decide +kernel
theorem dX0_ofDouble_72 : decode cX0_ofDouble 72 = .ok (.dconst 0, 1) := by decide +kernel
theorem dX0_ofDouble_73 : decode cX0_ofDouble 73 = .ok (.dcmp .g, 1) := by decide +kernel
theorem dX0_ofDouble_74 : decode cX0_ofDouble 74 = .ok (.ifCond .ge 7, 3) := by decide +kernel
theorem dX0_ofDouble_77 : decode cX0_ofDouble 77 = .ok (.lconst 1, 1) := by decide +kernel
theorem dX0_ofDouble_78 : decode cX0_ofDouble 78 = .ok (.goto 4, 3) := by decide +kernel
theorem dX0_ofDouble_81 : decode cX0_ofDouble 81 = .ok (.lconst 0, 1) := by decide +kernel
theorem dX0_ofDouble_82 : decode cX0_ofDouble 82 = .ok (.lstore 8, 2) := by decide +kernel
theorem dX0_ofDouble_84 : decode cX0_ofDouble 84 = .ok (.lload 8, 2) := by decide +kernel
theorem dX0_ofDouble_86 : decode cX0_ofDouble 86 = .ok (.bipush 63, 2) := by decide +kernel
theorem dX0_ofDouble_88 : decode cX0_ofDouble 88 = .ok (.lshl, 1) := by decide +kernel
theorem dX0_ofDouble_89 : decode cX0_ofDouble 89 = .ok (.lload 4, 2) := by decide +kernel
theorem dX0_ofDouble_91 : decode cX0_ofDouble 91 = .ok (.bipush 52, 2) := by decide +kernel
theorem dX0_ofDouble_93 : decode cX0_ofDouble 93 = .ok (.lshl, 1) := by decide +kernel
theorem dX0_ofDouble_94 : decode cX0_ofDouble 94 = .ok (.lor, 1) := by decide +kernel
theorem dX0_ofDouble_95 : decode cX0_ofDouble 95 = .ok (.lload 6, 2) := by decide +kernel
theorem dX0_ofDouble_97 : decode cX0_ofDouble 97 = .ok (.lor, 1) := by decide +kernel
theorem dX0_ofDouble_98 : decode cX0_ofDouble 98 = .ok (.lreturn, 1) := by decide +kernel
theorem dX0_ofFloat_0 : decode cX0_ofFloat 0 = .ok (.fload_n 0, 1) := by decide +kernel
theorem dX0_ofFloat_1 : decode cX0_ofFloat 1 = .ok (.fconst 0, 1) := by decide +kernel
theorem dX0_ofFloat_2 : decode cX0_ofFloat 2 = .ok (.fcmp .l, 1) := by decide +kernel
theorem dX0_ofFloat_3 : decode cX0_ofFloat 3 = .ok (.ifCond .ne 5, 3) := by decide +kernel
theorem dX0_ofFloat_6 : decode cX0_ofFloat 6 = .ok (.iconst 0, 1) := by decide +kernel
theorem dX0_ofFloat_7 : decode cX0_ofFloat 7 = .ok (.ireturn, 1) := by decide +kernel
theorem dX0_ofFloat_8 : decode cX0_ofFloat 8 = .ok (.fload_n 0, 1) := by decide +kernel
theorem dX0_ofFloat_9 : decode cX0_ofFloat 9 = .ok (.fstore_n 1, 1) := by decide +kernel
theorem dX0_ofFloat_10 : decode cX0_ofFloat 10 = .ok (.bipush 127, 2) := by decide +kernel
theorem dX0_ofFloat_12 : decode cX0_ofFloat 12 = .ok (.istore_n 2, 1) := by decide +kernel
theorem dX0_ofFloat_13 : decode cX0_ofFloat 13 = .ok (.iconst 0, 1) := by decide +kernel
theorem dX0_ofFloat_14 : decode cX0_ofFloat 14 = .ok (.istore_n 3, 1) := by decide +kernel
theorem dX0_ofFloat_15 : decode cX0_ofFloat 15 = .ok (.iload_n 3, 1) := by decide +kernel
theorem dX0_ofFloat_16 : decode cX0_ofFloat 16 = .ok (.sipush 2000, 3) := by decide +kernel
theorem dX0_ofFloat_19 : decode cX0_ofFloat 19 = .ok (.if_icmp .ge 22, 3) := by decide +kernel
theorem dX0_ofFloat_22 : decode cX0_ofFloat 22 = .ok (.fload_n 1, 1) := by decide +kernel
theorem dX0_ofFloat_23 : decode cX0_ofFloat 23 = .ok (.fconst 1, 1) := by decide +kernel
theorem dX0_ofFloat_24 : decode cX0_ofFloat 24 = .ok (.fcmp .g, 1) := by decide +kernel
theorem dX0_ofFloat_25 : decode cX0_ofFloat 25 = .ok (.ifCond .ge 16, 3) := by decide +kernel
theorem dX0_ofFloat_28 : decode cX0_ofFloat 28 = .ok (.fload_n 1, 1) := by decide +kernel
theorem dX0_ofFloat_29 : decode cX0_ofFloat 29 = .ok (.fconst 2, 1) := by decide +kernel
theorem dX0_ofFloat_30 : decode cX0_ofFloat 30 = .ok (.fmul, 1) := by decide +kernel
theorem dX0_ofFloat_31 : decode cX0_ofFloat 31 = .ok (.fstore_n 1, 1) := by decide +kernel
theorem dX0_ofFloat_32 : decode cX0_ofFloat 32 = .ok (.iinc 2 (-1), 3) := by decide +kernel
theorem dX0_ofFloat_35 : decode cX0_ofFloat 35 = .ok (.iinc 3 1, 3) := by decide +kernel
theorem dX0_ofFloat_38 : decode cX0_ofFloat 38 = .ok (.goto (-23), 3) := by decide +kernel
theorem dX0_ofFloat_41 : decode cX0_ofFloat 41 = .ok (.fload_n 1, 1) := by decide +kernel
theorem dX0_ofFloat_42 : decode cX0_ofFloat 42 = .ok (.fconst 1, 1) := by decide +kernel
theorem dX0_ofFloat_43 : decode cX0_ofFloat 43 = .ok (.fsub, 1) := by decide +kernel
theorem dX0_ofFloat_44 : decode cX0_ofFloat 44 = .ok (.ldc 15, 2) := by decide +kernel
theorem dX0_ofFloat_46 : decode cX0_ofFloat 46 = .ok (.fmul, 1) := by decide +kernel
theorem dX0_ofFloat_47 : decode cX0_ofFloat 47 = .ok (.f2i, 1) := by decide +kernel
theorem dX0_ofFloat_48 : decode cX0_ofFloat 48 = .ok (.istore_n 3, 1) := by decide +kernel
theorem dX0_ofFloat_49 : decode cX0_ofFloat 49 = .ok (.iload_n 2, 1) := by decide +kernel
theorem dX0_ofFloat_50 : decode cX0_ofFloat 50 = .ok (.bipush 23, 2) := by decide +kernel
theorem dX0_ofFloat_52 : decode cX0_ofFloat 52 = .ok (.ishl, 1) := by decide +kernel
theorem dX0_ofFloat_53 : decode cX0_ofFloat 53 = .ok (.iload_n 3, 1) := by decide +kernel
theorem dX0_ofFloat_54 : decode cX0_ofFloat 54 = .ok (.ior, 1) := by decide +kernel
theorem dX0_ofFloat_55 : decode cX0_ofFloat 55 = .ok (.ireturn, 1) := by decide +kernel
theorem dX1_init_0 : decode cX1_init 0 = .ok (.aload_n 0, 1) := by decide +kernel
theorem dX1_init_1 : decode cX1_init 1 = .ok (.invokespecial 3, 3) := by decide +kernel
theorem dX1_init_4 : decode cX1_init 4 = .ok (.aload_n 0, 1) := by decide +kernel
theorem dX1_init_5 : decode cX1_init 5 = .ok (.iconst 5, 1) := by decide +kernel
theorem dX1_init_6 : decode cX1_init 6 = .ok (.newarray .int, 2) := by decide +kernel
theorem dX1_init_8 : decode cX1_init 8 = .ok (.putfield 9, 3) := by decide +kernel
theorem dX1_init_11 : decode cX1_init 11 = .ok (.aload_n 0, 1) := by decide +kernel
theorem dX1_init_12 : decode cX1_init 12 = .ok (.sipush 200, 3) := by decide +kernel
theorem dX1_init_15 : decode cX1_init 15 = .ok (.newarray .int, 2) := by decide +kernel
theorem dX1_init_17 : decode cX1_init 17 = .ok (.putfield 15, 3) := by decide +kernel
theorem dX1_init_20 : decode cX1_init 20 = .ok (.getstatic 18, 3) := by decide +kernel
theorem dX1_init_23 : decode cX1_init 23 = .ok (.iconst 0, 1) := by decide +kernel
theorem dX1_init_24 : decode cX1_init 24 = .ok (.aload_n 0, 1) := by decide +kernel
theorem dX1_init_25 : decode cX1_init 25 = .ok (.getfield 9, 3) := by decide +kernel
theorem dX1_init_28 : decode cX1_init 28 = .ok (.iconst 0, 1) := by decide +kernel
theorem dX1_init_29 : decode cX1_init 29 = .ok (.iconst 5, 1) := by decide +kernel
theorem dX1_init_30 : decode cX1_init 30 = .ok (.invokestatic 21, 3) := by decide +kernel
theorem dX1_init_33 : decode cX1_init 33 = .ok (.return_, 1) := by decide +kernel
theorem dX1_copy_0 : decode cX1_copy 0 = .ok (.aload_n 0, 1) := by decide +kernel
theorem dX1_copy_1 : decode cX1_copy 1 = .ok (.ifnull 7, 3) := by decide +kernel
theorem dX1_copy_4 : decode cX1_copy 4 = .ok (.aload_n 1, 1) := by decide +kernel
theorem dX1_copy_5 : decode cX1_copy 5 = .ok (.ifnonnull 4, 3) := by decide +kernel
theorem dX1_copy_8 : decode cX1_copy 8 = .ok (.return_, 1) := by decide +kernel
theorem dX1_copy_9 : decode cX1_copy 9 = .ok (.aload_n 0, 1) := by decide +kernel
theorem dX1_copy_10 : decode cX1_copy 10 = .ok (.getfield 9, 3) := by decide +kernel
theorem dX1_copy_13 : decode cX1_copy 13 = .ok (.iconst 0, 1) := by decide +kernel
theorem dX1_copy_14 : decode cX1_copy 14 = .ok (.aload_n 1, 1) := by decide +kernel
theorem dX1_copy_15 : decode cX1_copy 15 = .ok (.getfield 9, 3) := by decide +kernel
theorem dX1_copy_18 : decode cX1_copy 18 = .ok (.iconst 0, 1) := by decide +kernel
theorem dX1_copy_19 : decode cX1_copy 19 = .ok (.iconst 5, 1) := by decide +kernel
theorem dX1_copy_20 : decode cX1_copy 20 = .ok (.invokestatic 21, 3) := by decide +kernel
theorem dX1_copy_23 : decode cX1_copy 23 = .ok (.aload_n 0, 1) := by decide +kernel
theorem dX1_copy_24 : decode cX1_copy 24 = .ok (.getfield 15, 3) := by decide +kernel
theorem dX1_copy_27 : decode cX1_copy 27 = .ok (.iconst 0, 1) := by decide +kernel
theorem dX1_copy_28 : decode cX1_copy 28 = .ok (.aload_n 1, 1) := by decide +kernel
theorem dX1_copy_29 : decode cX1_copy 29 = .ok (.getfield 15, 3) := by decide +kernel
theorem dX1_copy_32 : decode cX1_copy 32 = .ok (.iconst 0, 1) := by decide +kernel
theorem dX1_copy_33 : decode cX1_copy 33 = .ok (.sipush 200, 3) := by decide +kernel
theorem dX1_copy_36 : decode cX1_copy 36 = .ok (.invokestatic 21, 3) := by decide +kernel
theorem dX1_copy_39 : decode cX1_copy 39 = .ok (.aload_n 1, 1) := by decide +kernel
theorem dX1_copy_40 : decode cX1_copy 40 = .ok (.aload_n 0, 1) := by decide +kernel
theorem dX1_copy_41 : decode cX1_copy 41 = .ok (.getfield 27, 3) := by decide +kernel
theorem dX1_copy_44 : decode cX1_copy 44 = .ok (.putfield 27, 3) := by decide +kernel
theorem dX1_copy_47 : decode cX1_copy 47 = .ok (.aload_n 1, 1) := by decide +kernel
theorem dX1_copy_48 : decode cX1_copy 48 = .ok (.aload_n 0, 1) := by decide +kernel
theorem dX1_copy_49 : decode cX1_copy 49 = .ok (.getfield 31, 3) := by decide +kernel
theorem dX1_copy_52 : decode cX1_copy 52 = .ok (.putfield 31, 3) := by decide +kernel
theorem dX1_copy_55 : decode cX1_copy 55 = .ok (.aload_n 1, 1) := by decide +kernel
theorem dX1_copy_56 : decode cX1_copy 56 = .ok (.aload_n 0, 1) := by decide +kernel
theorem dX1_copy_57 : decode cX1_copy 57 = .ok (.getfield 34, 3) := by decide +kernel
theorem dX1_copy_60 : decode cX1_copy 60 = .ok (.putfield 34, 3) := by decide +kernel
theorem dX1_copy_63 : decode cX1_copy 63 = .ok (.aload_n 1, 1) := by decide +kernel
theorem dX1_copy_64 : decode cX1_copy 64 = .ok (.aload_n 0, 1) := by decide +kernel
theorem dX1_copy_65 : decode cX1_copy 65 = .ok (.getfield 37, 3) := by decide +kernel
theorem dX1_copy_68 : decode cX1_copy 68 = .ok (.putfield 37, 3) := by decide +kernel
theorem dX1_copy_71 : decode cX1_copy 71 = .ok (.aload_n 1, 1) := by decide +kernel
theorem dX1_copy_72 : decode cX1_copy 72 = .ok (.aload_n 0, 1) := by decide +kernel
theorem dX1_copy_73 : decode cX1_copy 73 = .ok (.getfield 40, 3) := by decide +kernel
theorem dX1_copy_76 : decode cX1_copy 76 = .ok (.putfield 40, 3) := by decide +kernel
theorem dX1_copy_79 : decode cX1_copy 79 = .ok (.aload_n 1, 1) := by decide +kernel
theorem dX1_copy_80 : decode cX1_copy 80 = .ok (.aload_n 0, 1) := by decide +kernel
theorem dX1_copy_81 : decode cX1_copy 81 = .ok (.getfield 43, 3) := by decide +kernel
theorem dX1_copy_84 : decode cX1_copy 84 = .ok (.putfield 43, 3) := by decide +kernel
theorem dX1_copy_87 : decode cX1_copy 87 = .ok (.aload_n 1, 1) := by decide +kernel
theorem dX1_copy_88 : decode cX1_copy 88 = .ok (.aload_n 0, 1) := by decide +kernel
theorem dX1_copy_89 : decode cX1_copy 89 = .ok (.getfield 46, 3) := by decide +kernel
theorem dX1_copy_92 : decode cX1_copy 92 = .ok (.putfield 46, 3) := by decide +kernel
theorem dX1_copy_95 : decode cX1_copy 95 = .ok (.aload_n 1, 1) := by decide +kernel
theorem dX1_copy_96 : decode cX1_copy 96 = .ok (.aload_n 0, 1) := by decide +kernel
theorem dX1_copy_97 : decode cX1_copy 97 = .ok (.getfield 49, 3) := by decide +kernel
theorem dX1_copy_100 : decode cX1_copy 100 = .ok (.putfield 49, 3) := by decide +kernel
theorem dX1_copy_103 : decode cX1_copy 103 = .ok (.aload_n 1, 1) := by decide +kernel
theorem dX1_copy_104 : decode cX1_copy 104 = .ok (.aload_n 0, 1) := by decide +kernel
theorem dX1_copy_105 : decode cX1_copy 105 = .ok (.getfield 52, 3) := by decide +kernel
theorem dX1_copy_108 : decode cX1_copy 108 = .ok (.putfield 52, 3) := by decide +kernel
theorem dX1_copy_111 : decode cX1_copy 111 = .ok (.aload_n 1, 1) := by decide +kernel
theorem dX1_copy_112 : decode cX1_copy 112 = .ok (.aload_n 0, 1) := by decide +kernel
theorem dX1_copy_113 : decode cX1_copy 113 = .ok (.getfield 55, 3) := by decide +kernel
theorem dX1_copy_116 : decode cX1_copy 116 = .ok (.putfield 55, 3) := by decide +kernel
theorem dX1_copy_119 : decode cX1_copy 119 = .ok (.aload_n 1, 1) := by decide +kernel
theorem dX1_copy_120 : decode cX1_copy 120 = .ok (.aload_n 0, 1) := by decide +kernel
theorem dX1_copy_121 : decode cX1_copy 121 = .ok (.getfield 58, 3) := by decide +kernel
theorem dX1_copy_124 : decode cX1_copy 124 = .ok (.putfield 58, 3) := by decide +kernel
theorem dX1_copy_127 : decode cX1_copy 127 = .ok (.aload_n 1, 1) := by decide +kernel
theorem dX1_copy_128 : decode cX1_copy 128 = .ok (.aload_n 0, 1) := by decide +kernel
theorem dX1_copy_129 : decode cX1_copy 129 = .ok (.getfield 61, 3) := by decide +kernel
theorem dX1_copy_132 : decode cX1_copy 132 = .ok (.putfield 61, 3) := by decide +kernel
theorem dX1_copy_135 : decode cX1_copy 135 = .ok (.aload_n 1, 1) := by decide +kernel
theorem dX1_copy_136 : decode cX1_copy 136 = .ok (.aload_n 0, 1) := by decide +kernel
theorem dX1_copy_137 : decode cX1_copy 137 = .ok (.getfield 64, 3) := by decide +kernel
theorem dX1_copy_140 : decode cX1_copy 140 = .ok (.putfield 64, 3) := by decide +kernel
theorem dX1_copy_143 : decode cX1_copy 143 = .ok (.aload_n 1, 1) := by decide +kernel
theorem dX1_copy_144 : decode cX1_copy 144 = .ok (.aload_n 0, 1) := by decide +kernel
theorem dX1_copy_145 : decode cX1_copy 145 = .ok (.getfield 67, 3) := by decide +kernel
theorem dX1_copy_148 : decode cX1_copy 148 = .ok (.putfield 67, 3) := by decide +kernel
theorem dX1_copy_151 : decode cX1_copy 151 = .ok (.return_, 1) := by decide +kernel
theorem dX1_restart_0 : decode cX1_restart 0 = .ok (.aload_n 0, 1) := by decide +kernel
theorem dX1_restart_1 : decode cX1_restart 1 = .ok (.iconst 0, 1) := by decide +kernel
theorem dX1_restart_2 : decode cX1_restart 2 = .ok (.putfield 27, 3) := by decide +kernel
theorem dX1_restart_5 : decode cX1_restart 5 = .ok (.aload_n 0, 1) := by decide +kernel
theorem dX1_restart_6 : decode cX1_restart 6 = .ok (.iconst 0, 1) := by decide +kernel
theorem dX1_restart_7 : decode cX1_restart 7 = .ok (.putfield 31, 3) := by decide +kernel
theorem dX1_restart_10 : decode cX1_restart 10 = .ok (.aload_n 0, 1) := by decide +kernel
theorem dX1_restart_11 : decode cX1_restart 11 = .ok (.iconst 0, 1) := by decide +kernel
theorem dX1_restart_12 : decode cX1_restart 12 = .ok (.putfield 34, 3) := by decide +kernel
theorem dX1_restart_15 : decode cX1_restart 15 = .ok (.aload_n 0, 1) := by decide +kernel
theorem dX1_restart_16 : decode cX1_restart 16 = .ok (.iconst 0, 1) := by decide +kernel
theorem dX1_restart_17 : decode cX1_restart 17 = .ok (.putfield 37, 3) := by decide +kernel
theorem dX1_restart_20 : decode cX1_restart 20 = .ok (.aload_n 0, 1) := by decide +kernel
theorem dX1_restart_21 : decode cX1_restart 21 = .ok (.iconst 0, 1) := by decide +kernel
theorem dX1_restart_22 : decode cX1_restart 22 = .ok (.putfield 40, 3) := by decide +kernel
theorem dX1_restart_25 : decode cX1_restart 25 = .ok (.aload_n 0, 1) := by decide +kernel
theorem dX1_restart_26 : decode cX1_restart 26 = .ok (.iconst 0, 1) := by decide +kernel
theorem dX1_restart_27 : decode cX1_restart 27 = .ok (.putfield 43, 3) := by decide +kernel
theorem dX1_restart_30 : decode cX1_restart 30 = .ok (.aload_n 0, 1) := by decide +kernel
theorem dX1_restart_31 : decode cX1_restart 31 = .ok (.iconst 0, 1) := by decide +kernel
theorem dX1_restart_32 : decode cX1_restart 32 = .ok (.putfield 46, 3) := by decide +kernel
theorem dX1_restart_35 : decode cX1_restart 35 = .ok (.aload_n 0, 1) := by decide +kernel
theorem dX1_restart_36 : decode cX1_restart 36 = .ok (.iconst 0, 1) := by decide +kernel
theorem dX1_restart_37 : decode cX1_restart 37 = .ok (.putfield 49, 3) := by decide +kernel
theorem dX1_restart_40 : decode cX1_restart 40 = .ok (.aload_n 0, 1) := by decide +kernel
theorem dX1_restart_41 : decode cX1_restart 41 = .ok (.iconst 0, 1) := by decide +kernel
theorem dX1_restart_42 : decode cX1_restart 42 = .ok (.putfield 52, 3) := by decide +kernel
theorem dX1_restart_45 : decode cX1_restart 45 = .ok (.aload_n 0, 1) := by decide +kernel
theorem dX1_restart_46 : decode cX1_restart 46 = .ok (.iconst 0, 1) := by decide +kernel
theorem dX1_restart_47 : decode cX1_restart 47 = .ok (.putfield 55, 3) := by decide +kernel
theorem dX1_restart_50 : decode cX1_restart 50 = .ok (.aload_n 0, 1) := by decide +kernel
theorem dX1_restart_51 : decode cX1_restart 51 = .ok (.iconst 0, 1) := by decide +kernel
theorem dX1_restart_52 : decode cX1_restart 52 = .ok (.putfield 58, 3) := by decide +kernel
theorem dX1_restart_55 : decode cX1_restart 55 = .ok (.aload_n 0, 1) := by decide +kernel
theorem dX1_restart_56 : decode cX1_restart 56 = .ok (.iconst 0, 1) := by decide +kernel
theorem dX1_restart_57 : decode cX1_restart 57 = .ok (.putfield 61, 3) := by decide +kernel
theorem dX1_restart_60 : decode cX1_restart 60 = .ok (.aload_n 0, 1) := by decide +kernel
theorem dX1_restart_61 : decode cX1_restart 61 = .ok (.iconst 0, 1) := by decide +kernel
theorem dX1_restart_62 : decode cX1_restart 62 = .ok (.putfield 64, 3) := by decide +kernel
theorem dX1_restart_65 : decode cX1_restart 65 = .ok (.aload_n 0, 1) := by decide +kernel
theorem dX1_restart_66 : decode cX1_restart 66 = .ok (.iconst 0, 1) := by decide +kernel
theorem dX1_restart_67 : decode cX1_restart 67 = .ok (.putfield 67, 3) := by decide +kernel
theorem dX1_restart_70 : decode cX1_restart 70 = .ok (.return_, 1) := by decide +kernel
set_option maxRecDepth 20000 in
theorem ggX1_follow_X1_restart : GoodIn wsX1_follow wsX1_restart := goodIn_r _ [10, 11, 12, 13, 14, 15, 16, 17, 18, 19, 20, 21, 22, 23, 24, 80, 81, 82, 83, 84, 85, 86, 87, 88, 89, 90, 91, 92, 93, 94, 95] (by decide +kernel) (by decide +kernel)
set_option maxRecDepth 20000 in
theorem gX1_follow_X1_restart : GoodIn wsX1_follow (wsV RX1 70 RX1 yX1_restart wsX1_restart) := goodIn_app (goodIn_of _ (by decide +kernel)) ggX1_follow_X1_restart
set_option maxRecDepth 20000 in
theorem ggX1_follow_X1_logged : GoodIn wsX1_follow wsX1_logged := goodIn_r _ [28, 11, 29, 30, 31, 32, 80, 81, 82, 83, 84, 85, 86, 87, 88, 89, 90, 91, 92, 93, 94, 95] (by decide +kernel) (by decide +kernel)
set_option maxRecDepth 20000 in
theorem gX1_follow_X1_logged : GoodIn wsX1_follow (wsV RX1 73 RX1 yX1_logged wsX1_logged) := goodIn_app (goodIn_of _ (by decide +kernel)) ggX1_follow_X1_logged
set_option maxRecDepth 20000 in
theorem ggX1_follow_X1_pairAt : GoodIn wsX1_follow wsX1_pairAt := goodIn_r _ [36, 37, 38, 39, 9, 40, 11, 41, 42, 43, 44, 45, 25, 26, 27, 28, 29, 30, 31, 32, 80, 81, 82, 83, 84, 85, 86, 87, 88, 89, 90, 91, 92, 93, 94, 95] (by decide +kernel) (by decide +kernel)
set_option maxRecDepth 20000 in
theorem gX1_follow_X1_pairAt : GoodIn wsX1_follow (wsV RX1 77 RX1 yX1_pairAt wsX1_pairAt) := goodIn_app (goodIn_of _ (by decide +kernel)) ggX1_follow_X1_pairAt
set_option maxRecDepth 20000 in
theorem ggX1_follow_X1_indexAt : GoodIn wsX1_follow wsX1_indexAt := goodIn_r _ [49, 37, 38, 39, 9, 40, 11, 41, 42, 43, 44, 45, 25, 26, 27, 28, 29, 30, 31, 32, 80, 81, 82, 83, 84, 85, 86, 87, 88, 89, 90, 91, 92, 93, 94, 95] (by decide +kernel) (by decide +kernel)
set_option maxRecDepth 20000 in
theorem gX1_follow_X1_indexAt : GoodIn wsX1_follow (wsV RX1 81 RX1 yX1_indexAt wsX1_indexAt) := goodIn_app (goodIn_of _ (by decide +kernel)) ggX1_follow_X1_indexAt
set_option maxRecDepth 20000 in
theorem ggX1_follow_X1_tick : GoodIn wsX1_follow wsX1_tick := goodIn_r _ [53, 16, 17, 15, 14, 21, 11, 41, 54, 55, 56, 9, 57, 58, 59, 60, 61, 62, 63, 64, 65, 1, 66, 67, 68, 69, 70, 71, 72, 19, 20, 12, 13, 18, 23, 24, 73, 74, 75, 76, 77, 78, 79, 22, 80, 81, 82, 83, 84, 85, 86, 87, 88, 89, 90, 91, 92, 93, 94, 95] (by decide +kernel) (by decide +kernel)
set_option maxRecDepth 20000 in
theorem gX1_follow_X1_tick : GoodIn wsX1_follow (wsV RX1 84 RX1 yX1_tick wsX1_tick) := goodIn_app (goodIn_of _ (by decide +kernel)) ggX1_follow_X1_tick
theorem dX1_follow_0 : decode cX1_follow 0 = .ok (.aload_n 1, 1) := by decide +kernel
theorem dX1_follow_1 : decode cX1_follow 1 = .ok (.ifnonnull 4, 3) := by decide +kernel
theorem dX1_follow_4 : decode cX1_follow 4 = .ok (.return_, 1) := by decide +kernel
theorem dX1_follow_5 : decode cX1_follow 5 = .ok (.aload_n 0, 1) := by decide +kernel
theorem dX1_follow_6 : decode cX1_follow 6 = .ok (.invokevirtual 70, 3) := by decide +kernel
theorem dX1_follow_9 : decode cX1_follow 9 = .ok (.aload_n 1, 1) := by decide +kernel
theorem dX1_follow_10 : decode cX1_follow 10 = .ok (.getfield 9, 3) := by decide +kernel
theorem dX1_follow_13 : decode cX1_follow 13 = .ok (.iconst 0, 1) := by decide +kernel
theorem dX1_follow_14 : decode cX1_follow 14 = .ok (.aload_n 0, 1) := by decide +kernel
theorem dX1_follow_15 : decode cX1_follow 15 = .ok (.getfield 9, 3) := by decide +kernel
theorem dX1_follow_18 : decode cX1_follow 18 = .ok (.iconst 0, 1) := by decide +kernel
theorem dX1_follow_19 : decode cX1_follow 19 = .ok (.iconst 5, 1) := by decide +kernel
theorem dX1_follow_20 : decode cX1_follow 20 = .ok (.invokestatic 21, 3) := by decide +kernel
theorem dX1_follow_23 : decode cX1_follow 23 = .ok (.aload_n 0, 1) := by decide +kernel
theorem dX1_follow_24 : decode cX1_follow 24 = .ok (.getfield 9, 3) := by decide +kernel
theorem dX1_follow_27 : decode cX1_follow 27 = .ok (.iconst 2, 1) := by decide +kernel
theorem dX1_follow_28 : decode cX1_follow 28 = .ok (.iload_n 2, 1) := by decide +kernel
theorem dX1_follow_29 : decode cX1_follow 29 = .ok (.iastore, 1) := by decide +kernel
theorem dX1_follow_30 : decode cX1_follow 30 = .ok (.aload_n 1, 1) := by decide +kernel
theorem dX1_follow_31 : decode cX1_follow 31 = .ok (.invokevirtual 73, 3) := by decide +kernel
theorem dX1_follow_34 : decode cX1_follow 34 = .ok (.iconst 1, 1) := by decide +kernel
theorem dX1_follow_35 : decode cX1_follow 35 = .ok (.isub, 1) := by decide +kernel
theorem dX1_follow_36 : decode cX1_follow 36 = .ok (.istore_n 3, 1) := by decide +kernel
theorem dX1_follow_37 : decode cX1_follow 37 = .ok (.iload_n 3, 1) := by decide +kernel
theorem dX1_follow_38 : decode cX1_follow 38 = .ok (.ifCond .lt 24, 3) := by decide +kernel
theorem dX1_follow_41 : decode cX1_follow 41 = .ok (.aload_n 0, 1) := by decide +kernel
theorem dX1_follow_42 : decode cX1_follow 42 = .ok (.aload_n 1, 1) := by decide +kernel
theorem dX1_follow_43 : decode cX1_follow 43 = .ok (.iload_n 3, 1) := by decide +kernel
theorem dX1_follow_44 : decode cX1_follow 44 = .ok (.invokevirtual 77, 3) := by decide +kernel
theorem dX1_follow_47 : decode cX1_follow 47 = .ok (.aload_n 1, 1) := by decide +kernel
theorem dX1_follow_48 : decode cX1_follow 48 = .ok (.iload_n 3, 1) := by decide +kernel
theorem dX1_follow_49 : decode cX1_follow 49 = .ok (.invokevirtual 81, 3) := by decide +kernel
theorem dX1_follow_52 : decode cX1_follow 52 = .ok (.invokevirtual 84, 3) := by decide +kernel
theorem dX1_follow_55 : decode cX1_follow 55 = .ok (.pop, 1) := by decide +kernel
theorem dX1_follow_56 : decode cX1_follow 56 = .ok (.iinc 3 (-1), 3) := by decide +kernel
theorem dX1_follow_59 : decode cX1_follow 59 = .ok (.goto (-22), 3) := by decide +kernel
theorem dX1_follow_62 : decode cX1_follow 62 = .ok (.return_, 1) := by decide +kernel
theorem dX1_setting_0 : decode cX1_setting 0 = .ok (.iload_n 1, 1) := by decide +kernel
theorem dX1_setting_1 : decode cX1_setting 1 = .ok (.ifCond .lt 17, 3) := by decide +kernel
theorem dX1_setting_4 : decode cX1_setting 4 = .ok (.iload_n 1, 1) := by decide +kernel
theorem dX1_setting_5 : decode cX1_setting 5 = .ok (.iconst 5, 1) := by decide +kernel
theorem dX1_setting_6 : decode cX1_setting 6 = .ok (.if_icmp .ge 12, 3) := by decide +kernel
theorem dX1_setting_9 : decode cX1_setting 9 = .ok (.aload_n 0, 1) := by decide +kernel
theorem dX1_setting_10 : decode cX1_setting 10 = .ok (.getfield 9, 3) := by decide +kernel
theorem dX1_setting_13 : decode cX1_setting 13 = .ok (.iload_n 1, 1) := by decide +kernel
theorem dX1_setting_14 : decode cX1_setting 14 = .ok (.iaload, 1) := by decide +kernel
theorem dX1_setting_15 : decode cX1_setting 15 = .ok (.goto 4, 3) := by decide +kernel
theorem dX1_setting_18 : decode cX1_setting 18 = .ok (.iconst 0, 1) := by decide +kernel
theorem dX1_setting_19 : decode cX1_setting 19 = .ok (.ireturn, 1) := by decide +kernel
set_option maxRecDepth 20000 in
theorem ggX1_adjust_X1_leftOver : GoodIn wsX1_adjust wsX1_leftOver := goodIn_r _ [7] (by decide +kernel) (by decide +kernel)
set_option maxRecDepth 20000 in
theorem gX1_adjust_X1_leftOver : GoodIn wsX1_adjust (va_wsS RX1 94 yX1_leftOver wsX1_leftOver) := goodIn_app (goodIn_of _ (by decide +kernel)) ggX1_adjust_X1_leftOver
theorem dX1_adjust_0 : decode cX1_adjust 0 = .ok (.iload_n 1, 1) := by decide +kernel
theorem dX1_adjust_1 : decode cX1_adjust 1 = .ok (.ifCond .lt 8, 3) := by decide +kernel
theorem dX1_adjust_4 : decode cX1_adjust 4 = .ok (.iload_n 1, 1) := by decide +kernel
theorem dX1_adjust_5 : decode cX1_adjust 5 = .ok (.iconst 5, 1) := by decide +kernel
theorem dX1_adjust_6 : decode cX1_adjust 6 = .ok (.if_icmp .lt 6, 3) := by decide +kernel
theorem dX1_adjust_9 : decode cX1_adjust 9 = .ok (.bipush (-2), 2) := by decide +kernel
theorem dX1_adjust_11 : decode cX1_adjust 11 = .ok (.ireturn, 1) := by decide +kernel
theorem dX1_adjust_12 : decode cX1_adjust 12 = .ok (.iload_n 2, 1) := by decide +kernel
theorem dX1_adjust_13 : decode cX1_adjust 13 = .ok (.getstatic 88, 3) := by decide +kernel
theorem dX1_adjust_16 : decode cX1_adjust 16 = .ok (.iload_n 1, 1) := by decide +kernel
theorem dX1_adjust_17 : decode cX1_adjust 17 = .ok (.iaload, 1) := by decide +kernel
theorem dX1_adjust_18 : decode cX1_adjust 18 = .ok (.if_icmp .lt 12, 3) := by decide +kernel
theorem dX1_adjust_21 : decode cX1_adjust 21 = .ok (.iload_n 2, 1) := by decide +kernel
theorem dX1_adjust_22 : decode cX1_adjust 22 = .ok (.getstatic 91, 3) := by decide +kernel
theorem dX1_adjust_25 : decode cX1_adjust 25 = .ok (.iload_n 1, 1) := by decide +kernel
theorem dX1_adjust_26 : decode cX1_adjust 26 = .ok (.iaload, 1) := by decide +kernel
theorem dX1_adjust_27 : decode cX1_adjust 27 = .ok (.if_icmp .le 6, 3) := by decide +kernel
theorem dX1_adjust_30 : decode cX1_adjust 30 = .ok (.bipush (-2), 2) := by decide +kernel
theorem dX1_adjust_32 : decode cX1_adjust 32 = .ok (.ireturn, 1) := by decide +kernel
theorem dX1_adjust_33 : decode cX1_adjust 33 = .ok (.iload_n 1, 1) := by decide +kernel
theorem dX1_adjust_34 : decode cX1_adjust 34 = .ok (.ifCond .ne 12, 3) := by decide +kernel
theorem dX1_adjust_37 : decode cX1_adjust 37 = .ok (.iload_n 2, 1) := by decide +kernel
theorem dX1_adjust_38 : decode cX1_adjust 38 = .ok (.iconst 4, 1) := by decide +kernel
theorem dX1_adjust_39 : decode cX1_adjust 39 = .ok (.irem, 1) := by decide +kernel
theorem dX1_adjust_40 : decode cX1_adjust 40 = .ok (.ifCond .eq 6, 3) := by decide +kernel
theorem dX1_adjust_43 : decode cX1_adjust 43 = .ok (.bipush (-2), 2) := by decide +kernel
theorem dX1_adjust_45 : decode cX1_adjust 45 = .ok (.ireturn, 1) := by decide +kernel
theorem dX1_adjust_46 : decode cX1_adjust 46 = .ok (.aload_n 0, 1) := by decide +kernel
theorem dX1_adjust_47 : decode cX1_adjust 47 = .ok (.getfield 9, 3) := by decide +kernel
theorem dX1_adjust_50 : decode cX1_adjust 50 = .ok (.iload_n 1, 1) := by decide +kernel
theorem dX1_adjust_51 : decode cX1_adjust 51 = .ok (.iaload, 1) := by decide +kernel
theorem dX1_adjust_52 : decode cX1_adjust 52 = .ok (.istore_n 3, 1) := by decide +kernel
theorem dX1_adjust_53 : decode cX1_adjust 53 = .ok (.aload_n 0, 1) := by decide +kernel
theorem dX1_adjust_54 : decode cX1_adjust 54 = .ok (.getfield 9, 3) := by decide +kernel
theorem dX1_adjust_57 : decode cX1_adjust 57 = .ok (.iload_n 1, 1) := by decide +kernel
theorem dX1_adjust_58 : decode cX1_adjust 58 = .ok (.iload_n 2, 1) := by decide +kernel
theorem dX1_adjust_59 : decode cX1_adjust 59 = .ok (.iastore, 1) := by decide +kernel
theorem dX1_adjust_60 : decode cX1_adjust 60 = .ok (.iload_n 1, 1) := by decide +kernel
theorem dX1_adjust_61 : decode cX1_adjust 61 = .ok (.ifCond .ne 15, 3) := by decide +kernel
theorem dX1_adjust_64 : decode cX1_adjust 64 = .ok (.aload_n 0, 1) := by decide +kernel
theorem dX1_adjust_65 : decode cX1_adjust 65 = .ok (.aload_n 0, 1) := by decide +kernel
theorem dX1_adjust_66 : decode cX1_adjust 66 = .ok (.getfield 34, 3) := by decide +kernel
theorem dX1_adjust_69 : decode cX1_adjust 69 = .ok (.iload_n 2, 1) := by decide +kernel
theorem dX1_adjust_70 : decode cX1_adjust 70 = .ok (.invokestatic 94, 3) := by decide +kernel
theorem dX1_adjust_73 : decode cX1_adjust 73 = .ok (.putfield 34, 3) := by decide +kernel
theorem dX1_adjust_76 : decode cX1_adjust 76 = .ok (.iload_n 1, 1) := by decide +kernel
theorem dX1_adjust_77 : decode cX1_adjust 77 = .ok (.iconst 1, 1) := by decide +kernel
theorem dX1_adjust_78 : decode cX1_adjust 78 = .ok (.if_icmp .ne 15, 3) := by decide +kernel
theorem dX1_adjust_81 : decode cX1_adjust 81 = .ok (.aload_n 0, 1) := by decide +kernel
theorem dX1_adjust_82 : decode cX1_adjust 82 = .ok (.aload_n 0, 1) := by decide +kernel
theorem dX1_adjust_83 : decode cX1_adjust 83 = .ok (.getfield 31, 3) := by decide +kernel
theorem dX1_adjust_86 : decode cX1_adjust 86 = .ok (.iload_n 2, 1) := by decide +kernel
theorem dX1_adjust_87 : decode cX1_adjust 87 = .ok (.invokestatic 94, 3) := by decide +kernel
theorem dX1_adjust_90 : decode cX1_adjust 90 = .ok (.putfield 31, 3) := by decide +kernel
theorem dX1_adjust_93 : decode cX1_adjust 93 = .ok (.iload_n 3, 1) := by decide +kernel
theorem dX1_adjust_94 : decode cX1_adjust 94 = .ok (.ireturn, 1) := by decide +kernel
set_option maxRecDepth 20000 in
theorem ggX1_pass_X1_tick : GoodIn wsX1_pass wsX1_tick := goodIn_r _ [7, 8, 9, 10, 11, 12, 2, 13, 14, 15, 16, 6, 17, 18, 19, 20, 21, 22, 23, 24, 25, 26, 27, 28, 29, 30, 31, 32, 33, 34, 35, 36, 37, 38, 39, 40, 41, 42, 43, 44, 45, 46, 47, 48, 49, 50, 51, 52, 53, 54, 55, 56, 57, 58, 59, 60, 61, 62, 63, 64] (by decide +kernel) (by decide +kernel)
set_option maxRecDepth 20000 in
theorem gX1_pass_X1_tick : GoodIn wsX1_pass (wsV RX1 84 RX1 yX1_tick wsX1_tick) := goodIn_app (goodIn_of _ (by decide +kernel)) ggX1_pass_X1_tick
theorem dX1_pass_0 : decode cX1_pass 0 = .ok (.iload_n 1, 1) := by decide +kernel
theorem dX1_pass_1 : decode cX1_pass 1 = .ok (.ifCond .lt 28, 3) := by decide +kernel
theorem dX1_pass_4 : decode cX1_pass 4 = .ok (.iload_n 1, 1) := by decide +kernel
theorem dX1_pass_5 : decode cX1_pass 5 = .ok (.iconst 3, 1) := by decide +kernel
theorem dX1_pass_6 : decode cX1_pass 6 = .ok (.if_icmp .gt 23, 3) := by decide +kernel
theorem dX1_pass_9 : decode cX1_pass 9 = .ok (.iload_n 2, 1) := by decide +kernel
theorem dX1_pass_10 : decode cX1_pass 10 = .ok (.ifCond .lt 19, 3) := by decide +kernel
theorem dX1_pass_13 : decode cX1_pass 13 = .ok (.iload_n 2, 1) := by decide +kernel
theorem dX1_pass_14 : decode cX1_pass 14 = .ok (.iconst 1, 1) := by decide +kernel
theorem dX1_pass_15 : decode cX1_pass 15 = .ok (.if_icmp .gt 14, 3) := by decide +kernel
theorem dX1_pass_18 : decode cX1_pass 18 = .ok (.iload_n 3, 1) := by decide +kernel
theorem dX1_pass_19 : decode cX1_pass 19 = .ok (.iconst 1, 1) := by decide +kernel
theorem dX1_pass_20 : decode cX1_pass 20 = .ok (.if_icmp .lt 9, 3) := by decide +kernel
theorem dX1_pass_23 : decode cX1_pass 23 = .ok (.iload_n 3, 1) := by decide +kernel
theorem dX1_pass_24 : decode cX1_pass 24 = .ok (.bipush 99, 2) := by decide +kernel
theorem dX1_pass_26 : decode cX1_pass 26 = .ok (.if_icmp .le 6, 3) := by decide +kernel
theorem dX1_pass_29 : decode cX1_pass 29 = .ok (.bipush (-2), 2) := by decide +kernel
theorem dX1_pass_31 : decode cX1_pass 31 = .ok (.ireturn, 1) := by decide +kernel
theorem dX1_pass_32 : decode cX1_pass 32 = .ok (.iload_n 3, 1) := by decide +kernel
theorem dX1_pass_33 : decode cX1_pass 33 = .ok (.ldc 97, 2) := by decide +kernel
theorem dX1_pass_35 : decode cX1_pass 35 = .ok (.aload_n 0, 1) := by decide +kernel
theorem dX1_pass_36 : decode cX1_pass 36 = .ok (.getfield 27, 3) := by decide +kernel
theorem dX1_pass_39 : decode cX1_pass 39 = .ok (.isub, 1) := by decide +kernel
theorem dX1_pass_40 : decode cX1_pass 40 = .ok (.if_icmp .le 6, 3) := by decide +kernel
theorem dX1_pass_43 : decode cX1_pass 43 = .ok (.bipush (-5), 2) := by decide +kernel
theorem dX1_pass_45 : decode cX1_pass 45 = .ok (.ireturn, 1) := by decide +kernel
theorem dX1_pass_46 : decode cX1_pass 46 = .ok (.iconst 0, 1) := by decide +kernel
theorem dX1_pass_47 : decode cX1_pass 47 = .ok (.istore 4, 2) := by decide +kernel
theorem dX1_pass_49 : decode cX1_pass 49 = .ok (.iconst 0, 1) := by decide +kernel
theorem dX1_pass_50 : decode cX1_pass 50 = .ok (.istore 5, 2) := by decide +kernel
theorem dX1_pass_52 : decode cX1_pass 52 = .ok (.iload 5, 2) := by decide +kernel
theorem dX1_pass_54 : decode cX1_pass 54 = .ok (.iload_n 3, 1) := by decide +kernel
theorem dX1_pass_55 : decode cX1_pass 55 = .ok (.if_icmp .ge 32, 3) := by decide +kernel
theorem dX1_pass_58 : decode cX1_pass 58 = .ok (.aload_n 0, 1) := by decide +kernel
theorem dX1_pass_59 : decode cX1_pass 59 = .ok (.iload_n 1, 1) := by decide +kernel
theorem dX1_pass_60 : decode cX1_pass 60 = .ok (.iload_n 2, 1) := by decide +kernel
theorem dX1_pass_61 : decode cX1_pass 61 = .ok (.invokevirtual 84, 3) := by decide +kernel
theorem dX1_pass_64 : decode cX1_pass 64 = .ok (.istore 6, 2) := by decide +kernel
theorem dX1_pass_66 : decode cX1_pass 66 = .ok (.iload 6, 2) := by decide +kernel
theorem dX1_pass_68 : decode cX1_pass 68 = .ok (.iconst 1, 1) := by decide +kernel
theorem dX1_pass_69 : decode cX1_pass 69 = .ok (.if_icmp .eq 9, 3) := by decide +kernel
theorem dX1_pass_72 : decode cX1_pass 72 = .ok (.iload 6, 2) := by decide +kernel
theorem dX1_pass_74 : decode cX1_pass 74 = .ok (.iconst 2, 1) := by decide +kernel
theorem dX1_pass_75 : decode cX1_pass 75 = .ok (.if_icmp .ne 6, 3) := by decide +kernel
theorem dX1_pass_78 : decode cX1_pass 78 = .ok (.iinc 4 1, 3) := by decide +kernel
theorem dX1_pass_81 : decode cX1_pass 81 = .ok (.iinc 5 1, 3) := by decide +kernel
theorem dX1_pass_84 : decode cX1_pass 84 = .ok (.goto (-32), 3) := by decide +kernel
theorem dX1_pass_87 : decode cX1_pass 87 = .ok (.iload 4, 2) := by decide +kernel
theorem dX1_pass_89 : decode cX1_pass 89 = .ok (.ireturn, 1) := by decide +kernel
set_option maxRecDepth 20000 in
theorem ggX1_revolve_X1_setting : GoodIn wsX1_revolve wsX1_setting := goodIn_r _ [13, 14, 56, 57, 58, 59, 60, 61, 62, 63, 64, 65, 66, 67, 68, 69, 70, 71] (by decide +kernel) (by decide +kernel)
set_option maxRecDepth 20000 in
theorem gX1_revolve_X1_setting : GoodIn wsX1_revolve (wsV RX1 103 RX1 yX1_setting wsX1_setting) := goodIn_app (goodIn_of _ (by decide +kernel)) ggX1_revolve_X1_setting
set_option maxRecDepth 20000 in
theorem ggX1_revolve_X1_orderOf : GoodIn wsX1_revolve wsX1_orderOf := goodIn_r _ [17] (by decide +kernel) (by decide +kernel)
set_option maxRecDepth 20000 in
theorem gX1_revolve_X1_orderOf : GoodIn wsX1_revolve (va_wsS RX1 106 yX1_orderOf wsX1_orderOf) := goodIn_app (goodIn_of _ (by decide +kernel)) ggX1_revolve_X1_orderOf
set_option maxRecDepth 20000 in
theorem ggX1_revolve_X1_pairAlong : GoodIn wsX1_revolve wsX1_pairAlong := goodIn_r _ [20] (by decide +kernel) (by decide +kernel)
set_option maxRecDepth 20000 in
theorem gX1_revolve_X1_pairAlong : GoodIn wsX1_revolve (va_wsS RX1 109 yX1_pairAlong wsX1_pairAlong) := goodIn_app (goodIn_of _ (by decide +kernel)) ggX1_revolve_X1_pairAlong
set_option maxRecDepth 20000 in
theorem ggX1_revolve_X1_tick : GoodIn wsX1_revolve wsX1_tick := goodIn_r _ [24, 25, 26, 27, 7, 28, 6, 29, 30, 31, 32, 12, 33, 34, 35, 36, 37, 9, 10, 11, 13, 14, 15, 16, 17, 38, 39, 40, 41, 42, 43, 8, 44, 45, 46, 47, 48, 49, 50, 51, 52, 53, 54, 55, 56, 57, 58, 59, 60, 61, 62, 63, 64, 65, 66, 67, 68, 69, 70, 71] (by decide +kernel) (by decide +kernel)
set_option maxRecDepth 20000 in
theorem gX1_revolve_X1_tick : GoodIn wsX1_revolve (wsV RX1 84 RX1 yX1_tick wsX1_tick) := goodIn_app (goodIn_of _ (by decide +kernel)) ggX1_revolve_X1_tick
theorem dX1_revolve_0 : decode cX1_revolve 0 = .ok (.iload_n 1, 1) := by decide +kernel
theorem dX1_revolve_1 : decode cX1_revolve 1 = .ok (.ifCond .eq 15, 3) := by decide +kernel
theorem dX1_revolve_4 : decode cX1_revolve 4 = .ok (.iload_n 1, 1) := by decide +kernel
theorem dX1_revolve_5 : decode cX1_revolve 5 = .ok (.bipush (-99), 2) := by decide +kernel
theorem dX1_revolve_7 : decode cX1_revolve 7 = .ok (.if_icmp .lt 9, 3) := by decide +kernel
theorem dX1_revolve_10 : decode cX1_revolve 10 = .ok (.iload_n 1, 1) := by decide +kernel
theorem dX1_revolve_11 : decode cX1_revolve 11 = .ok (.bipush 99, 2) := by decide +kernel
theorem dX1_revolve_13 : decode cX1_revolve 13 = .ok (.if_icmp .le 6, 3) := by decide +kernel
theorem dX1_revolve_16 : decode cX1_revolve 16 = .ok (.bipush (-2), 2) := by decide +kernel
theorem dX1_revolve_18 : decode cX1_revolve 18 = .ok (.ireturn, 1) := by decide +kernel
theorem dX1_revolve_19 : decode cX1_revolve 19 = .ok (.iload_n 1, 1) := by decide +kernel
theorem dX1_revolve_20 : decode cX1_revolve 20 = .ok (.invokestatic 98, 3) := by decide +kernel
theorem dX1_revolve_23 : decode cX1_revolve 23 = .ok (.istore_n 2, 1) := by decide +kernel
theorem dX1_revolve_24 : decode cX1_revolve 24 = .ok (.aload_n 0, 1) := by decide +kernel
theorem dX1_revolve_25 : decode cX1_revolve 25 = .ok (.iconst 2, 1) := by decide +kernel
theorem dX1_revolve_26 : decode cX1_revolve 26 = .ok (.invokevirtual 103, 3) := by decide +kernel
theorem dX1_revolve_29 : decode cX1_revolve 29 = .ok (.istore_n 3, 1) := by decide +kernel
theorem dX1_revolve_30 : decode cX1_revolve 30 = .ok (.iload_n 2, 1) := by decide +kernel
theorem dX1_revolve_31 : decode cX1_revolve 31 = .ok (.iload_n 3, 1) := by decide +kernel
theorem dX1_revolve_32 : decode cX1_revolve 32 = .ok (.imul, 1) := by decide +kernel
theorem dX1_revolve_33 : decode cX1_revolve 33 = .ok (.ldc 97, 2) := by decide +kernel
theorem dX1_revolve_35 : decode cX1_revolve 35 = .ok (.aload_n 0, 1) := by decide +kernel
theorem dX1_revolve_36 : decode cX1_revolve 36 = .ok (.getfield 27, 3) := by decide +kernel
theorem dX1_revolve_39 : decode cX1_revolve 39 = .ok (.isub, 1) := by decide +kernel
theorem dX1_revolve_40 : decode cX1_revolve 40 = .ok (.if_icmp .le 6, 3) := by decide +kernel
theorem dX1_revolve_43 : decode cX1_revolve 43 = .ok (.bipush (-5), 2) := by decide +kernel
theorem dX1_revolve_45 : decode cX1_revolve 45 = .ok (.ireturn, 1) := by decide +kernel
theorem dX1_revolve_46 : decode cX1_revolve 46 = .ok (.iload_n 1, 1) := by decide +kernel
theorem dX1_revolve_47 : decode cX1_revolve 47 = .ok (.ifCond .le 7, 3) := by decide +kernel
theorem dX1_revolve_50 : decode cX1_revolve 50 = .ok (.iconst 1, 1) := by decide +kernel
theorem dX1_revolve_51 : decode cX1_revolve 51 = .ok (.goto 4, 3) := by decide +kernel
theorem dX1_revolve_54 : decode cX1_revolve 54 = .ok (.iconst (-1), 1) := by decide +kernel
theorem dX1_revolve_55 : decode cX1_revolve 55 = .ok (.istore 4, 2) := by decide +kernel
theorem dX1_revolve_57 : decode cX1_revolve 57 = .ok (.iconst 0, 1) := by decide +kernel
theorem dX1_revolve_58 : decode cX1_revolve 58 = .ok (.istore 5, 2) := by decide +kernel
theorem dX1_revolve_60 : decode cX1_revolve 60 = .ok (.iload 5, 2) := by decide +kernel
theorem dX1_revolve_62 : decode cX1_revolve 62 = .ok (.iload_n 2, 1) := by decide +kernel
theorem dX1_revolve_63 : decode cX1_revolve 63 = .ok (.if_icmp .ge 47, 3) := by decide +kernel
theorem dX1_revolve_66 : decode cX1_revolve 66 = .ok (.aload_n 0, 1) := by decide +kernel
theorem dX1_revolve_67 : decode cX1_revolve 67 = .ok (.getfield 37, 3) := by decide +kernel
theorem dX1_revolve_70 : decode cX1_revolve 70 = .ok (.invokestatic 106, 3) := by decide +kernel
theorem dX1_revolve_73 : decode cX1_revolve 73 = .ok (.iload 4, 2) := by decide +kernel
theorem dX1_revolve_75 : decode cX1_revolve 75 = .ok (.iadd, 1) := by decide +kernel
theorem dX1_revolve_76 : decode cX1_revolve 76 = .ok (.invokestatic 109, 3) := by decide +kernel
theorem dX1_revolve_79 : decode cX1_revolve 79 = .ok (.istore 6, 2) := by decide +kernel
theorem dX1_revolve_81 : decode cX1_revolve 81 = .ok (.iconst 0, 1) := by decide +kernel
theorem dX1_revolve_82 : decode cX1_revolve 82 = .ok (.istore 7, 2) := by decide +kernel
theorem dX1_revolve_84 : decode cX1_revolve 84 = .ok (.iload 7, 2) := by decide +kernel
theorem dX1_revolve_86 : decode cX1_revolve 86 = .ok (.iload_n 3, 1) := by decide +kernel
theorem dX1_revolve_87 : decode cX1_revolve 87 = .ok (.if_icmp .ge 17, 3) := by decide +kernel
theorem dX1_revolve_90 : decode cX1_revolve 90 = .ok (.aload_n 0, 1) := by decide +kernel
theorem dX1_revolve_91 : decode cX1_revolve 91 = .ok (.iload 6, 2) := by decide +kernel
theorem dX1_revolve_93 : decode cX1_revolve 93 = .ok (.iconst 0, 1) := by decide +kernel
theorem dX1_revolve_94 : decode cX1_revolve 94 = .ok (.invokevirtual 84, 3) := by decide +kernel
theorem dX1_revolve_97 : decode cX1_revolve 97 = .ok (.pop, 1) := by decide +kernel
theorem dX1_revolve_98 : decode cX1_revolve 98 = .ok (.iinc 7 1, 3) := by decide +kernel
theorem dX1_revolve_101 : decode cX1_revolve 101 = .ok (.goto (-17), 3) := by decide +kernel
theorem dX1_revolve_104 : decode cX1_revolve 104 = .ok (.iinc 5 1, 3) := by decide +kernel
theorem dX1_revolve_107 : decode cX1_revolve 107 = .ok (.goto (-47), 3) := by decide +kernel
theorem dX1_revolve_110 : decode cX1_revolve 110 = .ok (.aload_n 0, 1) := by decide +kernel
theorem dX1_revolve_111 : decode cX1_revolve 111 = .ok (.getfield 31, 3) := by decide +kernel
theorem dX1_revolve_114 : decode cX1_revolve 114 = .ok (.ireturn, 1) := by decide +kernel
theorem dX1_clear_0 : decode cX1_clear 0 = .ok (.aload_n 0, 1) := by decide +kernel
theorem dX1_clear_1 : decode cX1_clear 1 = .ok (.getfield 31, 3) := by decide +kernel
theorem dX1_clear_4 : decode cX1_clear 4 = .ok (.istore_n 1, 1) := by decide +kernel
theorem dX1_clear_5 : decode cX1_clear 5 = .ok (.aload_n 0, 1) := by decide +kernel
theorem dX1_clear_6 : decode cX1_clear 6 = .ok (.iconst 0, 1) := by decide +kernel
theorem dX1_clear_7 : decode cX1_clear 7 = .ok (.putfield 31, 3) := by decide +kernel
theorem dX1_clear_10 : decode cX1_clear 10 = .ok (.aload_n 0, 1) := by decide +kernel
theorem dX1_clear_11 : decode cX1_clear 11 = .ok (.iconst 0, 1) := by decide +kernel
theorem dX1_clear_12 : decode cX1_clear 12 = .ok (.putfield 34, 3) := by decide +kernel
theorem dX1_clear_15 : decode cX1_clear 15 = .ok (.iload_n 1, 1) := by decide +kernel
theorem dX1_clear_16 : decode cX1_clear 16 = .ok (.ireturn, 1) := by decide +kernel
set_option maxRecDepth 20000 in
theorem ggX1_tick_X1_deedBy : GoodIn wsX1_tick wsX1_deedBy := goodIn_r _ [12, 4, 13, 14, 15, 11, 16, 3, 2, 17, 18, 19, 20, 21, 22, 23, 24, 44, 45, 46, 47, 48, 49, 50, 51, 52, 53, 54, 55, 56, 57, 58, 59] (by decide +kernel) (by decide +kernel)
set_option maxRecDepth 20000 in
theorem gX1_tick_X1_deedBy : GoodIn wsX1_tick (wsV RX1 112 RX1 yX1_deedBy wsX1_deedBy) := goodIn_app (goodIn_of _ (by decide +kernel)) ggX1_tick_X1_deedBy
set_option maxRecDepth 20000 in
theorem ggX1_tick_X1_runWith : GoodIn wsX1_tick wsX1_runWith := goodIn_r _ [16, 3, 2, 44, 45, 46, 47, 48, 49, 50, 51, 52, 53, 54, 55, 56, 57, 58, 59] (by decide +kernel) (by decide +kernel)
set_option maxRecDepth 20000 in
theorem gX1_tick_X1_runWith : GoodIn wsX1_tick (wsV RX1 115 RX1 yX1_runWith wsX1_runWith) := goodIn_app (goodIn_of _ (by decide +kernel)) ggX1_tick_X1_runWith
set_option maxRecDepth 20000 in
theorem ggX1_tick_X1_step : GoodIn wsX1_tick wsX1_step := goodIn_r _ [28, 29, 30, 31, 32, 33, 6, 34, 35, 17, 18, 19, 11, 20, 21, 36, 37, 38, 44, 45, 46, 47, 48, 49, 50, 51, 52, 53, 54, 55, 56, 57, 58, 59] (by decide +kernel) (by decide +kernel)
set_option maxRecDepth 20000 in
theorem gX1_tick_X1_step : GoodIn wsX1_tick (wsV RX1 118 RX1 yX1_step wsX1_step) := goodIn_app (goodIn_of _ (by decide +kernel)) ggX1_tick_X1_step
set_option maxRecDepth 20000 in
theorem ggX1_tick_X1_meetIndex : GoodIn wsX1_tick wsX1_meetIndex := goodIn_r _ [42, 32, 43, 31, 17, 18, 19, 11, 20, 21, 44, 45, 46, 47, 48, 49, 50, 51, 52, 53, 54, 55, 56, 57, 58, 59] (by decide +kernel) (by decide +kernel)
set_option maxRecDepth 20000 in
theorem gX1_tick_X1_meetIndex : GoodIn wsX1_tick (wsV RX1 122 RX1 yX1_meetIndex wsX1_meetIndex) := goodIn_app (goodIn_of _ (by decide +kernel)) ggX1_tick_X1_meetIndex
theorem dX1_tick_0 : decode cX1_tick 0 = .ok (.aload_n 0, 1) := by decide +kernel
theorem dX1_tick_1 : decode cX1_tick 1 = .ok (.iload_n 1, 1) := by decide +kernel
theorem dX1_tick_2 : decode cX1_tick 2 = .ok (.invokevirtual 112, 3) := by decide +kernel
theorem dX1_tick_5 : decode cX1_tick 5 = .ok (.istore_n 3, 1) := by decide +kernel
theorem dX1_tick_6 : decode cX1_tick 6 = .ok (.iload_n 2, 1) := by decide +kernel
theorem dX1_tick_7 : decode cX1_tick 7 = .ok (.iconst 1, 1) := by decide +kernel
theorem dX1_tick_8 : decode cX1_tick 8 = .ok (.if_icmp .ne 14, 3) := by decide +kernel
theorem dX1_tick_11 : decode cX1_tick 11 = .ok (.aload_n 0, 1) := by decide +kernel
theorem dX1_tick_12 : decode cX1_tick 12 = .ok (.getfield 43, 3) := by decide +kernel
theorem dX1_tick_15 : decode cX1_tick 15 = .ok (.ifCond .ne 7, 3) := by decide +kernel
theorem dX1_tick_18 : decode cX1_tick 18 = .ok (.iconst 1, 1) := by decide +kernel
theorem dX1_tick_19 : decode cX1_tick 19 = .ok (.goto 4, 3) := by decide +kernel
theorem dX1_tick_22 : decode cX1_tick 22 = .ok (.iconst 0, 1) := by decide +kernel
theorem dX1_tick_23 : decode cX1_tick 23 = .ok (.istore 4, 2) := by decide +kernel
theorem dX1_tick_25 : decode cX1_tick 25 = .ok (.aload_n 0, 1) := by decide +kernel
theorem dX1_tick_26 : decode cX1_tick 26 = .ok (.aload_n 0, 1) := by decide +kernel
theorem dX1_tick_27 : decode cX1_tick 27 = .ok (.iload_n 1, 1) := by decide +kernel
theorem dX1_tick_28 : decode cX1_tick 28 = .ok (.invokevirtual 115, 3) := by decide +kernel
theorem dX1_tick_31 : decode cX1_tick 31 = .ok (.putfield 46, 3) := by decide +kernel
theorem dX1_tick_34 : decode cX1_tick 34 = .ok (.aload_n 0, 1) := by decide +kernel
theorem dX1_tick_35 : decode cX1_tick 35 = .ok (.iload_n 1, 1) := by decide +kernel
theorem dX1_tick_36 : decode cX1_tick 36 = .ok (.putfield 40, 3) := by decide +kernel
theorem dX1_tick_39 : decode cX1_tick 39 = .ok (.aload_n 0, 1) := by decide +kernel
theorem dX1_tick_40 : decode cX1_tick 40 = .ok (.iload_n 2, 1) := by decide +kernel
theorem dX1_tick_41 : decode cX1_tick 41 = .ok (.putfield 43, 3) := by decide +kernel
theorem dX1_tick_44 : decode cX1_tick 44 = .ok (.iload_n 3, 1) := by decide +kernel
theorem dX1_tick_45 : decode cX1_tick 45 = .ok (.ifCond .eq 8, 3) := by decide +kernel
theorem dX1_tick_48 : decode cX1_tick 48 = .ok (.aload_n 0, 1) := by decide +kernel
theorem dX1_tick_49 : decode cX1_tick 49 = .ok (.iload_n 1, 1) := by decide +kernel
theorem dX1_tick_50 : decode cX1_tick 50 = .ok (.putfield 37, 3) := by decide +kernel
theorem dX1_tick_53 : decode cX1_tick 53 = .ok (.iload_n 3, 1) := by decide +kernel
theorem dX1_tick_54 : decode cX1_tick 54 = .ok (.iconst 3, 1) := by decide +kernel
theorem dX1_tick_55 : decode cX1_tick 55 = .ok (.if_icmp .ne 13, 3) := by decide +kernel
theorem dX1_tick_58 : decode cX1_tick 58 = .ok (.aload_n 0, 1) := by decide +kernel
theorem dX1_tick_59 : decode cX1_tick 59 = .ok (.dup, 1) := by decide +kernel
theorem dX1_tick_60 : decode cX1_tick 60 = .ok (.getfield 58, 3) := by decide +kernel
theorem dX1_tick_63 : decode cX1_tick 63 = .ok (.iconst 1, 1) := by decide +kernel
theorem dX1_tick_64 : decode cX1_tick 64 = .ok (.iadd, 1) := by decide +kernel
theorem dX1_tick_65 : decode cX1_tick 65 = .ok (.putfield 58, 3) := by decide +kernel
theorem dX1_tick_68 : decode cX1_tick 68 = .ok (.iload_n 3, 1) := by decide +kernel
theorem dX1_tick_69 : decode cX1_tick 69 = .ok (.iconst 1, 1) := by decide +kernel
theorem dX1_tick_70 : decode cX1_tick 70 = .ok (.if_icmp .eq 8, 3) := by decide +kernel
theorem dX1_tick_73 : decode cX1_tick 73 = .ok (.iload_n 3, 1) := by decide +kernel
theorem dX1_tick_74 : decode cX1_tick 74 = .ok (.iconst 2, 1) := by decide +kernel
theorem dX1_tick_75 : decode cX1_tick 75 = .ok (.if_icmp .ne 8, 3) := by decide +kernel
theorem dX1_tick_78 : decode cX1_tick 78 = .ok (.aload_n 0, 1) := by decide +kernel
theorem dX1_tick_79 : decode cX1_tick 79 = .ok (.iload_n 3, 1) := by decide +kernel
theorem dX1_tick_80 : decode cX1_tick 80 = .ok (.invokevirtual 118, 3) := by decide +kernel
theorem dX1_tick_83 : decode cX1_tick 83 = .ok (.iload 4, 2) := by decide +kernel
theorem dX1_tick_85 : decode cX1_tick 85 = .ok (.ifCond .eq 7, 3) := by decide +kernel
theorem dX1_tick_88 : decode cX1_tick 88 = .ok (.aload_n 0, 1) := by decide +kernel
theorem dX1_tick_89 : decode cX1_tick 89 = .ok (.invokevirtual 122, 3) := by decide +kernel
theorem dX1_tick_92 : decode cX1_tick 92 = .ok (.aload_n 0, 1) := by decide +kernel
theorem dX1_tick_93 : decode cX1_tick 93 = .ok (.getfield 27, 3) := by decide +kernel
theorem dX1_tick_96 : decode cX1_tick 96 = .ok (.sipush 200, 3) := by decide +kernel
theorem dX1_tick_99 : decode cX1_tick 99 = .ok (.irem, 1) := by decide +kernel
theorem dX1_tick_100 : decode cX1_tick 100 = .ok (.istore 5, 2) := by decide +kernel
theorem dX1_tick_102 : decode cX1_tick 102 = .ok (.iload 5, 2) := by decide +kernel
theorem dX1_tick_104 : decode cX1_tick 104 = .ok (.ifCond .lt 28, 3) := by decide +kernel
theorem dX1_tick_107 : decode cX1_tick 107 = .ok (.iload 5, 2) := by decide +kernel
theorem dX1_tick_109 : decode cX1_tick 109 = .ok (.sipush 200, 3) := by decide +kernel
theorem dX1_tick_112 : decode cX1_tick 112 = .ok (.if_icmp .ge 20, 3) := by decide +kernel
theorem dX1_tick_115 : decode cX1_tick 115 = .ok (.aload_n 0, 1) := by decide +kernel
theorem dX1_tick_116 : decode cX1_tick 116 = .ok (.getfield 15, 3) := by decide +kernel
theorem dX1_tick_119 : decode cX1_tick 119 = .ok (.iload 5, 2) := by decide +kernel
theorem dX1_tick_121 : decode cX1_tick 121 = .ok (.iload_n 1, 1) := by decide +kernel
theorem dX1_tick_122 : decode cX1_tick 122 = .ok (.iconst 4, 1) := by decide +kernel
theorem dX1_tick_123 : decode cX1_tick 123 = .ok (.iload_n 2, 1) := by decide +kernel
theorem dX1_tick_124 : decode cX1_tick 124 = .ok (.imul, 1) := by decide +kernel
theorem dX1_tick_125 : decode cX1_tick 125 = .ok (.iadd, 1) := by decide +kernel
theorem dX1_tick_126 : decode cX1_tick 126 = .ok (.bipush 8, 2) := by decide +kernel
theorem dX1_tick_128 : decode cX1_tick 128 = .ok (.iload_n 3, 1) := by decide +kernel
theorem dX1_tick_129 : decode cX1_tick 129 = .ok (.imul, 1) := by decide +kernel
theorem dX1_tick_130 : decode cX1_tick 130 = .ok (.iadd, 1) := by decide +kernel
theorem dX1_tick_131 : decode cX1_tick 131 = .ok (.iastore, 1) := by decide +kernel
theorem dX1_tick_132 : decode cX1_tick 132 = .ok (.aload_n 0, 1) := by decide +kernel
theorem dX1_tick_133 : decode cX1_tick 133 = .ok (.dup, 1) := by decide +kernel
theorem dX1_tick_134 : decode cX1_tick 134 = .ok (.getfield 27, 3) := by decide +kernel
theorem dX1_tick_137 : decode cX1_tick 137 = .ok (.iconst 1, 1) := by decide +kernel
theorem dX1_tick_138 : decode cX1_tick 138 = .ok (.iadd, 1) := by decide +kernel
theorem dX1_tick_139 : decode cX1_tick 139 = .ok (.putfield 27, 3) := by decide +kernel
theorem dX1_tick_142 : decode cX1_tick 142 = .ok (.iload_n 3, 1) := by decide +kernel
theorem dX1_tick_143 : decode cX1_tick 143 = .ok (.ireturn, 1) := by decide +kernel
set_option maxRecDepth 20000 in
theorem ggX1_deedBy_X1_runWith : GoodIn wsX1_deedBy wsX1_runWith := goodIn_r _ [6, 7, 8, 17, 18, 19, 20, 21, 22, 23, 24, 25, 26, 27, 28, 29, 30, 31, 32] (by decide +kernel) (by decide +kernel)
set_option maxRecDepth 20000 in
theorem gX1_deedBy_X1_runWith : GoodIn wsX1_deedBy (wsV RX1 115 RX1 yX1_runWith wsX1_runWith) := goodIn_app (goodIn_of _ (by decide +kernel)) ggX1_deedBy_X1_runWith
set_option maxRecDepth 20000 in
theorem ggX1_deedBy_X1_setting : GoodIn wsX1_deedBy wsX1_setting := goodIn_r _ [12, 13, 17, 18, 19, 20, 21, 22, 23, 24, 25, 26, 27, 28, 29, 30, 31, 32] (by decide +kernel) (by decide +kernel)
set_option maxRecDepth 20000 in
theorem gX1_deedBy_X1_setting : GoodIn wsX1_deedBy (wsV RX1 103 RX1 yX1_setting wsX1_setting) := goodIn_app (goodIn_of _ (by decide +kernel)) ggX1_deedBy_X1_setting
set_option maxRecDepth 20000 in
theorem ggX1_deedBy_X1_orderOf : GoodIn wsX1_deedBy wsX1_orderOf := goodIn_r _ [16] (by decide +kernel) (by decide +kernel)
set_option maxRecDepth 20000 in
theorem gX1_deedBy_X1_orderOf : GoodIn wsX1_deedBy (va_wsS RX1 106 yX1_orderOf wsX1_orderOf) := goodIn_app (goodIn_of _ (by decide +kernel)) ggX1_deedBy_X1_orderOf
theorem dX1_deedBy_0 : decode cX1_deedBy 0 = .ok (.iload_n 1, 1) := by decide +kernel
theorem dX1_deedBy_1 : decode cX1_deedBy 1 = .ok (.aload_n 0, 1) := by decide +kernel
theorem dX1_deedBy_2 : decode cX1_deedBy 2 = .ok (.getfield 37, 3) := by decide +kernel
theorem dX1_deedBy_5 : decode cX1_deedBy 5 = .ok (.if_icmp .eq 16, 3) := by decide +kernel
theorem dX1_deedBy_8 : decode cX1_deedBy 8 = .ok (.aload_n 0, 1) := by decide +kernel
theorem dX1_deedBy_9 : decode cX1_deedBy 9 = .ok (.iload_n 1, 1) := by decide +kernel
theorem dX1_deedBy_10 : decode cX1_deedBy 10 = .ok (.invokevirtual 115, 3) := by decide +kernel
theorem dX1_deedBy_13 : decode cX1_deedBy 13 = .ok (.aload_n 0, 1) := by decide +kernel
theorem dX1_deedBy_14 : decode cX1_deedBy 14 = .ok (.iconst 2, 1) := by decide +kernel
theorem dX1_deedBy_15 : decode cX1_deedBy 15 = .ok (.invokevirtual 103, 3) := by decide +kernel
theorem dX1_deedBy_18 : decode cX1_deedBy 18 = .ok (.if_icmp .ge 5, 3) := by decide +kernel
theorem dX1_deedBy_21 : decode cX1_deedBy 21 = .ok (.iconst 0, 1) := by decide +kernel
theorem dX1_deedBy_22 : decode cX1_deedBy 22 = .ok (.ireturn, 1) := by decide +kernel
theorem dX1_deedBy_23 : decode cX1_deedBy 23 = .ok (.iload_n 1, 1) := by decide +kernel
theorem dX1_deedBy_24 : decode cX1_deedBy 24 = .ok (.invokestatic 106, 3) := by decide +kernel
theorem dX1_deedBy_27 : decode cX1_deedBy 27 = .ok (.aload_n 0, 1) := by decide +kernel
theorem dX1_deedBy_28 : decode cX1_deedBy 28 = .ok (.getfield 37, 3) := by decide +kernel
theorem dX1_deedBy_31 : decode cX1_deedBy 31 = .ok (.invokestatic 106, 3) := by decide +kernel
theorem dX1_deedBy_34 : decode cX1_deedBy 34 = .ok (.isub, 1) := by decide +kernel
theorem dX1_deedBy_35 : decode cX1_deedBy 35 = .ok (.iconst 3, 1) := by decide +kernel
theorem dX1_deedBy_36 : decode cX1_deedBy 36 = .ok (.iand, 1) := by decide +kernel
theorem dX1_deedBy_37 : decode cX1_deedBy 37 = .ok (.istore_n 2, 1) := by decide +kernel
theorem dX1_deedBy_38 : decode cX1_deedBy 38 = .ok (.iload_n 2, 1) := by decide +kernel
theorem dX1_deedBy_39 : decode cX1_deedBy 39 = .ok (.iconst 1, 1) := by decide +kernel
theorem dX1_deedBy_40 : decode cX1_deedBy 40 = .ok (.if_icmp .ne 5, 3) := by decide +kernel
theorem dX1_deedBy_43 : decode cX1_deedBy 43 = .ok (.iconst 1, 1) := by decide +kernel
theorem dX1_deedBy_44 : decode cX1_deedBy 44 = .ok (.ireturn, 1) := by decide +kernel
theorem dX1_deedBy_45 : decode cX1_deedBy 45 = .ok (.iload_n 2, 1) := by decide +kernel
theorem dX1_deedBy_46 : decode cX1_deedBy 46 = .ok (.iconst 3, 1) := by decide +kernel
theorem dX1_deedBy_47 : decode cX1_deedBy 47 = .ok (.if_icmp .ne 7, 3) := by decide +kernel
theorem dX1_deedBy_50 : decode cX1_deedBy 50 = .ok (.iconst 2, 1) := by decide +kernel
theorem dX1_deedBy_51 : decode cX1_deedBy 51 = .ok (.goto 4, 3) := by decide +kernel
theorem dX1_deedBy_54 : decode cX1_deedBy 54 = .ok (.iconst 3, 1) := by decide +kernel
theorem dX1_deedBy_55 : decode cX1_deedBy 55 = .ok (.ireturn, 1) := by decide +kernel
theorem dX1_runWith_0 : decode cX1_runWith 0 = .ok (.iload_n 1, 1) := by decide +kernel
theorem dX1_runWith_1 : decode cX1_runWith 1 = .ok (.aload_n 0, 1) := by decide +kernel
theorem dX1_runWith_2 : decode cX1_runWith 2 = .ok (.getfield 40, 3) := by decide +kernel
theorem dX1_runWith_5 : decode cX1_runWith 5 = .ok (.if_icmp .ne 12, 3) := by decide +kernel
theorem dX1_runWith_8 : decode cX1_runWith 8 = .ok (.aload_n 0, 1) := by decide +kernel
theorem dX1_runWith_9 : decode cX1_runWith 9 = .ok (.getfield 46, 3) := by decide +kernel
theorem dX1_runWith_12 : decode cX1_runWith 12 = .ok (.iconst 1, 1) := by decide +kernel
theorem dX1_runWith_13 : decode cX1_runWith 13 = .ok (.iadd, 1) := by decide +kernel
theorem dX1_runWith_14 : decode cX1_runWith 14 = .ok (.goto 4, 3) := by decide +kernel
theorem dX1_runWith_17 : decode cX1_runWith 17 = .ok (.iconst 1, 1) := by decide +kernel
theorem dX1_runWith_18 : decode cX1_runWith 18 = .ok (.ireturn, 1) := by decide +kernel
set_option maxRecDepth 20000 in
theorem ggX1_step_X1_setting : GoodIn wsX1_step wsX1_setting := goodIn_r _ [13, 14, 18, 19, 20, 21, 22, 23, 24, 25, 26, 27, 28, 29, 30, 31, 32, 33] (by decide +kernel) (by decide +kernel)
set_option maxRecDepth 20000 in
theorem gX1_step_X1_setting : GoodIn wsX1_step (wsV RX1 103 RX1 yX1_setting wsX1_setting) := goodIn_app (goodIn_of _ (by decide +kernel)) ggX1_step_X1_setting
set_option maxRecDepth 20000 in
theorem ggX1_step_X1_leftOver : GoodIn wsX1_step wsX1_leftOver := goodIn_r _ [17] (by decide +kernel) (by decide +kernel)
set_option maxRecDepth 20000 in
theorem gX1_step_X1_leftOver : GoodIn wsX1_step (va_wsS RX1 94 yX1_leftOver wsX1_leftOver) := goodIn_app (goodIn_of _ (by decide +kernel)) ggX1_step_X1_leftOver
theorem dX1_step_0 : decode cX1_step 0 = .ok (.iload_n 1, 1) := by decide +kernel
theorem dX1_step_1 : decode cX1_step 1 = .ok (.iconst 1, 1) := by decide +kernel
theorem dX1_step_2 : decode cX1_step 2 = .ok (.if_icmp .ne 7, 3) := by decide +kernel
theorem dX1_step_5 : decode cX1_step 5 = .ok (.iconst 1, 1) := by decide +kernel
theorem dX1_step_6 : decode cX1_step 6 = .ok (.goto 4, 3) := by decide +kernel
theorem dX1_step_9 : decode cX1_step 9 = .ok (.iconst (-1), 1) := by decide +kernel
theorem dX1_step_10 : decode cX1_step 10 = .ok (.istore_n 2, 1) := by decide +kernel
theorem dX1_step_11 : decode cX1_step 11 = .ok (.iload_n 1, 1) := by decide +kernel
theorem dX1_step_12 : decode cX1_step 12 = .ok (.iconst 1, 1) := by decide +kernel
theorem dX1_step_13 : decode cX1_step 13 = .ok (.if_icmp .ne 16, 3) := by decide +kernel
theorem dX1_step_16 : decode cX1_step 16 = .ok (.aload_n 0, 1) := by decide +kernel
theorem dX1_step_17 : decode cX1_step 17 = .ok (.dup, 1) := by decide +kernel
theorem dX1_step_18 : decode cX1_step 18 = .ok (.getfield 52, 3) := by decide +kernel
theorem dX1_step_21 : decode cX1_step 21 = .ok (.iconst 1, 1) := by decide +kernel
theorem dX1_step_22 : decode cX1_step 22 = .ok (.iadd, 1) := by decide +kernel
theorem dX1_step_23 : decode cX1_step 23 = .ok (.putfield 52, 3) := by decide +kernel
theorem dX1_step_26 : decode cX1_step 26 = .ok (.goto 13, 3) := by decide +kernel
theorem dX1_step_29 : decode cX1_step 29 = .ok (.aload_n 0, 1) := by decide +kernel
theorem dX1_step_30 : decode cX1_step 30 = .ok (.dup, 1) := by decide +kernel
theorem dX1_step_31 : decode cX1_step 31 = .ok (.getfield 55, 3) := by decide +kernel
theorem dX1_step_34 : decode cX1_step 34 = .ok (.iconst 1, 1) := by decide +kernel
theorem dX1_step_35 : decode cX1_step 35 = .ok (.iadd, 1) := by decide +kernel
theorem dX1_step_36 : decode cX1_step 36 = .ok (.putfield 55, 3) := by decide +kernel
theorem dX1_step_39 : decode cX1_step 39 = .ok (.aload_n 0, 1) := by decide +kernel
theorem dX1_step_40 : decode cX1_step 40 = .ok (.aload_n 0, 1) := by decide +kernel
theorem dX1_step_41 : decode cX1_step 41 = .ok (.getfield 31, 3) := by decide +kernel
theorem dX1_step_44 : decode cX1_step 44 = .ok (.iload_n 2, 1) := by decide +kernel
theorem dX1_step_45 : decode cX1_step 45 = .ok (.iadd, 1) := by decide +kernel
theorem dX1_step_46 : decode cX1_step 46 = .ok (.aload_n 0, 1) := by decide +kernel
theorem dX1_step_47 : decode cX1_step 47 = .ok (.iconst 1, 1) := by decide +kernel
theorem dX1_step_48 : decode cX1_step 48 = .ok (.invokevirtual 103, 3) := by decide +kernel
theorem dX1_step_51 : decode cX1_step 51 = .ok (.invokestatic 94, 3) := by decide +kernel
theorem dX1_step_54 : decode cX1_step 54 = .ok (.putfield 31, 3) := by decide +kernel
theorem dX1_step_57 : decode cX1_step 57 = .ok (.aload_n 0, 1) := by decide +kernel
theorem dX1_step_58 : decode cX1_step 58 = .ok (.aload_n 0, 1) := by decide +kernel
theorem dX1_step_59 : decode cX1_step 59 = .ok (.getfield 34, 3) := by decide +kernel
theorem dX1_step_62 : decode cX1_step 62 = .ok (.iload_n 2, 1) := by decide +kernel
theorem dX1_step_63 : decode cX1_step 63 = .ok (.iadd, 1) := by decide +kernel
theorem dX1_step_64 : decode cX1_step 64 = .ok (.aload_n 0, 1) := by decide +kernel
theorem dX1_step_65 : decode cX1_step 65 = .ok (.iconst 0, 1) := by decide +kernel
theorem dX1_step_66 : decode cX1_step 66 = .ok (.invokevirtual 103, 3) := by decide +kernel
theorem dX1_step_69 : decode cX1_step 69 = .ok (.invokestatic 94, 3) := by decide +kernel
theorem dX1_step_72 : decode cX1_step 72 = .ok (.putfield 34, 3) := by decide +kernel
theorem dX1_step_75 : decode cX1_step 75 = .ok (.aload_n 0, 1) := by decide +kernel
theorem dX1_step_76 : decode cX1_step 76 = .ok (.iload_n 1, 1) := by decide +kernel
theorem dX1_step_77 : decode cX1_step 77 = .ok (.aload_n 0, 1) := by decide +kernel
theorem dX1_step_78 : decode cX1_step 78 = .ok (.getfield 49, 3) := by decide +kernel
theorem dX1_step_81 : decode cX1_step 81 = .ok (.if_icmp .ne 15, 3) := by decide +kernel
theorem dX1_step_84 : decode cX1_step 84 = .ok (.aload_n 0, 1) := by decide +kernel
theorem dX1_step_85 : decode cX1_step 85 = .ok (.getfield 27, 3) := by decide +kernel
theorem dX1_step_88 : decode cX1_step 88 = .ok (.aload_n 0, 1) := by decide +kernel
theorem dX1_step_89 : decode cX1_step 89 = .ok (.getfield 64, 3) := by decide +kernel
theorem dX1_step_92 : decode cX1_step 92 = .ok (.isub, 1) := by decide +kernel
theorem dX1_step_93 : decode cX1_step 93 = .ok (.goto 4, 3) := by decide +kernel
theorem dX1_step_96 : decode cX1_step 96 = .ok (.iconst 0, 1) := by decide +kernel
theorem dX1_step_97 : decode cX1_step 97 = .ok (.putfield 67, 3) := by decide +kernel
theorem dX1_step_100 : decode cX1_step 100 = .ok (.aload_n 0, 1) := by decide +kernel
theorem dX1_step_101 : decode cX1_step 101 = .ok (.iload_n 1, 1) := by decide +kernel
theorem dX1_step_102 : decode cX1_step 102 = .ok (.putfield 49, 3) := by decide +kernel
theorem dX1_step_105 : decode cX1_step 105 = .ok (.aload_n 0, 1) := by decide +kernel
theorem dX1_step_106 : decode cX1_step 106 = .ok (.aload_n 0, 1) := by decide +kernel
theorem dX1_step_107 : decode cX1_step 107 = .ok (.getfield 27, 3) := by decide +kernel
theorem dX1_step_110 : decode cX1_step 110 = .ok (.putfield 64, 3) := by decide +kernel
theorem dX1_step_113 : decode cX1_step 113 = .ok (.return_, 1) := by decide +kernel
set_option maxRecDepth 20000 in
theorem ggX1_meetIndex_X1_setting : GoodIn wsX1_meetIndex wsX1_setting := goodIn_r _ [8, 9, 10, 11, 12, 13, 14, 15, 16, 17, 18, 19, 20, 21, 22, 23, 24, 25] (by decide +kernel) (by decide +kernel)
set_option maxRecDepth 20000 in
theorem gX1_meetIndex_X1_setting : GoodIn wsX1_meetIndex (wsV RX1 103 RX1 yX1_setting wsX1_setting) := goodIn_app (goodIn_of _ (by decide +kernel)) ggX1_meetIndex_X1_setting
theorem dX1_meetIndex_0 : decode cX1_meetIndex 0 = .ok (.aload_n 0, 1) := by decide +kernel
theorem dX1_meetIndex_1 : decode cX1_meetIndex 1 = .ok (.iconst 4, 1) := by decide +kernel
theorem dX1_meetIndex_2 : decode cX1_meetIndex 2 = .ok (.invokevirtual 103, 3) := by decide +kernel
theorem dX1_meetIndex_5 : decode cX1_meetIndex 5 = .ok (.istore_n 1, 1) := by decide +kernel
theorem dX1_meetIndex_6 : decode cX1_meetIndex 6 = .ok (.iload_n 1, 1) := by decide +kernel
theorem dX1_meetIndex_7 : decode cX1_meetIndex 7 = .ok (.iconst 1, 1) := by decide +kernel
theorem dX1_meetIndex_8 : decode cX1_meetIndex 8 = .ok (.if_icmp .ne 25, 3) := by decide +kernel
theorem dX1_meetIndex_11 : decode cX1_meetIndex 11 = .ok (.aload_n 0, 1) := by decide +kernel
theorem dX1_meetIndex_12 : decode cX1_meetIndex 12 = .ok (.getfield 34, 3) := by decide +kernel
theorem dX1_meetIndex_15 : decode cX1_meetIndex 15 = .ok (.ifCond .eq 18, 3) := by decide +kernel
theorem dX1_meetIndex_18 : decode cX1_meetIndex 18 = .ok (.aload_n 0, 1) := by decide +kernel
theorem dX1_meetIndex_19 : decode cX1_meetIndex 19 = .ok (.dup, 1) := by decide +kernel
theorem dX1_meetIndex_20 : decode cX1_meetIndex 20 = .ok (.getfield 61, 3) := by decide +kernel
theorem dX1_meetIndex_23 : decode cX1_meetIndex 23 = .ok (.iconst 1, 1) := by decide +kernel
theorem dX1_meetIndex_24 : decode cX1_meetIndex 24 = .ok (.iadd, 1) := by decide +kernel
theorem dX1_meetIndex_25 : decode cX1_meetIndex 25 = .ok (.putfield 61, 3) := by decide +kernel
theorem dX1_meetIndex_28 : decode cX1_meetIndex 28 = .ok (.aload_n 0, 1) := by decide +kernel
theorem dX1_meetIndex_29 : decode cX1_meetIndex 29 = .ok (.iconst 0, 1) := by decide +kernel
theorem dX1_meetIndex_30 : decode cX1_meetIndex 30 = .ok (.putfield 34, 3) := by decide +kernel
theorem dX1_meetIndex_33 : decode cX1_meetIndex 33 = .ok (.iload_n 1, 1) := by decide +kernel
theorem dX1_meetIndex_34 : decode cX1_meetIndex 34 = .ok (.iconst 2, 1) := by decide +kernel
theorem dX1_meetIndex_35 : decode cX1_meetIndex 35 = .ok (.if_icmp .ne 13, 3) := by decide +kernel
theorem dX1_meetIndex_38 : decode cX1_meetIndex 38 = .ok (.aload_n 0, 1) := by decide +kernel
theorem dX1_meetIndex_39 : decode cX1_meetIndex 39 = .ok (.iconst 0, 1) := by decide +kernel
theorem dX1_meetIndex_40 : decode cX1_meetIndex 40 = .ok (.putfield 34, 3) := by decide +kernel
theorem dX1_meetIndex_43 : decode cX1_meetIndex 43 = .ok (.aload_n 0, 1) := by decide +kernel
theorem dX1_meetIndex_44 : decode cX1_meetIndex 44 = .ok (.iconst 0, 1) := by decide +kernel
theorem dX1_meetIndex_45 : decode cX1_meetIndex 45 = .ok (.putfield 31, 3) := by decide +kernel
theorem dX1_meetIndex_48 : decode cX1_meetIndex 48 = .ok (.return_, 1) := by decide +kernel
set_option maxRecDepth 20000 in
theorem ggX1_stepsOfGate_X1_setting : GoodIn wsX1_stepsOfGate wsX1_setting := goodIn_r _ [9, 10, 29, 30, 31, 32, 33, 34, 35, 36, 37, 38, 39, 40, 41, 42, 43, 44] (by decide +kernel) (by decide +kernel)
set_option maxRecDepth 20000 in
theorem gX1_stepsOfGate_X1_setting : GoodIn wsX1_stepsOfGate (wsV RX1 103 RX1 yX1_setting wsX1_setting) := goodIn_app (goodIn_of _ (by decide +kernel)) ggX1_stepsOfGate_X1_setting
set_option maxRecDepth 20000 in
theorem ggX1_stepsOfGate_X1_logged : GoodIn wsX1_stepsOfGate wsX1_logged := goodIn_r _ [14, 15, 1, 2, 3, 4, 29, 30, 31, 32, 33, 34, 35, 36, 37, 38, 39, 40, 41, 42, 43, 44] (by decide +kernel) (by decide +kernel)
set_option maxRecDepth 20000 in
theorem gX1_stepsOfGate_X1_logged : GoodIn wsX1_stepsOfGate (wsV RX1 73 RX1 yX1_logged wsX1_logged) := goodIn_app (goodIn_of _ (by decide +kernel)) ggX1_stepsOfGate_X1_logged
set_option maxRecDepth 20000 in
theorem ggX1_stepsOfGate_X1_deedAt : GoodIn wsX1_stepsOfGate wsX1_deedAt := goodIn_r _ [19, 20, 21, 22, 8, 23, 15, 24, 25, 26, 27, 28, 11, 12, 13, 14, 1, 2, 3, 4, 29, 30, 31, 32, 33, 34, 35, 36, 37, 38, 39, 40, 41, 42, 43, 44] (by decide +kernel) (by decide +kernel)
set_option maxRecDepth 20000 in
theorem gX1_stepsOfGate_X1_deedAt : GoodIn wsX1_stepsOfGate (wsV RX1 128 RX1 yX1_deedAt wsX1_deedAt) := goodIn_app (goodIn_of _ (by decide +kernel)) ggX1_stepsOfGate_X1_deedAt
theorem dX1_stepsOfGate_0 : decode cX1_stepsOfGate 0 = .ok (.aload_n 0, 1) := by decide +kernel
theorem dX1_stepsOfGate_1 : decode cX1_stepsOfGate 1 = .ok (.iconst 3, 1) := by decide +kernel
theorem dX1_stepsOfGate_2 : decode cX1_stepsOfGate 2 = .ok (.invokevirtual 103, 3) := by decide +kernel
theorem dX1_stepsOfGate_5 : decode cX1_stepsOfGate 5 = .ok (.aload_n 0, 1) := by decide +kernel
theorem dX1_stepsOfGate_6 : decode cX1_stepsOfGate 6 = .ok (.invokevirtual 73, 3) := by decide +kernel
theorem dX1_stepsOfGate_9 : decode cX1_stepsOfGate 9 = .ok (.invokestatic 125, 3) := by decide +kernel
theorem dX1_stepsOfGate_12 : decode cX1_stepsOfGate 12 = .ok (.istore_n 1, 1) := by decide +kernel
theorem dX1_stepsOfGate_13 : decode cX1_stepsOfGate 13 = .ok (.iconst 0, 1) := by decide +kernel
theorem dX1_stepsOfGate_14 : decode cX1_stepsOfGate 14 = .ok (.istore_n 2, 1) := by decide +kernel
theorem dX1_stepsOfGate_15 : decode cX1_stepsOfGate 15 = .ok (.iconst 0, 1) := by decide +kernel
theorem dX1_stepsOfGate_16 : decode cX1_stepsOfGate 16 = .ok (.istore_n 3, 1) := by decide +kernel
theorem dX1_stepsOfGate_17 : decode cX1_stepsOfGate 17 = .ok (.iload_n 3, 1) := by decide +kernel
theorem dX1_stepsOfGate_18 : decode cX1_stepsOfGate 18 = .ok (.iload_n 1, 1) := by decide +kernel
theorem dX1_stepsOfGate_19 : decode cX1_stepsOfGate 19 = .ok (.if_icmp .ge 34, 3) := by decide +kernel
theorem dX1_stepsOfGate_22 : decode cX1_stepsOfGate 22 = .ok (.aload_n 0, 1) := by decide +kernel
theorem dX1_stepsOfGate_23 : decode cX1_stepsOfGate 23 = .ok (.iload_n 3, 1) := by decide +kernel
theorem dX1_stepsOfGate_24 : decode cX1_stepsOfGate 24 = .ok (.invokevirtual 128, 3) := by decide +kernel
theorem dX1_stepsOfGate_27 : decode cX1_stepsOfGate 27 = .ok (.istore 4, 2) := by decide +kernel
theorem dX1_stepsOfGate_29 : decode cX1_stepsOfGate 29 = .ok (.iload 4, 2) := by decide +kernel
theorem dX1_stepsOfGate_31 : decode cX1_stepsOfGate 31 = .ok (.iconst 1, 1) := by decide +kernel
theorem dX1_stepsOfGate_32 : decode cX1_stepsOfGate 32 = .ok (.if_icmp .ne 6, 3) := by decide +kernel
theorem dX1_stepsOfGate_35 : decode cX1_stepsOfGate 35 = .ok (.iinc 2 1, 3) := by decide +kernel
theorem dX1_stepsOfGate_38 : decode cX1_stepsOfGate 38 = .ok (.iload 4, 2) := by decide +kernel
theorem dX1_stepsOfGate_40 : decode cX1_stepsOfGate 40 = .ok (.iconst 2, 1) := by decide +kernel
theorem dX1_stepsOfGate_41 : decode cX1_stepsOfGate 41 = .ok (.if_icmp .ne 6, 3) := by decide +kernel
theorem dX1_stepsOfGate_44 : decode cX1_stepsOfGate 44 = .ok (.iinc 2 (-1), 3) := by decide +kernel
theorem dX1_stepsOfGate_47 : decode cX1_stepsOfGate 47 = .ok (.iinc 3 1, 3) := by decide +kernel
theorem dX1_stepsOfGate_50 : decode cX1_stepsOfGate 50 = .ok (.goto (-33), 3) := by decide +kernel
theorem dX1_stepsOfGate_53 : decode cX1_stepsOfGate 53 = .ok (.iload_n 2, 1) := by decide +kernel
theorem dX1_stepsOfGate_54 : decode cX1_stepsOfGate 54 = .ok (.ireturn, 1) := by decide +kernel
theorem dX1_logged_0 : decode cX1_logged 0 = .ok (.aload_n 0, 1) := by decide +kernel
theorem dX1_logged_1 : decode cX1_logged 1 = .ok (.getfield 27, 3) := by decide +kernel
theorem dX1_logged_4 : decode cX1_logged 4 = .ok (.sipush 200, 3) := by decide +kernel
theorem dX1_logged_7 : decode cX1_logged 7 = .ok (.invokestatic 125, 3) := by decide +kernel
theorem dX1_logged_10 : decode cX1_logged 10 = .ok (.ireturn, 1) := by decide +kernel
set_option maxRecDepth 20000 in
theorem ggX1_hasTick_X1_logged : GoodIn wsX1_hasTick wsX1_logged := goodIn_r _ [5, 6, 7, 8, 9, 10, 11, 12, 13, 14, 15, 16, 17, 18, 19, 20, 21, 22, 23, 24, 25, 26] (by decide +kernel) (by decide +kernel)
set_option maxRecDepth 20000 in
theorem gX1_hasTick_X1_logged : GoodIn wsX1_hasTick (wsV RX1 73 RX1 yX1_logged wsX1_logged) := goodIn_app (goodIn_of _ (by decide +kernel)) ggX1_hasTick_X1_logged
theorem dX1_hasTick_0 : decode cX1_hasTick 0 = .ok (.iload_n 1, 1) := by decide +kernel
theorem dX1_hasTick_1 : decode cX1_hasTick 1 = .ok (.ifCond .lt 15, 3) := by decide +kernel
theorem dX1_hasTick_4 : decode cX1_hasTick 4 = .ok (.iload_n 1, 1) := by decide +kernel
theorem dX1_hasTick_5 : decode cX1_hasTick 5 = .ok (.aload_n 0, 1) := by decide +kernel
theorem dX1_hasTick_6 : decode cX1_hasTick 6 = .ok (.invokevirtual 73, 3) := by decide +kernel
theorem dX1_hasTick_9 : decode cX1_hasTick 9 = .ok (.if_icmp .ge 7, 3) := by decide +kernel
theorem dX1_hasTick_12 : decode cX1_hasTick 12 = .ok (.iconst 1, 1) := by decide +kernel
theorem dX1_hasTick_13 : decode cX1_hasTick 13 = .ok (.goto 4, 3) := by decide +kernel
theorem dX1_hasTick_16 : decode cX1_hasTick 16 = .ok (.iconst 0, 1) := by decide +kernel
theorem dX1_hasTick_17 : decode cX1_hasTick 17 = .ok (.ireturn, 1) := by decide +kernel
set_option maxRecDepth 20000 in
theorem ggX1_entry_X1_hasTick : GoodIn wsX1_entry wsX1_hasTick := goodIn_r _ [7, 8, 9, 10, 6, 11, 1, 12, 13, 14, 15, 16, 17, 18, 19, 20, 21, 22, 23, 24, 25, 26, 27, 28, 29, 30, 31] (by decide +kernel) (by decide +kernel)
set_option maxRecDepth 20000 in
theorem gX1_entry_X1_hasTick : GoodIn wsX1_entry (wsV RX1 131 RX1 yX1_hasTick wsX1_hasTick) := goodIn_app (goodIn_of _ (by decide +kernel)) ggX1_entry_X1_hasTick
theorem dX1_entry_0 : decode cX1_entry 0 = .ok (.aload_n 0, 1) := by decide +kernel
theorem dX1_entry_1 : decode cX1_entry 1 = .ok (.iload_n 1, 1) := by decide +kernel
theorem dX1_entry_2 : decode cX1_entry 2 = .ok (.invokevirtual 131, 3) := by decide +kernel
theorem dX1_entry_5 : decode cX1_entry 5 = .ok (.ifCond .ne 5, 3) := by decide +kernel
theorem dX1_entry_8 : decode cX1_entry 8 = .ok (.iconst 0, 1) := by decide +kernel
theorem dX1_entry_9 : decode cX1_entry 9 = .ok (.ireturn, 1) := by decide +kernel
theorem dX1_entry_10 : decode cX1_entry 10 = .ok (.aload_n 0, 1) := by decide +kernel
theorem dX1_entry_11 : decode cX1_entry 11 = .ok (.getfield 27, 3) := by decide +kernel
theorem dX1_entry_14 : decode cX1_entry 14 = .ok (.iconst 1, 1) := by decide +kernel
theorem dX1_entry_15 : decode cX1_entry 15 = .ok (.isub, 1) := by decide +kernel
theorem dX1_entry_16 : decode cX1_entry 16 = .ok (.iload_n 1, 1) := by decide +kernel
theorem dX1_entry_17 : decode cX1_entry 17 = .ok (.isub, 1) := by decide +kernel
theorem dX1_entry_18 : decode cX1_entry 18 = .ok (.sipush 200, 3) := by decide +kernel
theorem dX1_entry_21 : decode cX1_entry 21 = .ok (.irem, 1) := by decide +kernel
theorem dX1_entry_22 : decode cX1_entry 22 = .ok (.istore_n 2, 1) := by decide +kernel
theorem dX1_entry_23 : decode cX1_entry 23 = .ok (.iload_n 2, 1) := by decide +kernel
theorem dX1_entry_24 : decode cX1_entry 24 = .ok (.ifCond .lt 19, 3) := by decide +kernel
theorem dX1_entry_27 : decode cX1_entry 27 = .ok (.iload_n 2, 1) := by decide +kernel
theorem dX1_entry_28 : decode cX1_entry 28 = .ok (.sipush 200, 3) := by decide +kernel
theorem dX1_entry_31 : decode cX1_entry 31 = .ok (.if_icmp .ge 12, 3) := by decide +kernel
theorem dX1_entry_34 : decode cX1_entry 34 = .ok (.aload_n 0, 1) := by decide +kernel
theorem dX1_entry_35 : decode cX1_entry 35 = .ok (.getfield 15, 3) := by decide +kernel
theorem dX1_entry_38 : decode cX1_entry 38 = .ok (.iload_n 2, 1) := by decide +kernel
theorem dX1_entry_39 : decode cX1_entry 39 = .ok (.iaload, 1) := by decide +kernel
theorem dX1_entry_40 : decode cX1_entry 40 = .ok (.goto 4, 3) := by decide +kernel
theorem dX1_entry_43 : decode cX1_entry 43 = .ok (.iconst 0, 1) := by decide +kernel
theorem dX1_entry_44 : decode cX1_entry 44 = .ok (.ireturn, 1) := by decide +kernel
set_option maxRecDepth 20000 in
theorem ggX1_pairAt_X1_entry : GoodIn wsX1_pairAt wsX1_entry := goodIn_r _ [5, 6, 7, 8, 9, 10, 4, 11, 12, 13, 14, 15, 16, 17, 18, 19, 20, 21, 22, 23, 24, 25, 26, 27, 28, 29, 30, 31, 32, 33, 34, 35] (by decide +kernel) (by decide +kernel)
set_option maxRecDepth 20000 in
theorem gX1_pairAt_X1_entry : GoodIn wsX1_pairAt (wsV RX1 135 RX1 yX1_entry wsX1_entry) := goodIn_app (goodIn_of _ (by decide +kernel)) ggX1_pairAt_X1_entry
theorem dX1_pairAt_0 : decode cX1_pairAt 0 = .ok (.aload_n 0, 1) := by decide +kernel
theorem dX1_pairAt_1 : decode cX1_pairAt 1 = .ok (.iload_n 1, 1) := by decide +kernel
theorem dX1_pairAt_2 : decode cX1_pairAt 2 = .ok (.invokevirtual 135, 3) := by decide +kernel
theorem dX1_pairAt_5 : decode cX1_pairAt 5 = .ok (.iconst 3, 1) := by decide +kernel
theorem dX1_pairAt_6 : decode cX1_pairAt 6 = .ok (.iand, 1) := by decide +kernel
theorem dX1_pairAt_7 : decode cX1_pairAt 7 = .ok (.ireturn, 1) := by decide +kernel
set_option maxRecDepth 20000 in
theorem ggX1_indexAt_X1_entry : GoodIn wsX1_indexAt wsX1_entry := goodIn_r _ [5, 6, 7, 8, 9, 10, 4, 11, 12, 13, 14, 15, 16, 17, 18, 19, 20, 21, 22, 23, 24, 25, 26, 27, 28, 29, 30, 31, 32, 33, 34, 35] (by decide +kernel) (by decide +kernel)
set_option maxRecDepth 20000 in
theorem gX1_indexAt_X1_entry : GoodIn wsX1_indexAt (wsV RX1 135 RX1 yX1_entry wsX1_entry) := goodIn_app (goodIn_of _ (by decide +kernel)) ggX1_indexAt_X1_entry
theorem dX1_indexAt_0 : decode cX1_indexAt 0 = .ok (.aload_n 0, 1) := by decide +kernel
theorem dX1_indexAt_1 : decode cX1_indexAt 1 = .ok (.iload_n 1, 1) := by decide +kernel
theorem dX1_indexAt_2 : decode cX1_indexAt 2 = .ok (.invokevirtual 135, 3) := by decide +kernel
theorem dX1_indexAt_5 : decode cX1_indexAt 5 = .ok (.iconst 2, 1) := by decide +kernel
theorem dX1_indexAt_6 : decode cX1_indexAt 6 = .ok (.ishr, 1) := by decide +kernel
theorem dX1_indexAt_7 : decode cX1_indexAt 7 = .ok (.iconst 1, 1) := by decide +kernel
theorem dX1_indexAt_8 : decode cX1_indexAt 8 = .ok (.iand, 1) := by decide +kernel
theorem dX1_indexAt_9 : decode cX1_indexAt 9 = .ok (.ireturn, 1) := by decide +kernel
set_option maxRecDepth 20000 in
theorem ggX1_deedAt_X1_entry : GoodIn wsX1_deedAt wsX1_entry := goodIn_r _ [5, 6, 7, 8, 9, 10, 4, 11, 12, 13, 14, 15, 16, 17, 18, 19, 20, 21, 22, 23, 24, 25, 26, 27, 28, 29, 30, 31, 32, 33, 34, 35] (by decide +kernel) (by decide +kernel)
set_option maxRecDepth 20000 in
theorem gX1_deedAt_X1_entry : GoodIn wsX1_deedAt (wsV RX1 135 RX1 yX1_entry wsX1_entry) := goodIn_app (goodIn_of _ (by decide +kernel)) ggX1_deedAt_X1_entry
theorem dX1_deedAt_0 : decode cX1_deedAt 0 = .ok (.aload_n 0, 1) := by decide +kernel
theorem dX1_deedAt_1 : decode cX1_deedAt 1 = .ok (.iload_n 1, 1) := by decide +kernel
theorem dX1_deedAt_2 : decode cX1_deedAt 2 = .ok (.invokevirtual 135, 3) := by decide +kernel
theorem dX1_deedAt_5 : decode cX1_deedAt 5 = .ok (.iconst 3, 1) := by decide +kernel
theorem dX1_deedAt_6 : decode cX1_deedAt 6 = .ok (.ishr, 1) := by decide +kernel
theorem dX1_deedAt_7 : decode cX1_deedAt 7 = .ok (.ireturn, 1) := by decide +kernel
theorem dX1_orderOf_0 : decode cX1_orderOf 0 = .ok (.iload_n 0, 1) := by decide +kernel
theorem dX1_orderOf_1 : decode cX1_orderOf 1 = .ok (.iload_n 0, 1) := by decide +kernel
theorem dX1_orderOf_2 : decode cX1_orderOf 2 = .ok (.iconst 1, 1) := by decide +kernel
theorem dX1_orderOf_3 : decode cX1_orderOf 3 = .ok (.ishr, 1) := by decide +kernel
theorem dX1_orderOf_4 : decode cX1_orderOf 4 = .ok (.ixor, 1) := by decide +kernel
theorem dX1_orderOf_5 : decode cX1_orderOf 5 = .ok (.ireturn, 1) := by decide +kernel
theorem dX1_pairAlong_0 : decode cX1_pairAlong 0 = .ok (.iload_n 0, 1) := by decide +kernel
theorem dX1_pairAlong_1 : decode cX1_pairAlong 1 = .ok (.iconst 3, 1) := by decide +kernel
theorem dX1_pairAlong_2 : decode cX1_pairAlong 2 = .ok (.iand, 1) := by decide +kernel
theorem dX1_pairAlong_3 : decode cX1_pairAlong 3 = .ok (.istore_n 1, 1) := by decide +kernel
theorem dX1_pairAlong_4 : decode cX1_pairAlong 4 = .ok (.iload_n 1, 1) := by decide +kernel
theorem dX1_pairAlong_5 : decode cX1_pairAlong 5 = .ok (.iload_n 1, 1) := by decide +kernel
theorem dX1_pairAlong_6 : decode cX1_pairAlong 6 = .ok (.iconst 1, 1) := by decide +kernel
theorem dX1_pairAlong_7 : decode cX1_pairAlong 7 = .ok (.ishr, 1) := by decide +kernel
theorem dX1_pairAlong_8 : decode cX1_pairAlong 8 = .ok (.ixor, 1) := by decide +kernel
theorem dX1_pairAlong_9 : decode cX1_pairAlong 9 = .ok (.ireturn, 1) := by decide +kernel
theorem dX1_leftOver_0 : decode cX1_leftOver 0 = .ok (.iload_n 1, 1) := by decide +kernel
theorem dX1_leftOver_1 : decode cX1_leftOver 1 = .ok (.ifCond .le 11, 3) := by decide +kernel
theorem dX1_leftOver_4 : decode cX1_leftOver 4 = .ok (.iload_n 0, 1) := by decide +kernel
theorem dX1_leftOver_5 : decode cX1_leftOver 5 = .ok (.iload_n 1, 1) := by decide +kernel
theorem dX1_leftOver_6 : decode cX1_leftOver 6 = .ok (.iadd, 1) := by decide +kernel
theorem dX1_leftOver_7 : decode cX1_leftOver 7 = .ok (.iload_n 1, 1) := by decide +kernel
theorem dX1_leftOver_8 : decode cX1_leftOver 8 = .ok (.irem, 1) := by decide +kernel
theorem dX1_leftOver_9 : decode cX1_leftOver 9 = .ok (.goto 4, 3) := by decide +kernel
theorem dX1_leftOver_12 : decode cX1_leftOver 12 = .ok (.iconst 0, 1) := by decide +kernel
theorem dX1_leftOver_13 : decode cX1_leftOver 13 = .ok (.ireturn, 1) := by decide +kernel
