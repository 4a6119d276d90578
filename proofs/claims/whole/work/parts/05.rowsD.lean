theorem dX6_count_73 : decode cX6_count 73 = .ok (.ireturn, 1) := by decide +kernel
theorem dX6_gated_0 : decode cX6_gated 0 = .ok (.iconst 0, 1) := by decide +kernel
theorem dX6_gated_1 : decode cX6_gated 1 = .ok (.istore_n 1, 1) := by decide +kernel
theorem dX6_gated_2 : decode cX6_gated 2 = .ok (.iconst 0, 1) := by decide +kernel
theorem dX6_gated_3 : decode cX6_gated 3 = .ok (.istore_n 2, 1) := by decide +kernel
theorem dX6_gated_4 : decode cX6_gated 4 = .ok (.iload_n 2, 1) := by decide +kernel
theorem dX6_gated_5 : decode cX6_gated 5 = .ok (.aload_n 0, 1) := by decide +kernel
theorem dX6_gated_6 : decode cX6_gated 6 = .ok (.getfield 7, 3) := by decide +kernel
theorem dX6_gated_9 : decode cX6_gated 9 = .ok (.iconst 3, 1) := by decide +kernel
theorem dX6_gated_10 : decode cX6_gated 10 = .ok (.iaload, 1) := by decide +kernel
theorem dX6_gated_11 : decode cX6_gated 11 = .ok (.if_icmp .ge 54, 3) := by decide +kernel
theorem dX6_gated_14 : decode cX6_gated 14 = .ok (.iload_n 2, 1) := by decide +kernel
theorem dX6_gated_15 : decode cX6_gated 15 = .ok (.aload_n 0, 1) := by decide +kernel
theorem dX6_gated_16 : decode cX6_gated 16 = .ok (.getfield 7, 3) := by decide +kernel
theorem dX6_gated_19 : decode cX6_gated 19 = .ok (.bipush 14, 2) := by decide +kernel
theorem dX6_gated_21 : decode cX6_gated 21 = .ok (.iaload, 1) := by decide +kernel
theorem dX6_gated_22 : decode cX6_gated 22 = .ok (.if_icmp .ge 43, 3) := by decide +kernel
theorem dX6_gated_25 : decode cX6_gated 25 = .ok (.aload_n 0, 1) := by decide +kernel
theorem dX6_gated_26 : decode cX6_gated 26 = .ok (.getfield 7, 3) := by decide +kernel
theorem dX6_gated_29 : decode cX6_gated 29 = .ok (.bipush 21, 2) := by decide +kernel
theorem dX6_gated_31 : decode cX6_gated 31 = .ok (.iload_n 2, 1) := by decide +kernel
theorem dX6_gated_32 : decode cX6_gated 32 = .ok (.iadd, 1) := by decide +kernel
theorem dX6_gated_33 : decode cX6_gated 33 = .ok (.iaload, 1) := by decide +kernel
theorem dX6_gated_34 : decode cX6_gated 34 = .ok (.iconst 4, 1) := by decide +kernel
theorem dX6_gated_35 : decode cX6_gated 35 = .ok (.irem, 1) := by decide +kernel
theorem dX6_gated_36 : decode cX6_gated 36 = .ok (.istore_n 3, 1) := by decide +kernel
theorem dX6_gated_37 : decode cX6_gated 37 = .ok (.iload_n 1, 1) := by decide +kernel
theorem dX6_gated_38 : decode cX6_gated 38 = .ok (.iload_n 3, 1) := by decide +kernel
theorem dX6_gated_39 : decode cX6_gated 39 = .ok (.iconst 1, 1) := by decide +kernel
theorem dX6_gated_40 : decode cX6_gated 40 = .ok (.if_icmp .ne 7, 3) := by decide +kernel
theorem dX6_gated_43 : decode cX6_gated 43 = .ok (.iconst 1, 1) := by decide +kernel
theorem dX6_gated_44 : decode cX6_gated 44 = .ok (.goto 13, 3) := by decide +kernel
theorem dX6_gated_47 : decode cX6_gated 47 = .ok (.iload_n 3, 1) := by decide +kernel
theorem dX6_gated_48 : decode cX6_gated 48 = .ok (.iconst 2, 1) := by decide +kernel
theorem dX6_gated_49 : decode cX6_gated 49 = .ok (.if_icmp .ne 7, 3) := by decide +kernel
theorem dX6_gated_52 : decode cX6_gated 52 = .ok (.iconst (-1), 1) := by decide +kernel
theorem dX6_gated_53 : decode cX6_gated 53 = .ok (.goto 4, 3) := by decide +kernel
theorem dX6_gated_56 : decode cX6_gated 56 = .ok (.iconst 0, 1) := by decide +kernel
theorem dX6_gated_57 : decode cX6_gated 57 = .ok (.iadd, 1) := by decide +kernel
theorem dX6_gated_58 : decode cX6_gated 58 = .ok (.istore_n 1, 1) := by decide +kernel
theorem dX6_gated_59 : decode cX6_gated 59 = .ok (.iinc 2 1, 3) := by decide +kernel
theorem dX6_gated_62 : decode cX6_gated 62 = .ok (.goto (-58), 3) := by decide +kernel
theorem dX6_gated_65 : decode cX6_gated 65 = .ok (.iload_n 1, 1) := by decide +kernel
theorem dX6_gated_66 : decode cX6_gated 66 = .ok (.ireturn, 1) := by decide +kernel
theorem dX6_period_0 : decode cX6_period 0 = .ok (.aload_n 0, 1) := by decide +kernel
theorem dX6_period_1 : decode cX6_period 1 = .ok (.getfield 7, 3) := by decide +kernel
theorem dX6_period_4 : decode cX6_period 4 = .ok (.bipush 19, 2) := by decide +kernel
theorem dX6_period_6 : decode cX6_period 6 = .ok (.iaload, 1) := by decide +kernel
theorem dX6_period_7 : decode cX6_period 7 = .ok (.bipush (-6), 2) := by decide +kernel
theorem dX6_period_9 : decode cX6_period 9 = .ok (.if_icmp .eq 38, 3) := by decide +kernel
theorem dX6_period_12 : decode cX6_period 12 = .ok (.aload_n 0, 1) := by decide +kernel
theorem dX6_period_13 : decode cX6_period 13 = .ok (.getfield 7, 3) := by decide +kernel
theorem dX6_period_16 : decode cX6_period 16 = .ok (.bipush 20, 2) := by decide +kernel
theorem dX6_period_18 : decode cX6_period 18 = .ok (.iaload, 1) := by decide +kernel
theorem dX6_period_19 : decode cX6_period 19 = .ok (.aload_n 0, 1) := by decide +kernel
theorem dX6_period_20 : decode cX6_period 20 = .ok (.getfield 7, 3) := by decide +kernel
theorem dX6_period_23 : decode cX6_period 23 = .ok (.bipush 9, 2) := by decide +kernel
theorem dX6_period_25 : decode cX6_period 25 = .ok (.iaload, 1) := by decide +kernel
theorem dX6_period_26 : decode cX6_period 26 = .ok (.if_icmp .ne 21, 3) := by decide +kernel
theorem dX6_period_29 : decode cX6_period 29 = .ok (.aload_n 0, 1) := by decide +kernel
theorem dX6_period_30 : decode cX6_period 30 = .ok (.getfield 7, 3) := by decide +kernel
theorem dX6_period_33 : decode cX6_period 33 = .ok (.bipush 18, 2) := by decide +kernel
theorem dX6_period_35 : decode cX6_period 35 = .ok (.iaload, 1) := by decide +kernel
theorem dX6_period_36 : decode cX6_period 36 = .ok (.aload_n 0, 1) := by decide +kernel
theorem dX6_period_37 : decode cX6_period 37 = .ok (.getfield 7, 3) := by decide +kernel
theorem dX6_period_40 : decode cX6_period 40 = .ok (.bipush 19, 2) := by decide +kernel
theorem dX6_period_42 : decode cX6_period 42 = .ok (.iaload, 1) := by decide +kernel
theorem dX6_period_43 : decode cX6_period 43 = .ok (.isub, 1) := by decide +kernel
theorem dX6_period_44 : decode cX6_period 44 = .ok (.goto 5, 3) := by decide +kernel
theorem dX6_period_47 : decode cX6_period 47 = .ok (.bipush (-6), 2) := by decide +kernel
theorem dX6_period_49 : decode cX6_period 49 = .ok (.ireturn, 1) := by decide +kernel
set_option maxRecDepth 20000 in
theorem ggX6_speed_X6_gated : GoodIn wsX6_speed wsX6_gated := goodIn_r _ [5, 6, 11, 12, 13, 14, 15, 16, 17, 18, 19, 20, 21, 22, 23] (by decide +kernel) (by decide +kernel)
set_option maxRecDepth 20000 in
theorem gX6_speed_X6_gated : GoodIn wsX6_speed (wsV RX6 112 RX6 yX6_gated wsX6_gated) := goodIn_app (goodIn_of _ (by decide +kernel)) ggX6_speed_X6_gated
set_option maxRecDepth 20000 in
theorem ggX6_speed_X6_period : GoodIn wsX6_speed wsX6_period := goodIn_r _ [10, 6, 11, 12, 13, 14, 15, 16, 17, 18, 19, 20, 21, 22, 23] (by decide +kernel) (by decide +kernel)
set_option maxRecDepth 20000 in
theorem gX6_speed_X6_period : GoodIn wsX6_speed (wsV RX6 115 RX6 yX6_period wsX6_period) := goodIn_app (goodIn_of _ (by decide +kernel)) ggX6_speed_X6_period
theorem dX6_speed_0 : decode cX6_speed 0 = .ok (.iload_n 1, 1) := by decide +kernel
theorem dX6_speed_1 : decode cX6_speed 1 = .ok (.ifCond .ne 14, 3) := by decide +kernel
theorem dX6_speed_4 : decode cX6_speed 4 = .ok (.aload_n 0, 1) := by decide +kernel
theorem dX6_speed_5 : decode cX6_speed 5 = .ok (.invokevirtual 112, 3) := by decide +kernel
theorem dX6_speed_8 : decode cX6_speed 8 = .ok (.sipush 1000, 3) := by decide +kernel
theorem dX6_speed_11 : decode cX6_speed 11 = .ok (.iadd, 1) := by decide +kernel
theorem dX6_speed_12 : decode cX6_speed 12 = .ok (.goto 17, 3) := by decide +kernel
theorem dX6_speed_15 : decode cX6_speed 15 = .ok (.iload_n 1, 1) := by decide +kernel
theorem dX6_speed_16 : decode cX6_speed 16 = .ok (.iconst 1, 1) := by decide +kernel
theorem dX6_speed_17 : decode cX6_speed 17 = .ok (.if_icmp .ne 10, 3) := by decide +kernel
theorem dX6_speed_20 : decode cX6_speed 20 = .ok (.aload_n 0, 1) := by decide +kernel
theorem dX6_speed_21 : decode cX6_speed 21 = .ok (.invokevirtual 115, 3) := by decide +kernel
theorem dX6_speed_24 : decode cX6_speed 24 = .ok (.goto 5, 3) := by decide +kernel
theorem dX6_speed_27 : decode cX6_speed 27 = .ok (.bipush (-2), 2) := by decide +kernel
theorem dX6_speed_29 : decode cX6_speed 29 = .ok (.ireturn, 1) := by decide +kernel
set_option maxRecDepth 20000 in
theorem ggX6_rate_X6_period : GoodIn wsX6_rate wsX6_period := goodIn_r _ [7, 1, 20, 21, 22, 23, 24, 25, 26, 27, 28, 29, 30, 31, 32] (by decide +kernel) (by decide +kernel)
set_option maxRecDepth 20000 in
theorem gX6_rate_X6_period : GoodIn wsX6_rate (wsV RX6 115 RX6 yX6_period wsX6_period) := goodIn_app (goodIn_of _ (by decide +kernel)) ggX6_rate_X6_period
set_option maxRecDepth 20000 in
theorem ggX6_rate_Jxe99ae_doubleToLongBits_ccdee : GoodIn wsX6_rate wsJxe99ae_doubleToLongBits_ccdee := goodIn_r _ [11, 12, 13, 14, 15, 16, 17, 18, 10, 19] (by decide +kernel) (by decide +kernel)
set_option maxRecDepth 20000 in
theorem gX6_rate_Jxe99ae_doubleToLongBits_ccdee : GoodIn wsX6_rate (va_wsS RX6 120 yJxe99ae_doubleToLongBits_ccdee wsJxe99ae_doubleToLongBits_ccdee) := goodIn_app (goodIn_of _ (by decide +kernel)) ggX6_rate_Jxe99ae_doubleToLongBits_ccdee
theorem dX6_rate_0 : decode cX6_rate 0 = .ok (.aload_n 0, 1) := by decide +kernel
theorem dX6_rate_1 : decode cX6_rate 1 = .ok (.invokevirtual 115, 3) := by decide +kernel
theorem dX6_rate_4 : decode cX6_rate 4 = .ok (.bipush (-6), 2) := by decide +kernel
theorem dX6_rate_6 : decode cX6_rate 6 = .ok (.if_icmp .ne 5, 3) := by decide +kernel
theorem dX6_rate_9 : decode cX6_rate 9 = .ok (.lconst 0, 1) := by decide +kernel
theorem dX6_rate_10 : decode cX6_rate 10 = .ok (.lreturn, 1) := by decide +kernel
theorem dX6_rate_11 : decode cX6_rate 11 = .ok (.aload_n 0, 1) := by decide +kernel
theorem dX6_rate_12 : decode cX6_rate 12 = .ok (.getfield 7, 3) := by decide +kernel
theorem dX6_rate_15 : decode cX6_rate 15 = .ok (.bipush 9, 2) := by decide +kernel
theorem dX6_rate_17 : decode cX6_rate 17 = .ok (.iaload, 1) := by decide +kernel
theorem dX6_rate_18 : decode cX6_rate 18 = .ok (.iconst 1, 1) := by decide +kernel
theorem dX6_rate_19 : decode cX6_rate 19 = .ok (.if_icmp .ne 7, 3) := by decide +kernel
theorem dX6_rate_22 : decode cX6_rate 22 = .ok (.dconst 1, 1) := by decide +kernel
theorem dX6_rate_23 : decode cX6_rate 23 = .ok (.goto 6, 3) := by decide +kernel
theorem dX6_rate_26 : decode cX6_rate 26 = .ok (.ldc2_w 118, 3) := by decide +kernel
theorem dX6_rate_29 : decode cX6_rate 29 = .ok (.dstore_n 1, 1) := by decide +kernel
theorem dX6_rate_30 : decode cX6_rate 30 = .ok (.dload_n 1, 1) := by decide +kernel
theorem dX6_rate_31 : decode cX6_rate 31 = .ok (.aload_n 0, 1) := by decide +kernel
theorem dX6_rate_32 : decode cX6_rate 32 = .ok (.invokevirtual 115, 3) := by decide +kernel
theorem dX6_rate_35 : decode cX6_rate 35 = .ok (.aload_n 0, 1) := by decide +kernel
theorem dX6_rate_36 : decode cX6_rate 36 = .ok (.getfield 7, 3) := by decide +kernel
theorem dX6_rate_39 : decode cX6_rate 39 = .ok (.iconst 0, 1) := by decide +kernel
theorem dX6_rate_40 : decode cX6_rate 40 = .ok (.iaload, 1) := by decide +kernel
theorem dX6_rate_41 : decode cX6_rate 41 = .ok (.imul, 1) := by decide +kernel
theorem dX6_rate_42 : decode cX6_rate 42 = .ok (.i2d, 1) := by decide +kernel
theorem dX6_rate_43 : decode cX6_rate 43 = .ok (.ddiv, 1) := by decide +kernel
theorem dX6_rate_44 : decode cX6_rate 44 = .ok (.invokestatic 120, 3) := by decide +kernel
theorem dX6_rate_47 : decode cX6_rate 47 = .ok (.lreturn, 1) := by decide +kernel
set_option maxRecDepth 20000 in
theorem ggX6_noise_Jxf58ca_floatToIntBits_5c35a : GoodIn wsX6_noise wsJxf58ca_floatToIntBits_5c35a := goodIn_r _ [5, 6, 7, 8, 9, 10, 11, 12, 4, 13] (by decide +kernel) (by decide +kernel)
set_option maxRecDepth 20000 in
theorem gX6_noise_Jxf58ca_floatToIntBits_5c35a : GoodIn wsX6_noise (va_wsS RX6 126 yJxf58ca_floatToIntBits_5c35a wsJxf58ca_floatToIntBits_5c35a) := goodIn_app (goodIn_of _ (by decide +kernel)) ggX6_noise_Jxf58ca_floatToIntBits_5c35a
theorem dX6_noise_0 : decode cX6_noise 0 = .ok (.aload_n 0, 1) := by decide +kernel
theorem dX6_noise_1 : decode cX6_noise 1 = .ok (.getfield 7, 3) := by decide +kernel
theorem dX6_noise_4 : decode cX6_noise 4 = .ok (.bipush 10, 2) := by decide +kernel
theorem dX6_noise_6 : decode cX6_noise 6 = .ok (.iaload, 1) := by decide +kernel
theorem dX6_noise_7 : decode cX6_noise 7 = .ok (.aload_n 0, 1) := by decide +kernel
theorem dX6_noise_8 : decode cX6_noise 8 = .ok (.getfield 7, 3) := by decide +kernel
theorem dX6_noise_11 : decode cX6_noise 11 = .ok (.bipush 11, 2) := by decide +kernel
theorem dX6_noise_13 : decode cX6_noise 13 = .ok (.iaload, 1) := by decide +kernel
theorem dX6_noise_14 : decode cX6_noise 14 = .ok (.iadd, 1) := by decide +kernel
theorem dX6_noise_15 : decode cX6_noise 15 = .ok (.aload_n 0, 1) := by decide +kernel
theorem dX6_noise_16 : decode cX6_noise 16 = .ok (.getfield 7, 3) := by decide +kernel
theorem dX6_noise_19 : decode cX6_noise 19 = .ok (.bipush 12, 2) := by decide +kernel
theorem dX6_noise_21 : decode cX6_noise 21 = .ok (.iaload, 1) := by decide +kernel
theorem dX6_noise_22 : decode cX6_noise 22 = .ok (.iadd, 1) := by decide +kernel
theorem dX6_noise_23 : decode cX6_noise 23 = .ok (.istore_n 1, 1) := by decide +kernel
theorem dX6_noise_24 : decode cX6_noise 24 = .ok (.iload_n 1, 1) := by decide +kernel
theorem dX6_noise_25 : decode cX6_noise 25 = .ok (.ifCond .ne 8, 3) := by decide +kernel
theorem dX6_noise_28 : decode cX6_noise 28 = .ok (.bipush (-6), 2) := by decide +kernel
theorem dX6_noise_30 : decode cX6_noise 30 = .ok (.goto 17, 3) := by decide +kernel
theorem dX6_noise_33 : decode cX6_noise 33 = .ok (.aload_n 0, 1) := by decide +kernel
theorem dX6_noise_34 : decode cX6_noise 34 = .ok (.getfield 7, 3) := by decide +kernel
theorem dX6_noise_37 : decode cX6_noise 37 = .ok (.bipush 12, 2) := by decide +kernel
theorem dX6_noise_39 : decode cX6_noise 39 = .ok (.iaload, 1) := by decide +kernel
theorem dX6_noise_40 : decode cX6_noise 40 = .ok (.i2f, 1) := by decide +kernel
theorem dX6_noise_41 : decode cX6_noise 41 = .ok (.iload_n 1, 1) := by decide +kernel
theorem dX6_noise_42 : decode cX6_noise 42 = .ok (.i2f, 1) := by decide +kernel
theorem dX6_noise_43 : decode cX6_noise 43 = .ok (.fdiv, 1) := by decide +kernel
theorem dX6_noise_44 : decode cX6_noise 44 = .ok (.invokestatic 126, 3) := by decide +kernel
theorem dX6_noise_47 : decode cX6_noise 47 = .ok (.ireturn, 1) := by decide +kernel
set_option maxRecDepth 20000 in
theorem ggX6_replayed_X6_copy : GoodIn wsX6_replayed wsX6_copy := goodIn_r _ [6] (by decide +kernel) (by decide +kernel)
set_option maxRecDepth 20000 in
theorem gX6_replayed_X6_copy : GoodIn wsX6_replayed (va_wsS RX6 85 yX6_copy wsX6_copy) := goodIn_app (goodIn_of _ (by decide +kernel)) ggX6_replayed_X6_copy
set_option maxRecDepth 20000 in
theorem ggX6_replayed_X6_beginsAnew : GoodIn wsX6_replayed wsX6_beginsAnew := goodIn_r _ [10, 1, 30, 31, 32, 33, 34, 35, 36, 37, 38, 39, 40, 41, 42] (by decide +kernel) (by decide +kernel)
set_option maxRecDepth 20000 in
theorem gX6_replayed_X6_beginsAnew : GoodIn wsX6_replayed (wsV RX6 31 RX6 yX6_beginsAnew wsX6_beginsAnew) := goodIn_app (goodIn_of _ (by decide +kernel)) ggX6_replayed_X6_beginsAnew
set_option maxRecDepth 20000 in
theorem ggX6_replayed_X6_ticks : GoodIn wsX6_replayed wsX6_ticks := goodIn_r _ [14, 1, 15, 16, 17, 5, 18, 19, 20, 21, 22, 23, 24, 25, 26, 27, 28, 29, 30, 31, 32, 33, 34, 35, 36, 37, 38, 39, 40, 41, 42] (by decide +kernel) (by decide +kernel)
set_option maxRecDepth 20000 in
theorem gX6_replayed_X6_ticks : GoodIn wsX6_replayed (wsV RX6 77 RX6 yX6_ticks wsX6_ticks) := goodIn_app (goodIn_of _ (by decide +kernel)) ggX6_replayed_X6_ticks
theorem dX6_replayed_0 : decode cX6_replayed 0 = .ok (.aload_n 0, 1) := by decide +kernel
theorem dX6_replayed_1 : decode cX6_replayed 1 = .ok (.getfield 7, 3) := by decide +kernel
theorem dX6_replayed_4 : decode cX6_replayed 4 = .ok (.aload_n 0, 1) := by decide +kernel
theorem dX6_replayed_5 : decode cX6_replayed 5 = .ok (.getfield 16, 3) := by decide +kernel
theorem dX6_replayed_8 : decode cX6_replayed 8 = .ok (.invokestatic 85, 3) := by decide +kernel
theorem dX6_replayed_11 : decode cX6_replayed 11 = .ok (.aload_n 0, 1) := by decide +kernel
theorem dX6_replayed_12 : decode cX6_replayed 12 = .ok (.invokevirtual 31, 3) := by decide +kernel
theorem dX6_replayed_15 : decode cX6_replayed 15 = .ok (.aload_n 0, 1) := by decide +kernel
theorem dX6_replayed_16 : decode cX6_replayed 16 = .ok (.getfield 7, 3) := by decide +kernel
theorem dX6_replayed_19 : decode cX6_replayed 19 = .ok (.iconst 2, 1) := by decide +kernel
theorem dX6_replayed_20 : decode cX6_replayed 20 = .ok (.iload_n 1, 1) := by decide +kernel
theorem dX6_replayed_21 : decode cX6_replayed 21 = .ok (.iastore, 1) := by decide +kernel
theorem dX6_replayed_22 : decode cX6_replayed 22 = .ok (.aload_n 0, 1) := by decide +kernel
theorem dX6_replayed_23 : decode cX6_replayed 23 = .ok (.getfield 16, 3) := by decide +kernel
theorem dX6_replayed_26 : decode cX6_replayed 26 = .ok (.bipush 14, 2) := by decide +kernel
theorem dX6_replayed_28 : decode cX6_replayed 28 = .ok (.iaload, 1) := by decide +kernel
theorem dX6_replayed_29 : decode cX6_replayed 29 = .ok (.iconst 1, 1) := by decide +kernel
theorem dX6_replayed_30 : decode cX6_replayed 30 = .ok (.isub, 1) := by decide +kernel
theorem dX6_replayed_31 : decode cX6_replayed 31 = .ok (.istore_n 3, 1) := by decide +kernel
theorem dX6_replayed_32 : decode cX6_replayed 32 = .ok (.iload_n 3, 1) := by decide +kernel
theorem dX6_replayed_33 : decode cX6_replayed 33 = .ok (.ifCond .lt 40, 3) := by decide +kernel
theorem dX6_replayed_36 : decode cX6_replayed 36 = .ok (.aload_n 0, 1) := by decide +kernel
theorem dX6_replayed_37 : decode cX6_replayed 37 = .ok (.aload_n 0, 1) := by decide +kernel
theorem dX6_replayed_38 : decode cX6_replayed 38 = .ok (.getfield 16, 3) := by decide +kernel
theorem dX6_replayed_41 : decode cX6_replayed 41 = .ok (.bipush 21, 2) := by decide +kernel
theorem dX6_replayed_43 : decode cX6_replayed 43 = .ok (.iload_n 3, 1) := by decide +kernel
theorem dX6_replayed_44 : decode cX6_replayed 44 = .ok (.iadd, 1) := by decide +kernel
theorem dX6_replayed_45 : decode cX6_replayed 45 = .ok (.iaload, 1) := by decide +kernel
theorem dX6_replayed_46 : decode cX6_replayed 46 = .ok (.bipush 8, 2) := by decide +kernel
theorem dX6_replayed_48 : decode cX6_replayed 48 = .ok (.idiv, 1) := by decide +kernel
theorem dX6_replayed_49 : decode cX6_replayed 49 = .ok (.aload_n 0, 1) := by decide +kernel
theorem dX6_replayed_50 : decode cX6_replayed 50 = .ok (.getfield 16, 3) := by decide +kernel
theorem dX6_replayed_53 : decode cX6_replayed 53 = .ok (.bipush 21, 2) := by decide +kernel
theorem dX6_replayed_55 : decode cX6_replayed 55 = .ok (.iload_n 3, 1) := by decide +kernel
theorem dX6_replayed_56 : decode cX6_replayed 56 = .ok (.iadd, 1) := by decide +kernel
theorem dX6_replayed_57 : decode cX6_replayed 57 = .ok (.iaload, 1) := by decide +kernel
theorem dX6_replayed_58 : decode cX6_replayed 58 = .ok (.iconst 4, 1) := by decide +kernel
theorem dX6_replayed_59 : decode cX6_replayed 59 = .ok (.idiv, 1) := by decide +kernel
theorem dX6_replayed_60 : decode cX6_replayed 60 = .ok (.iconst 2, 1) := by decide +kernel
theorem dX6_replayed_61 : decode cX6_replayed 61 = .ok (.irem, 1) := by decide +kernel
theorem dX6_replayed_62 : decode cX6_replayed 62 = .ok (.invokevirtual 77, 3) := by decide +kernel
theorem dX6_replayed_65 : decode cX6_replayed 65 = .ok (.istore 4, 2) := by decide +kernel
theorem dX6_replayed_67 : decode cX6_replayed 67 = .ok (.iinc 3 (-1), 3) := by decide +kernel
theorem dX6_replayed_70 : decode cX6_replayed 70 = .ok (.goto (-38), 3) := by decide +kernel
theorem dX6_replayed_73 : decode cX6_replayed 73 = .ok (.iload_n 2, 1) := by decide +kernel
theorem dX6_replayed_74 : decode cX6_replayed 74 = .ok (.iconst 3, 1) := by decide +kernel
theorem dX6_replayed_75 : decode cX6_replayed 75 = .ok (.if_icmp .ne 13, 3) := by decide +kernel
theorem dX6_replayed_78 : decode cX6_replayed 78 = .ok (.aload_n 0, 1) := by decide +kernel
theorem dX6_replayed_79 : decode cX6_replayed 79 = .ok (.getfield 7, 3) := by decide +kernel
theorem dX6_replayed_82 : decode cX6_replayed 82 = .ok (.bipush 6, 2) := by decide +kernel
theorem dX6_replayed_84 : decode cX6_replayed 84 = .ok (.iaload, 1) := by decide +kernel
theorem dX6_replayed_85 : decode cX6_replayed 85 = .ok (.goto 12, 3) := by decide +kernel
theorem dX6_replayed_88 : decode cX6_replayed 88 = .ok (.aload_n 0, 1) := by decide +kernel
theorem dX6_replayed_89 : decode cX6_replayed 89 = .ok (.getfield 7, 3) := by decide +kernel
theorem dX6_replayed_92 : decode cX6_replayed 92 = .ok (.bipush 10, 2) := by decide +kernel
theorem dX6_replayed_94 : decode cX6_replayed 94 = .ok (.iload_n 2, 1) := by decide +kernel
theorem dX6_replayed_95 : decode cX6_replayed 95 = .ok (.iadd, 1) := by decide +kernel
theorem dX6_replayed_96 : decode cX6_replayed 96 = .ok (.iaload, 1) := by decide +kernel
theorem dX6_replayed_97 : decode cX6_replayed 97 = .ok (.istore_n 3, 1) := by decide +kernel
theorem dX6_replayed_98 : decode cX6_replayed 98 = .ok (.aload_n 0, 1) := by decide +kernel
theorem dX6_replayed_99 : decode cX6_replayed 99 = .ok (.getfield 16, 3) := by decide +kernel
theorem dX6_replayed_102 : decode cX6_replayed 102 = .ok (.aload_n 0, 1) := by decide +kernel
theorem dX6_replayed_103 : decode cX6_replayed 103 = .ok (.getfield 7, 3) := by decide +kernel
theorem dX6_replayed_106 : decode cX6_replayed 106 = .ok (.invokestatic 85, 3) := by decide +kernel
theorem dX6_replayed_109 : decode cX6_replayed 109 = .ok (.iload_n 3, 1) := by decide +kernel
theorem dX6_replayed_110 : decode cX6_replayed 110 = .ok (.ireturn, 1) := by decide +kernel
set_option maxRecDepth 20000 in
theorem ggX6_replay_X6_in : GoodIn wsX6_replay wsX6_in := goodIn_r _ [6] (by decide +kernel) (by decide +kernel)
set_option maxRecDepth 20000 in
theorem gX6_replay_X6_in : GoodIn wsX6_replay (va_wsS RX6 56 yX6_in wsX6_in) := goodIn_app (goodIn_of _ (by decide +kernel)) ggX6_replay_X6_in
set_option maxRecDepth 20000 in
theorem ggX6_replay_X6_replayed : GoodIn wsX6_replay wsX6_replayed := goodIn_r _ [10, 11, 12, 13, 14, 5, 15, 16, 17, 18, 19, 20, 21, 22, 23, 24, 25, 26, 27, 28, 29, 30, 31, 32, 33, 34, 35, 36, 37, 38, 39, 40, 41, 42, 43, 44, 45, 46, 47, 48, 49, 50, 51] (by decide +kernel) (by decide +kernel)
set_option maxRecDepth 20000 in
theorem gX6_replay_X6_replayed : GoodIn wsX6_replay (wsV RX6 132 RX6 yX6_replayed wsX6_replayed) := goodIn_app (goodIn_of _ (by decide +kernel)) ggX6_replay_X6_replayed
theorem dX6_replay_0 : decode cX6_replay 0 = .ok (.iload_n 1, 1) := by decide +kernel
theorem dX6_replay_1 : decode cX6_replay 1 = .ok (.i2l, 1) := by decide +kernel
theorem dX6_replay_2 : decode cX6_replay 2 = .ok (.lconst 1, 1) := by decide +kernel
theorem dX6_replay_3 : decode cX6_replay 3 = .ok (.ldc2_w 64, 3) := by decide +kernel
theorem dX6_replay_6 : decode cX6_replay 6 = .ok (.invokestatic 56, 3) := by decide +kernel
theorem dX6_replay_9 : decode cX6_replay 9 = .ok (.ifCond .eq 24, 3) := by decide +kernel
theorem dX6_replay_12 : decode cX6_replay 12 = .ok (.iload_n 2, 1) := by decide +kernel
theorem dX6_replay_13 : decode cX6_replay 13 = .ok (.i2l, 1) := by decide +kernel
theorem dX6_replay_14 : decode cX6_replay 14 = .ok (.lconst 0, 1) := by decide +kernel
theorem dX6_replay_15 : decode cX6_replay 15 = .ok (.ldc2_w 74, 3) := by decide +kernel
theorem dX6_replay_18 : decode cX6_replay 18 = .ok (.invokestatic 56, 3) := by decide +kernel
theorem dX6_replay_21 : decode cX6_replay 21 = .ok (.ifCond .eq 12, 3) := by decide +kernel
theorem dX6_replay_24 : decode cX6_replay 24 = .ok (.aload_n 0, 1) := by decide +kernel
theorem dX6_replay_25 : decode cX6_replay 25 = .ok (.iload_n 1, 1) := by decide +kernel
theorem dX6_replay_26 : decode cX6_replay 26 = .ok (.iload_n 2, 1) := by decide +kernel
theorem dX6_replay_27 : decode cX6_replay 27 = .ok (.invokevirtual 132, 3) := by decide +kernel
theorem dX6_replay_30 : decode cX6_replay 30 = .ok (.goto 5, 3) := by decide +kernel
theorem dX6_replay_33 : decode cX6_replay 33 = .ok (.bipush (-2), 2) := by decide +kernel
theorem dX6_replay_35 : decode cX6_replay 35 = .ok (.ireturn, 1) := by decide +kernel
set_option maxRecDepth 20000 in
theorem ggX6_bestFilter_X6_in : GoodIn wsX6_bestFilter wsX6_in := goodIn_r _ [4] (by decide +kernel) (by decide +kernel)
set_option maxRecDepth 20000 in
theorem gX6_bestFilter_X6_in : GoodIn wsX6_bestFilter (va_wsS RX6 56 yX6_in wsX6_in) := goodIn_app (goodIn_of _ (by decide +kernel)) ggX6_bestFilter_X6_in
set_option maxRecDepth 20000 in
theorem ggX6_bestFilter_X6_replayed : GoodIn wsX6_bestFilter wsX6_replayed := goodIn_r _ [8, 9, 10, 11, 12, 3, 13, 14, 15, 16, 17, 18, 19, 20, 21, 22, 23, 24, 25, 26, 27, 28, 29, 30, 31, 32, 33, 34, 35, 36, 37, 38, 39, 40, 41, 42, 43, 44, 45, 46, 47, 48, 49] (by decide +kernel) (by decide +kernel)
set_option maxRecDepth 20000 in
theorem gX6_bestFilter_X6_replayed : GoodIn wsX6_bestFilter (wsV RX6 132 RX6 yX6_replayed wsX6_replayed) := goodIn_app (goodIn_of _ (by decide +kernel)) ggX6_bestFilter_X6_replayed
theorem dX6_bestFilter_0 : decode cX6_bestFilter 0 = .ok (.iload_n 1, 1) := by decide +kernel
theorem dX6_bestFilter_1 : decode cX6_bestFilter 1 = .ok (.i2l, 1) := by decide +kernel
theorem dX6_bestFilter_2 : decode cX6_bestFilter 2 = .ok (.lconst 0, 1) := by decide +kernel
theorem dX6_bestFilter_3 : decode cX6_bestFilter 3 = .ok (.lconst 1, 1) := by decide +kernel
theorem dX6_bestFilter_4 : decode cX6_bestFilter 4 = .ok (.invokestatic 56, 3) := by decide +kernel
theorem dX6_bestFilter_7 : decode cX6_bestFilter 7 = .ok (.ifCond .ne 6, 3) := by decide +kernel
theorem dX6_bestFilter_10 : decode cX6_bestFilter 10 = .ok (.bipush (-2), 2) := by decide +kernel
theorem dX6_bestFilter_12 : decode cX6_bestFilter 12 = .ok (.ireturn, 1) := by decide +kernel
theorem dX6_bestFilter_13 : decode cX6_bestFilter 13 = .ok (.iconst 1, 1) := by decide +kernel
theorem dX6_bestFilter_14 : decode cX6_bestFilter 14 = .ok (.istore_n 2, 1) := by decide +kernel
theorem dX6_bestFilter_15 : decode cX6_bestFilter 15 = .ok (.aload_n 0, 1) := by decide +kernel
theorem dX6_bestFilter_16 : decode cX6_bestFilter 16 = .ok (.iconst 1, 1) := by decide +kernel
theorem dX6_bestFilter_17 : decode cX6_bestFilter 17 = .ok (.iconst 2, 1) := by decide +kernel
theorem dX6_bestFilter_18 : decode cX6_bestFilter 18 = .ok (.invokevirtual 132, 3) := by decide +kernel
theorem dX6_bestFilter_21 : decode cX6_bestFilter 21 = .ok (.istore_n 3, 1) := by decide +kernel
theorem dX6_bestFilter_22 : decode cX6_bestFilter 22 = .ok (.iconst 2, 1) := by decide +kernel
theorem dX6_bestFilter_23 : decode cX6_bestFilter 23 = .ok (.istore 4, 2) := by decide +kernel
theorem dX6_bestFilter_25 : decode cX6_bestFilter 25 = .ok (.iload 4, 2) := by decide +kernel
theorem dX6_bestFilter_27 : decode cX6_bestFilter 27 = .ok (.bipush 10, 2) := by decide +kernel
theorem dX6_bestFilter_29 : decode cX6_bestFilter 29 = .ok (.if_icmp .ge 44, 3) := by decide +kernel
theorem dX6_bestFilter_32 : decode cX6_bestFilter 32 = .ok (.aload_n 0, 1) := by decide +kernel
theorem dX6_bestFilter_33 : decode cX6_bestFilter 33 = .ok (.iload 4, 2) := by decide +kernel
theorem dX6_bestFilter_35 : decode cX6_bestFilter 35 = .ok (.iconst 2, 1) := by decide +kernel
theorem dX6_bestFilter_36 : decode cX6_bestFilter 36 = .ok (.invokevirtual 132, 3) := by decide +kernel
theorem dX6_bestFilter_39 : decode cX6_bestFilter 39 = .ok (.istore 5, 2) := by decide +kernel
theorem dX6_bestFilter_41 : decode cX6_bestFilter 41 = .ok (.iload 5, 2) := by decide +kernel
theorem dX6_bestFilter_43 : decode cX6_bestFilter 43 = .ok (.iload_n 3, 1) := by decide +kernel
theorem dX6_bestFilter_44 : decode cX6_bestFilter 44 = .ok (.if_icmp .ge 8, 3) := by decide +kernel
theorem dX6_bestFilter_47 : decode cX6_bestFilter 47 = .ok (.iload 4, 2) := by decide +kernel
theorem dX6_bestFilter_49 : decode cX6_bestFilter 49 = .ok (.goto 4, 3) := by decide +kernel
theorem dX6_bestFilter_52 : decode cX6_bestFilter 52 = .ok (.iload_n 2, 1) := by decide +kernel
theorem dX6_bestFilter_53 : decode cX6_bestFilter 53 = .ok (.istore_n 2, 1) := by decide +kernel
theorem dX6_bestFilter_54 : decode cX6_bestFilter 54 = .ok (.iload 5, 2) := by decide +kernel
theorem dX6_bestFilter_56 : decode cX6_bestFilter 56 = .ok (.iload_n 3, 1) := by decide +kernel
theorem dX6_bestFilter_57 : decode cX6_bestFilter 57 = .ok (.if_icmp .ge 8, 3) := by decide +kernel
theorem dX6_bestFilter_60 : decode cX6_bestFilter 60 = .ok (.iload 5, 2) := by decide +kernel
theorem dX6_bestFilter_62 : decode cX6_bestFilter 62 = .ok (.goto 4, 3) := by decide +kernel
theorem dX6_bestFilter_65 : decode cX6_bestFilter 65 = .ok (.iload_n 3, 1) := by decide +kernel
theorem dX6_bestFilter_66 : decode cX6_bestFilter 66 = .ok (.istore_n 3, 1) := by decide +kernel
theorem dX6_bestFilter_67 : decode cX6_bestFilter 67 = .ok (.iinc 4 1, 3) := by decide +kernel
theorem dX6_bestFilter_70 : decode cX6_bestFilter 70 = .ok (.goto (-45), 3) := by decide +kernel
theorem dX6_bestFilter_73 : decode cX6_bestFilter 73 = .ok (.iload_n 1, 1) := by decide +kernel
theorem dX6_bestFilter_74 : decode cX6_bestFilter 74 = .ok (.ifCond .ne 7, 3) := by decide +kernel
theorem dX6_bestFilter_77 : decode cX6_bestFilter 77 = .ok (.iload_n 2, 1) := by decide +kernel
theorem dX6_bestFilter_78 : decode cX6_bestFilter 78 = .ok (.goto 4, 3) := by decide +kernel
theorem dX6_bestFilter_81 : decode cX6_bestFilter 81 = .ok (.iload_n 3, 1) := by decide +kernel
theorem dX6_bestFilter_82 : decode cX6_bestFilter 82 = .ok (.ireturn, 1) := by decide +kernel
set_option maxRecDepth 20000 in
theorem ggX6_would_X6_in : GoodIn wsX6_would wsX6_in := goodIn_r _ [5] (by decide +kernel) (by decide +kernel)
set_option maxRecDepth 20000 in
theorem gX6_would_X6_in : GoodIn wsX6_would (va_wsS RX6 56 yX6_in wsX6_in) := goodIn_app (goodIn_of _ (by decide +kernel)) ggX6_would_X6_in
set_option maxRecDepth 20000 in
theorem ggX6_would_X6_deedOf : GoodIn wsX6_would wsX6_deedOf := goodIn_r _ [9, 10, 11, 12, 4, 13, 14, 15, 16, 17, 18, 19, 20, 21, 22, 23, 24, 25, 26] (by decide +kernel) (by decide +kernel)
set_option maxRecDepth 20000 in
theorem gX6_would_X6_deedOf : GoodIn wsX6_would (wsV RX6 42 RX6 yX6_deedOf wsX6_deedOf) := goodIn_app (goodIn_of _ (by decide +kernel)) ggX6_would_X6_deedOf
theorem dX6_would_0 : decode cX6_would 0 = .ok (.iload_n 1, 1) := by decide +kernel
theorem dX6_would_1 : decode cX6_would 1 = .ok (.i2l, 1) := by decide +kernel
theorem dX6_would_2 : decode cX6_would 2 = .ok (.lconst 0, 1) := by decide +kernel
theorem dX6_would_3 : decode cX6_would 3 = .ok (.ldc2_w 74, 3) := by decide +kernel
theorem dX6_would_6 : decode cX6_would 6 = .ok (.invokestatic 56, 3) := by decide +kernel
theorem dX6_would_9 : decode cX6_would 9 = .ok (.ifCond .eq 11, 3) := by decide +kernel
theorem dX6_would_12 : decode cX6_would 12 = .ok (.aload_n 0, 1) := by decide +kernel
theorem dX6_would_13 : decode cX6_would 13 = .ok (.iload_n 1, 1) := by decide +kernel
theorem dX6_would_14 : decode cX6_would 14 = .ok (.invokevirtual 42, 3) := by decide +kernel
theorem dX6_would_17 : decode cX6_would 17 = .ok (.goto 5, 3) := by decide +kernel
theorem dX6_would_20 : decode cX6_would 20 = .ok (.bipush (-2), 2) := by decide +kernel
theorem dX6_would_22 : decode cX6_would 22 = .ok (.ireturn, 1) := by decide +kernel
set_option maxRecDepth 20000 in
theorem ggX6_deeds_X6_in : GoodIn wsX6_deeds wsX6_in := goodIn_r _ [6] (by decide +kernel) (by decide +kernel)
set_option maxRecDepth 20000 in
theorem gX6_deeds_X6_in : GoodIn wsX6_deeds (va_wsS RX6 56 yX6_in wsX6_in) := goodIn_app (goodIn_of _ (by decide +kernel)) ggX6_deeds_X6_in
theorem dX6_deeds_0 : decode cX6_deeds 0 = .ok (.iload_n 1, 1) := by decide +kernel
theorem dX6_deeds_1 : decode cX6_deeds 1 = .ok (.i2l, 1) := by decide +kernel
theorem dX6_deeds_2 : decode cX6_deeds 2 = .ok (.lconst 0, 1) := by decide +kernel
theorem dX6_deeds_3 : decode cX6_deeds 3 = .ok (.ldc2_w 74, 3) := by decide +kernel
theorem dX6_deeds_6 : decode cX6_deeds 6 = .ok (.invokestatic 56, 3) := by decide +kernel
theorem dX6_deeds_9 : decode cX6_deeds 9 = .ok (.ifCond .ne 6, 3) := by decide +kernel
theorem dX6_deeds_12 : decode cX6_deeds 12 = .ok (.bipush (-2), 2) := by decide +kernel
theorem dX6_deeds_14 : decode cX6_deeds 14 = .ok (.ireturn, 1) := by decide +kernel
theorem dX6_deeds_15 : decode cX6_deeds 15 = .ok (.iconst 0, 1) := by decide +kernel
theorem dX6_deeds_16 : decode cX6_deeds 16 = .ok (.istore_n 2, 1) := by decide +kernel
theorem dX6_deeds_17 : decode cX6_deeds 17 = .ok (.iconst 0, 1) := by decide +kernel
theorem dX6_deeds_18 : decode cX6_deeds 18 = .ok (.istore_n 3, 1) := by decide +kernel
theorem dX6_deeds_19 : decode cX6_deeds 19 = .ok (.iload_n 3, 1) := by decide +kernel
theorem dX6_deeds_20 : decode cX6_deeds 20 = .ok (.aload_n 0, 1) := by decide +kernel
theorem dX6_deeds_21 : decode cX6_deeds 21 = .ok (.getfield 7, 3) := by decide +kernel
theorem dX6_deeds_24 : decode cX6_deeds 24 = .ok (.bipush 14, 2) := by decide +kernel
theorem dX6_deeds_26 : decode cX6_deeds 26 = .ok (.iaload, 1) := by decide +kernel
theorem dX6_deeds_27 : decode cX6_deeds 27 = .ok (.if_icmp .ge 32, 3) := by decide +kernel
theorem dX6_deeds_30 : decode cX6_deeds 30 = .ok (.iload_n 2, 1) := by decide +kernel
theorem dX6_deeds_31 : decode cX6_deeds 31 = .ok (.aload_n 0, 1) := by decide +kernel
theorem dX6_deeds_32 : decode cX6_deeds 32 = .ok (.getfield 7, 3) := by decide +kernel
theorem dX6_deeds_35 : decode cX6_deeds 35 = .ok (.bipush 21, 2) := by decide +kernel
theorem dX6_deeds_37 : decode cX6_deeds 37 = .ok (.iload_n 3, 1) := by decide +kernel
theorem dX6_deeds_38 : decode cX6_deeds 38 = .ok (.iadd, 1) := by decide +kernel
theorem dX6_deeds_39 : decode cX6_deeds 39 = .ok (.iaload, 1) := by decide +kernel
theorem dX6_deeds_40 : decode cX6_deeds 40 = .ok (.iconst 4, 1) := by decide +kernel
theorem dX6_deeds_41 : decode cX6_deeds 41 = .ok (.irem, 1) := by decide +kernel
theorem dX6_deeds_42 : decode cX6_deeds 42 = .ok (.iload_n 1, 1) := by decide +kernel
theorem dX6_deeds_43 : decode cX6_deeds 43 = .ok (.if_icmp .ne 7, 3) := by decide +kernel
theorem dX6_deeds_46 : decode cX6_deeds 46 = .ok (.iconst 1, 1) := by decide +kernel
theorem dX6_deeds_47 : decode cX6_deeds 47 = .ok (.goto 4, 3) := by decide +kernel
theorem dX6_deeds_50 : decode cX6_deeds 50 = .ok (.iconst 0, 1) := by decide +kernel
theorem dX6_deeds_51 : decode cX6_deeds 51 = .ok (.iadd, 1) := by decide +kernel
theorem dX6_deeds_52 : decode cX6_deeds 52 = .ok (.istore_n 2, 1) := by decide +kernel
theorem dX6_deeds_53 : decode cX6_deeds 53 = .ok (.iinc 3 1, 3) := by decide +kernel
theorem dX6_deeds_56 : decode cX6_deeds 56 = .ok (.goto (-37), 3) := by decide +kernel
theorem dX6_deeds_59 : decode cX6_deeds 59 = .ok (.iload_n 2, 1) := by decide +kernel
theorem dX6_deeds_60 : decode cX6_deeds 60 = .ok (.ireturn, 1) := by decide +kernel
set_option maxRecDepth 20000 in
theorem ggX6_put_X6_in : GoodIn wsX6_put wsX6_in := goodIn_r _ [9] (by decide +kernel) (by decide +kernel)
set_option maxRecDepth 20000 in
theorem gX6_put_X6_in : GoodIn wsX6_put (va_wsS RX6 56 yX6_in wsX6_in) := goodIn_app (goodIn_of _ (by decide +kernel)) ggX6_put_X6_in
theorem dX6_put_0 : decode cX6_put 0 = .ok (.iconst 0, 1) := by decide +kernel
theorem dX6_put_1 : decode cX6_put 1 = .ok (.istore_n 3, 1) := by decide +kernel
theorem dX6_put_2 : decode cX6_put 2 = .ok (.iconst 1, 1) := by decide +kernel
theorem dX6_put_3 : decode cX6_put 3 = .ok (.istore 4, 2) := by decide +kernel
theorem dX6_put_5 : decode cX6_put 5 = .ok (.lload_n 1, 1) := by decide +kernel
theorem dX6_put_6 : decode cX6_put 6 = .ok (.lstore 5, 2) := by decide +kernel
theorem dX6_put_8 : decode cX6_put 8 = .ok (.iload_n 3, 1) := by decide +kernel
theorem dX6_put_9 : decode cX6_put 9 = .ok (.bipush 8, 2) := by decide +kernel
theorem dX6_put_11 : decode cX6_put 11 = .ok (.if_icmp .ge 57, 3) := by decide +kernel
theorem dX6_put_14 : decode cX6_put 14 = .ok (.lload 5, 2) := by decide +kernel
theorem dX6_put_16 : decode cX6_put 16 = .ok (.ldc2_w 135, 3) := by decide +kernel
theorem dX6_put_19 : decode cX6_put 19 = .ok (.land, 1) := by decide +kernel
theorem dX6_put_20 : decode cX6_put 20 = .ok (.lconst 0, 1) := by decide +kernel
theorem dX6_put_21 : decode cX6_put 21 = .ok (.lcmp, 1) := by decide +kernel
theorem dX6_put_22 : decode cX6_put 22 = .ok (.ifCond .eq 46, 3) := by decide +kernel
theorem dX6_put_25 : decode cX6_put 25 = .ok (.iload 4, 2) := by decide +kernel
theorem dX6_put_27 : decode cX6_put 27 = .ok (.ifCond .eq 25, 3) := by decide +kernel
theorem dX6_put_30 : decode cX6_put 30 = .ok (.lload 5, 2) := by decide +kernel
theorem dX6_put_32 : decode cX6_put 32 = .ok (.ldc2_w 135, 3) := by decide +kernel
theorem dX6_put_35 : decode cX6_put 35 = .ok (.land, 1) := by decide +kernel
theorem dX6_put_36 : decode cX6_put 36 = .ok (.ldc2_w 137, 3) := by decide +kernel
theorem dX6_put_39 : decode cX6_put 39 = .ok (.ldc2_w 139, 3) := by decide +kernel
theorem dX6_put_42 : decode cX6_put 42 = .ok (.invokestatic 56, 3) := by decide +kernel
theorem dX6_put_45 : decode cX6_put 45 = .ok (.ifCond .eq 7, 3) := by decide +kernel
theorem dX6_put_48 : decode cX6_put 48 = .ok (.iconst 1, 1) := by decide +kernel
theorem dX6_put_49 : decode cX6_put 49 = .ok (.goto 4, 3) := by decide +kernel
theorem dX6_put_52 : decode cX6_put 52 = .ok (.iconst 0, 1) := by decide +kernel
theorem dX6_put_53 : decode cX6_put 53 = .ok (.istore 4, 2) := by decide +kernel
theorem dX6_put_55 : decode cX6_put 55 = .ok (.lload 5, 2) := by decide +kernel
theorem dX6_put_57 : decode cX6_put 57 = .ok (.bipush 8, 2) := by decide +kernel
theorem dX6_put_59 : decode cX6_put 59 = .ok (.lushr, 1) := by decide +kernel
theorem dX6_put_60 : decode cX6_put 60 = .ok (.lstore 5, 2) := by decide +kernel
theorem dX6_put_62 : decode cX6_put 62 = .ok (.iinc 3 1, 3) := by decide +kernel
theorem dX6_put_65 : decode cX6_put 65 = .ok (.goto (-57), 3) := by decide +kernel
theorem dX6_put_68 : decode cX6_put 68 = .ok (.iload_n 3, 1) := by decide +kernel
theorem dX6_put_69 : decode cX6_put 69 = .ok (.ifCond .eq 15, 3) := by decide +kernel
theorem dX6_put_72 : decode cX6_put 72 = .ok (.lload 5, 2) := by decide +kernel
theorem dX6_put_74 : decode cX6_put 74 = .ok (.lconst 0, 1) := by decide +kernel
theorem dX6_put_75 : decode cX6_put 75 = .ok (.lcmp, 1) := by decide +kernel
theorem dX6_put_76 : decode cX6_put 76 = .ok (.ifCond .ne 8, 3) := by decide +kernel
theorem dX6_put_79 : decode cX6_put 79 = .ok (.iload 4, 2) := by decide +kernel
theorem dX6_put_81 : decode cX6_put 81 = .ok (.ifCond .ne 6, 3) := by decide +kernel
theorem dX6_put_84 : decode cX6_put 84 = .ok (.bipush (-2), 2) := by decide +kernel
theorem dX6_put_86 : decode cX6_put 86 = .ok (.ireturn, 1) := by decide +kernel
theorem dX6_put_87 : decode cX6_put 87 = .ok (.aload_n 0, 1) := by decide +kernel
theorem dX6_put_88 : decode cX6_put 88 = .ok (.getfield 109, 3) := by decide +kernel
theorem dX6_put_91 : decode cX6_put 91 = .ok (.iload_n 3, 1) := by decide +kernel
theorem dX6_put_92 : decode cX6_put 92 = .ok (.iadd, 1) := by decide +kernel
theorem dX6_put_93 : decode cX6_put 93 = .ok (.bipush 80, 2) := by decide +kernel
theorem dX6_put_95 : decode cX6_put 95 = .ok (.if_icmp .le 6, 3) := by decide +kernel
theorem dX6_put_98 : decode cX6_put 98 = .ok (.bipush (-4), 2) := by decide +kernel
theorem dX6_put_100 : decode cX6_put 100 = .ok (.ireturn, 1) := by decide +kernel
theorem dX6_put_101 : decode cX6_put 101 = .ok (.iload_n 3, 1) := by decide +kernel
theorem dX6_put_102 : decode cX6_put 102 = .ok (.iconst 1, 1) := by decide +kernel
theorem dX6_put_103 : decode cX6_put 103 = .ok (.isub, 1) := by decide +kernel
theorem dX6_put_104 : decode cX6_put 104 = .ok (.istore 7, 2) := by decide +kernel
theorem dX6_put_106 : decode cX6_put 106 = .ok (.iload 7, 2) := by decide +kernel
theorem dX6_put_108 : decode cX6_put 108 = .ok (.ifCond .lt 40, 3) := by decide +kernel
theorem dX6_put_111 : decode cX6_put 111 = .ok (.aload_n 0, 1) := by decide +kernel
theorem dX6_put_112 : decode cX6_put 112 = .ok (.getfield 28, 3) := by decide +kernel
theorem dX6_put_115 : decode cX6_put 115 = .ok (.aload_n 0, 1) := by decide +kernel
theorem dX6_put_116 : decode cX6_put 116 = .ok (.getfield 109, 3) := by decide +kernel
theorem dX6_put_119 : decode cX6_put 119 = .ok (.lload_n 1, 1) := by decide +kernel
theorem dX6_put_120 : decode cX6_put 120 = .ok (.bipush 8, 2) := by decide +kernel
theorem dX6_put_122 : decode cX6_put 122 = .ok (.iload 7, 2) := by decide +kernel
theorem dX6_put_124 : decode cX6_put 124 = .ok (.imul, 1) := by decide +kernel
theorem dX6_put_125 : decode cX6_put 125 = .ok (.lushr, 1) := by decide +kernel
theorem dX6_put_126 : decode cX6_put 126 = .ok (.ldc2_w 135, 3) := by decide +kernel
theorem dX6_put_129 : decode cX6_put 129 = .ok (.land, 1) := by decide +kernel
theorem dX6_put_130 : decode cX6_put 130 = .ok (.l2i, 1) := by decide +kernel
theorem dX6_put_131 : decode cX6_put 131 = .ok (.iastore, 1) := by decide +kernel
theorem dX6_put_132 : decode cX6_put 132 = .ok (.aload_n 0, 1) := by decide +kernel
theorem dX6_put_133 : decode cX6_put 133 = .ok (.dup, 1) := by decide +kernel
theorem dX6_put_134 : decode cX6_put 134 = .ok (.getfield 109, 3) := by decide +kernel
theorem dX6_put_137 : decode cX6_put 137 = .ok (.iconst 1, 1) := by decide +kernel
theorem dX6_put_138 : decode cX6_put 138 = .ok (.iadd, 1) := by decide +kernel
theorem dX6_put_139 : decode cX6_put 139 = .ok (.putfield 109, 3) := by decide +kernel
theorem dX6_put_142 : decode cX6_put 142 = .ok (.iinc 7 (-1), 3) := by decide +kernel
theorem dX6_put_145 : decode cX6_put 145 = .ok (.goto (-39), 3) := by decide +kernel
theorem dX6_put_148 : decode cX6_put 148 = .ok (.aload_n 0, 1) := by decide +kernel
theorem dX6_put_149 : decode cX6_put 149 = .ok (.getfield 109, 3) := by decide +kernel
theorem dX6_put_152 : decode cX6_put 152 = .ok (.ireturn, 1) := by decide +kernel
theorem dX6_wipe_0 : decode cX6_wipe 0 = .ok (.aload_n 0, 1) := by decide +kernel
theorem dX6_wipe_1 : decode cX6_wipe 1 = .ok (.getfield 109, 3) := by decide +kernel
theorem dX6_wipe_4 : decode cX6_wipe 4 = .ok (.istore_n 1, 1) := by decide +kernel
theorem dX6_wipe_5 : decode cX6_wipe 5 = .ok (.aload_n 0, 1) := by decide +kernel
theorem dX6_wipe_6 : decode cX6_wipe 6 = .ok (.iconst 0, 1) := by decide +kernel
theorem dX6_wipe_7 : decode cX6_wipe 7 = .ok (.putfield 109, 3) := by decide +kernel
theorem dX6_wipe_10 : decode cX6_wipe 10 = .ok (.iload_n 1, 1) := by decide +kernel
theorem dX6_wipe_11 : decode cX6_wipe 11 = .ok (.ireturn, 1) := by decide +kernel
set_option maxRecDepth 20000 in
theorem ggX6_isHere_X6_in : GoodIn wsX6_isHere wsX6_in := goodIn_r _ [7] (by decide +kernel) (by decide +kernel)
set_option maxRecDepth 20000 in
theorem gX6_isHere_X6_in : GoodIn wsX6_isHere (va_wsS RX6 56 yX6_in wsX6_in) := goodIn_app (goodIn_of _ (by decide +kernel)) ggX6_isHere_X6_in
theorem dX6_isHere_0 : decode cX6_isHere 0 = .ok (.aload_n 0, 1) := by decide +kernel
theorem dX6_isHere_1 : decode cX6_isHere 1 = .ok (.getfield 141, 3) := by decide +kernel
theorem dX6_isHere_4 : decode cX6_isHere 4 = .ok (.aload_n 0, 1) := by decide +kernel
theorem dX6_isHere_5 : decode cX6_isHere 5 = .ok (.getfield 109, 3) := by decide +kernel
theorem dX6_isHere_8 : decode cX6_isHere 8 = .ok (.if_icmp .ge 27, 3) := by decide +kernel
theorem dX6_isHere_11 : decode cX6_isHere 11 = .ok (.aload_n 0, 1) := by decide +kernel
theorem dX6_isHere_12 : decode cX6_isHere 12 = .ok (.getfield 28, 3) := by decide +kernel
theorem dX6_isHere_15 : decode cX6_isHere 15 = .ok (.aload_n 0, 1) := by decide +kernel
theorem dX6_isHere_16 : decode cX6_isHere 16 = .ok (.getfield 141, 3) := by decide +kernel
theorem dX6_isHere_19 : decode cX6_isHere 19 = .ok (.iaload, 1) := by decide +kernel
theorem dX6_isHere_20 : decode cX6_isHere 20 = .ok (.i2l, 1) := by decide +kernel
theorem dX6_isHere_21 : decode cX6_isHere 21 = .ok (.iload_n 1, 1) := by decide +kernel
theorem dX6_isHere_22 : decode cX6_isHere 22 = .ok (.i2l, 1) := by decide +kernel
theorem dX6_isHere_23 : decode cX6_isHere 23 = .ok (.iload_n 2, 1) := by decide +kernel
theorem dX6_isHere_24 : decode cX6_isHere 24 = .ok (.i2l, 1) := by decide +kernel
theorem dX6_isHere_25 : decode cX6_isHere 25 = .ok (.invokestatic 56, 3) := by decide +kernel
theorem dX6_isHere_28 : decode cX6_isHere 28 = .ok (.ifCond .eq 7, 3) := by decide +kernel
theorem dX6_isHere_31 : decode cX6_isHere 31 = .ok (.iconst 1, 1) := by decide +kernel
theorem dX6_isHere_32 : decode cX6_isHere 32 = .ok (.goto 4, 3) := by decide +kernel
theorem dX6_isHere_35 : decode cX6_isHere 35 = .ok (.iconst 0, 1) := by decide +kernel
theorem dX6_isHere_36 : decode cX6_isHere 36 = .ok (.ireturn, 1) := by decide +kernel
set_option maxRecDepth 20000 in
theorem ggX6_takes_X6_isHere : GoodIn wsX6_takes wsX6_isHere := goodIn_r _ [6, 1, 7, 8, 9, 10, 5, 11, 12, 13, 14, 15, 16, 17, 18, 19, 20, 21, 22, 23, 24] (by decide +kernel) (by decide +kernel)
set_option maxRecDepth 20000 in
theorem gX6_takes_X6_isHere : GoodIn wsX6_takes (wsV RX6 144 RX6 yX6_isHere wsX6_isHere) := goodIn_app (goodIn_of _ (by decide +kernel)) ggX6_takes_X6_isHere
theorem dX6_takes_0 : decode cX6_takes 0 = .ok (.aload_n 0, 1) := by decide +kernel
theorem dX6_takes_1 : decode cX6_takes 1 = .ok (.iload_n 1, 1) := by decide +kernel
theorem dX6_takes_2 : decode cX6_takes 2 = .ok (.iload_n 1, 1) := by decide +kernel
theorem dX6_takes_3 : decode cX6_takes 3 = .ok (.invokevirtual 144, 3) := by decide +kernel
theorem dX6_takes_6 : decode cX6_takes 6 = .ok (.istore_n 2, 1) := by decide +kernel
theorem dX6_takes_7 : decode cX6_takes 7 = .ok (.aload_n 0, 1) := by decide +kernel
theorem dX6_takes_8 : decode cX6_takes 8 = .ok (.dup, 1) := by decide +kernel
theorem dX6_takes_9 : decode cX6_takes 9 = .ok (.getfield 141, 3) := by decide +kernel
theorem dX6_takes_12 : decode cX6_takes 12 = .ok (.iload_n 2, 1) := by decide +kernel
theorem dX6_takes_13 : decode cX6_takes 13 = .ok (.ifCond .eq 7, 3) := by decide +kernel
theorem dX6_takes_16 : decode cX6_takes 16 = .ok (.iconst 1, 1) := by decide +kernel
theorem dX6_takes_17 : decode cX6_takes 17 = .ok (.goto 4, 3) := by decide +kernel
theorem dX6_takes_20 : decode cX6_takes 20 = .ok (.iconst 0, 1) := by decide +kernel
theorem dX6_takes_21 : decode cX6_takes 21 = .ok (.iadd, 1) := by decide +kernel
theorem dX6_takes_22 : decode cX6_takes 22 = .ok (.putfield 141, 3) := by decide +kernel
theorem dX6_takes_25 : decode cX6_takes 25 = .ok (.iload_n 2, 1) := by decide +kernel
theorem dX6_takes_26 : decode cX6_takes 26 = .ok (.ireturn, 1) := by decide +kernel
set_option maxRecDepth 20000 in
theorem ggX6_readsNumber_X6_isHere : GoodIn wsX6_readsNumber wsX6_isHere := goodIn_r _ [8, 2, 9, 1, 10, 11, 7, 12, 13, 14, 15, 16, 17, 18, 19, 20, 21, 22, 23, 24, 25] (by decide +kernel) (by decide +kernel)
set_option maxRecDepth 20000 in
theorem gX6_readsNumber_X6_isHere : GoodIn wsX6_readsNumber (wsV RX6 144 RX6 yX6_isHere wsX6_isHere) := goodIn_app (goodIn_of _ (by decide +kernel)) ggX6_readsNumber_X6_isHere
theorem dX6_readsNumber_0 : decode cX6_readsNumber 0 = .ok (.aload_n 0, 1) := by decide +kernel
theorem dX6_readsNumber_1 : decode cX6_readsNumber 1 = .ok (.bipush 48, 2) := by decide +kernel
theorem dX6_readsNumber_3 : decode cX6_readsNumber 3 = .ok (.bipush 57, 2) := by decide +kernel
theorem dX6_readsNumber_5 : decode cX6_readsNumber 5 = .ok (.invokevirtual 144, 3) := by decide +kernel
theorem dX6_readsNumber_8 : decode cX6_readsNumber 8 = .ok (.ifCond .ne 5, 3) := by decide +kernel
theorem dX6_readsNumber_11 : decode cX6_readsNumber 11 = .ok (.iconst 0, 1) := by decide +kernel
theorem dX6_readsNumber_12 : decode cX6_readsNumber 12 = .ok (.ireturn, 1) := by decide +kernel
theorem dX6_readsNumber_13 : decode cX6_readsNumber 13 = .ok (.aload_n 0, 1) := by decide +kernel
theorem dX6_readsNumber_14 : decode cX6_readsNumber 14 = .ok (.aload_n 0, 1) := by decide +kernel
theorem dX6_readsNumber_15 : decode cX6_readsNumber 15 = .ok (.getfield 28, 3) := by decide +kernel
theorem dX6_readsNumber_18 : decode cX6_readsNumber 18 = .ok (.aload_n 0, 1) := by decide +kernel
theorem dX6_readsNumber_19 : decode cX6_readsNumber 19 = .ok (.getfield 141, 3) := by decide +kernel
theorem dX6_readsNumber_22 : decode cX6_readsNumber 22 = .ok (.iaload, 1) := by decide +kernel
theorem dX6_readsNumber_23 : decode cX6_readsNumber 23 = .ok (.bipush 48, 2) := by decide +kernel
theorem dX6_readsNumber_25 : decode cX6_readsNumber 25 = .ok (.isub, 1) := by decide +kernel
theorem dX6_readsNumber_26 : decode cX6_readsNumber 26 = .ok (.putfield 147, 3) := by decide +kernel
theorem dX6_readsNumber_29 : decode cX6_readsNumber 29 = .ok (.aload_n 0, 1) := by decide +kernel
theorem dX6_readsNumber_30 : decode cX6_readsNumber 30 = .ok (.dup, 1) := by decide +kernel
theorem dX6_readsNumber_31 : decode cX6_readsNumber 31 = .ok (.getfield 141, 3) := by decide +kernel
theorem dX6_readsNumber_34 : decode cX6_readsNumber 34 = .ok (.iconst 1, 1) := by decide +kernel
theorem dX6_readsNumber_35 : decode cX6_readsNumber 35 = .ok (.iadd, 1) := by decide +kernel
theorem dX6_readsNumber_36 : decode cX6_readsNumber 36 = .ok (.putfield 141, 3) := by decide +kernel
theorem dX6_readsNumber_39 : decode cX6_readsNumber 39 = .ok (.aload_n 0, 1) := by decide +kernel
theorem dX6_readsNumber_40 : decode cX6_readsNumber 40 = .ok (.getfield 147, 3) := by decide +kernel
theorem dX6_readsNumber_43 : decode cX6_readsNumber 43 = .ok (.ifCond .le 77, 3) := by decide +kernel
theorem dX6_readsNumber_46 : decode cX6_readsNumber 46 = .ok (.aload_n 0, 1) := by decide +kernel
theorem dX6_readsNumber_47 : decode cX6_readsNumber 47 = .ok (.bipush 48, 2) := by decide +kernel
theorem dX6_readsNumber_49 : decode cX6_readsNumber 49 = .ok (.bipush 57, 2) := by decide +kernel
theorem dX6_readsNumber_51 : decode cX6_readsNumber 51 = .ok (.invokevirtual 144, 3) := by decide +kernel
theorem dX6_readsNumber_54 : decode cX6_readsNumber 54 = .ok (.ifCond .eq 66, 3) := by decide +kernel
theorem dX6_readsNumber_57 : decode cX6_readsNumber 57 = .ok (.bipush 10, 2) := by decide +kernel
theorem dX6_readsNumber_59 : decode cX6_readsNumber 59 = .ok (.aload_n 0, 1) := by decide +kernel
theorem dX6_readsNumber_60 : decode cX6_readsNumber 60 = .ok (.getfield 147, 3) := by decide +kernel
theorem dX6_readsNumber_63 : decode cX6_readsNumber 63 = .ok (.imul, 1) := by decide +kernel
theorem dX6_readsNumber_64 : decode cX6_readsNumber 64 = .ok (.aload_n 0, 1) := by decide +kernel
theorem dX6_readsNumber_65 : decode cX6_readsNumber 65 = .ok (.getfield 28, 3) := by decide +kernel
theorem dX6_readsNumber_68 : decode cX6_readsNumber 68 = .ok (.aload_n 0, 1) := by decide +kernel
theorem dX6_readsNumber_69 : decode cX6_readsNumber 69 = .ok (.getfield 141, 3) := by decide +kernel
theorem dX6_readsNumber_72 : decode cX6_readsNumber 72 = .ok (.iaload, 1) := by decide +kernel
theorem dX6_readsNumber_73 : decode cX6_readsNumber 73 = .ok (.iadd, 1) := by decide +kernel
theorem dX6_readsNumber_74 : decode cX6_readsNumber 74 = .ok (.bipush 48, 2) := by decide +kernel
theorem dX6_readsNumber_76 : decode cX6_readsNumber 76 = .ok (.isub, 1) := by decide +kernel
theorem dX6_readsNumber_77 : decode cX6_readsNumber 77 = .ok (.sipush 999, 3) := by decide +kernel
theorem dX6_readsNumber_80 : decode cX6_readsNumber 80 = .ok (.if_icmp .gt 40, 3) := by decide +kernel
theorem dX6_readsNumber_83 : decode cX6_readsNumber 83 = .ok (.aload_n 0, 1) := by decide +kernel
theorem dX6_readsNumber_84 : decode cX6_readsNumber 84 = .ok (.bipush 10, 2) := by decide +kernel
theorem dX6_readsNumber_86 : decode cX6_readsNumber 86 = .ok (.aload_n 0, 1) := by decide +kernel
theorem dX6_readsNumber_87 : decode cX6_readsNumber 87 = .ok (.getfield 147, 3) := by decide +kernel
theorem dX6_readsNumber_90 : decode cX6_readsNumber 90 = .ok (.imul, 1) := by decide +kernel
theorem dX6_readsNumber_91 : decode cX6_readsNumber 91 = .ok (.aload_n 0, 1) := by decide +kernel
theorem dX6_readsNumber_92 : decode cX6_readsNumber 92 = .ok (.getfield 28, 3) := by decide +kernel
theorem dX6_readsNumber_95 : decode cX6_readsNumber 95 = .ok (.aload_n 0, 1) := by decide +kernel
theorem dX6_readsNumber_96 : decode cX6_readsNumber 96 = .ok (.getfield 141, 3) := by decide +kernel
theorem dX6_readsNumber_99 : decode cX6_readsNumber 99 = .ok (.iaload, 1) := by decide +kernel
theorem dX6_readsNumber_100 : decode cX6_readsNumber 100 = .ok (.iadd, 1) := by decide +kernel
theorem dX6_readsNumber_101 : decode cX6_readsNumber 101 = .ok (.bipush 48, 2) := by decide +kernel
theorem dX6_readsNumber_103 : decode cX6_readsNumber 103 = .ok (.isub, 1) := by decide +kernel
theorem dX6_readsNumber_104 : decode cX6_readsNumber 104 = .ok (.putfield 147, 3) := by decide +kernel
theorem dX6_readsNumber_107 : decode cX6_readsNumber 107 = .ok (.aload_n 0, 1) := by decide +kernel
theorem dX6_readsNumber_108 : decode cX6_readsNumber 108 = .ok (.dup, 1) := by decide +kernel
theorem dX6_readsNumber_109 : decode cX6_readsNumber 109 = .ok (.getfield 141, 3) := by decide +kernel
theorem dX6_readsNumber_112 : decode cX6_readsNumber 112 = .ok (.iconst 1, 1) := by decide +kernel
theorem dX6_readsNumber_113 : decode cX6_readsNumber 113 = .ok (.iadd, 1) := by decide +kernel
theorem dX6_readsNumber_114 : decode cX6_readsNumber 114 = .ok (.putfield 141, 3) := by decide +kernel
theorem dX6_readsNumber_117 : decode cX6_readsNumber 117 = .ok (.goto (-78), 3) := by decide +kernel
theorem dX6_readsNumber_120 : decode cX6_readsNumber 120 = .ok (.iconst 1, 1) := by decide +kernel
theorem dX6_readsNumber_121 : decode cX6_readsNumber 121 = .ok (.ireturn, 1) := by decide +kernel
theorem dX6_does_0 : decode cX6_does 0 = .ok (.aload_n 0, 1) := by decide +kernel
theorem dX6_does_1 : decode cX6_does 1 = .ok (.iload_n 1, 1) := by decide +kernel
theorem dX6_does_2 : decode cX6_does 2 = .ok (.ifCond .ge 7, 3) := by decide +kernel
theorem dX6_does_5 : decode cX6_does 5 = .ok (.iload_n 1, 1) := by decide +kernel
theorem dX6_does_6 : decode cX6_does 6 = .ok (.goto 4, 3) := by decide +kernel
theorem dX6_does_9 : decode cX6_does 9 = .ok (.iconst 0, 1) := by decide +kernel
theorem dX6_does_10 : decode cX6_does 10 = .ok (.putfield 150, 3) := by decide +kernel
theorem dX6_does_13 : decode cX6_does 13 = .ok (.return_, 1) := by decide +kernel
set_option maxRecDepth 20000 in
theorem ggX6_readsRuns_X6_isHere : GoodIn wsX6_readsRuns wsX6_isHere := goodIn_r _ [10, 2, 11, 1, 12, 13, 9, 14, 54, 55, 56, 57, 58, 59, 60, 61, 62, 63, 64, 65, 66] (by decide +kernel) (by decide +kernel)
set_option maxRecDepth 20000 in
theorem gX6_readsRuns_X6_isHere : GoodIn wsX6_readsRuns (wsV RX6 144 RX6 yX6_isHere wsX6_isHere) := goodIn_app (goodIn_of _ (by decide +kernel)) ggX6_readsRuns_X6_isHere
set_option maxRecDepth 20000 in
theorem ggX6_readsRuns_X6_takes : GoodIn wsX6_readsRuns wsX6_takes := goodIn_r _ [18, 2, 6, 7, 8, 9, 10, 11, 1, 12, 13, 14, 54, 55, 56, 57, 58, 59, 60, 61, 62, 63, 64, 65, 66] (by decide +kernel) (by decide +kernel)
set_option maxRecDepth 20000 in
theorem gX6_readsRuns_X6_takes : GoodIn wsX6_readsRuns (wsV RX6 153 RX6 yX6_takes wsX6_takes) := goodIn_app (goodIn_of _ (by decide +kernel)) ggX6_readsRuns_X6_takes
set_option maxRecDepth 20000 in
theorem ggX6_readsRuns_X6_readsNumber : GoodIn wsX6_readsRuns wsX6_readsNumber := goodIn_r _ [22, 1, 2, 3, 6, 7, 8, 9, 10, 11, 12, 13, 14, 54, 55, 56, 57, 58, 59, 60, 61, 62, 63, 64, 65, 66] (by decide +kernel) (by decide +kernel)
set_option maxRecDepth 20000 in
theorem gX6_readsRuns_X6_readsNumber : GoodIn wsX6_readsRuns (wsV RX6 157 RX6 yX6_readsNumber wsX6_readsNumber) := goodIn_app (goodIn_of _ (by decide +kernel)) ggX6_readsRuns_X6_readsNumber
set_option maxRecDepth 20000 in
theorem ggX6_readsRuns_X6_doFeed : GoodIn wsX6_readsRuns wsX6_doFeed := goodIn_r _ [26, 27, 28, 29, 30, 12, 13, 9, 14, 31, 32, 33, 34, 35, 36, 37, 38, 39, 40, 41, 42, 43, 44, 45, 46, 47, 48, 49, 54, 55, 56, 57, 58, 59, 60, 61, 62, 63, 64, 65, 66] (by decide +kernel) (by decide +kernel)
set_option maxRecDepth 20000 in
theorem gX6_readsRuns_X6_doFeed : GoodIn wsX6_readsRuns (wsV RX6 96 RX6 yX6_doFeed wsX6_doFeed) := goodIn_app (goodIn_of _ (by decide +kernel)) ggX6_readsRuns_X6_doFeed
set_option maxRecDepth 20000 in
theorem ggX6_readsRuns_X6_does : GoodIn wsX6_readsRuns wsX6_does := goodIn_r _ [53, 5, 54, 55, 56, 57, 58, 59, 60, 61, 62, 63, 64, 65, 66] (by decide +kernel) (by decide +kernel)
set_option maxRecDepth 20000 in
theorem gX6_readsRuns_X6_does : GoodIn wsX6_readsRuns (wsV RX6 165 RX6 yX6_does wsX6_does) := goodIn_app (goodIn_of _ (by decide +kernel)) ggX6_readsRuns_X6_does
theorem dX6_readsRuns_0 : decode cX6_readsRuns 0 = .ok (.iconst 1, 1) := by decide +kernel
theorem dX6_readsRuns_1 : decode cX6_readsRuns 1 = .ok (.istore_n 1, 1) := by decide +kernel
theorem dX6_readsRuns_2 : decode cX6_readsRuns 2 = .ok (.iload_n 1, 1) := by decide +kernel
theorem dX6_readsRuns_3 : decode cX6_readsRuns 3 = .ok (.ifCond .eq 115, 3) := by decide +kernel
theorem dX6_readsRuns_6 : decode cX6_readsRuns 6 = .ok (.aload_n 0, 1) := by decide +kernel
theorem dX6_readsRuns_7 : decode cX6_readsRuns 7 = .ok (.bipush 48, 2) := by decide +kernel
theorem dX6_readsRuns_9 : decode cX6_readsRuns 9 = .ok (.bipush 51, 2) := by decide +kernel
theorem dX6_readsRuns_11 : decode cX6_readsRuns 11 = .ok (.invokevirtual 144, 3) := by decide +kernel
theorem dX6_readsRuns_14 : decode cX6_readsRuns 14 = .ok (.ifCond .ne 5, 3) := by decide +kernel
theorem dX6_readsRuns_17 : decode cX6_readsRuns 17 = .ok (.iconst 0, 1) := by decide +kernel
theorem dX6_readsRuns_18 : decode cX6_readsRuns 18 = .ok (.ireturn, 1) := by decide +kernel
theorem dX6_readsRuns_19 : decode cX6_readsRuns 19 = .ok (.aload_n 0, 1) := by decide +kernel
theorem dX6_readsRuns_20 : decode cX6_readsRuns 20 = .ok (.getfield 28, 3) := by decide +kernel
theorem dX6_readsRuns_23 : decode cX6_readsRuns 23 = .ok (.aload_n 0, 1) := by decide +kernel
theorem dX6_readsRuns_24 : decode cX6_readsRuns 24 = .ok (.getfield 141, 3) := by decide +kernel
theorem dX6_readsRuns_27 : decode cX6_readsRuns 27 = .ok (.iaload, 1) := by decide +kernel
theorem dX6_readsRuns_28 : decode cX6_readsRuns 28 = .ok (.bipush 48, 2) := by decide +kernel
theorem dX6_readsRuns_30 : decode cX6_readsRuns 30 = .ok (.isub, 1) := by decide +kernel
theorem dX6_readsRuns_31 : decode cX6_readsRuns 31 = .ok (.istore_n 2, 1) := by decide +kernel
theorem dX6_readsRuns_32 : decode cX6_readsRuns 32 = .ok (.aload_n 0, 1) := by decide +kernel
theorem dX6_readsRuns_33 : decode cX6_readsRuns 33 = .ok (.dup, 1) := by decide +kernel
theorem dX6_readsRuns_34 : decode cX6_readsRuns 34 = .ok (.getfield 141, 3) := by decide +kernel
theorem dX6_readsRuns_37 : decode cX6_readsRuns 37 = .ok (.iconst 1, 1) := by decide +kernel
theorem dX6_readsRuns_38 : decode cX6_readsRuns 38 = .ok (.iadd, 1) := by decide +kernel
theorem dX6_readsRuns_39 : decode cX6_readsRuns 39 = .ok (.putfield 141, 3) := by decide +kernel
theorem dX6_readsRuns_42 : decode cX6_readsRuns 42 = .ok (.aload_n 0, 1) := by decide +kernel
theorem dX6_readsRuns_43 : decode cX6_readsRuns 43 = .ok (.bipush 105, 2) := by decide +kernel
theorem dX6_readsRuns_45 : decode cX6_readsRuns 45 = .ok (.invokevirtual 153, 3) := by decide +kernel
theorem dX6_readsRuns_48 : decode cX6_readsRuns 48 = .ok (.ifCond .eq 7, 3) := by decide +kernel
theorem dX6_readsRuns_51 : decode cX6_readsRuns 51 = .ok (.iconst 1, 1) := by decide +kernel
theorem dX6_readsRuns_52 : decode cX6_readsRuns 52 = .ok (.goto 4, 3) := by decide +kernel
theorem dX6_readsRuns_55 : decode cX6_readsRuns 55 = .ok (.iconst 0, 1) := by decide +kernel
theorem dX6_readsRuns_56 : decode cX6_readsRuns 56 = .ok (.istore_n 3, 1) := by decide +kernel
theorem dX6_readsRuns_57 : decode cX6_readsRuns 57 = .ok (.aload_n 0, 1) := by decide +kernel
theorem dX6_readsRuns_58 : decode cX6_readsRuns 58 = .ok (.iconst 1, 1) := by decide +kernel
theorem dX6_readsRuns_59 : decode cX6_readsRuns 59 = .ok (.putfield 147, 3) := by decide +kernel
theorem dX6_readsRuns_62 : decode cX6_readsRuns 62 = .ok (.aload_n 0, 1) := by decide +kernel
theorem dX6_readsRuns_63 : decode cX6_readsRuns 63 = .ok (.bipush 42, 2) := by decide +kernel
theorem dX6_readsRuns_65 : decode cX6_readsRuns 65 = .ok (.invokevirtual 153, 3) := by decide +kernel
theorem dX6_readsRuns_68 : decode cX6_readsRuns 68 = .ok (.ifCond .eq 12, 3) := by decide +kernel
theorem dX6_readsRuns_71 : decode cX6_readsRuns 71 = .ok (.aload_n 0, 1) := by decide +kernel
theorem dX6_readsRuns_72 : decode cX6_readsRuns 72 = .ok (.invokevirtual 157, 3) := by decide +kernel
theorem dX6_readsRuns_75 : decode cX6_readsRuns 75 = .ok (.ifCond .ne 5, 3) := by decide +kernel
theorem dX6_readsRuns_78 : decode cX6_readsRuns 78 = .ok (.iconst 0, 1) := by decide +kernel
theorem dX6_readsRuns_79 : decode cX6_readsRuns 79 = .ok (.ireturn, 1) := by decide +kernel
theorem dX6_readsRuns_80 : decode cX6_readsRuns 80 = .ok (.aload_n 0, 1) := by decide +kernel
theorem dX6_readsRuns_81 : decode cX6_readsRuns 81 = .ok (.getfield 161, 3) := by decide +kernel
theorem dX6_readsRuns_84 : decode cX6_readsRuns 84 = .ok (.ifCond .eq 24, 3) := by decide +kernel
theorem dX6_readsRuns_87 : decode cX6_readsRuns 87 = .ok (.aload_n 0, 1) := by decide +kernel
theorem dX6_readsRuns_88 : decode cX6_readsRuns 88 = .ok (.getfield 150, 3) := by decide +kernel
theorem dX6_readsRuns_91 : decode cX6_readsRuns 91 = .ok (.ifCond .ne 17, 3) := by decide +kernel
theorem dX6_readsRuns_94 : decode cX6_readsRuns 94 = .ok (.aload_n 0, 1) := by decide +kernel
theorem dX6_readsRuns_95 : decode cX6_readsRuns 95 = .ok (.aload_n 0, 1) := by decide +kernel
theorem dX6_readsRuns_96 : decode cX6_readsRuns 96 = .ok (.iload_n 2, 1) := by decide +kernel
theorem dX6_readsRuns_97 : decode cX6_readsRuns 97 = .ok (.iload_n 3, 1) := by decide +kernel
theorem dX6_readsRuns_98 : decode cX6_readsRuns 98 = .ok (.aload_n 0, 1) := by decide +kernel
theorem dX6_readsRuns_99 : decode cX6_readsRuns 99 = .ok (.getfield 147, 3) := by decide +kernel
theorem dX6_readsRuns_102 : decode cX6_readsRuns 102 = .ok (.invokevirtual 96, 3) := by decide +kernel
theorem dX6_readsRuns_105 : decode cX6_readsRuns 105 = .ok (.invokevirtual 165, 3) := by decide +kernel
theorem dX6_readsRuns_108 : decode cX6_readsRuns 108 = .ok (.aload_n 0, 1) := by decide +kernel
theorem dX6_readsRuns_109 : decode cX6_readsRuns 109 = .ok (.bipush 44, 2) := by decide +kernel
theorem dX6_readsRuns_111 : decode cX6_readsRuns 111 = .ok (.invokevirtual 153, 3) := by decide +kernel
theorem dX6_readsRuns_114 : decode cX6_readsRuns 114 = .ok (.istore_n 1, 1) := by decide +kernel
theorem dX6_readsRuns_115 : decode cX6_readsRuns 115 = .ok (.goto (-113), 3) := by decide +kernel
theorem dX6_readsRuns_118 : decode cX6_readsRuns 118 = .ok (.iconst 1, 1) := by decide +kernel
theorem dX6_readsRuns_119 : decode cX6_readsRuns 119 = .ok (.ireturn, 1) := by decide +kernel
set_option maxRecDepth 20000 in
theorem ggX6_readsOrder_X6_takes : GoodIn wsX6_readsOrder wsX6_takes := goodIn_r _ [9, 3, 10, 11, 12, 8, 13, 14, 2, 15, 16, 17, 83, 84, 85, 86, 87, 88, 89, 90, 91, 92, 93, 94, 95] (by decide +kernel) (by decide +kernel)
set_option maxRecDepth 20000 in
theorem gX6_readsOrder_X6_takes : GoodIn wsX6_readsOrder (wsV RX6 153 RX6 yX6_takes wsX6_takes) := goodIn_app (goodIn_of _ (by decide +kernel)) ggX6_readsOrder_X6_takes
set_option maxRecDepth 20000 in
theorem ggX6_readsOrder_X6_doZero : GoodIn wsX6_readsOrder wsX6_doZero := goodIn_r _ [21, 22, 83, 84, 85, 86, 87, 88, 89, 90, 91, 92, 93, 94, 95] (by decide +kernel) (by decide +kernel)
set_option maxRecDepth 20000 in
theorem gX6_readsOrder_X6_doZero : GoodIn wsX6_readsOrder (wsV RX6 103 RX6 yX6_doZero wsX6_doZero) := goodIn_app (goodIn_of _ (by decide +kernel)) ggX6_readsOrder_X6_doZero
set_option maxRecDepth 20000 in
theorem ggX6_readsOrder_X6_does : GoodIn wsX6_readsOrder wsX6_does := goodIn_r _ [26, 27, 83, 84, 85, 86, 87, 88, 89, 90, 91, 92, 93, 94, 95] (by decide +kernel) (by decide +kernel)
set_option maxRecDepth 20000 in
theorem gX6_readsOrder_X6_does : GoodIn wsX6_readsOrder (wsV RX6 165 RX6 yX6_does wsX6_does) := goodIn_app (goodIn_of _ (by decide +kernel)) ggX6_readsOrder_X6_does
set_option maxRecDepth 20000 in
theorem ggX6_readsOrder_X6_isHere : GoodIn wsX6_readsOrder wsX6_isHere := goodIn_r _ [13, 3, 14, 2, 15, 16, 8, 17, 83, 84, 85, 86, 87, 88, 89, 90, 91, 92, 93, 94, 95] (by decide +kernel) (by decide +kernel)
set_option maxRecDepth 20000 in
theorem gX6_readsOrder_X6_isHere : GoodIn wsX6_readsOrder (wsV RX6 144 RX6 yX6_isHere wsX6_isHere) := goodIn_app (goodIn_of _ (by decide +kernel)) ggX6_readsOrder_X6_isHere
set_option maxRecDepth 20000 in
theorem ggX6_readsOrder_X6_doSet : GoodIn wsX6_readsOrder wsX6_doSet := goodIn_r _ [31, 22, 32, 33, 8, 34, 35, 36, 37, 38, 39, 40, 41, 15, 16, 17, 83, 84, 85, 86, 87, 88, 89, 90, 91, 92, 93, 94, 95] (by decide +kernel) (by decide +kernel)
set_option maxRecDepth 20000 in
theorem gX6_readsOrder_X6_doSet : GoodIn wsX6_readsOrder (wsV RX6 89 RX6 yX6_doSet wsX6_doSet) := goodIn_app (goodIn_of _ (by decide +kernel)) ggX6_readsOrder_X6_doSet
set_option maxRecDepth 20000 in
theorem ggX6_readsOrder_X6_readsNumber : GoodIn wsX6_readsOrder wsX6_readsNumber := goodIn_r _ [45, 2, 3, 4, 10, 11, 12, 8, 13, 14, 15, 16, 17, 83, 84, 85, 86, 87, 88, 89, 90, 91, 92, 93, 94, 95] (by decide +kernel) (by decide +kernel)
set_option maxRecDepth 20000 in
theorem gX6_readsOrder_X6_readsNumber : GoodIn wsX6_readsOrder (wsV RX6 157 RX6 yX6_readsNumber wsX6_readsNumber) := goodIn_app (goodIn_of _ (by decide +kernel)) ggX6_readsOrder_X6_readsNumber
set_option maxRecDepth 20000 in
theorem ggX6_readsOrder_X6_doTurn : GoodIn wsX6_readsOrder wsX6_doTurn := goodIn_r _ [49, 50, 40, 22, 51, 15, 16, 8, 17, 52, 53, 54, 55, 56, 57, 58, 59, 60, 61, 62, 63, 64, 65, 66, 67, 68, 69, 70, 71, 72, 73, 83, 84, 85, 86, 87, 88, 89, 90, 91, 92, 93, 94, 95] (by decide +kernel) (by decide +kernel)
set_option maxRecDepth 20000 in
theorem gX6_readsOrder_X6_doTurn : GoodIn wsX6_readsOrder (wsV RX6 100 RX6 yX6_doTurn wsX6_doTurn) := goodIn_app (goodIn_of _ (by decide +kernel)) ggX6_readsOrder_X6_doTurn
set_option maxRecDepth 20000 in
theorem ggX6_readsOrder_X6_readsRuns : GoodIn wsX6_readsOrder wsX6_readsRuns := goodIn_r _ [77, 2, 3, 4, 1, 27, 10, 11, 12, 8, 13, 14, 15, 16, 17, 5, 6, 7, 9, 42, 43, 44, 45, 78, 79, 80, 81, 82, 40, 22, 51, 58, 59, 60, 61, 62, 63, 64, 65, 52, 53, 54, 66, 67, 68, 69, 70, 71, 72, 73, 23, 24, 25, 26, 83, 84, 85, 86, 87, 88, 89, 90, 91, 92, 93, 94, 95] (by decide +kernel) (by decide +kernel)
set_option maxRecDepth 20000 in
theorem gX6_readsOrder_X6_readsRuns : GoodIn wsX6_readsOrder (wsV RX6 168 RX6 yX6_readsRuns wsX6_readsRuns) := goodIn_app (goodIn_of _ (by decide +kernel)) ggX6_readsOrder_X6_readsRuns
theorem dX6_readsOrder_0 : decode cX6_readsOrder 0 = .ok (.aload_n 0, 1) := by decide +kernel
theorem dX6_readsOrder_1 : decode cX6_readsOrder 1 = .ok (.bipush 122, 2) := by decide +kernel
theorem dX6_readsOrder_3 : decode cX6_readsOrder 3 = .ok (.invokevirtual 153, 3) := by decide +kernel
theorem dX6_readsOrder_6 : decode cX6_readsOrder 6 = .ok (.ifCond .eq 20, 3) := by decide +kernel
theorem dX6_readsOrder_9 : decode cX6_readsOrder 9 = .ok (.aload_n 0, 1) := by decide +kernel
theorem dX6_readsOrder_10 : decode cX6_readsOrder 10 = .ok (.getfield 161, 3) := by decide +kernel
theorem dX6_readsOrder_13 : decode cX6_readsOrder 13 = .ok (.ifCond .eq 11, 3) := by decide +kernel
theorem dX6_readsOrder_16 : decode cX6_readsOrder 16 = .ok (.aload_n 0, 1) := by decide +kernel
theorem dX6_readsOrder_17 : decode cX6_readsOrder 17 = .ok (.aload_n 0, 1) := by decide +kernel
theorem dX6_readsOrder_18 : decode cX6_readsOrder 18 = .ok (.invokevirtual 103, 3) := by decide +kernel
theorem dX6_readsOrder_21 : decode cX6_readsOrder 21 = .ok (.invokevirtual 165, 3) := by decide +kernel
theorem dX6_readsOrder_24 : decode cX6_readsOrder 24 = .ok (.iconst 1, 1) := by decide +kernel
theorem dX6_readsOrder_25 : decode cX6_readsOrder 25 = .ok (.ireturn, 1) := by decide +kernel
theorem dX6_readsOrder_26 : decode cX6_readsOrder 26 = .ok (.aload_n 0, 1) := by decide +kernel
theorem dX6_readsOrder_27 : decode cX6_readsOrder 27 = .ok (.bipush 110, 2) := by decide +kernel
theorem dX6_readsOrder_29 : decode cX6_readsOrder 29 = .ok (.invokevirtual 153, 3) := by decide +kernel
theorem dX6_readsOrder_32 : decode cX6_readsOrder 32 = .ok (.ifCond .eq 56, 3) := by decide +kernel
theorem dX6_readsOrder_35 : decode cX6_readsOrder 35 = .ok (.aload_n 0, 1) := by decide +kernel
theorem dX6_readsOrder_36 : decode cX6_readsOrder 36 = .ok (.bipush 49, 2) := by decide +kernel
theorem dX6_readsOrder_38 : decode cX6_readsOrder 38 = .ok (.bipush 57, 2) := by decide +kernel
theorem dX6_readsOrder_40 : decode cX6_readsOrder 40 = .ok (.invokevirtual 144, 3) := by decide +kernel
theorem dX6_readsOrder_43 : decode cX6_readsOrder 43 = .ok (.ifCond .ne 5, 3) := by decide +kernel
theorem dX6_readsOrder_46 : decode cX6_readsOrder 46 = .ok (.iconst 0, 1) := by decide +kernel
theorem dX6_readsOrder_47 : decode cX6_readsOrder 47 = .ok (.ireturn, 1) := by decide +kernel
theorem dX6_readsOrder_48 : decode cX6_readsOrder 48 = .ok (.aload_n 0, 1) := by decide +kernel
theorem dX6_readsOrder_49 : decode cX6_readsOrder 49 = .ok (.getfield 161, 3) := by decide +kernel
theorem dX6_readsOrder_52 : decode cX6_readsOrder 52 = .ok (.ifCond .eq 24, 3) := by decide +kernel
theorem dX6_readsOrder_55 : decode cX6_readsOrder 55 = .ok (.aload_n 0, 1) := by decide +kernel
theorem dX6_readsOrder_56 : decode cX6_readsOrder 56 = .ok (.aload_n 0, 1) := by decide +kernel
theorem dX6_readsOrder_57 : decode cX6_readsOrder 57 = .ok (.iconst 2, 1) := by decide +kernel
theorem dX6_readsOrder_58 : decode cX6_readsOrder 58 = .ok (.aload_n 0, 1) := by decide +kernel
theorem dX6_readsOrder_59 : decode cX6_readsOrder 59 = .ok (.getfield 28, 3) := by decide +kernel
theorem dX6_readsOrder_62 : decode cX6_readsOrder 62 = .ok (.aload_n 0, 1) := by decide +kernel
theorem dX6_readsOrder_63 : decode cX6_readsOrder 63 = .ok (.getfield 141, 3) := by decide +kernel
theorem dX6_readsOrder_66 : decode cX6_readsOrder 66 = .ok (.iaload, 1) := by decide +kernel
theorem dX6_readsOrder_67 : decode cX6_readsOrder 67 = .ok (.bipush 48, 2) := by decide +kernel
theorem dX6_readsOrder_69 : decode cX6_readsOrder 69 = .ok (.isub, 1) := by decide +kernel
theorem dX6_readsOrder_70 : decode cX6_readsOrder 70 = .ok (.invokevirtual 89, 3) := by decide +kernel
theorem dX6_readsOrder_73 : decode cX6_readsOrder 73 = .ok (.invokevirtual 165, 3) := by decide +kernel
theorem dX6_readsOrder_76 : decode cX6_readsOrder 76 = .ok (.aload_n 0, 1) := by decide +kernel
theorem dX6_readsOrder_77 : decode cX6_readsOrder 77 = .ok (.dup, 1) := by decide +kernel
theorem dX6_readsOrder_78 : decode cX6_readsOrder 78 = .ok (.getfield 141, 3) := by decide +kernel
theorem dX6_readsOrder_81 : decode cX6_readsOrder 81 = .ok (.iconst 1, 1) := by decide +kernel
theorem dX6_readsOrder_82 : decode cX6_readsOrder 82 = .ok (.iadd, 1) := by decide +kernel
theorem dX6_readsOrder_83 : decode cX6_readsOrder 83 = .ok (.putfield 141, 3) := by decide +kernel
theorem dX6_readsOrder_86 : decode cX6_readsOrder 86 = .ok (.iconst 1, 1) := by decide +kernel
theorem dX6_readsOrder_87 : decode cX6_readsOrder 87 = .ok (.ireturn, 1) := by decide +kernel
theorem dX6_readsOrder_88 : decode cX6_readsOrder 88 = .ok (.aload_n 0, 1) := by decide +kernel
theorem dX6_readsOrder_89 : decode cX6_readsOrder 89 = .ok (.bipush 102, 2) := by decide +kernel
theorem dX6_readsOrder_91 : decode cX6_readsOrder 91 = .ok (.invokevirtual 153, 3) := by decide +kernel
theorem dX6_readsOrder_94 : decode cX6_readsOrder 94 = .ok (.istore_n 1, 1) := by decide +kernel
theorem dX6_readsOrder_95 : decode cX6_readsOrder 95 = .ok (.iload_n 1, 1) := by decide +kernel
theorem dX6_readsOrder_96 : decode cX6_readsOrder 96 = .ok (.ifCond .ne 12, 3) := by decide +kernel
theorem dX6_readsOrder_99 : decode cX6_readsOrder 99 = .ok (.aload_n 0, 1) := by decide +kernel
theorem dX6_readsOrder_100 : decode cX6_readsOrder 100 = .ok (.bipush 98, 2) := by decide +kernel
theorem dX6_readsOrder_102 : decode cX6_readsOrder 102 = .ok (.invokevirtual 153, 3) := by decide +kernel
theorem dX6_readsOrder_105 : decode cX6_readsOrder 105 = .ok (.ifCond .eq 45, 3) := by decide +kernel
theorem dX6_readsOrder_108 : decode cX6_readsOrder 108 = .ok (.aload_n 0, 1) := by decide +kernel
theorem dX6_readsOrder_109 : decode cX6_readsOrder 109 = .ok (.invokevirtual 157, 3) := by decide +kernel
theorem dX6_readsOrder_112 : decode cX6_readsOrder 112 = .ok (.ifCond .ne 5, 3) := by decide +kernel
theorem dX6_readsOrder_115 : decode cX6_readsOrder 115 = .ok (.iconst 0, 1) := by decide +kernel
theorem dX6_readsOrder_116 : decode cX6_readsOrder 116 = .ok (.ireturn, 1) := by decide +kernel
theorem dX6_readsOrder_117 : decode cX6_readsOrder 117 = .ok (.aload_n 0, 1) := by decide +kernel
theorem dX6_readsOrder_118 : decode cX6_readsOrder 118 = .ok (.getfield 161, 3) := by decide +kernel
theorem dX6_readsOrder_121 : decode cX6_readsOrder 121 = .ok (.ifCond .eq 27, 3) := by decide +kernel
theorem dX6_readsOrder_124 : decode cX6_readsOrder 124 = .ok (.aload_n 0, 1) := by decide +kernel
theorem dX6_readsOrder_125 : decode cX6_readsOrder 125 = .ok (.aload_n 0, 1) := by decide +kernel
theorem dX6_readsOrder_126 : decode cX6_readsOrder 126 = .ok (.iload_n 1, 1) := by decide +kernel
theorem dX6_readsOrder_127 : decode cX6_readsOrder 127 = .ok (.ifCond .eq 10, 3) := by decide +kernel
theorem dX6_readsOrder_130 : decode cX6_readsOrder 130 = .ok (.aload_n 0, 1) := by decide +kernel
theorem dX6_readsOrder_131 : decode cX6_readsOrder 131 = .ok (.getfield 147, 3) := by decide +kernel
theorem dX6_readsOrder_134 : decode cX6_readsOrder 134 = .ok (.goto 8, 3) := by decide +kernel
theorem dX6_readsOrder_137 : decode cX6_readsOrder 137 = .ok (.aload_n 0, 1) := by decide +kernel
theorem dX6_readsOrder_138 : decode cX6_readsOrder 138 = .ok (.getfield 147, 3) := by decide +kernel
theorem dX6_readsOrder_141 : decode cX6_readsOrder 141 = .ok (.ineg, 1) := by decide +kernel
theorem dX6_readsOrder_142 : decode cX6_readsOrder 142 = .ok (.invokevirtual 100, 3) := by decide +kernel
theorem dX6_readsOrder_145 : decode cX6_readsOrder 145 = .ok (.invokevirtual 165, 3) := by decide +kernel
theorem dX6_readsOrder_148 : decode cX6_readsOrder 148 = .ok (.iconst 1, 1) := by decide +kernel
theorem dX6_readsOrder_149 : decode cX6_readsOrder 149 = .ok (.ireturn, 1) := by decide +kernel
theorem dX6_readsOrder_150 : decode cX6_readsOrder 150 = .ok (.aload_n 0, 1) := by decide +kernel
theorem dX6_readsOrder_151 : decode cX6_readsOrder 151 = .ok (.invokevirtual 168, 3) := by decide +kernel
theorem dX6_readsOrder_154 : decode cX6_readsOrder 154 = .ok (.ireturn, 1) := by decide +kernel
set_option maxRecDepth 20000 in
theorem ggX6_fault_X6_readsOrder : GoodIn wsX6_fault wsX6_readsOrder := goodIn_r _ [8, 2, 9, 1, 10, 11, 12, 13, 7, 14, 15, 16, 17, 18, 3, 19, 20, 21, 22, 23, 24, 25, 26, 27, 28, 29, 30, 31, 32, 33, 34, 35, 36, 37, 38, 39, 40, 41, 42, 43, 44, 45, 46, 47, 48, 49, 50, 51, 52, 53, 54, 55, 56, 57, 58, 59, 60, 61, 62, 63, 64, 65, 66, 67, 68, 69, 70, 71, 72, 73, 74, 75, 76, 77, 78, 79, 80, 81, 82, 83, 84, 85, 86, 87, 88, 89, 90, 91, 92, 93, 94, 95, 96, 97, 98, 99] (by decide +kernel) (by decide +kernel)
set_option maxRecDepth 20000 in
theorem gX6_fault_X6_readsOrder : GoodIn wsX6_fault (wsV RX6 171 RX6 yX6_readsOrder wsX6_readsOrder) := goodIn_app (goodIn_of _ (by decide +kernel)) ggX6_fault_X6_readsOrder
set_option maxRecDepth 20000 in
theorem ggX6_fault_X6_takes : GoodIn wsX6_fault wsX6_takes := goodIn_r _ [14, 1, 15, 16, 17, 7, 18, 3, 9, 19, 20, 21, 87, 88, 89, 90, 91, 92, 93, 94, 95, 96, 97, 98, 99] (by decide +kernel) (by decide +kernel)
set_option maxRecDepth 20000 in
theorem gX6_fault_X6_takes : GoodIn wsX6_fault (wsV RX6 153 RX6 yX6_takes wsX6_takes) := goodIn_app (goodIn_of _ (by decide +kernel)) ggX6_fault_X6_takes
theorem dX6_fault_0 : decode cX6_fault 0 = .ok (.aload_n 0, 1) := by decide +kernel
theorem dX6_fault_1 : decode cX6_fault 1 = .ok (.iconst 0, 1) := by decide +kernel
theorem dX6_fault_2 : decode cX6_fault 2 = .ok (.putfield 141, 3) := by decide +kernel
theorem dX6_fault_5 : decode cX6_fault 5 = .ok (.aload_n 0, 1) := by decide +kernel
theorem dX6_fault_6 : decode cX6_fault 6 = .ok (.iconst 0, 1) := by decide +kernel
theorem dX6_fault_7 : decode cX6_fault 7 = .ok (.putfield 161, 3) := by decide +kernel
theorem dX6_fault_10 : decode cX6_fault 10 = .ok (.iconst 1, 1) := by decide +kernel
theorem dX6_fault_11 : decode cX6_fault 11 = .ok (.istore_n 1, 1) := by decide +kernel
theorem dX6_fault_12 : decode cX6_fault 12 = .ok (.iload_n 1, 1) := by decide +kernel
theorem dX6_fault_13 : decode cX6_fault 13 = .ok (.ifCond .eq 25, 3) := by decide +kernel
theorem dX6_fault_16 : decode cX6_fault 16 = .ok (.aload_n 0, 1) := by decide +kernel
theorem dX6_fault_17 : decode cX6_fault 17 = .ok (.invokevirtual 171, 3) := by decide +kernel
theorem dX6_fault_20 : decode cX6_fault 20 = .ok (.ifCond .ne 8, 3) := by decide +kernel
theorem dX6_fault_23 : decode cX6_fault 23 = .ok (.aload_n 0, 1) := by decide +kernel
theorem dX6_fault_24 : decode cX6_fault 24 = .ok (.getfield 141, 3) := by decide +kernel
theorem dX6_fault_27 : decode cX6_fault 27 = .ok (.ireturn, 1) := by decide +kernel
theorem dX6_fault_28 : decode cX6_fault 28 = .ok (.aload_n 0, 1) := by decide +kernel
theorem dX6_fault_29 : decode cX6_fault 29 = .ok (.bipush 59, 2) := by decide +kernel
theorem dX6_fault_31 : decode cX6_fault 31 = .ok (.invokevirtual 153, 3) := by decide +kernel
theorem dX6_fault_34 : decode cX6_fault 34 = .ok (.istore_n 1, 1) := by decide +kernel
theorem dX6_fault_35 : decode cX6_fault 35 = .ok (.goto (-23), 3) := by decide +kernel
theorem dX6_fault_38 : decode cX6_fault 38 = .ok (.aload_n 0, 1) := by decide +kernel
theorem dX6_fault_39 : decode cX6_fault 39 = .ok (.getfield 141, 3) := by decide +kernel
theorem dX6_fault_42 : decode cX6_fault 42 = .ok (.aload_n 0, 1) := by decide +kernel
theorem dX6_fault_43 : decode cX6_fault 43 = .ok (.getfield 109, 3) := by decide +kernel
theorem dX6_fault_46 : decode cX6_fault 46 = .ok (.if_icmp .ne 8, 3) := by decide +kernel
theorem dX6_fault_49 : decode cX6_fault 49 = .ok (.bipush (-6), 2) := by decide +kernel
theorem dX6_fault_51 : decode cX6_fault 51 = .ok (.goto 7, 3) := by decide +kernel
theorem dX6_fault_54 : decode cX6_fault 54 = .ok (.aload_n 0, 1) := by decide +kernel
theorem dX6_fault_55 : decode cX6_fault 55 = .ok (.getfield 141, 3) := by decide +kernel
theorem dX6_fault_58 : decode cX6_fault 58 = .ok (.ireturn, 1) := by decide +kernel
set_option maxRecDepth 20000 in
theorem ggX6_carryOut_X6_fault : GoodIn wsX6_carryOut wsX6_fault := goodIn_r _ [11, 3, 4, 6, 12, 13, 14, 10, 15, 16, 17, 18, 19, 20, 21, 22, 23, 24, 25, 26, 27, 28, 29, 30, 31, 32, 1, 33, 34, 35, 36, 5, 37, 38, 39, 40, 41, 42, 43, 44, 45, 46, 47, 48, 49, 50, 51, 52, 53, 54, 55, 56, 57, 58, 59, 60, 61, 62, 63, 64, 65, 66, 67, 68, 69, 70, 71, 72, 73, 74, 75, 76, 77, 78, 79, 80, 81, 82, 83, 84, 85, 86, 87, 88, 89, 90, 91, 101, 102, 103, 104, 105, 106, 107, 108, 109, 110, 111, 112, 113] (by decide +kernel) (by decide +kernel)
set_option maxRecDepth 20000 in
theorem gX6_carryOut_X6_fault : GoodIn wsX6_carryOut (wsV RX6 174 RX6 yX6_fault wsX6_fault) := goodIn_app (goodIn_of _ (by decide +kernel)) ggX6_carryOut_X6_fault
set_option maxRecDepth 20000 in
theorem ggX6_carryOut_X6_copy : GoodIn wsX6_carryOut wsX6_copy := goodIn_r _ [94] (by decide +kernel) (by decide +kernel)
set_option maxRecDepth 20000 in
theorem gX6_carryOut_X6_copy : GoodIn wsX6_carryOut (va_wsS RX6 85 yX6_copy wsX6_copy) := goodIn_app (goodIn_of _ (by decide +kernel)) ggX6_carryOut_X6_copy
set_option maxRecDepth 20000 in
theorem ggX6_carryOut_X6_readsOrder : GoodIn wsX6_carryOut wsX6_readsOrder := goodIn_r _ [15, 4, 16, 3, 17, 18, 19, 20, 10, 21, 22, 23, 24, 25, 6, 26, 27, 28, 29, 30, 31, 32, 1, 33, 34, 35, 36, 5, 37, 38, 39, 40, 41, 42, 43, 44, 45, 46, 47, 48, 49, 50, 51, 52, 53, 54, 55, 56, 57, 58, 59, 60, 61, 62, 63, 64, 65, 66, 67, 68, 69, 70, 71, 72, 73, 74, 75, 76, 77, 78, 79, 80, 81, 82, 83, 84, 85, 86, 87, 88, 89, 90, 91, 101, 102, 103, 104, 105, 106, 107, 108, 109, 110, 111, 112, 113] (by decide +kernel) (by decide +kernel)
set_option maxRecDepth 20000 in
theorem gX6_carryOut_X6_readsOrder : GoodIn wsX6_carryOut (wsV RX6 171 RX6 yX6_readsOrder wsX6_readsOrder) := goodIn_app (goodIn_of _ (by decide +kernel)) ggX6_carryOut_X6_readsOrder
set_option maxRecDepth 20000 in
theorem ggX6_carryOut_X6_takes : GoodIn wsX6_carryOut wsX6_takes := goodIn_r _ [21, 3, 22, 23, 24, 10, 25, 6, 16, 26, 27, 28, 101, 102, 103, 104, 105, 106, 107, 108, 109, 110, 111, 112, 113] (by decide +kernel) (by decide +kernel)
set_option maxRecDepth 20000 in
theorem gX6_carryOut_X6_takes : GoodIn wsX6_carryOut (wsV RX6 153 RX6 yX6_takes wsX6_takes) := goodIn_app (goodIn_of _ (by decide +kernel)) ggX6_carryOut_X6_takes
set_option maxRecDepth 20000 in
theorem ggX6_carryOut_X6_changed : GoodIn wsX6_carryOut wsX6_changed := goodIn_r _ [98, 99, 100, 2, 101, 102, 103, 104, 105, 106, 107, 108, 109, 110, 111, 112, 113] (by decide +kernel) (by decide +kernel)
set_option maxRecDepth 20000 in
theorem gX6_carryOut_X6_changed : GoodIn wsX6_carryOut (wsV RX6 93 RX6 yX6_changed wsX6_changed) := goodIn_app (goodIn_of _ (by decide +kernel)) ggX6_carryOut_X6_changed
theorem dX6_carryOut_0 : decode cX6_carryOut 0 = .ok (.aload_n 0, 1) := by decide +kernel
theorem dX6_carryOut_1 : decode cX6_carryOut 1 = .ok (.invokevirtual 174, 3) := by decide +kernel
theorem dX6_carryOut_4 : decode cX6_carryOut 4 = .ok (.bipush (-6), 2) := by decide +kernel
theorem dX6_carryOut_6 : decode cX6_carryOut 6 = .ok (.if_icmp .eq 6, 3) := by decide +kernel
theorem dX6_carryOut_9 : decode cX6_carryOut 9 = .ok (.bipush (-3), 2) := by decide +kernel
theorem dX6_carryOut_11 : decode cX6_carryOut 11 = .ok (.ireturn, 1) := by decide +kernel
theorem dX6_carryOut_12 : decode cX6_carryOut 12 = .ok (.aload_n 0, 1) := by decide +kernel
theorem dX6_carryOut_13 : decode cX6_carryOut 13 = .ok (.getfield 7, 3) := by decide +kernel
theorem dX6_carryOut_16 : decode cX6_carryOut 16 = .ok (.aload_n 0, 1) := by decide +kernel
theorem dX6_carryOut_17 : decode cX6_carryOut 17 = .ok (.getfield 13, 3) := by decide +kernel
theorem dX6_carryOut_20 : decode cX6_carryOut 20 = .ok (.invokestatic 85, 3) := by decide +kernel
theorem dX6_carryOut_23 : decode cX6_carryOut 23 = .ok (.aload_n 0, 1) := by decide +kernel
theorem dX6_carryOut_24 : decode cX6_carryOut 24 = .ok (.iconst 0, 1) := by decide +kernel
theorem dX6_carryOut_25 : decode cX6_carryOut 25 = .ok (.putfield 141, 3) := by decide +kernel
theorem dX6_carryOut_28 : decode cX6_carryOut 28 = .ok (.aload_n 0, 1) := by decide +kernel
theorem dX6_carryOut_29 : decode cX6_carryOut 29 = .ok (.iconst 1, 1) := by decide +kernel
theorem dX6_carryOut_30 : decode cX6_carryOut 30 = .ok (.putfield 161, 3) := by decide +kernel
theorem dX6_carryOut_33 : decode cX6_carryOut 33 = .ok (.aload_n 0, 1) := by decide +kernel
theorem dX6_carryOut_34 : decode cX6_carryOut 34 = .ok (.iconst 0, 1) := by decide +kernel
theorem dX6_carryOut_35 : decode cX6_carryOut 35 = .ok (.putfield 150, 3) := by decide +kernel
theorem dX6_carryOut_38 : decode cX6_carryOut 38 = .ok (.iconst 0, 1) := by decide +kernel
theorem dX6_carryOut_39 : decode cX6_carryOut 39 = .ok (.istore_n 1, 1) := by decide +kernel
theorem dX6_carryOut_40 : decode cX6_carryOut 40 = .ok (.iconst 1, 1) := by decide +kernel
theorem dX6_carryOut_41 : decode cX6_carryOut 41 = .ok (.istore_n 2, 1) := by decide +kernel
theorem dX6_carryOut_42 : decode cX6_carryOut 42 = .ok (.iload_n 2, 1) := by decide +kernel
theorem dX6_carryOut_43 : decode cX6_carryOut 43 = .ok (.ifCond .eq 48, 3) := by decide +kernel
theorem dX6_carryOut_46 : decode cX6_carryOut 46 = .ok (.aload_n 0, 1) := by decide +kernel
theorem dX6_carryOut_47 : decode cX6_carryOut 47 = .ok (.invokevirtual 171, 3) := by decide +kernel
theorem dX6_carryOut_50 : decode cX6_carryOut 50 = .ok (.istore_n 3, 1) := by decide +kernel
theorem dX6_carryOut_51 : decode cX6_carryOut 51 = .ok (.iload_n 1, 1) := by decide +kernel
theorem dX6_carryOut_52 : decode cX6_carryOut 52 = .ok (.aload_n 0, 1) := by decide +kernel
theorem dX6_carryOut_53 : decode cX6_carryOut 53 = .ok (.getfield 150, 3) := by decide +kernel
theorem dX6_carryOut_56 : decode cX6_carryOut 56 = .ok (.ifCond .ne 7, 3) := by decide +kernel
theorem dX6_carryOut_59 : decode cX6_carryOut 59 = .ok (.iconst 1, 1) := by decide +kernel
theorem dX6_carryOut_60 : decode cX6_carryOut 60 = .ok (.goto 4, 3) := by decide +kernel
theorem dX6_carryOut_63 : decode cX6_carryOut 63 = .ok (.iconst 0, 1) := by decide +kernel
theorem dX6_carryOut_64 : decode cX6_carryOut 64 = .ok (.iadd, 1) := by decide +kernel
theorem dX6_carryOut_65 : decode cX6_carryOut 65 = .ok (.istore_n 1, 1) := by decide +kernel
theorem dX6_carryOut_66 : decode cX6_carryOut 66 = .ok (.aload_n 0, 1) := by decide +kernel
theorem dX6_carryOut_67 : decode cX6_carryOut 67 = .ok (.getfield 150, 3) := by decide +kernel
theorem dX6_carryOut_70 : decode cX6_carryOut 70 = .ok (.ifCond .ne 16, 3) := by decide +kernel
theorem dX6_carryOut_73 : decode cX6_carryOut 73 = .ok (.aload_n 0, 1) := by decide +kernel
theorem dX6_carryOut_74 : decode cX6_carryOut 74 = .ok (.bipush 59, 2) := by decide +kernel
theorem dX6_carryOut_76 : decode cX6_carryOut 76 = .ok (.invokevirtual 153, 3) := by decide +kernel
theorem dX6_carryOut_79 : decode cX6_carryOut 79 = .ok (.ifCond .eq 7, 3) := by decide +kernel
theorem dX6_carryOut_82 : decode cX6_carryOut 82 = .ok (.iconst 1, 1) := by decide +kernel
theorem dX6_carryOut_83 : decode cX6_carryOut 83 = .ok (.goto 4, 3) := by decide +kernel
theorem dX6_carryOut_86 : decode cX6_carryOut 86 = .ok (.iconst 0, 1) := by decide +kernel
theorem dX6_carryOut_87 : decode cX6_carryOut 87 = .ok (.istore_n 2, 1) := by decide +kernel
theorem dX6_carryOut_88 : decode cX6_carryOut 88 = .ok (.goto (-46), 3) := by decide +kernel
theorem dX6_carryOut_91 : decode cX6_carryOut 91 = .ok (.aload_n 0, 1) := by decide +kernel
theorem dX6_carryOut_92 : decode cX6_carryOut 92 = .ok (.iconst 0, 1) := by decide +kernel
theorem dX6_carryOut_93 : decode cX6_carryOut 93 = .ok (.putfield 109, 3) := by decide +kernel
theorem dX6_carryOut_96 : decode cX6_carryOut 96 = .ok (.aload_n 0, 1) := by decide +kernel
theorem dX6_carryOut_97 : decode cX6_carryOut 97 = .ok (.iload_n 1, 1) := by decide +kernel
theorem dX6_carryOut_98 : decode cX6_carryOut 98 = .ok (.invokevirtual 93, 3) := by decide +kernel
theorem dX6_carryOut_101 : decode cX6_carryOut 101 = .ok (.ireturn, 1) := by decide +kernel
theorem dX6_undo_0 : decode cX6_undo 0 = .ok (.aload_n 0, 1) := by decide +kernel
theorem dX6_undo_1 : decode cX6_undo 1 = .ok (.getfield 34, 3) := by decide +kernel
theorem dX6_undo_4 : decode cX6_undo 4 = .ok (.ifCond .ne 6, 3) := by decide +kernel
theorem dX6_undo_7 : decode cX6_undo 7 = .ok (.bipush (-5), 2) := by decide +kernel
theorem dX6_undo_9 : decode cX6_undo 9 = .ok (.ireturn, 1) := by decide +kernel
theorem dX6_undo_10 : decode cX6_undo 10 = .ok (.aload_n 0, 1) := by decide +kernel
theorem dX6_undo_11 : decode cX6_undo 11 = .ok (.dup, 1) := by decide +kernel
theorem dX6_undo_12 : decode cX6_undo 12 = .ok (.getfield 34, 3) := by decide +kernel
theorem dX6_undo_15 : decode cX6_undo 15 = .ok (.iconst 1, 1) := by decide +kernel
theorem dX6_undo_16 : decode cX6_undo 16 = .ok (.isub, 1) := by decide +kernel
theorem dX6_undo_17 : decode cX6_undo 17 = .ok (.putfield 34, 3) := by decide +kernel
theorem dX6_undo_20 : decode cX6_undo 20 = .ok (.iconst 0, 1) := by decide +kernel
theorem dX6_undo_21 : decode cX6_undo 21 = .ok (.istore_n 1, 1) := by decide +kernel
theorem dX6_undo_22 : decode cX6_undo 22 = .ok (.iload_n 1, 1) := by decide +kernel
theorem dX6_undo_23 : decode cX6_undo 23 = .ok (.sipush 222, 3) := by decide +kernel
theorem dX6_undo_26 : decode cX6_undo 26 = .ok (.if_icmp .ge 30, 3) := by decide +kernel
theorem dX6_undo_29 : decode cX6_undo 29 = .ok (.aload_n 0, 1) := by decide +kernel
theorem dX6_undo_30 : decode cX6_undo 30 = .ok (.getfield 7, 3) := by decide +kernel
theorem dX6_undo_33 : decode cX6_undo 33 = .ok (.iload_n 1, 1) := by decide +kernel
theorem dX6_undo_34 : decode cX6_undo 34 = .ok (.aload_n 0, 1) := by decide +kernel
theorem dX6_undo_35 : decode cX6_undo 35 = .ok (.getfield 19, 3) := by decide +kernel
theorem dX6_undo_38 : decode cX6_undo 38 = .ok (.sipush 222, 3) := by decide +kernel
theorem dX6_undo_41 : decode cX6_undo 41 = .ok (.aload_n 0, 1) := by decide +kernel
theorem dX6_undo_42 : decode cX6_undo 42 = .ok (.getfield 34, 3) := by decide +kernel
theorem dX6_undo_45 : decode cX6_undo 45 = .ok (.imul, 1) := by decide +kernel
theorem dX6_undo_46 : decode cX6_undo 46 = .ok (.iload_n 1, 1) := by decide +kernel
theorem dX6_undo_47 : decode cX6_undo 47 = .ok (.iadd, 1) := by decide +kernel
theorem dX6_undo_48 : decode cX6_undo 48 = .ok (.iaload, 1) := by decide +kernel
theorem dX6_undo_49 : decode cX6_undo 49 = .ok (.iastore, 1) := by decide +kernel
theorem dX6_undo_50 : decode cX6_undo 50 = .ok (.iinc 1 1, 3) := by decide +kernel
theorem dX6_undo_53 : decode cX6_undo 53 = .ok (.goto (-31), 3) := by decide +kernel
theorem dX6_undo_56 : decode cX6_undo 56 = .ok (.aload_n 0, 1) := by decide +kernel
theorem dX6_undo_57 : decode cX6_undo 57 = .ok (.getfield 34, 3) := by decide +kernel
theorem dX6_undo_60 : decode cX6_undo 60 = .ok (.ireturn, 1) := by decide +kernel
set_option maxRecDepth 20000 in
theorem ggX6_save_X6_in : GoodIn wsX6_save wsX6_in := goodIn_r _ [7] (by decide +kernel) (by decide +kernel)
set_option maxRecDepth 20000 in
theorem gX6_save_X6_in : GoodIn wsX6_save (va_wsS RX6 56 yX6_in wsX6_in) := goodIn_app (goodIn_of _ (by decide +kernel)) ggX6_save_X6_in
theorem dX6_save_0 : decode cX6_save 0 = .ok (.iload_n 1, 1) := by decide +kernel
theorem dX6_save_1 : decode cX6_save 1 = .ok (.i2l, 1) := by decide +kernel
theorem dX6_save_2 : decode cX6_save 2 = .ok (.lconst 0, 1) := by decide +kernel
theorem dX6_save_3 : decode cX6_save 3 = .ok (.lconst 1, 1) := by decide +kernel
theorem dX6_save_4 : decode cX6_save 4 = .ok (.invokestatic 56, 3) := by decide +kernel
theorem dX6_save_7 : decode cX6_save 7 = .ok (.ifCond .ne 6, 3) := by decide +kernel
theorem dX6_save_10 : decode cX6_save 10 = .ok (.bipush (-2), 2) := by decide +kernel
theorem dX6_save_12 : decode cX6_save 12 = .ok (.ireturn, 1) := by decide +kernel
theorem dX6_save_13 : decode cX6_save 13 = .ok (.iconst 0, 1) := by decide +kernel
theorem dX6_save_14 : decode cX6_save 14 = .ok (.istore_n 2, 1) := by decide +kernel
theorem dX6_save_15 : decode cX6_save 15 = .ok (.iload_n 2, 1) := by decide +kernel
theorem dX6_save_16 : decode cX6_save 16 = .ok (.sipush 222, 3) := by decide +kernel
theorem dX6_save_19 : decode cX6_save 19 = .ok (.if_icmp .ge 27, 3) := by decide +kernel
theorem dX6_save_22 : decode cX6_save 22 = .ok (.aload_n 0, 1) := by decide +kernel
theorem dX6_save_23 : decode cX6_save 23 = .ok (.getfield 22, 3) := by decide +kernel
theorem dX6_save_26 : decode cX6_save 26 = .ok (.sipush 222, 3) := by decide +kernel
theorem dX6_save_29 : decode cX6_save 29 = .ok (.iload_n 1, 1) := by decide +kernel
theorem dX6_save_30 : decode cX6_save 30 = .ok (.imul, 1) := by decide +kernel
theorem dX6_save_31 : decode cX6_save 31 = .ok (.iload_n 2, 1) := by decide +kernel
theorem dX6_save_32 : decode cX6_save 32 = .ok (.iadd, 1) := by decide +kernel
theorem dX6_save_33 : decode cX6_save 33 = .ok (.aload_n 0, 1) := by decide +kernel
theorem dX6_save_34 : decode cX6_save 34 = .ok (.getfield 7, 3) := by decide +kernel
theorem dX6_save_37 : decode cX6_save 37 = .ok (.iload_n 2, 1) := by decide +kernel
theorem dX6_save_38 : decode cX6_save 38 = .ok (.iaload, 1) := by decide +kernel
theorem dX6_save_39 : decode cX6_save 39 = .ok (.iastore, 1) := by decide +kernel
theorem dX6_save_40 : decode cX6_save 40 = .ok (.iinc 2 1, 3) := by decide +kernel
theorem dX6_save_43 : decode cX6_save 43 = .ok (.goto (-28), 3) := by decide +kernel
theorem dX6_save_46 : decode cX6_save 46 = .ok (.aload_n 0, 1) := by decide +kernel
theorem dX6_save_47 : decode cX6_save 47 = .ok (.getfield 25, 3) := by decide +kernel
theorem dX6_save_50 : decode cX6_save 50 = .ok (.iload_n 1, 1) := by decide +kernel
theorem dX6_save_51 : decode cX6_save 51 = .ok (.iconst 1, 1) := by decide +kernel
theorem dX6_save_52 : decode cX6_save 52 = .ok (.iastore, 1) := by decide +kernel
theorem dX6_save_53 : decode cX6_save 53 = .ok (.aload_n 0, 1) := by decide +kernel
theorem dX6_save_54 : decode cX6_save 54 = .ok (.getfield 7, 3) := by decide +kernel
theorem dX6_save_57 : decode cX6_save 57 = .ok (.bipush 6, 2) := by decide +kernel
theorem dX6_save_59 : decode cX6_save 59 = .ok (.iaload, 1) := by decide +kernel
theorem dX6_save_60 : decode cX6_save 60 = .ok (.ireturn, 1) := by decide +kernel
set_option maxRecDepth 20000 in
theorem ggX6_restore_X6_in : GoodIn wsX6_restore wsX6_in := goodIn_r _ [8] (by decide +kernel) (by decide +kernel)
set_option maxRecDepth 20000 in
theorem gX6_restore_X6_in : GoodIn wsX6_restore (va_wsS RX6 56 yX6_in wsX6_in) := goodIn_app (goodIn_of _ (by decide +kernel)) ggX6_restore_X6_in
set_option maxRecDepth 20000 in
theorem ggX6_restore_X6_copy : GoodIn wsX6_restore wsX6_copy := goodIn_r _ [11] (by decide +kernel) (by decide +kernel)
set_option maxRecDepth 20000 in
theorem gX6_restore_X6_copy : GoodIn wsX6_restore (va_wsS RX6 85 yX6_copy wsX6_copy) := goodIn_app (goodIn_of _ (by decide +kernel)) ggX6_restore_X6_copy
set_option maxRecDepth 20000 in
theorem ggX6_restore_X6_changed : GoodIn wsX6_restore wsX6_changed := goodIn_r _ [15, 16, 17, 3, 18, 19, 20, 21, 22, 23, 24, 25, 26, 27, 28, 29, 30] (by decide +kernel) (by decide +kernel)
set_option maxRecDepth 20000 in
theorem gX6_restore_X6_changed : GoodIn wsX6_restore (wsV RX6 93 RX6 yX6_changed wsX6_changed) := goodIn_app (goodIn_of _ (by decide +kernel)) ggX6_restore_X6_changed
theorem dX6_restore_0 : decode cX6_restore 0 = .ok (.iload_n 1, 1) := by decide +kernel
theorem dX6_restore_1 : decode cX6_restore 1 = .ok (.i2l, 1) := by decide +kernel
theorem dX6_restore_2 : decode cX6_restore 2 = .ok (.lconst 0, 1) := by decide +kernel
theorem dX6_restore_3 : decode cX6_restore 3 = .ok (.lconst 1, 1) := by decide +kernel
theorem dX6_restore_4 : decode cX6_restore 4 = .ok (.invokestatic 56, 3) := by decide +kernel
theorem dX6_restore_7 : decode cX6_restore 7 = .ok (.ifCond .ne 6, 3) := by decide +kernel
theorem dX6_restore_10 : decode cX6_restore 10 = .ok (.bipush (-2), 2) := by decide +kernel
theorem dX6_restore_12 : decode cX6_restore 12 = .ok (.ireturn, 1) := by decide +kernel
theorem dX6_restore_13 : decode cX6_restore 13 = .ok (.aload_n 0, 1) := by decide +kernel
theorem dX6_restore_14 : decode cX6_restore 14 = .ok (.getfield 25, 3) := by decide +kernel
theorem dX6_restore_17 : decode cX6_restore 17 = .ok (.iload_n 1, 1) := by decide +kernel
theorem dX6_restore_18 : decode cX6_restore 18 = .ok (.iaload, 1) := by decide +kernel
theorem dX6_restore_19 : decode cX6_restore 19 = .ok (.ifCond .ne 6, 3) := by decide +kernel
theorem dX6_restore_22 : decode cX6_restore 22 = .ok (.bipush (-5), 2) := by decide +kernel
theorem dX6_restore_24 : decode cX6_restore 24 = .ok (.ireturn, 1) := by decide +kernel
theorem dX6_restore_25 : decode cX6_restore 25 = .ok (.aload_n 0, 1) := by decide +kernel
theorem dX6_restore_26 : decode cX6_restore 26 = .ok (.getfield 7, 3) := by decide +kernel
theorem dX6_restore_29 : decode cX6_restore 29 = .ok (.aload_n 0, 1) := by decide +kernel
theorem dX6_restore_30 : decode cX6_restore 30 = .ok (.getfield 13, 3) := by decide +kernel
theorem dX6_restore_33 : decode cX6_restore 33 = .ok (.invokestatic 85, 3) := by decide +kernel
theorem dX6_restore_36 : decode cX6_restore 36 = .ok (.iconst 0, 1) := by decide +kernel
theorem dX6_restore_37 : decode cX6_restore 37 = .ok (.istore_n 2, 1) := by decide +kernel
theorem dX6_restore_38 : decode cX6_restore 38 = .ok (.iload_n 2, 1) := by decide +kernel
theorem dX6_restore_39 : decode cX6_restore 39 = .ok (.sipush 222, 3) := by decide +kernel
theorem dX6_restore_42 : decode cX6_restore 42 = .ok (.if_icmp .ge 27, 3) := by decide +kernel
theorem dX6_restore_45 : decode cX6_restore 45 = .ok (.aload_n 0, 1) := by decide +kernel
theorem dX6_restore_46 : decode cX6_restore 46 = .ok (.getfield 7, 3) := by decide +kernel
theorem dX6_restore_49 : decode cX6_restore 49 = .ok (.iload_n 2, 1) := by decide +kernel
theorem dX6_restore_50 : decode cX6_restore 50 = .ok (.aload_n 0, 1) := by decide +kernel
theorem dX6_restore_51 : decode cX6_restore 51 = .ok (.getfield 22, 3) := by decide +kernel
theorem dX6_restore_54 : decode cX6_restore 54 = .ok (.sipush 222, 3) := by decide +kernel
theorem dX6_restore_57 : decode cX6_restore 57 = .ok (.iload_n 1, 1) := by decide +kernel
theorem dX6_restore_58 : decode cX6_restore 58 = .ok (.imul, 1) := by decide +kernel
theorem dX6_restore_59 : decode cX6_restore 59 = .ok (.iload_n 2, 1) := by decide +kernel
theorem dX6_restore_60 : decode cX6_restore 60 = .ok (.iadd, 1) := by decide +kernel
theorem dX6_restore_61 : decode cX6_restore 61 = .ok (.iaload, 1) := by decide +kernel
theorem dX6_restore_62 : decode cX6_restore 62 = .ok (.iastore, 1) := by decide +kernel
theorem dX6_restore_63 : decode cX6_restore 63 = .ok (.iinc 2 1, 3) := by decide +kernel
theorem dX6_restore_66 : decode cX6_restore 66 = .ok (.goto (-28), 3) := by decide +kernel
theorem dX6_restore_69 : decode cX6_restore 69 = .ok (.aload_n 0, 1) := by decide +kernel
theorem dX6_restore_70 : decode cX6_restore 70 = .ok (.aload_n 0, 1) := by decide +kernel
theorem dX6_restore_71 : decode cX6_restore 71 = .ok (.getfield 7, 3) := by decide +kernel
theorem dX6_restore_74 : decode cX6_restore 74 = .ok (.bipush 6, 2) := by decide +kernel
theorem dX6_restore_76 : decode cX6_restore 76 = .ok (.iaload, 1) := by decide +kernel
theorem dX6_restore_77 : decode cX6_restore 77 = .ok (.invokevirtual 93, 3) := by decide +kernel
theorem dX6_restore_80 : decode cX6_restore 80 = .ok (.ireturn, 1) := by decide +kernel
