theorem dJ9_abs_0f7a4_0 : decode cJ9_abs_0f7a4 0 = .ok (.iload_n 0, 1) := by decide +kernel
theorem dJ9_abs_0f7a4_1 : decode cJ9_abs_0f7a4 1 = .ok (.ifCond .ge 8, 3) := by decide +kernel
theorem dJ9_abs_0f7a4_4 : decode cJ9_abs_0f7a4 4 = .ok (.iload_n 0, 1) := by decide +kernel
theorem dJ9_abs_0f7a4_5 : decode cJ9_abs_0f7a4 5 = .ok (.ineg, 1) := by decide +kernel
theorem dJ9_abs_0f7a4_6 : decode cJ9_abs_0f7a4 6 = .ok (.goto 4, 3) := by decide +kernel
theorem dJ9_abs_0f7a4_9 : decode cJ9_abs_0f7a4 9 = .ok (.iload_n 0, 1) := by decide +kernel
theorem dJ9_abs_0f7a4_10 : decode cJ9_abs_0f7a4 10 = .ok (.ireturn, 1) := by decide +kernel
theorem dJ9_min_7cf53_0 : decode cJ9_min_7cf53 0 = .ok (.iload_n 0, 1) := by decide +kernel
theorem dJ9_min_7cf53_1 : decode cJ9_min_7cf53 1 = .ok (.iload_n 1, 1) := by decide +kernel
theorem dJ9_min_7cf53_2 : decode cJ9_min_7cf53 2 = .ok (.if_icmp .gt 7, 3) := by decide +kernel
theorem dJ9_min_7cf53_5 : decode cJ9_min_7cf53 5 = .ok (.iload_n 0, 1) := by decide +kernel
theorem dJ9_min_7cf53_6 : decode cJ9_min_7cf53 6 = .ok (.goto 4, 3) := by decide +kernel
theorem dJ9_min_7cf53_9 : decode cJ9_min_7cf53 9 = .ok (.iload_n 1, 1) := by decide +kernel
theorem dJ9_min_7cf53_10 : decode cJ9_min_7cf53 10 = .ok (.ireturn, 1) := by decide +kernel
theorem dL_cell_0 : decode cL_cell 0 = .ok (.iload_n 1, 1) := by decide +kernel
theorem dL_cell_1 : decode cL_cell 1 = .ok (.aload_n 0, 1) := by decide +kernel
theorem dL_cell_2 : decode cL_cell 2 = .ok (.arraylength, 1) := by decide +kernel
theorem dL_cell_3 : decode cL_cell 3 = .ok (.if_icmp .ge 9, 3) := by decide +kernel
theorem dL_cell_6 : decode cL_cell 6 = .ok (.aload_n 0, 1) := by decide +kernel
theorem dL_cell_7 : decode cL_cell 7 = .ok (.iload_n 1, 1) := by decide +kernel
theorem dL_cell_8 : decode cL_cell 8 = .ok (.iaload, 1) := by decide +kernel
theorem dL_cell_9 : decode cL_cell 9 = .ok (.goto 11, 3) := by decide +kernel
theorem dL_cell_12 : decode cL_cell 12 = .ok (.ldc 7, 2) := by decide +kernel
theorem dL_cell_14 : decode cL_cell 14 = .ok (.iload_n 1, 1) := by decide +kernel
theorem dL_cell_15 : decode cL_cell 15 = .ok (.sipush 1031, 3) := by decide +kernel
theorem dL_cell_18 : decode cL_cell 18 = .ok (.iadd, 1) := by decide +kernel
theorem dL_cell_19 : decode cL_cell 19 = .ok (.imul, 1) := by decide +kernel
theorem dL_cell_20 : decode cL_cell 20 = .ok (.ireturn, 1) := by decide +kernel
theorem dL_up_0 : decode cL_up 0 = .ok (.iload_n 0, 1) := by decide +kernel
theorem dL_up_1 : decode cL_up 1 = .ok (.ldc 8, 2) := by decide +kernel
theorem dL_up_3 : decode cL_up 3 = .ok (.iand, 1) := by decide +kernel
theorem dL_up_4 : decode cL_up 4 = .ok (.iload_n 1, 1) := by decide +kernel
theorem dL_up_5 : decode cL_up 5 = .ok (.irem, 1) := by decide +kernel
theorem dL_up_6 : decode cL_up 6 = .ok (.ireturn, 1) := by decide +kernel
theorem dL_there_0 : decode cL_there 0 = .ok (.iload_n 0, 1) := by decide +kernel
theorem dL_there_1 : decode cL_there 1 = .ok (.iconst 1, 1) := by decide +kernel
theorem dL_there_2 : decode cL_there 2 = .ok (.if_icmp .ne 7, 3) := by decide +kernel
theorem dL_there_5 : decode cL_there 5 = .ok (.iconst 2, 1) := by decide +kernel
theorem dL_there_6 : decode cL_there 6 = .ok (.goto 13, 3) := by decide +kernel
theorem dL_there_9 : decode cL_there 9 = .ok (.iload_n 0, 1) := by decide +kernel
theorem dL_there_10 : decode cL_there 10 = .ok (.iconst 2, 1) := by decide +kernel
theorem dL_there_11 : decode cL_there 11 = .ok (.if_icmp .ne 7, 3) := by decide +kernel
theorem dL_there_14 : decode cL_there 14 = .ok (.iconst 1, 1) := by decide +kernel
theorem dL_there_15 : decode cL_there 15 = .ok (.goto 4, 3) := by decide +kernel
theorem dL_there_18 : decode cL_there 18 = .ok (.iload_n 0, 1) := by decide +kernel
theorem dL_there_19 : decode cL_there 19 = .ok (.ireturn, 1) := by decide +kernel
theorem dL_way_0 : decode cL_way 0 = .ok (.iload_n 0, 1) := by decide +kernel
theorem dL_way_1 : decode cL_way 1 = .ok (.iconst 1, 1) := by decide +kernel
theorem dL_way_2 : decode cL_way 2 = .ok (.if_icmp .ne 7, 3) := by decide +kernel
theorem dL_way_5 : decode cL_way 5 = .ok (.iconst 2, 1) := by decide +kernel
theorem dL_way_6 : decode cL_way 6 = .ok (.goto 13, 3) := by decide +kernel
theorem dL_way_9 : decode cL_way 9 = .ok (.iload_n 0, 1) := by decide +kernel
theorem dL_way_10 : decode cL_way 10 = .ok (.iconst 2, 1) := by decide +kernel
theorem dL_way_11 : decode cL_way 11 = .ok (.if_icmp .ne 7, 3) := by decide +kernel
theorem dL_way_14 : decode cL_way 14 = .ok (.iconst 1, 1) := by decide +kernel
theorem dL_way_15 : decode cL_way 15 = .ok (.goto 4, 3) := by decide +kernel
theorem dL_way_18 : decode cL_way 18 = .ok (.iload_n 0, 1) := by decide +kernel
theorem dL_way_19 : decode cL_way 19 = .ok (.ireturn, 1) := by decide +kernel
set_option maxRecDepth 20000 in
theorem ggL_isStep_X5_count : GoodIn wsL_isStep wsX5_count := goodIn_r _ [5, 6, 7, 8, 9, 10, 11, 12, 13, 14, 15, 16, 17, 18, 19, 20, 21, 22, 23, 24, 25, 26, 27, 28, 29, 30, 31, 32, 33, 34, 181, 182, 183, 184, 185, 186, 187, 188, 189, 190, 191, 192, 193, 194, 195, 196, 197, 198, 199, 200, 201, 202, 203, 204, 205, 206, 207, 208, 209, 210] (by decide +kernel) (by decide +kernel)
set_option maxRecDepth 20000 in
theorem gL_isStep_X5_count : GoodIn wsL_isStep (wsV RL 9 RX5 yX5_count wsX5_count) := goodIn_app (goodIn_of _ (by decide +kernel)) ggL_isStep_X5_count
set_option maxRecDepth 20000 in
theorem ggL_isStep_L_up : GoodIn wsL_isStep wsL_up := goodIn_r _ [38, 39] (by decide +kernel) (by decide +kernel)
set_option maxRecDepth 20000 in
theorem gL_isStep_L_up : GoodIn wsL_isStep (va_wsS RL 15 yL_up wsL_up) := goodIn_app (goodIn_of _ (by decide +kernel)) ggL_isStep_L_up
set_option maxRecDepth 20000 in
theorem ggL_isStep_X5_feed : GoodIn wsL_isStep wsX5_feed := goodIn_r _ [43, 18, 6, 44, 45, 46, 47, 48, 49, 50, 51, 52, 53, 54, 55, 56, 23, 57, 34, 58, 59, 60, 61, 62, 25, 63, 64, 65, 66, 67, 68, 69, 70, 71, 72, 73, 74, 75, 76, 77, 78, 79, 80, 81, 82, 83, 84, 85, 86, 87, 88, 89, 90, 91, 92, 93, 31, 32, 33, 94, 95, 96, 97, 98, 99, 100, 101, 102, 103, 104, 105, 106, 107, 108, 109, 110, 111, 112, 113, 27, 28, 29, 181, 182, 183, 184, 185, 208, 209, 210, 186, 187, 188, 189, 190, 191, 192, 193, 194, 195, 196, 197, 198, 199, 200, 201] (by decide +kernel) (by decide +kernel)
set_option maxRecDepth 20000 in
theorem gL_isStep_X5_feed : GoodIn wsL_isStep (wsV RL 21 RX5 yX5_feed wsX5_feed) := goodIn_app (goodIn_of _ (by decide +kernel)) ggL_isStep_X5_feed
set_option maxRecDepth 20000 in
theorem ggL_isStep_L_there : GoodIn wsL_isStep wsL_there := goodIn_r _ [116] (by decide +kernel) (by decide +kernel)
set_option maxRecDepth 20000 in
theorem gL_isStep_L_there : GoodIn wsL_isStep (va_wsS RL 25 yL_there wsL_there) := goodIn_app (goodIn_of _ (by decide +kernel)) ggL_isStep_L_there
set_option maxRecDepth 20000 in
theorem ggL_isStep_X5_log : GoodIn wsL_isStep wsX5_log := goodIn_r _ [120, 6, 121, 122, 123, 23, 124, 125, 21, 22, 24, 25, 26, 27, 28, 29, 126, 127, 128, 129, 130, 131, 132, 133, 62, 134, 135, 136, 137, 138, 139, 140, 141, 142, 181, 182, 183, 184, 185, 186, 187, 188, 189, 190, 191, 192, 193, 194, 195, 196, 197, 198, 199, 200, 201] (by decide +kernel) (by decide +kernel)
set_option maxRecDepth 20000 in
theorem gL_isStep_X5_log : GoodIn wsL_isStep (wsV RL 28 RX5 yX5_log wsX5_log) := goodIn_app (goodIn_of _ (by decide +kernel)) ggL_isStep_X5_log
set_option maxRecDepth 20000 in
theorem ggL_isStep_X5_turn : GoodIn wsL_isStep wsX5_turn := goodIn_r _ [146, 18, 6, 44, 45, 46, 47, 48, 49, 50, 51, 52, 53, 54, 55, 56, 23, 57, 34, 58, 59, 60, 61, 62, 25, 63, 64, 65, 66, 67, 68, 69, 70, 71, 72, 73, 74, 75, 147, 148, 149, 150, 151, 152, 28, 153, 80, 93, 31, 32, 33, 94, 95, 96, 154, 155, 156, 81, 82, 83, 84, 85, 86, 87, 88, 89, 90, 91, 92, 97, 98, 99, 100, 101, 102, 103, 104, 105, 106, 107, 108, 109, 110, 111, 112, 113, 27, 29, 181, 182, 183, 184, 185, 208, 209, 210, 186, 187, 188, 189, 190, 191, 192, 193, 194, 195, 196, 197, 198, 199, 200, 201] (by decide +kernel) (by decide +kernel)
set_option maxRecDepth 20000 in
theorem gL_isStep_X5_turn : GoodIn wsL_isStep (wsV RL 31 RX5 yX5_turn wsX5_turn) := goodIn_app (goodIn_of _ (by decide +kernel)) ggL_isStep_X5_turn
set_option maxRecDepth 20000 in
theorem ggL_isStep_X5_zero : GoodIn wsL_isStep wsX5_zero := goodIn_r _ [160, 18, 6, 44, 45, 46, 47, 48, 49, 50, 51, 52, 53, 54, 55, 56, 23, 57, 34, 58, 59, 60, 61, 62, 25, 63, 64, 65, 66, 67, 68, 69, 70, 71, 72, 73, 74, 75, 161, 162, 163, 164, 108, 109, 110, 111, 112, 113, 27, 28, 29, 181, 182, 183, 184, 185, 208, 209, 210, 186, 187, 188, 189, 190, 191, 192, 193, 194, 195, 196, 197, 198, 199, 200, 201] (by decide +kernel) (by decide +kernel)
set_option maxRecDepth 20000 in
theorem gL_isStep_X5_zero : GoodIn wsL_isStep (wsV RL 34 RX5 yX5_zero wsX5_zero) := goodIn_app (goodIn_of _ (by decide +kernel)) ggL_isStep_X5_zero
set_option maxRecDepth 20000 in
theorem ggL_isStep_X5_undo : GoodIn wsL_isStep wsX5_undo := goodIn_r _ [168, 18, 6, 169, 170, 171, 47, 172, 112, 53, 49, 50, 51, 52, 54, 55, 56, 23, 57, 34, 58, 59, 60, 61, 62, 25, 63, 64, 65, 66, 67, 68, 69, 70, 71, 72, 73, 74, 75, 181, 182, 183, 184, 185, 208, 209, 210, 186, 187, 188, 189, 190, 191, 192, 193, 194, 195, 196, 197, 198, 199, 200, 201] (by decide +kernel) (by decide +kernel)
set_option maxRecDepth 20000 in
theorem gL_isStep_X5_undo : GoodIn wsL_isStep (wsV RL 38 RX5 yX5_undo wsX5_undo) := goodIn_app (goodIn_of _ (by decide +kernel)) ggL_isStep_X5_undo
set_option maxRecDepth 20000 in
theorem ggL_isStep_X5_set : GoodIn wsL_isStep wsX5_set := goodIn_r _ [176, 18, 6, 44, 45, 46, 47, 48, 49, 50, 51, 52, 53, 54, 55, 56, 23, 57, 34, 58, 59, 60, 61, 62, 25, 63, 64, 65, 66, 67, 68, 69, 70, 71, 72, 73, 74, 75, 177, 178, 179, 180, 101, 102, 103, 108, 109, 110, 111, 112, 113, 27, 28, 29, 181, 182, 183, 184, 185, 208, 209, 210, 186, 187, 188, 189, 190, 191, 192, 193, 194, 195, 196, 197, 198, 199, 200, 201] (by decide +kernel) (by decide +kernel)
set_option maxRecDepth 20000 in
theorem gL_isStep_X5_set : GoodIn wsL_isStep (wsV RL 41 RX5 yX5_set wsX5_set) := goodIn_app (goodIn_of _ (by decide +kernel)) ggL_isStep_X5_set
