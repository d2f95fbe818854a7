set_option maxRecDepth 20000 in
theorem ggL_areAlike_X5_odd : GoodIn wsL_areAlike wsX5_odd := goodIn_r _ [5, 6, 166, 167, 168, 169, 170, 171, 172, 173, 174] rfl (by decide +kernel)
set_option maxRecDepth 20000 in
theorem gL_areAlike_X5_odd : GoodIn wsL_areAlike (wsV RL 118 RX5 yX5_odd wsX5_odd) := goodIn_app (goodIn_of _ (by decide +kernel)) ggL_areAlike_X5_odd
set_option maxRecDepth 20000 in
theorem ggL_areAlike_X5_plan : GoodIn wsL_areAlike wsX5_plan := goodIn_r _ [10, 11, 12, 13, 166, 167, 168, 169, 170, 171, 172, 173, 174, 175, 176, 177, 178] rfl (by decide +kernel)
set_option maxRecDepth 20000 in
theorem gL_areAlike_X5_plan : GoodIn wsL_areAlike (wsV RL 114 RX5 yX5_plan wsX5_plan) := goodIn_app (goodIn_of _ (by decide +kernel)) ggL_areAlike_X5_plan
set_option maxRecDepth 20000 in
theorem ggL_areAlike_L_low : GoodIn wsL_areAlike wsL_low := goodIn_r _ [17, 18] rfl (by decide +kernel)
set_option maxRecDepth 20000 in
theorem gL_areAlike_L_low : GoodIn wsL_areAlike (va_wsS RL 73 yL_low wsL_low) := goodIn_app (goodIn_of _ (by decide +kernel)) ggL_areAlike_L_low
set_option maxRecDepth 20000 in
theorem ggL_areAlike_L_cycle : GoodIn wsL_areAlike wsL_cycle := goodIn_ca (goodIn_ca (goodIn_r _ [21, 22, 23, 24, 25, 26, 27, 4, 28, 29, 30, 31, 32, 33, 34, 35, 36, 37, 38, 39, 40, 41, 42, 43, 44, 45, 46, 47, 48, 49, 50, 51, 52, 53, 54, 55, 56, 57, 58, 59, 166, 167, 168, 169, 170, 171, 172, 173, 174, 179, 180, 181, 182, 183, 184, 185] rfl (by decide +kernel)) (goodIn_sub (fun _ h => List.mem_cons_of_mem _ (List.mem_append_left _ (List.mem_append_right _ h))) (by decide +kernel))) (goodIn_sub (fun _ h => List.mem_cons_of_mem _ (List.mem_append_right _ h)) (by decide +kernel))
set_option maxRecDepth 20000 in
theorem gL_areAlike_L_cycle : GoodIn wsL_areAlike (va_wsS RL 104 yL_cycle wsL_cycle) := goodIn_app (goodIn_of _ (by decide +kernel)) ggL_areAlike_L_cycle
set_option maxRecDepth 20000 in
theorem ggL_areAlike_L_station : GoodIn wsL_areAlike wsL_station := goodIn_ca (goodIn_ca (goodIn_r _ [62, 22, 23, 24, 63, 64, 65, 4, 66, 29, 30, 11, 13, 12, 67, 35, 68, 69, 70, 39, 40, 71, 72, 73, 74, 75, 76, 77, 78, 79, 80, 81, 82, 83, 84, 85, 86, 87, 88, 89, 90, 91, 92, 93, 94, 95, 96, 97, 98, 166, 167, 168, 169, 170, 171, 172, 173, 174, 175, 176, 177, 178, 186, 187, 188, 189, 190, 191] rfl (by decide +kernel)) (goodIn_sub (fun _ h => List.mem_cons_of_mem _ (List.mem_append_left _ (List.mem_append_right _ h))) (by decide +kernel))) (goodIn_sub (fun _ h => List.mem_cons_of_mem _ (List.mem_append_right _ h)) (by decide +kernel))
set_option maxRecDepth 20000 in
theorem gL_areAlike_L_station : GoodIn wsL_areAlike (va_wsS RL 106 yL_station wsL_station) := goodIn_app (goodIn_of _ (by decide +kernel)) ggL_areAlike_L_station
set_option maxRecDepth 20000 in
theorem ggL_areAlike_L_rider : GoodIn wsL_areAlike wsL_rider := goodIn_ca (goodIn_ca (goodIn_r _ [101, 22, 23, 24, 102, 103, 104, 4, 105, 29, 30, 67, 106, 107, 108, 35, 109, 110, 111, 39, 40, 112, 113, 114, 115, 116, 31, 117, 118, 119, 44, 120, 58, 121, 54, 55, 56, 57, 59, 122, 123, 124, 125, 126, 127, 128, 129, 130, 131, 132, 79, 80, 81, 133, 88, 89, 85, 90, 91, 92, 166, 167, 168, 169, 170, 171, 172, 173, 174, 186, 187, 188, 189, 190, 191, 179, 180, 181, 182, 183, 184, 185] rfl (by decide +kernel)) (goodIn_sub (fun _ h => List.mem_cons_of_mem _ (List.mem_append_left _ (List.mem_append_right _ h))) (by decide +kernel))) (goodIn_sub (fun _ h => List.mem_cons_of_mem _ (List.mem_append_right _ h)) (by decide +kernel))
set_option maxRecDepth 20000 in
theorem gL_areAlike_L_rider : GoodIn wsL_areAlike (va_wsS RL 108 yL_rider wsL_rider) := goodIn_app (goodIn_of _ (by decide +kernel)) ggL_areAlike_L_rider
set_option maxRecDepth 20000 in
theorem ggL_areAlike_L_nearest : GoodIn wsL_areAlike wsL_nearest := goodIn_ca (goodIn_r _ [136, 22, 24, 137, 138, 139, 4, 140, 11, 141, 68, 69, 70, 39, 40, 71, 72, 73, 74, 75, 76, 77, 78, 79, 80, 81, 142, 143, 144, 145, 146, 147, 148, 149, 150, 151, 152, 153, 154, 155, 156, 157, 166, 167, 168, 169, 170, 171, 172, 173, 174, 175, 176, 177, 178, 192, 193, 194] rfl (by decide +kernel)) (goodIn_sub (fun _ h => List.mem_cons_of_mem _ (List.mem_append_right _ h)) (by decide +kernel))
set_option maxRecDepth 20000 in
theorem gL_areAlike_L_nearest : GoodIn wsL_areAlike (va_wsS RL 110 yL_nearest wsL_nearest) := goodIn_app (goodIn_of _ (by decide +kernel)) ggL_areAlike_L_nearest
set_option maxRecDepth 20000 in
theorem ggL_areAlike_L_way : GoodIn wsL_areAlike wsL_way := goodIn_ca (goodIn_r _ [160, 22, 24, 161, 162, 163, 4, 164, 165, 141, 68, 69, 70, 39, 40, 142, 143, 144, 145, 146, 147, 148, 149, 150, 79, 80, 81, 151, 152, 153, 154, 155, 156, 157, 166, 167, 168, 169, 170, 171, 172, 173, 174, 192, 193, 194] rfl (by decide +kernel)) (goodIn_sub (fun _ h => List.mem_cons_of_mem _ (List.mem_append_right _ h)) (by decide +kernel))
set_option maxRecDepth 20000 in
theorem gL_areAlike_L_way : GoodIn wsL_areAlike (va_wsS RL 112 yL_way wsL_way) := goodIn_app (goodIn_of _ (by decide +kernel)) ggL_areAlike_L_way
theorem dL_areAlike_0 : decode cL_areAlike 0 = .ok (.aload_n 0, 1) := by decide +kernel
theorem dL_areAlike_1 : decode cL_areAlike 1 = .ok (.invokevirtual 118, 3) := by decide +kernel
theorem dL_areAlike_4 : decode cL_areAlike 4 = .ok (.aload_n 1, 1) := by decide +kernel
theorem dL_areAlike_5 : decode cL_areAlike 5 = .ok (.invokevirtual 118, 3) := by decide +kernel
theorem dL_areAlike_8 : decode cL_areAlike 8 = .ok (.if_icmp .ne 18, 3) := by decide +kernel
theorem dL_areAlike_11 : decode cL_areAlike 11 = .ok (.aload_n 0, 1) := by decide +kernel
theorem dL_areAlike_12 : decode cL_areAlike 12 = .ok (.invokevirtual 114, 3) := by decide +kernel
theorem dL_areAlike_15 : decode cL_areAlike 15 = .ok (.aload_n 1, 1) := by decide +kernel
theorem dL_areAlike_16 : decode cL_areAlike 16 = .ok (.invokevirtual 114, 3) := by decide +kernel
theorem dL_areAlike_19 : decode cL_areAlike 19 = .ok (.if_icmp .ne 7, 3) := by decide +kernel
theorem dL_areAlike_22 : decode cL_areAlike 22 = .ok (.iconst 1, 1) := by decide +kernel
theorem dL_areAlike_23 : decode cL_areAlike 23 = .ok (.goto 4, 3) := by decide +kernel
theorem dL_areAlike_26 : decode cL_areAlike 26 = .ok (.iconst 0, 1) := by decide +kernel
theorem dL_areAlike_27 : decode cL_areAlike 27 = .ok (.istore_n 3, 1) := by decide +kernel
theorem dL_areAlike_28 : decode cL_areAlike 28 = .ok (.iconst 0, 1) := by decide +kernel
theorem dL_areAlike_29 : decode cL_areAlike 29 = .ok (.istore 4, 2) := by decide +kernel
theorem dL_areAlike_31 : decode cL_areAlike 31 = .ok (.iload 4, 2) := by decide +kernel
theorem dL_areAlike_33 : decode cL_areAlike 33 = .ok (.iconst 4, 1) := by decide +kernel
theorem dL_areAlike_34 : decode cL_areAlike 34 = .ok (.if_icmp .ge 134, 3) := by decide +kernel
theorem dL_areAlike_37 : decode cL_areAlike 37 = .ok (.iload_n 3, 1) := by decide +kernel
theorem dL_areAlike_38 : decode cL_areAlike 38 = .ok (.ifCond .eq 130, 3) := by decide +kernel
theorem dL_areAlike_41 : decode cL_areAlike 41 = .ok (.aload_n 0, 1) := by decide +kernel
theorem dL_areAlike_42 : decode cL_areAlike 42 = .ok (.iload 4, 2) := by decide +kernel
theorem dL_areAlike_44 : decode cL_areAlike 44 = .ok (.iload_n 2, 1) := by decide +kernel
theorem dL_areAlike_45 : decode cL_areAlike 45 = .ok (.iconst 4, 1) := by decide +kernel
theorem dL_areAlike_46 : decode cL_areAlike 46 = .ok (.invokestatic 73, 3) := by decide +kernel
theorem dL_areAlike_49 : decode cL_areAlike 49 = .ok (.invokestatic 104, 3) := by decide +kernel
theorem dL_areAlike_52 : decode cL_areAlike 52 = .ok (.aload_n 1, 1) := by decide +kernel
theorem dL_areAlike_53 : decode cL_areAlike 53 = .ok (.iload 4, 2) := by decide +kernel
theorem dL_areAlike_55 : decode cL_areAlike 55 = .ok (.iload_n 2, 1) := by decide +kernel
theorem dL_areAlike_56 : decode cL_areAlike 56 = .ok (.iconst 4, 1) := by decide +kernel
theorem dL_areAlike_57 : decode cL_areAlike 57 = .ok (.invokestatic 73, 3) := by decide +kernel
theorem dL_areAlike_60 : decode cL_areAlike 60 = .ok (.invokestatic 104, 3) := by decide +kernel
theorem dL_areAlike_63 : decode cL_areAlike 63 = .ok (.if_icmp .ne 97, 3) := by decide +kernel
theorem dL_areAlike_66 : decode cL_areAlike 66 = .ok (.aload_n 0, 1) := by decide +kernel
theorem dL_areAlike_67 : decode cL_areAlike 67 = .ok (.iload 4, 2) := by decide +kernel
theorem dL_areAlike_69 : decode cL_areAlike 69 = .ok (.iload_n 2, 1) := by decide +kernel
theorem dL_areAlike_70 : decode cL_areAlike 70 = .ok (.iconst 2, 1) := by decide +kernel
theorem dL_areAlike_71 : decode cL_areAlike 71 = .ok (.ishr, 1) := by decide +kernel
theorem dL_areAlike_72 : decode cL_areAlike 72 = .ok (.iconst 5, 1) := by decide +kernel
theorem dL_areAlike_73 : decode cL_areAlike 73 = .ok (.invokestatic 73, 3) := by decide +kernel
theorem dL_areAlike_76 : decode cL_areAlike 76 = .ok (.invokestatic 106, 3) := by decide +kernel
theorem dL_areAlike_79 : decode cL_areAlike 79 = .ok (.aload_n 1, 1) := by decide +kernel
theorem dL_areAlike_80 : decode cL_areAlike 80 = .ok (.iload 4, 2) := by decide +kernel
theorem dL_areAlike_82 : decode cL_areAlike 82 = .ok (.iload_n 2, 1) := by decide +kernel
theorem dL_areAlike_83 : decode cL_areAlike 83 = .ok (.iconst 2, 1) := by decide +kernel
theorem dL_areAlike_84 : decode cL_areAlike 84 = .ok (.ishr, 1) := by decide +kernel
theorem dL_areAlike_85 : decode cL_areAlike 85 = .ok (.iconst 5, 1) := by decide +kernel
theorem dL_areAlike_86 : decode cL_areAlike 86 = .ok (.invokestatic 73, 3) := by decide +kernel
theorem dL_areAlike_89 : decode cL_areAlike 89 = .ok (.invokestatic 106, 3) := by decide +kernel
theorem dL_areAlike_92 : decode cL_areAlike 92 = .ok (.if_icmp .ne 68, 3) := by decide +kernel
theorem dL_areAlike_95 : decode cL_areAlike 95 = .ok (.aload_n 0, 1) := by decide +kernel
theorem dL_areAlike_96 : decode cL_areAlike 96 = .ok (.iload 4, 2) := by decide +kernel
theorem dL_areAlike_98 : decode cL_areAlike 98 = .ok (.iload_n 2, 1) := by decide +kernel
theorem dL_areAlike_99 : decode cL_areAlike 99 = .ok (.iconst 3, 1) := by decide +kernel
theorem dL_areAlike_100 : decode cL_areAlike 100 = .ok (.ishr, 1) := by decide +kernel
theorem dL_areAlike_101 : decode cL_areAlike 101 = .ok (.iconst 5, 1) := by decide +kernel
theorem dL_areAlike_102 : decode cL_areAlike 102 = .ok (.invokestatic 73, 3) := by decide +kernel
theorem dL_areAlike_105 : decode cL_areAlike 105 = .ok (.invokestatic 108, 3) := by decide +kernel
theorem dL_areAlike_108 : decode cL_areAlike 108 = .ok (.aload_n 1, 1) := by decide +kernel
theorem dL_areAlike_109 : decode cL_areAlike 109 = .ok (.iload 4, 2) := by decide +kernel
theorem dL_areAlike_111 : decode cL_areAlike 111 = .ok (.iload_n 2, 1) := by decide +kernel
theorem dL_areAlike_112 : decode cL_areAlike 112 = .ok (.iconst 3, 1) := by decide +kernel
theorem dL_areAlike_113 : decode cL_areAlike 113 = .ok (.ishr, 1) := by decide +kernel
theorem dL_areAlike_114 : decode cL_areAlike 114 = .ok (.iconst 5, 1) := by decide +kernel
theorem dL_areAlike_115 : decode cL_areAlike 115 = .ok (.invokestatic 73, 3) := by decide +kernel
theorem dL_areAlike_118 : decode cL_areAlike 118 = .ok (.invokestatic 108, 3) := by decide +kernel
theorem dL_areAlike_121 : decode cL_areAlike 121 = .ok (.if_icmp .ne 39, 3) := by decide +kernel
theorem dL_areAlike_124 : decode cL_areAlike 124 = .ok (.aload_n 0, 1) := by decide +kernel
theorem dL_areAlike_125 : decode cL_areAlike 125 = .ok (.iload 4, 2) := by decide +kernel
theorem dL_areAlike_127 : decode cL_areAlike 127 = .ok (.invokestatic 110, 3) := by decide +kernel
theorem dL_areAlike_130 : decode cL_areAlike 130 = .ok (.aload_n 1, 1) := by decide +kernel
theorem dL_areAlike_131 : decode cL_areAlike 131 = .ok (.iload 4, 2) := by decide +kernel
theorem dL_areAlike_133 : decode cL_areAlike 133 = .ok (.invokestatic 110, 3) := by decide +kernel
theorem dL_areAlike_136 : decode cL_areAlike 136 = .ok (.if_icmp .ne 24, 3) := by decide +kernel
theorem dL_areAlike_139 : decode cL_areAlike 139 = .ok (.aload_n 0, 1) := by decide +kernel
theorem dL_areAlike_140 : decode cL_areAlike 140 = .ok (.iload 4, 2) := by decide +kernel
theorem dL_areAlike_142 : decode cL_areAlike 142 = .ok (.iconst 0, 1) := by decide +kernel
theorem dL_areAlike_143 : decode cL_areAlike 143 = .ok (.invokestatic 112, 3) := by decide +kernel
theorem dL_areAlike_146 : decode cL_areAlike 146 = .ok (.aload_n 1, 1) := by decide +kernel
theorem dL_areAlike_147 : decode cL_areAlike 147 = .ok (.iload 4, 2) := by decide +kernel
theorem dL_areAlike_149 : decode cL_areAlike 149 = .ok (.iconst 0, 1) := by decide +kernel
theorem dL_areAlike_150 : decode cL_areAlike 150 = .ok (.invokestatic 112, 3) := by decide +kernel
theorem dL_areAlike_153 : decode cL_areAlike 153 = .ok (.if_icmp .ne 7, 3) := by decide +kernel
theorem dL_areAlike_156 : decode cL_areAlike 156 = .ok (.iconst 1, 1) := by decide +kernel
theorem dL_areAlike_157 : decode cL_areAlike 157 = .ok (.goto 4, 3) := by decide +kernel
theorem dL_areAlike_160 : decode cL_areAlike 160 = .ok (.iconst 0, 1) := by decide +kernel
theorem dL_areAlike_161 : decode cL_areAlike 161 = .ok (.istore_n 3, 1) := by decide +kernel
theorem dL_areAlike_162 : decode cL_areAlike 162 = .ok (.iinc 4 1, 3) := by decide +kernel
theorem dL_areAlike_165 : decode cL_areAlike 165 = .ok (.goto (-134), 3) := by decide +kernel
theorem dL_areAlike_168 : decode cL_areAlike 168 = .ok (.iload_n 3, 1) := by decide +kernel
theorem dL_areAlike_169 : decode cL_areAlike 169 = .ok (.ireturn, 1) := by decide +kernel
set_option maxRecDepth 20000 in
theorem ggL_isSo_X5_agrees : GoodIn wsL_isSo wsX5_agrees := goodIn_r _ [6, 7, 8, 9, 10, 11, 12, 13, 14, 15, 16, 17, 18, 19, 5, 20, 21, 22, 23, 24, 25, 26, 27, 148, 149, 150, 151, 152, 153, 154, 155, 156, 157, 158, 159, 160, 161, 162, 163, 164, 165, 166, 167, 168, 169] rfl (by decide +kernel)
set_option maxRecDepth 20000 in
theorem gL_isSo_X5_agrees : GoodIn wsL_isSo (wsV RL 121 RX5 yX5_agrees wsX5_agrees) := goodIn_app (goodIn_of _ (by decide +kernel)) ggL_isSo_X5_agrees
set_option maxRecDepth 20000 in
theorem ggL_isSo_X5_cycle : GoodIn wsL_isSo wsX5_cycle := goodIn_ca (goodIn_ca (goodIn_r _ [31, 32, 33, 7, 34, 35, 8, 9, 36, 37, 5, 38, 39, 40, 41, 42, 43, 13, 44, 45, 46, 47, 48, 49, 50, 51, 52, 10, 11, 12, 14, 15, 16, 148, 149, 150, 151, 152, 153, 154, 155, 156, 157, 158, 159, 160, 161, 162, 163] rfl (by decide +kernel)) (goodIn_sub (fun _ h => List.mem_cons_of_mem _ (List.mem_append_left _ (List.mem_append_right _ h))) (by decide +kernel))) (goodIn_sub (fun _ h => List.mem_cons_of_mem _ (List.mem_append_right _ h)) (by decide +kernel))
set_option maxRecDepth 20000 in
theorem gL_isSo_X5_cycle : GoodIn wsL_isSo (wsV RL 57 RX5 yX5_cycle wsX5_cycle) := goodIn_app (goodIn_of _ (by decide +kernel)) ggL_isSo_X5_cycle
set_option maxRecDepth 20000 in
theorem ggL_isSo_X5_rider : GoodIn wsL_isSo wsX5_rider := goodIn_ca (goodIn_ca (goodIn_r _ [56, 32, 33, 21, 57, 58, 59, 9, 60, 61, 5, 62, 39, 40, 17, 18, 19, 20, 22, 7, 23, 24, 25, 13, 26, 15, 27, 10, 11, 12, 14, 16, 63, 64, 65, 66, 67, 68, 69, 70, 71, 72, 73, 74, 75, 76, 77, 78, 79, 80, 81, 82, 83, 148, 149, 150, 151, 152, 153, 154, 155, 156, 164, 165, 166, 167, 168, 169, 157, 158, 159, 160, 161, 162, 163] rfl (by decide +kernel)) (goodIn_sub (fun _ h => List.mem_cons_of_mem _ (List.mem_append_left _ (List.mem_append_right _ h))) (by decide +kernel))) (goodIn_sub (fun _ h => List.mem_cons_of_mem _ (List.mem_append_right _ h)) (by decide +kernel))
set_option maxRecDepth 20000 in
theorem gL_isSo_X5_rider : GoodIn wsL_isSo (wsV RL 64 RX5 yX5_rider wsX5_rider) := goodIn_app (goodIn_of _ (by decide +kernel)) ggL_isSo_X5_rider
set_option maxRecDepth 20000 in
theorem ggL_isSo_X5_station : GoodIn wsL_isSo wsX5_station := goodIn_ca (goodIn_ca (goodIn_r _ [87, 32, 33, 88, 89, 90, 21, 9, 91, 92, 5, 93, 39, 40, 94, 95, 96, 97, 98, 99, 100, 101, 74, 75, 76, 102, 103, 104, 80, 105, 106, 78, 79, 81, 82, 83, 107, 108, 109, 110, 111, 112, 148, 149, 150, 151, 152, 153, 154, 155, 156, 170, 171, 172, 173, 164, 165, 166, 167, 168, 169] rfl (by decide +kernel)) (goodIn_sub (fun _ h => List.mem_cons_of_mem _ (List.mem_append_left _ (List.mem_append_right _ h))) (by decide +kernel))) (goodIn_sub (fun _ h => List.mem_cons_of_mem _ (List.mem_append_right _ h)) (by decide +kernel))
set_option maxRecDepth 20000 in
theorem gL_isSo_X5_station : GoodIn wsL_isSo (wsV RL 61 RX5 yX5_station wsX5_station) := goodIn_app (goodIn_of _ (by decide +kernel)) ggL_isSo_X5_station
set_option maxRecDepth 20000 in
theorem ggL_isSo_X5_way : GoodIn wsL_isSo wsX5_way := goodIn_ca (goodIn_r _ [116, 117, 118, 91, 92, 5, 93, 39, 40, 119, 120, 121, 122, 123, 124, 125, 126, 127, 74, 75, 76, 128, 129, 130, 131, 132, 133, 134, 148, 149, 150, 151, 152, 153, 154, 155, 156, 174, 175, 176] rfl (by decide +kernel)) (goodIn_sub (fun _ h => List.mem_cons_of_mem _ (List.mem_append_right _ h)) (by decide +kernel))
set_option maxRecDepth 20000 in
theorem gL_isSo_X5_way : GoodIn wsL_isSo (wsV RL 70 RX5 yX5_way wsX5_way) := goodIn_app (goodIn_of _ (by decide +kernel)) ggL_isSo_X5_way
set_option maxRecDepth 20000 in
theorem ggL_isSo_X5_nearest : GoodIn wsL_isSo wsX5_nearest := goodIn_ca (goodIn_r _ [138, 88, 118, 91, 92, 5, 93, 39, 40, 94, 95, 96, 97, 98, 99, 100, 101, 74, 75, 76, 119, 120, 121, 122, 123, 124, 125, 126, 127, 128, 129, 130, 131, 132, 133, 134, 148, 149, 150, 151, 152, 153, 154, 155, 156, 170, 171, 172, 173, 174, 175, 176] rfl (by decide +kernel)) (goodIn_sub (fun _ h => List.mem_cons_of_mem _ (List.mem_append_right _ h)) (by decide +kernel))
set_option maxRecDepth 20000 in
theorem gL_isSo_X5_nearest : GoodIn wsL_isSo (wsV RL 67 RX5 yX5_nearest wsX5_nearest) := goodIn_app (goodIn_of _ (by decide +kernel)) ggL_isSo_X5_nearest
set_option maxRecDepth 20000 in
theorem ggL_isSo_L_cycle : GoodIn wsL_isSo wsL_cycle := goodIn_ca (goodIn_ca (goodIn_r _ [142, 143, 144, 1, 28, 29, 30, 5, 31, 32, 33, 7, 34, 35, 8, 9, 36, 37, 38, 39, 40, 41, 42, 43, 13, 44, 45, 46, 47, 48, 49, 50, 51, 52, 10, 11, 12, 14, 15, 16, 148, 149, 150, 151, 152, 153, 154, 155, 156, 157, 158, 159, 160, 161, 162, 163] rfl (by decide +kernel)) (goodIn_sub (fun _ h => List.mem_cons_of_mem _ (List.mem_append_left _ (List.mem_append_right _ h))) (by decide +kernel))) (goodIn_sub (fun _ h => List.mem_cons_of_mem _ (List.mem_append_right _ h)) (by decide +kernel))
set_option maxRecDepth 20000 in
theorem gL_isSo_L_cycle : GoodIn wsL_isSo (va_wsS RL 104 yL_cycle wsL_cycle) := goodIn_app (goodIn_of _ (by decide +kernel)) ggL_isSo_L_cycle
set_option maxRecDepth 20000 in
theorem ggL_isSo_L_station : GoodIn wsL_isSo wsL_station := goodIn_ca (goodIn_ca (goodIn_r _ [147, 143, 144, 1, 84, 85, 86, 5, 87, 32, 33, 88, 89, 90, 21, 9, 91, 92, 93, 39, 40, 94, 95, 96, 97, 98, 99, 100, 101, 74, 75, 76, 102, 103, 104, 80, 105, 106, 78, 79, 81, 82, 83, 107, 108, 109, 110, 111, 112, 148, 149, 150, 151, 152, 153, 154, 155, 156, 170, 171, 172, 173, 164, 165, 166, 167, 168, 169] rfl (by decide +kernel)) (goodIn_sub (fun _ h => List.mem_cons_of_mem _ (List.mem_append_left _ (List.mem_append_right _ h))) (by decide +kernel))) (goodIn_sub (fun _ h => List.mem_cons_of_mem _ (List.mem_append_right _ h)) (by decide +kernel))
set_option maxRecDepth 20000 in
theorem gL_isSo_L_station : GoodIn wsL_isSo (va_wsS RL 106 yL_station wsL_station) := goodIn_app (goodIn_of _ (by decide +kernel)) ggL_isSo_L_station
theorem dL_isSo_0 : decode cL_isSo 0 = .ok (.iconst 0, 1) := by decide +kernel
theorem dL_isSo_1 : decode cL_isSo 1 = .ok (.istore_n 1, 1) := by decide +kernel
theorem dL_isSo_2 : decode cL_isSo 2 = .ok (.iconst 0, 1) := by decide +kernel
theorem dL_isSo_3 : decode cL_isSo 3 = .ok (.istore_n 2, 1) := by decide +kernel
theorem dL_isSo_4 : decode cL_isSo 4 = .ok (.iconst 0, 1) := by decide +kernel
theorem dL_isSo_5 : decode cL_isSo 5 = .ok (.istore_n 3, 1) := by decide +kernel
theorem dL_isSo_6 : decode cL_isSo 6 = .ok (.iconst 0, 1) := by decide +kernel
theorem dL_isSo_7 : decode cL_isSo 7 = .ok (.istore 4, 2) := by decide +kernel
theorem dL_isSo_9 : decode cL_isSo 9 = .ok (.aload_n 0, 1) := by decide +kernel
theorem dL_isSo_10 : decode cL_isSo 10 = .ok (.invokevirtual 121, 3) := by decide +kernel
theorem dL_isSo_13 : decode cL_isSo 13 = .ok (.istore 5, 2) := by decide +kernel
theorem dL_isSo_15 : decode cL_isSo 15 = .ok (.iconst 0, 1) := by decide +kernel
theorem dL_isSo_16 : decode cL_isSo 16 = .ok (.istore 6, 2) := by decide +kernel
theorem dL_isSo_18 : decode cL_isSo 18 = .ok (.iload 6, 2) := by decide +kernel
theorem dL_isSo_20 : decode cL_isSo 20 = .ok (.bipush 30, 2) := by decide +kernel
theorem dL_isSo_22 : decode cL_isSo 22 = .ok (.if_icmp .ge 100, 3) := by decide +kernel
theorem dL_isSo_25 : decode cL_isSo 25 = .ok (.aload_n 0, 1) := by decide +kernel
theorem dL_isSo_26 : decode cL_isSo 26 = .ok (.iload 6, 2) := by decide +kernel
theorem dL_isSo_28 : decode cL_isSo 28 = .ok (.iconst 0, 1) := by decide +kernel
theorem dL_isSo_29 : decode cL_isSo 29 = .ok (.invokevirtual 57, 3) := by decide +kernel
theorem dL_isSo_32 : decode cL_isSo 32 = .ok (.istore 7, 2) := by decide +kernel
theorem dL_isSo_34 : decode cL_isSo 34 = .ok (.iload_n 1, 1) := by decide +kernel
theorem dL_isSo_35 : decode cL_isSo 35 = .ok (.iload 7, 2) := by decide +kernel
theorem dL_isSo_37 : decode cL_isSo 37 = .ok (.iconst 1, 1) := by decide +kernel
theorem dL_isSo_38 : decode cL_isSo 38 = .ok (.if_icmp .ne 7, 3) := by decide +kernel
theorem dL_isSo_41 : decode cL_isSo 41 = .ok (.iconst 1, 1) := by decide +kernel
theorem dL_isSo_42 : decode cL_isSo 42 = .ok (.goto 4, 3) := by decide +kernel
theorem dL_isSo_45 : decode cL_isSo 45 = .ok (.iconst 0, 1) := by decide +kernel
theorem dL_isSo_46 : decode cL_isSo 46 = .ok (.iadd, 1) := by decide +kernel
theorem dL_isSo_47 : decode cL_isSo 47 = .ok (.istore_n 1, 1) := by decide +kernel
theorem dL_isSo_48 : decode cL_isSo 48 = .ok (.iload_n 3, 1) := by decide +kernel
theorem dL_isSo_49 : decode cL_isSo 49 = .ok (.aload_n 0, 1) := by decide +kernel
theorem dL_isSo_50 : decode cL_isSo 50 = .ok (.iload 6, 2) := by decide +kernel
theorem dL_isSo_52 : decode cL_isSo 52 = .ok (.iconst 3, 1) := by decide +kernel
theorem dL_isSo_53 : decode cL_isSo 53 = .ok (.invokevirtual 57, 3) := by decide +kernel
theorem dL_isSo_56 : decode cL_isSo 56 = .ok (.iadd, 1) := by decide +kernel
theorem dL_isSo_57 : decode cL_isSo 57 = .ok (.istore_n 3, 1) := by decide +kernel
theorem dL_isSo_58 : decode cL_isSo 58 = .ok (.iload 5, 2) := by decide +kernel
theorem dL_isSo_60 : decode cL_isSo 60 = .ok (.ifCond .eq 53, 3) := by decide +kernel
theorem dL_isSo_63 : decode cL_isSo 63 = .ok (.iload 7, 2) := by decide +kernel
theorem dL_isSo_65 : decode cL_isSo 65 = .ok (.ifCond .lt 48, 3) := by decide +kernel
theorem dL_isSo_68 : decode cL_isSo 68 = .ok (.iload 7, 2) := by decide +kernel
theorem dL_isSo_70 : decode cL_isSo 70 = .ok (.iconst 4, 1) := by decide +kernel
theorem dL_isSo_71 : decode cL_isSo 71 = .ok (.if_icmp .ge 42, 3) := by decide +kernel
theorem dL_isSo_74 : decode cL_isSo 74 = .ok (.iload 7, 2) := by decide +kernel
theorem dL_isSo_76 : decode cL_isSo 76 = .ok (.iconst 1, 1) := by decide +kernel
theorem dL_isSo_77 : decode cL_isSo 77 = .ok (.if_icmp .eq 9, 3) := by decide +kernel
theorem dL_isSo_80 : decode cL_isSo 80 = .ok (.iload 7, 2) := by decide +kernel
theorem dL_isSo_82 : decode cL_isSo 82 = .ok (.iconst 2, 1) := by decide +kernel
theorem dL_isSo_83 : decode cL_isSo 83 = .ok (.if_icmp .ne 7, 3) := by decide +kernel
theorem dL_isSo_86 : decode cL_isSo 86 = .ok (.iconst 1, 1) := by decide +kernel
theorem dL_isSo_87 : decode cL_isSo 87 = .ok (.goto 4, 3) := by decide +kernel
theorem dL_isSo_90 : decode cL_isSo 90 = .ok (.iconst 0, 1) := by decide +kernel
theorem dL_isSo_91 : decode cL_isSo 91 = .ok (.aload_n 0, 1) := by decide +kernel
theorem dL_isSo_92 : decode cL_isSo 92 = .ok (.iload 6, 2) := by decide +kernel
theorem dL_isSo_94 : decode cL_isSo 94 = .ok (.iconst 1, 1) := by decide +kernel
theorem dL_isSo_95 : decode cL_isSo 95 = .ok (.invokevirtual 57, 3) := by decide +kernel
theorem dL_isSo_98 : decode cL_isSo 98 = .ok (.ifCond .lt 7, 3) := by decide +kernel
theorem dL_isSo_101 : decode cL_isSo 101 = .ok (.iconst 1, 1) := by decide +kernel
theorem dL_isSo_102 : decode cL_isSo 102 = .ok (.goto 4, 3) := by decide +kernel
theorem dL_isSo_105 : decode cL_isSo 105 = .ok (.iconst 0, 1) := by decide +kernel
theorem dL_isSo_106 : decode cL_isSo 106 = .ok (.if_icmp .ne 7, 3) := by decide +kernel
theorem dL_isSo_109 : decode cL_isSo 109 = .ok (.iconst 1, 1) := by decide +kernel
theorem dL_isSo_110 : decode cL_isSo 110 = .ok (.goto 4, 3) := by decide +kernel
theorem dL_isSo_113 : decode cL_isSo 113 = .ok (.iconst 0, 1) := by decide +kernel
theorem dL_isSo_114 : decode cL_isSo 114 = .ok (.istore 5, 2) := by decide +kernel
theorem dL_isSo_116 : decode cL_isSo 116 = .ok (.iinc 6 1, 3) := by decide +kernel
theorem dL_isSo_119 : decode cL_isSo 119 = .ok (.goto (-101), 3) := by decide +kernel
theorem dL_isSo_122 : decode cL_isSo 122 = .ok (.iconst 0, 1) := by decide +kernel
theorem dL_isSo_123 : decode cL_isSo 123 = .ok (.istore 6, 2) := by decide +kernel
theorem dL_isSo_125 : decode cL_isSo 125 = .ok (.iload 6, 2) := by decide +kernel
theorem dL_isSo_127 : decode cL_isSo 127 = .ok (.bipush 10, 2) := by decide +kernel
theorem dL_isSo_129 : decode cL_isSo 129 = .ok (.if_icmp .ge 76, 3) := by decide +kernel
theorem dL_isSo_132 : decode cL_isSo 132 = .ok (.iload 4, 2) := by decide +kernel
theorem dL_isSo_134 : decode cL_isSo 134 = .ok (.aload_n 0, 1) := by decide +kernel
theorem dL_isSo_135 : decode cL_isSo 135 = .ok (.iload 6, 2) := by decide +kernel
theorem dL_isSo_137 : decode cL_isSo 137 = .ok (.iconst 1, 1) := by decide +kernel
theorem dL_isSo_138 : decode cL_isSo 138 = .ok (.invokevirtual 64, 3) := by decide +kernel
theorem dL_isSo_141 : decode cL_isSo 141 = .ok (.iadd, 1) := by decide +kernel
theorem dL_isSo_142 : decode cL_isSo 142 = .ok (.istore 4, 2) := by decide +kernel
theorem dL_isSo_144 : decode cL_isSo 144 = .ok (.iload 5, 2) := by decide +kernel
theorem dL_isSo_146 : decode cL_isSo 146 = .ok (.ifCond .eq 50, 3) := by decide +kernel
theorem dL_isSo_149 : decode cL_isSo 149 = .ok (.aload_n 0, 1) := by decide +kernel
theorem dL_isSo_150 : decode cL_isSo 150 = .ok (.iload 6, 2) := by decide +kernel
theorem dL_isSo_152 : decode cL_isSo 152 = .ok (.iconst 2, 1) := by decide +kernel
theorem dL_isSo_153 : decode cL_isSo 153 = .ok (.invokevirtual 64, 3) := by decide +kernel
theorem dL_isSo_156 : decode cL_isSo 156 = .ok (.bipush 100, 2) := by decide +kernel
theorem dL_isSo_158 : decode cL_isSo 158 = .ok (.irem, 1) := by decide +kernel
theorem dL_isSo_159 : decode cL_isSo 159 = .ok (.ifCond .ne 37, 3) := by decide +kernel
theorem dL_isSo_162 : decode cL_isSo 162 = .ok (.aload_n 0, 1) := by decide +kernel
theorem dL_isSo_163 : decode cL_isSo 163 = .ok (.iload 6, 2) := by decide +kernel
theorem dL_isSo_165 : decode cL_isSo 165 = .ok (.iconst 3, 1) := by decide +kernel
theorem dL_isSo_166 : decode cL_isSo 166 = .ok (.invokevirtual 64, 3) := by decide +kernel
theorem dL_isSo_169 : decode cL_isSo 169 = .ok (.aload_n 0, 1) := by decide +kernel
theorem dL_isSo_170 : decode cL_isSo 170 = .ok (.iload 6, 2) := by decide +kernel
theorem dL_isSo_172 : decode cL_isSo 172 = .ok (.iconst 2, 1) := by decide +kernel
theorem dL_isSo_173 : decode cL_isSo 173 = .ok (.invokevirtual 64, 3) := by decide +kernel
theorem dL_isSo_176 : decode cL_isSo 176 = .ok (.ineg, 1) := by decide +kernel
theorem dL_isSo_177 : decode cL_isSo 177 = .ok (.if_icmp .lt 19, 3) := by decide +kernel
theorem dL_isSo_180 : decode cL_isSo 180 = .ok (.aload_n 0, 1) := by decide +kernel
theorem dL_isSo_181 : decode cL_isSo 181 = .ok (.iload 6, 2) := by decide +kernel
theorem dL_isSo_183 : decode cL_isSo 183 = .ok (.iconst 4, 1) := by decide +kernel
theorem dL_isSo_184 : decode cL_isSo 184 = .ok (.invokevirtual 64, 3) := by decide +kernel
theorem dL_isSo_187 : decode cL_isSo 187 = .ok (.bipush 8, 2) := by decide +kernel
theorem dL_isSo_189 : decode cL_isSo 189 = .ok (.if_icmp .ge 7, 3) := by decide +kernel
theorem dL_isSo_192 : decode cL_isSo 192 = .ok (.iconst 1, 1) := by decide +kernel
theorem dL_isSo_193 : decode cL_isSo 193 = .ok (.goto 4, 3) := by decide +kernel
theorem dL_isSo_196 : decode cL_isSo 196 = .ok (.iconst 0, 1) := by decide +kernel
theorem dL_isSo_197 : decode cL_isSo 197 = .ok (.istore 5, 2) := by decide +kernel
theorem dL_isSo_199 : decode cL_isSo 199 = .ok (.iinc 6 1, 3) := by decide +kernel
theorem dL_isSo_202 : decode cL_isSo 202 = .ok (.goto (-77), 3) := by decide +kernel
theorem dL_isSo_205 : decode cL_isSo 205 = .ok (.iconst 0, 1) := by decide +kernel
theorem dL_isSo_206 : decode cL_isSo 206 = .ok (.istore 6, 2) := by decide +kernel
theorem dL_isSo_208 : decode cL_isSo 208 = .ok (.iload 6, 2) := by decide +kernel
theorem dL_isSo_210 : decode cL_isSo 210 = .ok (.bipush 8, 2) := by decide +kernel
theorem dL_isSo_212 : decode cL_isSo 212 = .ok (.if_icmp .ge 91, 3) := by decide +kernel
theorem dL_isSo_215 : decode cL_isSo 215 = .ok (.iload_n 2, 1) := by decide +kernel
theorem dL_isSo_216 : decode cL_isSo 216 = .ok (.aload_n 0, 1) := by decide +kernel
theorem dL_isSo_217 : decode cL_isSo 217 = .ok (.iload 6, 2) := by decide +kernel
theorem dL_isSo_219 : decode cL_isSo 219 = .ok (.iconst 1, 1) := by decide +kernel
theorem dL_isSo_220 : decode cL_isSo 220 = .ok (.invokevirtual 61, 3) := by decide +kernel
theorem dL_isSo_223 : decode cL_isSo 223 = .ok (.iadd, 1) := by decide +kernel
theorem dL_isSo_224 : decode cL_isSo 224 = .ok (.istore_n 2, 1) := by decide +kernel
theorem dL_isSo_225 : decode cL_isSo 225 = .ok (.aload_n 0, 1) := by decide +kernel
theorem dL_isSo_226 : decode cL_isSo 226 = .ok (.iload 6, 2) := by decide +kernel
theorem dL_isSo_228 : decode cL_isSo 228 = .ok (.iconst 0, 1) := by decide +kernel
theorem dL_isSo_229 : decode cL_isSo 229 = .ok (.invokevirtual 61, 3) := by decide +kernel
theorem dL_isSo_232 : decode cL_isSo 232 = .ok (.aload_n 0, 1) := by decide +kernel
theorem dL_isSo_233 : decode cL_isSo 233 = .ok (.iload 6, 2) := by decide +kernel
theorem dL_isSo_235 : decode cL_isSo 235 = .ok (.iconst 1, 1) := by decide +kernel
theorem dL_isSo_236 : decode cL_isSo 236 = .ok (.invokevirtual 61, 3) := by decide +kernel
theorem dL_isSo_239 : decode cL_isSo 239 = .ok (.isub, 1) := by decide +kernel
theorem dL_isSo_240 : decode cL_isSo 240 = .ok (.istore 7, 2) := by decide +kernel
theorem dL_isSo_242 : decode cL_isSo 242 = .ok (.iload 5, 2) := by decide +kernel
theorem dL_isSo_244 : decode cL_isSo 244 = .ok (.ifCond .eq 50, 3) := by decide +kernel
theorem dL_isSo_247 : decode cL_isSo 247 = .ok (.aload_n 0, 1) := by decide +kernel
theorem dL_isSo_248 : decode cL_isSo 248 = .ok (.iload 6, 2) := by decide +kernel
theorem dL_isSo_250 : decode cL_isSo 250 = .ok (.iconst 2, 1) := by decide +kernel
theorem dL_isSo_251 : decode cL_isSo 251 = .ok (.invokevirtual 61, 3) := by decide +kernel
theorem dL_isSo_254 : decode cL_isSo 254 = .ok (.iload 7, 2) := by decide +kernel
theorem dL_isSo_256 : decode cL_isSo 256 = .ok (.ifCond .le 8, 3) := by decide +kernel
theorem dL_isSo_259 : decode cL_isSo 259 = .ok (.iload 7, 2) := by decide +kernel
theorem dL_isSo_261 : decode cL_isSo 261 = .ok (.goto 4, 3) := by decide +kernel
theorem dL_isSo_264 : decode cL_isSo 264 = .ok (.iconst 0, 1) := by decide +kernel
theorem dL_isSo_265 : decode cL_isSo 265 = .ok (.if_icmp .ne 29, 3) := by decide +kernel
theorem dL_isSo_268 : decode cL_isSo 268 = .ok (.aload_n 0, 1) := by decide +kernel
theorem dL_isSo_269 : decode cL_isSo 269 = .ok (.iload 6, 2) := by decide +kernel
theorem dL_isSo_271 : decode cL_isSo 271 = .ok (.iload 6, 2) := by decide +kernel
theorem dL_isSo_273 : decode cL_isSo 273 = .ok (.invokevirtual 70, 3) := by decide +kernel
theorem dL_isSo_276 : decode cL_isSo 276 = .ok (.ifCond .ne 18, 3) := by decide +kernel
theorem dL_isSo_279 : decode cL_isSo 279 = .ok (.aload_n 0, 1) := by decide +kernel
theorem dL_isSo_280 : decode cL_isSo 280 = .ok (.iload 6, 2) := by decide +kernel
theorem dL_isSo_282 : decode cL_isSo 282 = .ok (.invokevirtual 67, 3) := by decide +kernel
theorem dL_isSo_285 : decode cL_isSo 285 = .ok (.iload 6, 2) := by decide +kernel
theorem dL_isSo_287 : decode cL_isSo 287 = .ok (.if_icmp .eq 7, 3) := by decide +kernel
theorem dL_isSo_290 : decode cL_isSo 290 = .ok (.iconst 1, 1) := by decide +kernel
theorem dL_isSo_291 : decode cL_isSo 291 = .ok (.goto 4, 3) := by decide +kernel
theorem dL_isSo_294 : decode cL_isSo 294 = .ok (.iconst 0, 1) := by decide +kernel
theorem dL_isSo_295 : decode cL_isSo 295 = .ok (.istore 5, 2) := by decide +kernel
theorem dL_isSo_297 : decode cL_isSo 297 = .ok (.iinc 6 1, 3) := by decide +kernel
theorem dL_isSo_300 : decode cL_isSo 300 = .ok (.goto (-92), 3) := by decide +kernel
theorem dL_isSo_303 : decode cL_isSo 303 = .ok (.iload 5, 2) := by decide +kernel
theorem dL_isSo_305 : decode cL_isSo 305 = .ok (.ifCond .eq 42, 3) := by decide +kernel
theorem dL_isSo_308 : decode cL_isSo 308 = .ok (.iload_n 1, 1) := by decide +kernel
theorem dL_isSo_309 : decode cL_isSo 309 = .ok (.iload_n 2, 1) := by decide +kernel
theorem dL_isSo_310 : decode cL_isSo 310 = .ok (.if_icmp .ne 37, 3) := by decide +kernel
theorem dL_isSo_313 : decode cL_isSo 313 = .ok (.iload_n 3, 1) := by decide +kernel
theorem dL_isSo_314 : decode cL_isSo 314 = .ok (.iload 4, 2) := by decide +kernel
theorem dL_isSo_316 : decode cL_isSo 316 = .ok (.if_icmp .ne 31, 3) := by decide +kernel
theorem dL_isSo_319 : decode cL_isSo 319 = .ok (.aload_n 0, 1) := by decide +kernel
theorem dL_isSo_320 : decode cL_isSo 320 = .ok (.bipush 30, 2) := by decide +kernel
theorem dL_isSo_322 : decode cL_isSo 322 = .ok (.iconst 0, 1) := by decide +kernel
theorem dL_isSo_323 : decode cL_isSo 323 = .ok (.invokestatic 104, 3) := by decide +kernel
theorem dL_isSo_326 : decode cL_isSo 326 = .ok (.ldc 16, 2) := by decide +kernel
theorem dL_isSo_328 : decode cL_isSo 328 = .ok (.if_icmp .ne 19, 3) := by decide +kernel
theorem dL_isSo_331 : decode cL_isSo 331 = .ok (.aload_n 0, 1) := by decide +kernel
theorem dL_isSo_332 : decode cL_isSo 332 = .ok (.bipush 8, 2) := by decide +kernel
theorem dL_isSo_334 : decode cL_isSo 334 = .ok (.iconst 0, 1) := by decide +kernel
theorem dL_isSo_335 : decode cL_isSo 335 = .ok (.invokestatic 106, 3) := by decide +kernel
theorem dL_isSo_338 : decode cL_isSo 338 = .ok (.ldc 16, 2) := by decide +kernel
theorem dL_isSo_340 : decode cL_isSo 340 = .ok (.if_icmp .ne 7, 3) := by decide +kernel
theorem dL_isSo_343 : decode cL_isSo 343 = .ok (.iconst 1, 1) := by decide +kernel
theorem dL_isSo_344 : decode cL_isSo 344 = .ok (.goto 4, 3) := by decide +kernel
theorem dL_isSo_347 : decode cL_isSo 347 = .ok (.iconst 0, 1) := by decide +kernel
theorem dL_isSo_348 : decode cL_isSo 348 = .ok (.ireturn, 1) := by decide +kernel
