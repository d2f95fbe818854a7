theorem dL_cell_0 : decode cL_cell 0 = .ok (.iload_n 1, 1) := by decide +kernel
theorem dL_cell_1 : decode cL_cell 1 = .ok (.aload_n 0, 1) := by decide +kernel
theorem dL_cell_2 : decode cL_cell 2 = .ok (.arraylength, 1) := by decide +kernel
theorem dL_cell_3 : decode cL_cell 3 = .ok (.if_icmp .ge 9, 3) := by decide +kernel
theorem dL_cell_6 : decode cL_cell 6 = .ok (.aload_n 0, 1) := by decide +kernel
theorem dL_cell_7 : decode cL_cell 7 = .ok (.iload_n 1, 1) := by decide +kernel
theorem dL_cell_8 : decode cL_cell 8 = .ok (.iaload, 1) := by decide +kernel
theorem dL_cell_9 : decode cL_cell 9 = .ok (.goto 18, 3) := by decide +kernel
theorem dL_cell_12 : decode cL_cell 12 = .ok (.sipush 7919, 3) := by decide +kernel
theorem dL_cell_15 : decode cL_cell 15 = .ok (.iload_n 1, 1) := by decide +kernel
theorem dL_cell_16 : decode cL_cell 16 = .ok (.sipush 2659, 3) := by decide +kernel
theorem dL_cell_19 : decode cL_cell 19 = .ok (.iadd, 1) := by decide +kernel
theorem dL_cell_20 : decode cL_cell 20 = .ok (.imul, 1) := by decide +kernel
theorem dL_cell_21 : decode cL_cell 21 = .ok (.iload_n 1, 1) := by decide +kernel
theorem dL_cell_22 : decode cL_cell 22 = .ok (.sipush 389, 3) := by decide +kernel
theorem dL_cell_25 : decode cL_cell 25 = .ok (.iadd, 1) := by decide +kernel
theorem dL_cell_26 : decode cL_cell 26 = .ok (.imul, 1) := by decide +kernel
theorem dL_cell_27 : decode cL_cell 27 = .ok (.ireturn, 1) := by decide +kernel
theorem dL_low_0 : decode cL_low 0 = .ok (.iload_n 0, 1) := by decide +kernel
theorem dL_low_1 : decode cL_low 1 = .ok (.ldc 7, 2) := by decide +kernel
theorem dL_low_3 : decode cL_low 3 = .ok (.iand, 1) := by decide +kernel
theorem dL_low_4 : decode cL_low 4 = .ok (.iload_n 1, 1) := by decide +kernel
theorem dL_low_5 : decode cL_low 5 = .ok (.irem, 1) := by decide +kernel
theorem dL_low_6 : decode cL_low 6 = .ok (.ireturn, 1) := by decide +kernel
set_option maxRecDepth 20000 in
theorem ggL_lies_X5_lies : GoodIn wsL_lies wsX5_lies := goodIn_ca (goodIn_ca (goodIn_r _ [8, 9, 10, 11, 12, 13, 14, 7, 15, 16, 17, 18, 19, 20, 21, 22, 23, 24, 25, 26, 27, 28, 29, 30, 31, 32, 33, 34] rfl (by decide +kernel)) (goodIn_sub (fun _ h => List.mem_cons_of_mem _ (List.mem_append_left _ (List.mem_append_right _ h))) (by decide +kernel))) (goodIn_sub (fun _ h => List.mem_cons_of_mem _ (List.mem_append_right _ h)) (by decide +kernel))
set_option maxRecDepth 20000 in
theorem gL_lies_X5_lies : GoodIn wsL_lies (wsV RL 8 RX5 yX5_lies wsX5_lies) := goodIn_app (goodIn_of _ (by decide +kernel)) ggL_lies_X5_lies
theorem dL_lies_0 : decode cL_lies 0 = .ok (.aload_n 0, 1) := by decide +kernel
theorem dL_lies_1 : decode cL_lies 1 = .ok (.iload_n 1, 1) := by decide +kernel
theorem dL_lies_2 : decode cL_lies 2 = .ok (.iload_n 2, 1) := by decide +kernel
theorem dL_lies_3 : decode cL_lies 3 = .ok (.iload_n 3, 1) := by decide +kernel
theorem dL_lies_4 : decode cL_lies 4 = .ok (.iload 4, 2) := by decide +kernel
theorem dL_lies_6 : decode cL_lies 6 = .ok (.invokevirtual 8, 3) := by decide +kernel
theorem dL_lies_9 : decode cL_lies 9 = .ok (.iconst 0, 1) := by decide +kernel
theorem dL_lies_10 : decode cL_lies 10 = .ok (.ireturn, 1) := by decide +kernel
theorem dL_lies_11 : decode cL_lies 11 = .ok (.astore 5, 2) := by decide +kernel
theorem dL_lies_13 : decode cL_lies 13 = .ok (.ldc 16, 2) := by decide +kernel
theorem dL_lies_15 : decode cL_lies 15 = .ok (.ireturn, 1) := by decide +kernel
theorem dL_lies_16 : decode cL_lies 16 = .ok (.astore 5, 2) := by decide +kernel
theorem dL_lies_18 : decode cL_lies 18 = .ok (.ldc 16, 2) := by decide +kernel
theorem dL_lies_20 : decode cL_lies 20 = .ok (.ireturn, 1) := by decide +kernel
set_option maxRecDepth 20000 in
theorem ggL_pass_X5_pass : GoodIn wsL_pass wsX5_pass := goodIn_ca (goodIn_ca (goodIn_r _ [8, 9, 10, 11, 12, 13, 14, 15, 16, 17, 18, 19, 20, 21, 22] rfl (by decide +kernel)) (goodIn_sub (fun _ h => List.mem_cons_of_mem _ (List.mem_append_left _ (List.mem_append_right _ h))) (by decide +kernel))) (goodIn_sub (fun _ h => List.mem_cons_of_mem _ (List.mem_append_right _ h)) (by decide +kernel))
set_option maxRecDepth 20000 in
theorem gL_pass_X5_pass : GoodIn wsL_pass (wsV RL 19 RX5 yX5_pass wsX5_pass) := goodIn_app (goodIn_of _ (by decide +kernel)) ggL_pass_X5_pass
theorem dL_pass_0 : decode cL_pass 0 = .ok (.aload_n 0, 1) := by decide +kernel
theorem dL_pass_1 : decode cL_pass 1 = .ok (.iload_n 1, 1) := by decide +kernel
theorem dL_pass_2 : decode cL_pass 2 = .ok (.invokevirtual 19, 3) := by decide +kernel
theorem dL_pass_5 : decode cL_pass 5 = .ok (.ireturn, 1) := by decide +kernel
theorem dL_pass_6 : decode cL_pass 6 = .ok (.astore_n 2, 1) := by decide +kernel
theorem dL_pass_7 : decode cL_pass 7 = .ok (.ldc 16, 2) := by decide +kernel
theorem dL_pass_9 : decode cL_pass 9 = .ok (.ireturn, 1) := by decide +kernel
theorem dL_pass_10 : decode cL_pass 10 = .ok (.astore_n 2, 1) := by decide +kernel
theorem dL_pass_11 : decode cL_pass 11 = .ok (.ldc 16, 2) := by decide +kernel
theorem dL_pass_13 : decode cL_pass 13 = .ok (.ireturn, 1) := by decide +kernel
set_option maxRecDepth 20000 in
theorem ggL_docks_X5_docks : GoodIn wsL_docks wsX5_docks := goodIn_ca (goodIn_ca (goodIn_ca (goodIn_r _ [9, 10, 11, 12, 8, 13, 14, 15, 16, 17, 18, 19, 20, 21, 22, 23, 24, 25, 26, 27, 28, 29, 30, 31, 32, 33, 34, 35, 36, 37, 38, 39, 40, 41, 42, 43, 44, 45, 46, 47, 48, 49, 50, 51, 52, 53, 54, 55, 56, 57, 58, 59, 60, 61, 62, 63, 64, 65, 66, 67, 68, 69, 70, 71, 72, 73, 74, 75, 76, 77, 78, 79, 80, 81, 82, 83, 84, 85, 86, 87, 88, 89, 90, 91, 92, 93, 94, 95, 96, 97, 98, 99, 100, 101, 102, 103, 104, 105, 106, 107, 108, 109, 110, 111, 112, 113, 114, 115, 116, 117, 118, 119, 120, 121, 122, 123, 124, 125, 126, 127, 128, 129, 130, 131, 132, 133, 134, 135, 136, 137, 138, 139, 140, 141, 142, 143, 144, 145, 146, 147, 148, 149, 150, 151, 152, 153, 154, 155, 156, 157, 158, 159, 160, 161, 162, 163, 164, 165, 166, 167, 168, 169, 170, 171, 172, 173, 174, 175, 176, 177, 178, 179, 180, 181, 182, 183, 184, 185, 186, 187, 188, 189, 190, 191, 192, 193, 194, 195, 196, 197, 198, 199, 200, 201, 202, 203, 204, 205, 206, 207, 208, 209, 210, 211, 212, 213, 214, 215, 216, 217, 218, 219, 220, 221, 222, 223, 224, 225, 226, 227, 228, 229, 230, 231, 232, 233, 234, 235, 236, 237, 238] rfl (by decide +kernel)) (goodIn_sub (fun _ h => List.mem_cons_of_mem _ (List.mem_append_left _ (List.mem_append_left _ (List.mem_append_right _ h)))) (by decide +kernel))) (goodIn_sub (fun _ h => List.mem_cons_of_mem _ (List.mem_append_left _ (List.mem_append_right _ h))) (by decide +kernel))) (goodIn_sub (fun _ h => List.mem_cons_of_mem _ (List.mem_append_right _ h)) (by decide +kernel))
set_option maxRecDepth 20000 in
theorem gL_docks_X5_docks : GoodIn wsL_docks (wsV RL 25 RX5 yX5_docks wsX5_docks) := goodIn_app (goodIn_of _ (by decide +kernel)) ggL_docks_X5_docks
theorem dL_docks_0 : decode cL_docks 0 = .ok (.aload_n 0, 1) := by decide +kernel
theorem dL_docks_1 : decode cL_docks 1 = .ok (.iload_n 1, 1) := by decide +kernel
theorem dL_docks_2 : decode cL_docks 2 = .ok (.iload_n 2, 1) := by decide +kernel
theorem dL_docks_3 : decode cL_docks 3 = .ok (.invokevirtual 25, 3) := by decide +kernel
theorem dL_docks_6 : decode cL_docks 6 = .ok (.iconst 0, 1) := by decide +kernel
theorem dL_docks_7 : decode cL_docks 7 = .ok (.ireturn, 1) := by decide +kernel
theorem dL_docks_8 : decode cL_docks 8 = .ok (.astore_n 3, 1) := by decide +kernel
theorem dL_docks_9 : decode cL_docks 9 = .ok (.ldc 16, 2) := by decide +kernel
theorem dL_docks_11 : decode cL_docks 11 = .ok (.ireturn, 1) := by decide +kernel
theorem dL_docks_12 : decode cL_docks 12 = .ok (.astore_n 3, 1) := by decide +kernel
theorem dL_docks_13 : decode cL_docks 13 = .ok (.ldc 16, 2) := by decide +kernel
theorem dL_docks_15 : decode cL_docks 15 = .ok (.ireturn, 1) := by decide +kernel
theorem dL_docks_16 : decode cL_docks 16 = .ok (.astore_n 3, 1) := by decide +kernel
theorem dL_docks_17 : decode cL_docks 17 = .ok (.ldc 16, 2) := by decide +kernel
theorem dL_docks_19 : decode cL_docks 19 = .ok (.ireturn, 1) := by decide +kernel
set_option maxRecDepth 20000 in
theorem ggL_put_X5_put : GoodIn wsL_put wsX5_put := goodIn_ca (goodIn_ca (goodIn_r _ [8, 9, 10, 11, 7, 12, 13, 14, 15, 16, 17, 18, 19, 20, 21, 22, 23, 24, 25, 26, 27, 28, 29, 30, 31, 32, 33, 34, 35, 36, 37, 38, 39, 40, 41, 42, 43, 44, 45, 46, 47, 48, 49, 50, 51, 52, 53, 54, 55, 56, 57, 58, 59, 60, 61, 62, 63, 64, 65, 66, 67, 68, 69, 70, 71, 72, 73, 74, 75, 76, 77, 78, 79, 80, 81, 82, 83, 84, 85, 86, 87, 88, 89, 90, 91, 92, 93, 94, 95, 96, 97, 98, 99, 100, 101, 102, 103, 104, 105, 106, 107, 108, 109, 110, 111, 112, 113, 114, 115, 116, 117, 118, 119, 120, 121, 122, 123, 124, 125, 126, 127, 128, 129, 130, 131, 132, 133, 134, 135, 136, 137, 138, 139, 140, 141, 142, 143, 144, 145, 146, 147, 148, 149, 150, 151, 152, 153, 154, 155, 156, 157, 158, 159, 160, 161, 162, 163, 164, 165, 166, 167, 168, 169, 170, 171, 172, 173, 174, 175, 176, 177, 178, 179, 180, 181, 182, 183, 184, 185, 186, 187, 188, 189, 190, 191, 192, 193, 194, 195, 196, 197, 198, 199, 200, 201, 202, 203, 204, 205, 206, 207, 208, 209, 210, 211, 212, 213, 214, 215, 216, 217, 218, 219, 220, 221, 222, 223, 224, 225, 226, 227, 228, 229, 230, 231, 232, 233, 234, 235] rfl (by decide +kernel)) (goodIn_sub (fun _ h => List.mem_cons_of_mem _ (List.mem_append_left _ (List.mem_append_right _ h))) (by decide +kernel))) (goodIn_sub (fun _ h => List.mem_cons_of_mem _ (List.mem_append_right _ h)) (by decide +kernel))
set_option maxRecDepth 20000 in
theorem gL_put_X5_put : GoodIn wsL_put (wsV RL 29 RX5 yX5_put wsX5_put) := goodIn_app (goodIn_of _ (by decide +kernel)) ggL_put_X5_put
theorem dL_put_0 : decode cL_put 0 = .ok (.aload_n 0, 1) := by decide +kernel
theorem dL_put_1 : decode cL_put 1 = .ok (.iload_n 1, 1) := by decide +kernel
theorem dL_put_2 : decode cL_put 2 = .ok (.iload_n 2, 1) := by decide +kernel
theorem dL_put_3 : decode cL_put 3 = .ok (.invokevirtual 29, 3) := by decide +kernel
theorem dL_put_6 : decode cL_put 6 = .ok (.ifCond .eq 7, 3) := by decide +kernel
theorem dL_put_9 : decode cL_put 9 = .ok (.iconst 1, 1) := by decide +kernel
theorem dL_put_10 : decode cL_put 10 = .ok (.goto 4, 3) := by decide +kernel
theorem dL_put_13 : decode cL_put 13 = .ok (.iconst 0, 1) := by decide +kernel
theorem dL_put_14 : decode cL_put 14 = .ok (.ireturn, 1) := by decide +kernel
theorem dL_put_15 : decode cL_put 15 = .ok (.astore_n 3, 1) := by decide +kernel
theorem dL_put_16 : decode cL_put 16 = .ok (.ldc 16, 2) := by decide +kernel
theorem dL_put_18 : decode cL_put 18 = .ok (.ireturn, 1) := by decide +kernel
theorem dL_put_19 : decode cL_put 19 = .ok (.astore_n 3, 1) := by decide +kernel
theorem dL_put_20 : decode cL_put 20 = .ok (.ldc 16, 2) := by decide +kernel
theorem dL_put_22 : decode cL_put 22 = .ok (.ireturn, 1) := by decide +kernel
set_option maxRecDepth 20000 in
theorem ggL_take_X5_take : GoodIn wsL_take wsX5_take := goodIn_ca (goodIn_ca (goodIn_r _ [8, 9, 10, 11, 7, 12, 13, 14, 15, 16, 17, 18, 19, 20, 21, 22, 23, 24, 25, 26, 27, 28, 29, 30, 31, 32, 33, 34, 35, 36, 37, 38, 39, 40, 41, 42, 43, 44, 45, 46, 47, 48, 49, 50, 51, 52, 53, 54, 55, 56, 57, 58, 59, 60, 61, 62, 63, 64, 65, 66, 67, 68, 69, 70, 71, 72, 73, 74, 75, 76, 77, 78, 79, 80, 81, 82, 83, 84, 85, 86, 87, 88, 89, 90, 91, 92, 93, 94, 95, 96, 97, 98, 99, 100, 101, 102, 103, 104, 105, 106, 107, 108, 109, 110, 111, 112, 113, 114, 115, 116, 117, 118, 119, 120, 121, 122, 123, 124, 125, 126, 127, 128, 129, 130, 131, 132, 133, 134, 135, 136, 137, 138, 139, 140, 141, 142, 143, 144, 145, 146, 147, 148, 149, 150, 151, 152, 153, 154, 155, 156, 157, 158, 159, 160, 161, 162, 163, 164, 165, 166, 167, 168, 169, 170, 171, 172, 173, 174, 175, 176, 177, 178, 179, 180, 181, 182, 183, 184, 185, 186, 187, 188, 189, 190, 191, 192, 193, 194, 195, 196, 197, 198, 199, 200, 201, 202, 203, 204, 205, 206, 207, 208, 209, 210, 211, 212, 213, 214, 215, 216, 217, 218, 219, 220, 221, 222, 223, 224, 225, 226, 227, 228, 229, 230, 231, 232] rfl (by decide +kernel)) (goodIn_sub (fun _ h => List.mem_cons_of_mem _ (List.mem_append_left _ (List.mem_append_right _ h))) (by decide +kernel))) (goodIn_sub (fun _ h => List.mem_cons_of_mem _ (List.mem_append_right _ h)) (by decide +kernel))
set_option maxRecDepth 20000 in
theorem gL_take_X5_take : GoodIn wsL_take (wsV RL 33 RX5 yX5_take wsX5_take) := goodIn_app (goodIn_of _ (by decide +kernel)) ggL_take_X5_take
theorem dL_take_0 : decode cL_take 0 = .ok (.aload_n 0, 1) := by decide +kernel
theorem dL_take_1 : decode cL_take 1 = .ok (.iload_n 1, 1) := by decide +kernel
theorem dL_take_2 : decode cL_take 2 = .ok (.invokevirtual 33, 3) := by decide +kernel
theorem dL_take_5 : decode cL_take 5 = .ok (.ifCond .eq 7, 3) := by decide +kernel
theorem dL_take_8 : decode cL_take 8 = .ok (.iconst 1, 1) := by decide +kernel
theorem dL_take_9 : decode cL_take 9 = .ok (.goto 4, 3) := by decide +kernel
theorem dL_take_12 : decode cL_take 12 = .ok (.iconst 0, 1) := by decide +kernel
theorem dL_take_13 : decode cL_take 13 = .ok (.ireturn, 1) := by decide +kernel
theorem dL_take_14 : decode cL_take 14 = .ok (.astore_n 2, 1) := by decide +kernel
theorem dL_take_15 : decode cL_take 15 = .ok (.ldc 16, 2) := by decide +kernel
theorem dL_take_17 : decode cL_take 17 = .ok (.ireturn, 1) := by decide +kernel
theorem dL_take_18 : decode cL_take 18 = .ok (.astore_n 2, 1) := by decide +kernel
theorem dL_take_19 : decode cL_take 19 = .ok (.ldc 16, 2) := by decide +kernel
theorem dL_take_21 : decode cL_take 21 = .ok (.ireturn, 1) := by decide +kernel
set_option maxRecDepth 20000 in
theorem ggL_unlocked_X5_unlocked : GoodIn wsL_unlocked wsX5_unlocked := goodIn_ca (goodIn_ca (goodIn_ca (goodIn_r _ [9, 10, 11, 8, 12, 13, 14, 15, 16, 17, 18, 19, 20, 21, 22, 23, 24, 25, 26, 27, 28, 29, 30, 31, 32, 33, 34, 35, 36, 37, 38, 39, 40, 41, 42, 43, 44, 45, 46, 47, 48, 49, 50, 51, 52, 53, 54, 55, 56, 57, 58, 59, 60, 61, 62, 63, 64, 65, 66, 67, 68, 69, 70, 71, 72, 73, 74, 75, 76, 77, 78, 79, 80, 81, 82, 83, 84, 85, 86, 87, 88, 89, 90, 91, 92, 93, 94, 95, 96, 97, 98, 99, 100, 101, 102, 103, 104, 105, 106, 107, 108, 109, 110, 111, 112, 113, 114, 115, 116, 117, 118, 119, 120, 121, 122, 123, 124, 125, 126, 127, 128, 129, 130, 131, 132, 133, 134, 135, 136, 137, 138, 139, 140, 141, 142, 143, 144, 145, 146, 147, 148, 149, 150, 151, 152, 153, 154, 155, 156, 157, 158, 159, 160, 161, 162, 163, 164, 165, 166, 167, 168, 169, 170, 171, 172, 173, 174, 175, 176, 177, 178, 179, 180, 181, 182, 183, 184, 185, 186, 187, 188, 189, 190, 191, 192, 193, 194, 195, 196, 197, 198, 199, 200, 201, 202, 203, 204, 205, 206, 207, 208, 209, 210, 211, 212, 213, 214, 215, 216, 217, 218, 219, 220, 221, 222, 223, 224, 225, 226, 227, 228, 229, 230, 231, 232, 233, 234, 235, 236, 237, 238, 239, 240, 241, 242, 243, 244, 245, 246, 247, 248, 249, 250, 251] rfl (by decide +kernel)) (goodIn_sub (fun _ h => List.mem_cons_of_mem _ (List.mem_append_left _ (List.mem_append_left _ (List.mem_append_right _ h)))) (by decide +kernel))) (goodIn_sub (fun _ h => List.mem_cons_of_mem _ (List.mem_append_left _ (List.mem_append_right _ h))) (by decide +kernel))) (goodIn_sub (fun _ h => List.mem_cons_of_mem _ (List.mem_append_right _ h)) (by decide +kernel))
set_option maxRecDepth 20000 in
theorem gL_unlocked_X5_unlocked : GoodIn wsL_unlocked (wsV RL 37 RX5 yX5_unlocked wsX5_unlocked) := goodIn_app (goodIn_of _ (by decide +kernel)) ggL_unlocked_X5_unlocked
theorem dL_unlocked_0 : decode cL_unlocked 0 = .ok (.aload_n 0, 1) := by decide +kernel
theorem dL_unlocked_1 : decode cL_unlocked 1 = .ok (.iload_n 1, 1) := by decide +kernel
theorem dL_unlocked_2 : decode cL_unlocked 2 = .ok (.iload_n 2, 1) := by decide +kernel
theorem dL_unlocked_3 : decode cL_unlocked 3 = .ok (.iload_n 3, 1) := by decide +kernel
theorem dL_unlocked_4 : decode cL_unlocked 4 = .ok (.invokevirtual 37, 3) := by decide +kernel
theorem dL_unlocked_7 : decode cL_unlocked 7 = .ok (.ifCond .eq 7, 3) := by decide +kernel
theorem dL_unlocked_10 : decode cL_unlocked 10 = .ok (.iconst 1, 1) := by decide +kernel
theorem dL_unlocked_11 : decode cL_unlocked 11 = .ok (.goto 4, 3) := by decide +kernel
theorem dL_unlocked_14 : decode cL_unlocked 14 = .ok (.iconst 0, 1) := by decide +kernel
theorem dL_unlocked_15 : decode cL_unlocked 15 = .ok (.ireturn, 1) := by decide +kernel
theorem dL_unlocked_16 : decode cL_unlocked 16 = .ok (.astore 4, 2) := by decide +kernel
theorem dL_unlocked_18 : decode cL_unlocked 18 = .ok (.ldc 16, 2) := by decide +kernel
theorem dL_unlocked_20 : decode cL_unlocked 20 = .ok (.ireturn, 1) := by decide +kernel
theorem dL_unlocked_21 : decode cL_unlocked 21 = .ok (.astore 4, 2) := by decide +kernel
theorem dL_unlocked_23 : decode cL_unlocked 23 = .ok (.ldc 16, 2) := by decide +kernel
theorem dL_unlocked_25 : decode cL_unlocked 25 = .ok (.ireturn, 1) := by decide +kernel
theorem dL_unlocked_26 : decode cL_unlocked 26 = .ok (.astore 4, 2) := by decide +kernel
theorem dL_unlocked_28 : decode cL_unlocked 28 = .ok (.ldc 16, 2) := by decide +kernel
theorem dL_unlocked_30 : decode cL_unlocked 30 = .ok (.ireturn, 1) := by decide +kernel
set_option maxRecDepth 20000 in
theorem ggL_locked_X5_locked : GoodIn wsL_locked wsX5_locked := goodIn_ca (goodIn_ca (goodIn_ca (goodIn_r _ [9, 10, 11, 8, 12, 13, 14, 15, 16, 17, 18, 19, 20, 21, 22, 23, 24, 25, 26, 27, 28, 29, 30, 31, 32, 33, 34, 35, 36, 37, 38, 39, 40, 41, 42, 43, 44, 45, 46, 47, 48, 49, 50, 51, 52, 53, 54, 55, 56, 57, 58, 59, 60, 61, 62, 63, 64, 65, 66, 67, 68, 69, 70, 71, 72, 73, 74, 75, 76, 77, 78, 79, 80, 81, 82, 83, 84, 85, 86, 87, 88, 89, 90, 91, 92, 93, 94, 95, 96, 97, 98, 99, 100, 101, 102, 103, 104, 105, 106, 107, 108, 109, 110, 111, 112, 113, 114, 115, 116, 117, 118, 119, 120, 121, 122, 123, 124, 125, 126, 127, 128, 129, 130, 131, 132, 133, 134, 135, 136, 137, 138, 139, 140, 141, 142, 143, 144, 145, 146, 147, 148, 149, 150, 151, 152, 153, 154, 155, 156, 157, 158, 159, 160, 161, 162, 163, 164, 165, 166, 167, 168, 169, 170, 171, 172, 173, 174, 175, 176, 177, 178, 179, 180, 181, 182, 183, 184, 185, 186, 187, 188, 189, 190, 191, 192, 193, 194, 195, 196, 197, 198, 199, 200, 201, 202, 203, 204, 205, 206, 207, 208, 209, 210, 211, 212, 213, 214, 215, 216, 217, 218, 219, 220, 221, 222, 223, 224, 225, 226, 227, 228, 229, 230, 231, 232, 233, 234, 235, 236, 237, 238, 239, 240, 241, 242, 243, 244, 245, 246, 247, 248, 249, 250, 251] rfl (by decide +kernel)) (goodIn_sub (fun _ h => List.mem_cons_of_mem _ (List.mem_append_left _ (List.mem_append_left _ (List.mem_append_right _ h)))) (by decide +kernel))) (goodIn_sub (fun _ h => List.mem_cons_of_mem _ (List.mem_append_left _ (List.mem_append_right _ h))) (by decide +kernel))) (goodIn_sub (fun _ h => List.mem_cons_of_mem _ (List.mem_append_right _ h)) (by decide +kernel))
set_option maxRecDepth 20000 in
theorem gL_locked_X5_locked : GoodIn wsL_locked (wsV RL 41 RX5 yX5_locked wsX5_locked) := goodIn_app (goodIn_of _ (by decide +kernel)) ggL_locked_X5_locked
theorem dL_locked_0 : decode cL_locked 0 = .ok (.aload_n 0, 1) := by decide +kernel
theorem dL_locked_1 : decode cL_locked 1 = .ok (.iload_n 1, 1) := by decide +kernel
theorem dL_locked_2 : decode cL_locked 2 = .ok (.iload_n 2, 1) := by decide +kernel
theorem dL_locked_3 : decode cL_locked 3 = .ok (.iload_n 3, 1) := by decide +kernel
theorem dL_locked_4 : decode cL_locked 4 = .ok (.invokevirtual 41, 3) := by decide +kernel
theorem dL_locked_7 : decode cL_locked 7 = .ok (.ifCond .eq 7, 3) := by decide +kernel
theorem dL_locked_10 : decode cL_locked 10 = .ok (.iconst 1, 1) := by decide +kernel
theorem dL_locked_11 : decode cL_locked 11 = .ok (.goto 4, 3) := by decide +kernel
theorem dL_locked_14 : decode cL_locked 14 = .ok (.iconst 0, 1) := by decide +kernel
theorem dL_locked_15 : decode cL_locked 15 = .ok (.ireturn, 1) := by decide +kernel
theorem dL_locked_16 : decode cL_locked 16 = .ok (.astore 4, 2) := by decide +kernel
theorem dL_locked_18 : decode cL_locked 18 = .ok (.ldc 16, 2) := by decide +kernel
theorem dL_locked_20 : decode cL_locked 20 = .ok (.ireturn, 1) := by decide +kernel
theorem dL_locked_21 : decode cL_locked 21 = .ok (.astore 4, 2) := by decide +kernel
theorem dL_locked_23 : decode cL_locked 23 = .ok (.ldc 16, 2) := by decide +kernel
theorem dL_locked_25 : decode cL_locked 25 = .ok (.ireturn, 1) := by decide +kernel
theorem dL_locked_26 : decode cL_locked 26 = .ok (.astore 4, 2) := by decide +kernel
theorem dL_locked_28 : decode cL_locked 28 = .ok (.ldc 16, 2) := by decide +kernel
theorem dL_locked_30 : decode cL_locked 30 = .ok (.ireturn, 1) := by decide +kernel
set_option maxRecDepth 20000 in
theorem ggL_faulty_X5_faulty : GoodIn wsL_faulty wsX5_faulty := goodIn_ca (goodIn_ca (goodIn_ca (goodIn_r _ [9, 10, 11, 8, 12, 13, 14, 15, 16, 17, 18, 19, 20, 21, 22, 23, 24, 25, 26, 27, 28, 29, 30, 31, 32, 33, 34, 35, 36, 37, 38, 39, 40, 41, 42, 43, 44, 45, 46, 47, 48, 49, 50, 51, 52, 53, 54, 55, 56, 57, 58, 59, 60, 61, 62, 63, 64, 65, 66, 67, 68, 69, 70, 71, 72, 73, 74, 75, 76, 77, 78, 79, 80, 81, 82, 83, 84, 85, 86, 87, 88, 89, 90, 91, 92, 93, 94, 95, 96, 97, 98, 99, 100, 101, 102, 103, 104, 105, 106, 107, 108, 109, 110, 111, 112, 113, 114, 115, 116, 117, 118, 119, 120, 121, 122, 123, 124, 125, 126, 127, 128, 129, 130, 131, 132, 133, 134, 135, 136, 137, 138, 139, 140, 141, 142, 143, 144, 145, 146, 147, 148, 149, 150, 151, 152, 153, 154, 155, 156, 157, 158, 159, 160, 161, 162, 163, 164, 165, 166, 167, 168, 169, 170, 171, 172, 173, 174, 175, 176, 177, 178, 179, 180, 181, 182, 183, 184, 185, 186, 187, 188, 189, 190, 191, 192, 193, 194, 195, 196, 197, 198, 199, 200, 201, 202, 203, 204, 205, 206, 207, 208, 209, 210, 211, 212, 213, 214, 215, 216, 217, 218, 219, 220, 221, 222, 223, 224, 225, 226, 227, 228, 229, 230, 231, 232, 233, 234, 235, 236, 237, 238, 239, 240, 241, 242, 243, 244, 245, 246, 247, 248, 249, 250, 251] rfl (by decide +kernel)) (goodIn_sub (fun _ h => List.mem_cons_of_mem _ (List.mem_append_left _ (List.mem_append_left _ (List.mem_append_right _ h)))) (by decide +kernel))) (goodIn_sub (fun _ h => List.mem_cons_of_mem _ (List.mem_append_left _ (List.mem_append_right _ h))) (by decide +kernel))) (goodIn_sub (fun _ h => List.mem_cons_of_mem _ (List.mem_append_right _ h)) (by decide +kernel))
set_option maxRecDepth 20000 in
theorem gL_faulty_X5_faulty : GoodIn wsL_faulty (wsV RL 44 RX5 yX5_faulty wsX5_faulty) := goodIn_app (goodIn_of _ (by decide +kernel)) ggL_faulty_X5_faulty
theorem dL_faulty_0 : decode cL_faulty 0 = .ok (.aload_n 0, 1) := by decide +kernel
theorem dL_faulty_1 : decode cL_faulty 1 = .ok (.iload_n 1, 1) := by decide +kernel
theorem dL_faulty_2 : decode cL_faulty 2 = .ok (.iload_n 2, 1) := by decide +kernel
theorem dL_faulty_3 : decode cL_faulty 3 = .ok (.iload_n 3, 1) := by decide +kernel
theorem dL_faulty_4 : decode cL_faulty 4 = .ok (.invokevirtual 44, 3) := by decide +kernel
theorem dL_faulty_7 : decode cL_faulty 7 = .ok (.ifCond .eq 7, 3) := by decide +kernel
theorem dL_faulty_10 : decode cL_faulty 10 = .ok (.iconst 1, 1) := by decide +kernel
theorem dL_faulty_11 : decode cL_faulty 11 = .ok (.goto 4, 3) := by decide +kernel
theorem dL_faulty_14 : decode cL_faulty 14 = .ok (.iconst 0, 1) := by decide +kernel
theorem dL_faulty_15 : decode cL_faulty 15 = .ok (.ireturn, 1) := by decide +kernel
theorem dL_faulty_16 : decode cL_faulty 16 = .ok (.astore 4, 2) := by decide +kernel
theorem dL_faulty_18 : decode cL_faulty 18 = .ok (.ldc 16, 2) := by decide +kernel
theorem dL_faulty_20 : decode cL_faulty 20 = .ok (.ireturn, 1) := by decide +kernel
theorem dL_faulty_21 : decode cL_faulty 21 = .ok (.astore 4, 2) := by decide +kernel
theorem dL_faulty_23 : decode cL_faulty 23 = .ok (.ldc 16, 2) := by decide +kernel
theorem dL_faulty_25 : decode cL_faulty 25 = .ok (.ireturn, 1) := by decide +kernel
theorem dL_faulty_26 : decode cL_faulty 26 = .ok (.astore 4, 2) := by decide +kernel
theorem dL_faulty_28 : decode cL_faulty 28 = .ok (.ldc 16, 2) := by decide +kernel
theorem dL_faulty_30 : decode cL_faulty 30 = .ok (.ireturn, 1) := by decide +kernel
set_option maxRecDepth 20000 in
theorem ggL_mend_X5_mend : GoodIn wsL_mend wsX5_mend := goodIn_ca (goodIn_ca (goodIn_r _ [8, 9, 10, 11, 7, 12, 13, 14, 15, 16, 17, 18, 19, 20, 21, 22, 23, 24, 25, 26, 27, 28, 29, 30, 31, 32, 33, 34, 35, 36, 37, 38, 39, 40, 41, 42, 43, 44, 45, 46, 47, 48, 49, 50, 51, 52, 53, 54, 55, 56, 57, 58, 59, 60, 61, 62, 63, 64, 65, 66, 67, 68, 69, 70, 71, 72, 73, 74, 75, 76, 77, 78, 79, 80, 81, 82, 83, 84, 85, 86, 87, 88, 89, 90, 91, 92, 93, 94, 95, 96, 97, 98, 99, 100, 101, 102, 103, 104, 105, 106, 107, 108, 109, 110, 111, 112, 113, 114, 115, 116, 117, 118, 119, 120, 121, 122, 123, 124, 125, 126, 127, 128, 129, 130, 131, 132, 133, 134, 135, 136, 137, 138, 139, 140, 141, 142, 143, 144, 145, 146, 147, 148, 149, 150, 151, 152, 153, 154, 155, 156, 157, 158, 159, 160, 161, 162, 163, 164, 165, 166, 167, 168, 169, 170, 171, 172, 173, 174, 175, 176, 177, 178, 179, 180, 181, 182, 183, 184, 185, 186, 187, 188, 189, 190, 191, 192, 193, 194, 195, 196, 197, 198, 199, 200, 201, 202, 203, 204, 205, 206, 207, 208, 209, 210, 211, 212, 213, 214, 215, 216, 217, 218, 219, 220, 221, 222, 223, 224, 225, 226, 227, 228, 229, 230, 231, 232] rfl (by decide +kernel)) (goodIn_sub (fun _ h => List.mem_cons_of_mem _ (List.mem_append_left _ (List.mem_append_right _ h))) (by decide +kernel))) (goodIn_sub (fun _ h => List.mem_cons_of_mem _ (List.mem_append_right _ h)) (by decide +kernel))
set_option maxRecDepth 20000 in
theorem gL_mend_X5_mend : GoodIn wsL_mend (wsV RL 47 RX5 yX5_mend wsX5_mend) := goodIn_app (goodIn_of _ (by decide +kernel)) ggL_mend_X5_mend
theorem dL_mend_0 : decode cL_mend 0 = .ok (.aload_n 0, 1) := by decide +kernel
theorem dL_mend_1 : decode cL_mend 1 = .ok (.iload_n 1, 1) := by decide +kernel
theorem dL_mend_2 : decode cL_mend 2 = .ok (.invokevirtual 47, 3) := by decide +kernel
theorem dL_mend_5 : decode cL_mend 5 = .ok (.ifCond .eq 7, 3) := by decide +kernel
theorem dL_mend_8 : decode cL_mend 8 = .ok (.iconst 1, 1) := by decide +kernel
theorem dL_mend_9 : decode cL_mend 9 = .ok (.goto 4, 3) := by decide +kernel
theorem dL_mend_12 : decode cL_mend 12 = .ok (.iconst 0, 1) := by decide +kernel
theorem dL_mend_13 : decode cL_mend 13 = .ok (.ireturn, 1) := by decide +kernel
theorem dL_mend_14 : decode cL_mend 14 = .ok (.astore_n 2, 1) := by decide +kernel
theorem dL_mend_15 : decode cL_mend 15 = .ok (.ldc 16, 2) := by decide +kernel
theorem dL_mend_17 : decode cL_mend 17 = .ok (.ireturn, 1) := by decide +kernel
theorem dL_mend_18 : decode cL_mend 18 = .ok (.astore_n 2, 1) := by decide +kernel
theorem dL_mend_19 : decode cL_mend 19 = .ok (.ldc 16, 2) := by decide +kernel
theorem dL_mend_21 : decode cL_mend 21 = .ok (.ireturn, 1) := by decide +kernel
set_option maxRecDepth 20000 in
theorem ggL_price_X5_price : GoodIn wsL_price wsX5_price := goodIn_ca (goodIn_ca (goodIn_r _ [8, 9, 10, 11, 7, 12, 13, 14, 15, 16, 17, 18, 19, 20, 21, 22, 23, 24, 25, 26, 27, 28, 29, 30, 31, 32, 33, 34, 35, 36, 37, 38, 39, 40, 41, 42, 43, 44, 45, 46, 47, 48, 49, 50, 51, 52, 53, 54, 55, 56, 57, 58, 59, 60, 61, 62, 63, 64, 65, 66, 67, 68, 69, 70, 71, 72, 73, 74, 75, 76, 77, 78, 79, 80, 81, 82, 83, 84, 85, 86, 87, 88, 89, 90, 91, 92, 93, 94, 95, 96, 97, 98, 99, 100, 101, 102, 103, 104, 105, 106, 107, 108, 109, 110, 111, 112, 113, 114, 115, 116, 117, 118, 119, 120, 121, 122, 123, 124, 125, 126, 127, 128, 129, 130, 131, 132, 133, 134, 135, 136, 137, 138, 139, 140, 141, 142, 143, 144, 145, 146, 147, 148, 149, 150, 151, 152, 153, 154, 155, 156, 157, 158, 159, 160, 161, 162, 163, 164, 165, 166, 167, 168, 169, 170, 171, 172, 173, 174, 175, 176, 177, 178, 179, 180, 181, 182, 183, 184, 185, 186, 187, 188, 189, 190, 191, 192, 193, 194, 195, 196, 197, 198, 199, 200, 201, 202, 203, 204, 205, 206, 207, 208, 209, 210, 211, 212, 213, 214, 215, 216, 217, 218, 219, 220, 221, 222, 223, 224, 225, 226, 227, 228, 229, 230, 231, 232] rfl (by decide +kernel)) (goodIn_sub (fun _ h => List.mem_cons_of_mem _ (List.mem_append_left _ (List.mem_append_right _ h))) (by decide +kernel))) (goodIn_sub (fun _ h => List.mem_cons_of_mem _ (List.mem_append_right _ h)) (by decide +kernel))
set_option maxRecDepth 20000 in
theorem gL_price_X5_price : GoodIn wsL_price (wsV RL 50 RX5 yX5_price wsX5_price) := goodIn_app (goodIn_of _ (by decide +kernel)) ggL_price_X5_price
theorem dL_price_0 : decode cL_price 0 = .ok (.aload_n 0, 1) := by decide +kernel
theorem dL_price_1 : decode cL_price 1 = .ok (.iload_n 1, 1) := by decide +kernel
theorem dL_price_2 : decode cL_price 2 = .ok (.invokevirtual 50, 3) := by decide +kernel
theorem dL_price_5 : decode cL_price 5 = .ok (.iconst 0, 1) := by decide +kernel
theorem dL_price_6 : decode cL_price 6 = .ok (.ireturn, 1) := by decide +kernel
theorem dL_price_7 : decode cL_price 7 = .ok (.astore_n 2, 1) := by decide +kernel
theorem dL_price_8 : decode cL_price 8 = .ok (.ldc 16, 2) := by decide +kernel
theorem dL_price_10 : decode cL_price 10 = .ok (.ireturn, 1) := by decide +kernel
theorem dL_price_11 : decode cL_price 11 = .ok (.astore_n 2, 1) := by decide +kernel
theorem dL_price_12 : decode cL_price 12 = .ok (.ldc 16, 2) := by decide +kernel
theorem dL_price_14 : decode cL_price 14 = .ok (.ireturn, 1) := by decide +kernel
set_option maxRecDepth 20000 in
theorem ggL_promise_X5_promise : GoodIn wsL_promise wsX5_promise := goodIn_ca (goodIn_ca (goodIn_r _ [8, 9, 10, 11, 7, 12, 13, 14, 15, 16, 17, 18, 19, 20, 21, 22, 23, 24, 25, 26, 27, 28, 29, 30, 31, 32, 33, 34, 35, 36, 37, 38, 39, 40, 41, 42, 43, 44, 45, 46, 47, 48, 49, 50, 51, 52, 53, 54, 55, 56, 57, 58, 59, 60, 61, 62, 63, 64, 65, 66, 67, 68, 69, 70, 71, 72, 73, 74, 75, 76, 77, 78, 79, 80, 81, 82, 83, 84, 85, 86, 87, 88, 89, 90, 91, 92, 93, 94, 95, 96, 97, 98, 99, 100, 101, 102, 103, 104, 105, 106, 107, 108, 109, 110, 111, 112, 113, 114, 115, 116, 117, 118, 119, 120, 121, 122, 123, 124, 125, 126, 127, 128, 129, 130, 131, 132, 133, 134, 135, 136, 137, 138, 139, 140, 141, 142, 143, 144, 145, 146, 147, 148, 149, 150, 151, 152, 153, 154, 155, 156, 157, 158, 159, 160, 161, 162, 163, 164, 165, 166, 167, 168, 169, 170, 171, 172, 173, 174, 175, 176, 177, 178, 179, 180, 181, 182, 183, 184, 185, 186, 187, 188, 189, 190, 191, 192, 193, 194, 195, 196, 197, 198, 199, 200, 201, 202, 203, 204, 205, 206, 207, 208, 209, 210, 211, 212, 213, 214, 215, 216, 217, 218, 219, 220, 221, 222, 223, 224, 225, 226, 227, 228, 229, 230, 231, 232, 233, 234, 235] rfl (by decide +kernel)) (goodIn_sub (fun _ h => List.mem_cons_of_mem _ (List.mem_append_left _ (List.mem_append_right _ h))) (by decide +kernel))) (goodIn_sub (fun _ h => List.mem_cons_of_mem _ (List.mem_append_right _ h)) (by decide +kernel))
set_option maxRecDepth 20000 in
theorem gL_promise_X5_promise : GoodIn wsL_promise (wsV RL 54 RX5 yX5_promise wsX5_promise) := goodIn_app (goodIn_of _ (by decide +kernel)) ggL_promise_X5_promise
theorem dL_promise_0 : decode cL_promise 0 = .ok (.aload_n 0, 1) := by decide +kernel
theorem dL_promise_1 : decode cL_promise 1 = .ok (.iload_n 1, 1) := by decide +kernel
theorem dL_promise_2 : decode cL_promise 2 = .ok (.iload_n 2, 1) := by decide +kernel
theorem dL_promise_3 : decode cL_promise 3 = .ok (.invokevirtual 54, 3) := by decide +kernel
theorem dL_promise_6 : decode cL_promise 6 = .ok (.ifCond .eq 7, 3) := by decide +kernel
theorem dL_promise_9 : decode cL_promise 9 = .ok (.iconst 1, 1) := by decide +kernel
theorem dL_promise_10 : decode cL_promise 10 = .ok (.goto 4, 3) := by decide +kernel
theorem dL_promise_13 : decode cL_promise 13 = .ok (.iconst 0, 1) := by decide +kernel
theorem dL_promise_14 : decode cL_promise 14 = .ok (.ireturn, 1) := by decide +kernel
theorem dL_promise_15 : decode cL_promise 15 = .ok (.astore_n 3, 1) := by decide +kernel
theorem dL_promise_16 : decode cL_promise 16 = .ok (.ldc 16, 2) := by decide +kernel
theorem dL_promise_18 : decode cL_promise 18 = .ok (.ireturn, 1) := by decide +kernel
theorem dL_promise_19 : decode cL_promise 19 = .ok (.astore_n 3, 1) := by decide +kernel
theorem dL_promise_20 : decode cL_promise 20 = .ok (.ldc 16, 2) := by decide +kernel
theorem dL_promise_22 : decode cL_promise 22 = .ok (.ireturn, 1) := by decide +kernel
set_option maxRecDepth 20000 in
theorem ggL_cycle_X5_cycle : GoodIn wsL_cycle wsX5_cycle := goodIn_ca (goodIn_ca (goodIn_r _ [8, 9, 10, 11, 12, 13, 14, 15, 16, 17, 7, 18, 19, 20, 21, 22, 23, 24, 25, 26, 27, 28, 29, 30, 31, 32, 33, 34, 35, 36, 37, 38, 39, 40, 41, 42, 43, 44, 45, 46, 47, 48, 49, 50, 51, 52, 53, 54, 55] rfl (by decide +kernel)) (goodIn_sub (fun _ h => List.mem_cons_of_mem _ (List.mem_append_left _ (List.mem_append_right _ h))) (by decide +kernel))) (goodIn_sub (fun _ h => List.mem_cons_of_mem _ (List.mem_append_right _ h)) (by decide +kernel))
set_option maxRecDepth 20000 in
theorem gL_cycle_X5_cycle : GoodIn wsL_cycle (wsV RL 57 RX5 yX5_cycle wsX5_cycle) := goodIn_app (goodIn_of _ (by decide +kernel)) ggL_cycle_X5_cycle
theorem dL_cycle_0 : decode cL_cycle 0 = .ok (.aload_n 0, 1) := by decide +kernel
theorem dL_cycle_1 : decode cL_cycle 1 = .ok (.iload_n 1, 1) := by decide +kernel
theorem dL_cycle_2 : decode cL_cycle 2 = .ok (.iload_n 2, 1) := by decide +kernel
theorem dL_cycle_3 : decode cL_cycle 3 = .ok (.invokevirtual 57, 3) := by decide +kernel
theorem dL_cycle_6 : decode cL_cycle 6 = .ok (.ireturn, 1) := by decide +kernel
theorem dL_cycle_7 : decode cL_cycle 7 = .ok (.astore_n 3, 1) := by decide +kernel
theorem dL_cycle_8 : decode cL_cycle 8 = .ok (.ldc 16, 2) := by decide +kernel
theorem dL_cycle_10 : decode cL_cycle 10 = .ok (.ireturn, 1) := by decide +kernel
theorem dL_cycle_11 : decode cL_cycle 11 = .ok (.astore_n 3, 1) := by decide +kernel
theorem dL_cycle_12 : decode cL_cycle 12 = .ok (.ldc 16, 2) := by decide +kernel
theorem dL_cycle_14 : decode cL_cycle 14 = .ok (.ireturn, 1) := by decide +kernel
set_option maxRecDepth 20000 in
theorem ggL_station_X5_station : GoodIn wsL_station wsX5_station := goodIn_ca (goodIn_ca (goodIn_r _ [8, 9, 10, 11, 12, 13, 14, 15, 16, 17, 7, 18, 19, 20, 21, 22, 23, 24, 25, 26, 27, 28, 29, 30, 31, 32, 33, 34, 35, 36, 37, 38, 39, 40, 41, 42, 43, 44, 45, 46, 47, 48, 49, 50, 51, 52, 53, 54, 55, 56, 57, 58, 59, 60, 61, 62, 63, 64, 65, 66, 67] rfl (by decide +kernel)) (goodIn_sub (fun _ h => List.mem_cons_of_mem _ (List.mem_append_left _ (List.mem_append_right _ h))) (by decide +kernel))) (goodIn_sub (fun _ h => List.mem_cons_of_mem _ (List.mem_append_right _ h)) (by decide +kernel))
set_option maxRecDepth 20000 in
theorem gL_station_X5_station : GoodIn wsL_station (wsV RL 61 RX5 yX5_station wsX5_station) := goodIn_app (goodIn_of _ (by decide +kernel)) ggL_station_X5_station
theorem dL_station_0 : decode cL_station 0 = .ok (.aload_n 0, 1) := by decide +kernel
theorem dL_station_1 : decode cL_station 1 = .ok (.iload_n 1, 1) := by decide +kernel
theorem dL_station_2 : decode cL_station 2 = .ok (.iload_n 2, 1) := by decide +kernel
theorem dL_station_3 : decode cL_station 3 = .ok (.invokevirtual 61, 3) := by decide +kernel
theorem dL_station_6 : decode cL_station 6 = .ok (.ireturn, 1) := by decide +kernel
theorem dL_station_7 : decode cL_station 7 = .ok (.astore_n 3, 1) := by decide +kernel
theorem dL_station_8 : decode cL_station 8 = .ok (.ldc 16, 2) := by decide +kernel
theorem dL_station_10 : decode cL_station 10 = .ok (.ireturn, 1) := by decide +kernel
theorem dL_station_11 : decode cL_station 11 = .ok (.astore_n 3, 1) := by decide +kernel
theorem dL_station_12 : decode cL_station 12 = .ok (.ldc 16, 2) := by decide +kernel
theorem dL_station_14 : decode cL_station 14 = .ok (.ireturn, 1) := by decide +kernel
set_option maxRecDepth 20000 in
theorem ggL_rider_X5_rider : GoodIn wsL_rider wsX5_rider := goodIn_ca (goodIn_ca (goodIn_r _ [8, 9, 10, 11, 12, 13, 14, 15, 16, 17, 7, 18, 19, 20, 21, 22, 23, 24, 25, 26, 27, 28, 29, 30, 31, 32, 33, 34, 35, 36, 37, 38, 39, 40, 41, 42, 43, 44, 45, 46, 47, 48, 49, 50, 51, 52, 53, 54, 55, 56, 57, 58, 59, 60, 61, 62, 63, 64, 65, 66, 67, 68, 69, 70, 71, 72, 73, 74, 75, 76, 77, 78, 79, 80, 81] rfl (by decide +kernel)) (goodIn_sub (fun _ h => List.mem_cons_of_mem _ (List.mem_append_left _ (List.mem_append_right _ h))) (by decide +kernel))) (goodIn_sub (fun _ h => List.mem_cons_of_mem _ (List.mem_append_right _ h)) (by decide +kernel))
set_option maxRecDepth 20000 in
theorem gL_rider_X5_rider : GoodIn wsL_rider (wsV RL 64 RX5 yX5_rider wsX5_rider) := goodIn_app (goodIn_of _ (by decide +kernel)) ggL_rider_X5_rider
theorem dL_rider_0 : decode cL_rider 0 = .ok (.aload_n 0, 1) := by decide +kernel
theorem dL_rider_1 : decode cL_rider 1 = .ok (.iload_n 1, 1) := by decide +kernel
theorem dL_rider_2 : decode cL_rider 2 = .ok (.iload_n 2, 1) := by decide +kernel
theorem dL_rider_3 : decode cL_rider 3 = .ok (.invokevirtual 64, 3) := by decide +kernel
theorem dL_rider_6 : decode cL_rider 6 = .ok (.ireturn, 1) := by decide +kernel
theorem dL_rider_7 : decode cL_rider 7 = .ok (.astore_n 3, 1) := by decide +kernel
theorem dL_rider_8 : decode cL_rider 8 = .ok (.ldc 16, 2) := by decide +kernel
theorem dL_rider_10 : decode cL_rider 10 = .ok (.ireturn, 1) := by decide +kernel
theorem dL_rider_11 : decode cL_rider 11 = .ok (.astore_n 3, 1) := by decide +kernel
theorem dL_rider_12 : decode cL_rider 12 = .ok (.ldc 16, 2) := by decide +kernel
theorem dL_rider_14 : decode cL_rider 14 = .ok (.ireturn, 1) := by decide +kernel
set_option maxRecDepth 20000 in
theorem ggL_nearest_X5_nearest : GoodIn wsL_nearest wsX5_nearest := goodIn_ca (goodIn_r _ [7, 8, 9, 10, 11, 6, 12, 13, 14, 15, 16, 17, 18, 19, 20, 21, 22, 23, 24, 25, 26, 27, 28, 29, 30, 31, 32, 33, 34, 35, 36, 37, 38, 39, 40, 41, 42, 43, 44, 45, 46, 47, 48, 49, 50, 51, 52, 53, 54, 55, 56, 57] rfl (by decide +kernel)) (goodIn_sub (fun _ h => List.mem_cons_of_mem _ (List.mem_append_right _ h)) (by decide +kernel))
set_option maxRecDepth 20000 in
theorem gL_nearest_X5_nearest : GoodIn wsL_nearest (wsV RL 67 RX5 yX5_nearest wsX5_nearest) := goodIn_app (goodIn_of _ (by decide +kernel)) ggL_nearest_X5_nearest
theorem dL_nearest_0 : decode cL_nearest 0 = .ok (.aload_n 0, 1) := by decide +kernel
theorem dL_nearest_1 : decode cL_nearest 1 = .ok (.iload_n 1, 1) := by decide +kernel
theorem dL_nearest_2 : decode cL_nearest 2 = .ok (.invokevirtual 67, 3) := by decide +kernel
theorem dL_nearest_5 : decode cL_nearest 5 = .ok (.ireturn, 1) := by decide +kernel
theorem dL_nearest_6 : decode cL_nearest 6 = .ok (.astore_n 2, 1) := by decide +kernel
theorem dL_nearest_7 : decode cL_nearest 7 = .ok (.ldc 16, 2) := by decide +kernel
theorem dL_nearest_9 : decode cL_nearest 9 = .ok (.ireturn, 1) := by decide +kernel
set_option maxRecDepth 20000 in
theorem ggL_way_X5_way : GoodIn wsL_way wsX5_way := goodIn_ca (goodIn_r _ [7, 8, 9, 10, 11, 6, 12, 13, 14, 15, 16, 17, 18, 19, 20, 21, 22, 23, 24, 25, 26, 27, 28, 29, 30, 31, 32, 33, 34, 35, 36, 37, 38, 39, 40, 41, 42, 43, 44, 45] rfl (by decide +kernel)) (goodIn_sub (fun _ h => List.mem_cons_of_mem _ (List.mem_append_right _ h)) (by decide +kernel))
set_option maxRecDepth 20000 in
theorem gL_way_X5_way : GoodIn wsL_way (wsV RL 70 RX5 yX5_way wsX5_way) := goodIn_app (goodIn_of _ (by decide +kernel)) ggL_way_X5_way
theorem dL_way_0 : decode cL_way 0 = .ok (.aload_n 0, 1) := by decide +kernel
theorem dL_way_1 : decode cL_way 1 = .ok (.iload_n 1, 1) := by decide +kernel
theorem dL_way_2 : decode cL_way 2 = .ok (.iload_n 2, 1) := by decide +kernel
theorem dL_way_3 : decode cL_way 3 = .ok (.invokevirtual 70, 3) := by decide +kernel
theorem dL_way_6 : decode cL_way 6 = .ok (.ireturn, 1) := by decide +kernel
theorem dL_way_7 : decode cL_way 7 = .ok (.astore_n 3, 1) := by decide +kernel
theorem dL_way_8 : decode cL_way 8 = .ok (.ldc 16, 2) := by decide +kernel
theorem dL_way_10 : decode cL_way 10 = .ok (.ireturn, 1) := by decide +kernel
