set_option maxRecDepth 20000 in
theorem ggX5_init_X4_init : GoodIn wsX5_init wsX4_init := goodIn_r _ [29, 30, 2, 3, 31, 32, 33, 34, 35, 36, 92, 93, 94, 95, 96] rfl (by decide +kernel)
set_option maxRecDepth 20000 in
theorem gX5_init_X4_init_n9 : GoodIn wsX5_init (wsX4_init) := ggX5_init_X4_init
set_option maxRecDepth 20000 in
theorem ggX5_init_X1_init : GoodIn wsX5_init wsX1_init := goodIn_r _ [38, 39, 2, 3, 31, 40, 41, 42, 106, 107, 108] rfl (by decide +kernel)
set_option maxRecDepth 20000 in
theorem gX5_init_X1_init_n18 : GoodIn wsX5_init (wsX1_init) := ggX5_init_X1_init
set_option maxRecDepth 20000 in
theorem ggX5_init_X3_init : GoodIn wsX5_init wsX3_init := goodIn_r _ [44, 45, 2, 3, 31, 46, 47, 48, 49, 109, 110, 111, 112] rfl (by decide +kernel)
set_option maxRecDepth 20000 in
theorem gX5_init_X3_init_n25 : GoodIn wsX5_init (wsX3_init) := ggX5_init_X3_init
set_option maxRecDepth 20000 in
theorem ggX5_init_X0_init : GoodIn wsX5_init wsX0_init := goodIn_r _ [51, 52, 2, 3, 31, 53, 54, 55, 56, 57, 58, 59, 113, 114, 115, 116, 117, 118, 119] rfl (by decide +kernel)
set_option maxRecDepth 20000 in
theorem gX5_init_X0_init_n32 : GoodIn wsX5_init (wsX0_init) := ggX5_init_X0_init
set_option maxRecDepth 20000 in
theorem ggX5_init_X2_init : GoodIn wsX5_init wsX2_init := goodIn_r _ [61, 62, 2, 3, 31, 63, 64, 65, 66, 67, 68, 120, 121, 122, 123, 124, 125] rfl (by decide +kernel)
set_option maxRecDepth 20000 in
theorem gX5_init_X2_init_n39 : GoodIn wsX5_init (wsX2_init) := ggX5_init_X2_init
set_option maxRecDepth 20000 in
theorem ggX5_init_X5_beginAnew : GoodIn wsX5_init wsX5_beginAnew := goodIn_r _ [73, 25, 26, 27, 15, 19, 23, 74, 75, 76, 14, 77, 46, 47, 48, 49, 78, 79, 80, 81, 82, 83, 84, 18, 85, 53, 54, 55, 56, 57, 58, 59, 86, 87, 88, 89, 22, 90, 63, 64, 65, 66, 67, 68, 91, 97, 98, 99, 100, 101, 102, 103, 104, 105, 109, 110, 111, 112, 113, 114, 115, 116, 117, 118, 119, 120, 121, 122, 123, 124, 125] rfl (by decide +kernel)
set_option maxRecDepth 20000 in
theorem gX5_init_X5_beginAnew : GoodIn wsX5_init (wsV RX5 57 RX5 yX5_beginAnew wsX5_beginAnew) := goodIn_app (goodIn_of _ (by decide +kernel)) ggX5_init_X5_beginAnew
theorem dX5_init_0 : decode cX5_init 0 = .ok (.aload_n 0, 1) := by decide +kernel
theorem dX5_init_1 : decode cX5_init 1 = .ok (.invokespecial 1, 3) := by decide +kernel
theorem dX5_init_4 : decode cX5_init 4 = .ok (.aload_n 0, 1) := by decide +kernel
theorem dX5_init_5 : decode cX5_init 5 = .ok (.new 7, 3) := by decide +kernel
theorem dX5_init_8 : decode cX5_init 8 = .ok (.dup, 1) := by decide +kernel
theorem dX5_init_9 : decode cX5_init 9 = .ok (.invokespecial 9, 3) := by decide +kernel
theorem dX5_init_12 : decode cX5_init 12 = .ok (.putfield 10, 3) := by decide +kernel
theorem dX5_init_15 : decode cX5_init 15 = .ok (.aload_n 0, 1) := by decide +kernel
theorem dX5_init_16 : decode cX5_init 16 = .ok (.new 16, 3) := by decide +kernel
theorem dX5_init_19 : decode cX5_init 19 = .ok (.dup, 1) := by decide +kernel
theorem dX5_init_20 : decode cX5_init 20 = .ok (.invokespecial 18, 3) := by decide +kernel
theorem dX5_init_23 : decode cX5_init 23 = .ok (.putfield 19, 3) := by decide +kernel
theorem dX5_init_26 : decode cX5_init 26 = .ok (.aload_n 0, 1) := by decide +kernel
theorem dX5_init_27 : decode cX5_init 27 = .ok (.new 23, 3) := by decide +kernel
theorem dX5_init_30 : decode cX5_init 30 = .ok (.dup, 1) := by decide +kernel
theorem dX5_init_31 : decode cX5_init 31 = .ok (.invokespecial 25, 3) := by decide +kernel
theorem dX5_init_34 : decode cX5_init 34 = .ok (.putfield 26, 3) := by decide +kernel
theorem dX5_init_37 : decode cX5_init 37 = .ok (.aload_n 0, 1) := by decide +kernel
theorem dX5_init_38 : decode cX5_init 38 = .ok (.new 30, 3) := by decide +kernel
theorem dX5_init_41 : decode cX5_init 41 = .ok (.dup, 1) := by decide +kernel
theorem dX5_init_42 : decode cX5_init 42 = .ok (.invokespecial 32, 3) := by decide +kernel
theorem dX5_init_45 : decode cX5_init 45 = .ok (.putfield 33, 3) := by decide +kernel
theorem dX5_init_48 : decode cX5_init 48 = .ok (.aload_n 0, 1) := by decide +kernel
theorem dX5_init_49 : decode cX5_init 49 = .ok (.new 37, 3) := by decide +kernel
theorem dX5_init_52 : decode cX5_init 52 = .ok (.dup, 1) := by decide +kernel
theorem dX5_init_53 : decode cX5_init 53 = .ok (.invokespecial 39, 3) := by decide +kernel
theorem dX5_init_56 : decode cX5_init 56 = .ok (.putfield 40, 3) := by decide +kernel
theorem dX5_init_59 : decode cX5_init 59 = .ok (.aload_n 0, 1) := by decide +kernel
theorem dX5_init_60 : decode cX5_init 60 = .ok (.iconst 0, 1) := by decide +kernel
theorem dX5_init_61 : decode cX5_init 61 = .ok (.putfield 44, 3) := by decide +kernel
theorem dX5_init_64 : decode cX5_init 64 = .ok (.aload_n 0, 1) := by decide +kernel
theorem dX5_init_65 : decode cX5_init 65 = .ok (.iconst 0, 1) := by decide +kernel
theorem dX5_init_66 : decode cX5_init 66 = .ok (.putfield 48, 3) := by decide +kernel
theorem dX5_init_69 : decode cX5_init 69 = .ok (.aload_n 0, 1) := by decide +kernel
theorem dX5_init_70 : decode cX5_init 70 = .ok (.iconst 0, 1) := by decide +kernel
theorem dX5_init_71 : decode cX5_init 71 = .ok (.putfield 51, 3) := by decide +kernel
theorem dX5_init_74 : decode cX5_init 74 = .ok (.aload_n 0, 1) := by decide +kernel
theorem dX5_init_75 : decode cX5_init 75 = .ok (.iconst 1, 1) := by decide +kernel
theorem dX5_init_76 : decode cX5_init 76 = .ok (.putfield 54, 3) := by decide +kernel
theorem dX5_init_79 : decode cX5_init 79 = .ok (.aload_n 0, 1) := by decide +kernel
theorem dX5_init_80 : decode cX5_init 80 = .ok (.invokevirtual 57, 3) := by decide +kernel
theorem dX5_init_83 : decode cX5_init 83 = .ok (.return_, 1) := by decide +kernel
set_option maxRecDepth 20000 in
theorem ggX5_lies_X5_needStation : GoodIn wsX5_lies wsX5_needStation := goodIn_ca (goodIn_r _ [8, 9, 10] (by decide +kernel) (by decide +kernel)) (goodIn_sub (fun _ h => List.mem_cons_of_mem _ (List.mem_append_left _ (List.mem_append_right _ h))) (by decide +kernel))
set_option maxRecDepth 20000 in
theorem gX5_lies_X5_needStation : GoodIn wsX5_lies (va_wsS RX5 60 yX5_needStation wsX5_needStation) := goodIn_app (goodIn_of _ (by decide +kernel)) ggX5_lies_X5_needStation
set_option maxRecDepth 20000 in
theorem ggX5_lies_X5_needUpTo : GoodIn wsX5_lies wsX5_needUpTo := goodIn_ca (goodIn_r _ [13, 14, 15] (by decide +kernel) (by decide +kernel)) (goodIn_sub (fun _ h => List.mem_cons_of_mem _ (List.mem_append_right _ h)) (by decide +kernel))
set_option maxRecDepth 20000 in
theorem gX5_lies_X5_needUpTo : GoodIn wsX5_lies (va_wsS RX5 64 yX5_needUpTo wsX5_needUpTo) := goodIn_app (goodIn_of _ (by decide +kernel)) ggX5_lies_X5_needUpTo
theorem dX5_lies_0 : decode cX5_lies 0 = .ok (.iload_n 1, 1) := by decide +kernel
theorem dX5_lies_1 : decode cX5_lies 1 = .ok (.invokestatic 60, 3) := by decide +kernel
theorem dX5_lies_4 : decode cX5_lies 4 = .ok (.iload_n 2, 1) := by decide +kernel
theorem dX5_lies_5 : decode cX5_lies 5 = .ok (.bipush 99, 2) := by decide +kernel
theorem dX5_lies_7 : decode cX5_lies 7 = .ok (.invokestatic 64, 3) := by decide +kernel
theorem dX5_lies_10 : decode cX5_lies 10 = .ok (.iload_n 3, 1) := by decide +kernel
theorem dX5_lies_11 : decode cX5_lies 11 = .ok (.bipush 99, 2) := by decide +kernel
theorem dX5_lies_13 : decode cX5_lies 13 = .ok (.invokestatic 64, 3) := by decide +kernel
theorem dX5_lies_16 : decode cX5_lies 16 = .ok (.iload 4, 2) := by decide +kernel
theorem dX5_lies_18 : decode cX5_lies 18 = .ok (.bipush 99, 2) := by decide +kernel
theorem dX5_lies_20 : decode cX5_lies 20 = .ok (.invokestatic 64, 3) := by decide +kernel
theorem dX5_lies_23 : decode cX5_lies 23 = .ok (.aload_n 0, 1) := by decide +kernel
theorem dX5_lies_24 : decode cX5_lies 24 = .ok (.getfield 19, 3) := by decide +kernel
theorem dX5_lies_27 : decode cX5_lies 27 = .ok (.getfield 68, 3) := by decide +kernel
theorem dX5_lies_30 : decode cX5_lies 30 = .ok (.iload_n 1, 1) := by decide +kernel
theorem dX5_lies_31 : decode cX5_lies 31 = .ok (.iload_n 2, 1) := by decide +kernel
theorem dX5_lies_32 : decode cX5_lies 32 = .ok (.iastore, 1) := by decide +kernel
theorem dX5_lies_33 : decode cX5_lies 33 = .ok (.aload_n 0, 1) := by decide +kernel
theorem dX5_lies_34 : decode cX5_lies 34 = .ok (.getfield 19, 3) := by decide +kernel
theorem dX5_lies_37 : decode cX5_lies 37 = .ok (.getfield 72, 3) := by decide +kernel
theorem dX5_lies_40 : decode cX5_lies 40 = .ok (.iload_n 1, 1) := by decide +kernel
theorem dX5_lies_41 : decode cX5_lies 41 = .ok (.iload_n 3, 1) := by decide +kernel
theorem dX5_lies_42 : decode cX5_lies 42 = .ok (.iastore, 1) := by decide +kernel
theorem dX5_lies_43 : decode cX5_lies 43 = .ok (.aload_n 0, 1) := by decide +kernel
theorem dX5_lies_44 : decode cX5_lies 44 = .ok (.getfield 19, 3) := by decide +kernel
theorem dX5_lies_47 : decode cX5_lies 47 = .ok (.getfield 75, 3) := by decide +kernel
theorem dX5_lies_50 : decode cX5_lies 50 = .ok (.iload_n 1, 1) := by decide +kernel
theorem dX5_lies_51 : decode cX5_lies 51 = .ok (.iload 4, 2) := by decide +kernel
theorem dX5_lies_53 : decode cX5_lies 53 = .ok (.iastore, 1) := by decide +kernel
theorem dX5_lies_54 : decode cX5_lies 54 = .ok (.return_, 1) := by decide +kernel
theorem dX5_pass_0 : decode cX5_pass 0 = .ok (.iload_n 1, 1) := by decide +kernel
theorem dX5_pass_1 : decode cX5_pass 1 = .ok (.iconst 1, 1) := by decide +kernel
theorem dX5_pass_2 : decode cX5_pass 2 = .ok (.if_icmp .lt 10, 3) := by decide +kernel
theorem dX5_pass_5 : decode cX5_pass 5 = .ok (.iload_n 1, 1) := by decide +kernel
theorem dX5_pass_6 : decode cX5_pass 6 = .ok (.sipush 600, 3) := by decide +kernel
theorem dX5_pass_9 : decode cX5_pass 9 = .ok (.if_icmp .le 13, 3) := by decide +kernel
theorem dX5_pass_12 : decode cX5_pass 12 = .ok (.new 78, 3) := by decide +kernel
theorem dX5_pass_15 : decode cX5_pass 15 = .ok (.dup, 1) := by decide +kernel
theorem dX5_pass_16 : decode cX5_pass 16 = .ok (.ldc 80, 2) := by decide +kernel
theorem dX5_pass_18 : decode cX5_pass 18 = .ok (.invokespecial 82, 3) := by decide +kernel
theorem dX5_pass_21 : decode cX5_pass 21 = .ok (.athrow, 1) := by decide +kernel
theorem dX5_pass_22 : decode cX5_pass 22 = .ok (.aload_n 0, 1) := by decide +kernel
theorem dX5_pass_23 : decode cX5_pass 23 = .ok (.getfield 44, 3) := by decide +kernel
theorem dX5_pass_26 : decode cX5_pass 26 = .ok (.iload_n 1, 1) := by decide +kernel
theorem dX5_pass_27 : decode cX5_pass 27 = .ok (.iadd, 1) := by decide +kernel
theorem dX5_pass_28 : decode cX5_pass 28 = .ok (.sipush 20000, 3) := by decide +kernel
theorem dX5_pass_31 : decode cX5_pass 31 = .ok (.if_icmp .le 13, 3) := by decide +kernel
theorem dX5_pass_34 : decode cX5_pass 34 = .ok (.new 85, 3) := by decide +kernel
theorem dX5_pass_37 : decode cX5_pass 37 = .ok (.dup, 1) := by decide +kernel
theorem dX5_pass_38 : decode cX5_pass 38 = .ok (.ldc 87, 2) := by decide +kernel
theorem dX5_pass_40 : decode cX5_pass 40 = .ok (.invokespecial 89, 3) := by decide +kernel
theorem dX5_pass_43 : decode cX5_pass 43 = .ok (.athrow, 1) := by decide +kernel
theorem dX5_pass_44 : decode cX5_pass 44 = .ok (.aload_n 0, 1) := by decide +kernel
theorem dX5_pass_45 : decode cX5_pass 45 = .ok (.dup, 1) := by decide +kernel
theorem dX5_pass_46 : decode cX5_pass 46 = .ok (.getfield 44, 3) := by decide +kernel
theorem dX5_pass_49 : decode cX5_pass 49 = .ok (.iload_n 1, 1) := by decide +kernel
theorem dX5_pass_50 : decode cX5_pass 50 = .ok (.iadd, 1) := by decide +kernel
theorem dX5_pass_51 : decode cX5_pass 51 = .ok (.putfield 44, 3) := by decide +kernel
theorem dX5_pass_54 : decode cX5_pass 54 = .ok (.aload_n 0, 1) := by decide +kernel
theorem dX5_pass_55 : decode cX5_pass 55 = .ok (.getfield 44, 3) := by decide +kernel
theorem dX5_pass_58 : decode cX5_pass 58 = .ok (.ireturn, 1) := by decide +kernel
set_option maxRecDepth 20000 in
theorem ggX5_docks_X5_needStation : GoodIn wsX5_docks wsX5_needStation := goodIn_ca (goodIn_r _ [5, 6, 7] (by decide +kernel) (by decide +kernel)) (goodIn_sub (fun _ h => List.mem_cons_of_mem _ (List.mem_append_left _ (List.mem_append_left _ (List.mem_append_right _ h)))) (by decide +kernel))
set_option maxRecDepth 20000 in
theorem gX5_docks_X5_needStation : GoodIn wsX5_docks (va_wsS RX5 60 yX5_needStation wsX5_needStation) := goodIn_app (goodIn_of _ (by decide +kernel)) ggX5_docks_X5_needStation
set_option maxRecDepth 20000 in
theorem ggX5_docks_X5_needUpTo : GoodIn wsX5_docks wsX5_needUpTo := goodIn_ca (goodIn_r _ [10, 11, 12] (by decide +kernel) (by decide +kernel)) (goodIn_sub (fun _ h => List.mem_cons_of_mem _ (List.mem_append_left _ (List.mem_append_right _ h))) (by decide +kernel))
set_option maxRecDepth 20000 in
theorem gX5_docks_X5_needUpTo : GoodIn wsX5_docks (va_wsS RX5 64 yX5_needUpTo wsX5_needUpTo) := goodIn_app (goodIn_of _ (by decide +kernel)) ggX5_docks_X5_needUpTo
set_option maxRecDepth 20000 in
theorem ggX5_docks_X5_needRoom : GoodIn wsX5_docks wsX5_needRoom := goodIn_ca (goodIn_r _ [16, 17, 18, 19, 20, 21, 22, 23, 24, 25, 200, 201, 202, 203, 204, 205, 206, 207, 208, 209, 210, 211, 212, 213] (by decide +kernel) (by decide +kernel)) (goodIn_sub (fun _ h => List.mem_cons_of_mem _ (List.mem_append_right _ h)) (by decide +kernel))
set_option maxRecDepth 20000 in
theorem gX5_docks_X5_needRoom : GoodIn wsX5_docks (wsV RX5 90 RX5 yX5_needRoom wsX5_needRoom) := goodIn_app (goodIn_of _ (by decide +kernel)) ggX5_docks_X5_needRoom
set_option maxRecDepth 20000 in
theorem ggX5_docks_X5_hear : GoodIn wsX5_docks wsX5_hear := goodIn_r _ [29, 19, 30, 31, 32, 33, 34, 35, 23, 36, 25, 37, 38, 39, 40, 41, 42, 43, 44, 45, 21, 22, 24, 46, 47, 48, 4, 49, 50, 51, 52, 53, 54, 55, 56, 57, 58, 59, 60, 61, 62, 63, 64, 65, 66, 67, 68, 69, 70, 71, 72, 73, 74, 75, 76, 77, 78, 79, 80, 81, 82, 83, 84, 85, 86, 87, 88, 89, 90, 91, 92, 93, 94, 95, 96, 97, 98, 99, 100, 101, 102, 103, 104, 105, 106, 107, 108, 109, 110, 111, 112, 113, 114, 115, 116, 117, 118, 119, 120, 121, 122, 123, 124, 125, 126, 127, 128, 129, 130, 131, 132, 133, 134, 135, 136, 137, 138, 139, 140, 141, 142, 143, 144, 145, 146, 147, 148, 149, 150, 151, 152, 153, 154, 155, 156, 157, 158, 159, 160, 161, 162, 163, 164, 165, 166, 167, 168, 169, 170, 171, 172, 173, 174, 175, 176, 177, 178, 179, 180, 181, 182, 183, 184, 185, 186, 187, 188, 189, 190, 191, 192, 193, 194, 195, 196, 197, 198, 199, 200, 201, 202, 203, 204, 205, 206, 207, 208, 209, 210, 211, 212, 213, 214, 215, 216, 217, 218, 219, 220, 221, 222, 223, 224, 225, 226, 227, 228, 229, 230] rfl (by decide +kernel)
set_option maxRecDepth 20000 in
theorem gX5_docks_X5_hear : GoodIn wsX5_docks (wsV RX5 93 RX5 yX5_hear wsX5_hear) := goodIn_app (goodIn_of _ (by decide +kernel)) ggX5_docks_X5_hear
theorem dX5_docks_0 : decode cX5_docks 0 = .ok (.iload_n 1, 1) := by decide +kernel
theorem dX5_docks_1 : decode cX5_docks 1 = .ok (.invokestatic 60, 3) := by decide +kernel
theorem dX5_docks_4 : decode cX5_docks 4 = .ok (.iload_n 2, 1) := by decide +kernel
theorem dX5_docks_5 : decode cX5_docks 5 = .ok (.bipush 20, 2) := by decide +kernel
theorem dX5_docks_7 : decode cX5_docks 7 = .ok (.invokestatic 64, 3) := by decide +kernel
theorem dX5_docks_10 : decode cX5_docks 10 = .ok (.aload_n 0, 1) := by decide +kernel
theorem dX5_docks_11 : decode cX5_docks 11 = .ok (.invokevirtual 90, 3) := by decide +kernel
theorem dX5_docks_14 : decode cX5_docks 14 = .ok (.aload_n 0, 1) := by decide +kernel
theorem dX5_docks_15 : decode cX5_docks 15 = .ok (.iconst 0, 1) := by decide +kernel
theorem dX5_docks_16 : decode cX5_docks 16 = .ok (.iload_n 1, 1) := by decide +kernel
theorem dX5_docks_17 : decode cX5_docks 17 = .ok (.iload_n 2, 1) := by decide +kernel
theorem dX5_docks_18 : decode cX5_docks 18 = .ok (.aload_n 0, 1) := by decide +kernel
theorem dX5_docks_19 : decode cX5_docks 19 = .ok (.getfield 44, 3) := by decide +kernel
theorem dX5_docks_22 : decode cX5_docks 22 = .ok (.invokevirtual 93, 3) := by decide +kernel
theorem dX5_docks_25 : decode cX5_docks 25 = .ok (.pop, 1) := by decide +kernel
theorem dX5_docks_26 : decode cX5_docks 26 = .ok (.return_, 1) := by decide +kernel
set_option maxRecDepth 20000 in
theorem ggX5_put_X5_needCycle : GoodIn wsX5_put wsX5_needCycle := goodIn_ca (goodIn_r _ [5, 6, 7] (by decide +kernel) (by decide +kernel)) (goodIn_sub (fun _ h => List.mem_cons_of_mem _ (List.mem_append_left _ (List.mem_append_right _ h))) (by decide +kernel))
set_option maxRecDepth 20000 in
theorem gX5_put_X5_needCycle : GoodIn wsX5_put (va_wsS RX5 97 yX5_needCycle wsX5_needCycle) := goodIn_app (goodIn_of _ (by decide +kernel)) ggX5_put_X5_needCycle
set_option maxRecDepth 20000 in
theorem ggX5_put_X5_needStation : GoodIn wsX5_put wsX5_needStation := goodIn_ca (goodIn_r _ [10, 6, 7] (by decide +kernel) (by decide +kernel)) (goodIn_sub (fun _ h => List.mem_cons_of_mem _ (List.mem_append_left _ (List.mem_append_right _ h))) (by decide +kernel))
set_option maxRecDepth 20000 in
theorem gX5_put_X5_needStation : GoodIn wsX5_put (va_wsS RX5 60 yX5_needStation wsX5_needStation) := goodIn_app (goodIn_of _ (by decide +kernel)) ggX5_put_X5_needStation
set_option maxRecDepth 20000 in
theorem ggX5_put_X5_needRoom : GoodIn wsX5_put wsX5_needRoom := goodIn_ca (goodIn_r _ [14, 15, 16, 17, 18, 19, 20, 21, 22, 23, 198, 199, 200, 201, 202, 203, 204, 205, 206, 207, 208, 209, 210, 211] (by decide +kernel) (by decide +kernel)) (goodIn_sub (fun _ h => List.mem_cons_of_mem _ (List.mem_append_right _ h)) (by decide +kernel))
set_option maxRecDepth 20000 in
theorem gX5_put_X5_needRoom : GoodIn wsX5_put (wsV RX5 90 RX5 yX5_needRoom wsX5_needRoom) := goodIn_app (goodIn_of _ (by decide +kernel)) ggX5_put_X5_needRoom
set_option maxRecDepth 20000 in
theorem ggX5_put_X5_hear : GoodIn wsX5_put wsX5_hear := goodIn_r _ [27, 17, 28, 29, 30, 31, 32, 33, 21, 34, 23, 35, 36, 37, 38, 39, 40, 41, 42, 43, 19, 20, 22, 44, 45, 46, 4, 47, 48, 49, 50, 51, 52, 53, 54, 55, 56, 57, 58, 59, 60, 61, 62, 63, 64, 65, 66, 67, 68, 69, 70, 71, 72, 73, 74, 75, 76, 77, 78, 79, 80, 81, 82, 83, 84, 85, 86, 87, 88, 89, 90, 91, 92, 93, 94, 95, 96, 97, 98, 99, 100, 101, 102, 103, 104, 105, 106, 107, 108, 109, 110, 111, 112, 113, 114, 115, 116, 117, 118, 119, 120, 121, 122, 123, 124, 125, 126, 127, 128, 129, 130, 131, 132, 133, 134, 135, 136, 137, 138, 139, 140, 141, 142, 143, 144, 145, 146, 147, 148, 149, 150, 151, 152, 153, 154, 155, 156, 157, 158, 159, 160, 161, 162, 163, 164, 165, 166, 167, 168, 169, 170, 171, 172, 173, 174, 175, 176, 177, 178, 179, 180, 181, 182, 183, 184, 185, 186, 187, 188, 189, 190, 191, 192, 193, 194, 195, 196, 197, 198, 199, 200, 201, 202, 203, 204, 205, 206, 207, 208, 209, 210, 211, 212, 213, 214, 215, 216, 217, 218, 219, 220, 221, 222, 223, 224, 225, 226, 227, 228] rfl (by decide +kernel)
set_option maxRecDepth 20000 in
theorem gX5_put_X5_hear : GoodIn wsX5_put (wsV RX5 93 RX5 yX5_hear wsX5_hear) := goodIn_app (goodIn_of _ (by decide +kernel)) ggX5_put_X5_hear
theorem dX5_put_0 : decode cX5_put 0 = .ok (.iload_n 1, 1) := by decide +kernel
theorem dX5_put_1 : decode cX5_put 1 = .ok (.invokestatic 97, 3) := by decide +kernel
theorem dX5_put_4 : decode cX5_put 4 = .ok (.iload_n 2, 1) := by decide +kernel
theorem dX5_put_5 : decode cX5_put 5 = .ok (.invokestatic 60, 3) := by decide +kernel
theorem dX5_put_8 : decode cX5_put 8 = .ok (.aload_n 0, 1) := by decide +kernel
theorem dX5_put_9 : decode cX5_put 9 = .ok (.invokevirtual 90, 3) := by decide +kernel
theorem dX5_put_12 : decode cX5_put 12 = .ok (.aload_n 0, 1) := by decide +kernel
theorem dX5_put_13 : decode cX5_put 13 = .ok (.iconst 1, 1) := by decide +kernel
theorem dX5_put_14 : decode cX5_put 14 = .ok (.iload_n 1, 1) := by decide +kernel
theorem dX5_put_15 : decode cX5_put 15 = .ok (.iload_n 2, 1) := by decide +kernel
theorem dX5_put_16 : decode cX5_put 16 = .ok (.aload_n 0, 1) := by decide +kernel
theorem dX5_put_17 : decode cX5_put 17 = .ok (.getfield 44, 3) := by decide +kernel
theorem dX5_put_20 : decode cX5_put 20 = .ok (.invokevirtual 93, 3) := by decide +kernel
theorem dX5_put_23 : decode cX5_put 23 = .ok (.ireturn, 1) := by decide +kernel
set_option maxRecDepth 20000 in
theorem ggX5_take_X5_needCycle : GoodIn wsX5_take wsX5_needCycle := goodIn_ca (goodIn_r _ [5, 6, 7] (by decide +kernel) (by decide +kernel)) (goodIn_sub (fun _ h => List.mem_cons_of_mem _ (List.mem_append_left _ (List.mem_append_right _ h))) (by decide +kernel))
set_option maxRecDepth 20000 in
theorem gX5_take_X5_needCycle : GoodIn wsX5_take (va_wsS RX5 97 yX5_needCycle wsX5_needCycle) := goodIn_app (goodIn_of _ (by decide +kernel)) ggX5_take_X5_needCycle
set_option maxRecDepth 20000 in
theorem ggX5_take_X5_needRoom : GoodIn wsX5_take wsX5_needRoom := goodIn_ca (goodIn_r _ [11, 12, 13, 14, 15, 16, 17, 18, 19, 20, 195, 196, 197, 198, 199, 200, 201, 202, 203, 204, 205, 206, 207, 208] (by decide +kernel) (by decide +kernel)) (goodIn_sub (fun _ h => List.mem_cons_of_mem _ (List.mem_append_right _ h)) (by decide +kernel))
set_option maxRecDepth 20000 in
theorem gX5_take_X5_needRoom : GoodIn wsX5_take (wsV RX5 90 RX5 yX5_needRoom wsX5_needRoom) := goodIn_app (goodIn_of _ (by decide +kernel)) ggX5_take_X5_needRoom
set_option maxRecDepth 20000 in
theorem ggX5_take_X5_hear : GoodIn wsX5_take wsX5_hear := goodIn_r _ [24, 14, 25, 26, 27, 28, 29, 30, 18, 31, 20, 32, 33, 34, 35, 36, 37, 38, 39, 40, 16, 17, 19, 41, 42, 43, 4, 44, 45, 46, 47, 48, 49, 50, 51, 52, 53, 54, 55, 56, 57, 58, 59, 60, 61, 62, 63, 64, 65, 66, 67, 68, 69, 70, 71, 72, 73, 74, 75, 76, 77, 78, 79, 80, 81, 82, 83, 84, 85, 86, 87, 88, 89, 90, 91, 92, 93, 94, 95, 96, 97, 98, 99, 100, 101, 102, 103, 104, 105, 106, 107, 108, 109, 110, 111, 112, 113, 114, 115, 116, 117, 118, 119, 120, 121, 122, 123, 124, 125, 126, 127, 128, 129, 130, 131, 132, 133, 134, 135, 136, 137, 138, 139, 140, 141, 142, 143, 144, 145, 146, 147, 148, 149, 150, 151, 152, 153, 154, 155, 156, 157, 158, 159, 160, 161, 162, 163, 164, 165, 166, 167, 168, 169, 170, 171, 172, 173, 174, 175, 176, 177, 178, 179, 180, 181, 182, 183, 184, 185, 186, 187, 188, 189, 190, 191, 192, 193, 194, 195, 196, 197, 198, 199, 200, 201, 202, 203, 204, 205, 206, 207, 208, 209, 210, 211, 212, 213, 214, 215, 216, 217, 218, 219, 220, 221, 222, 223, 224, 225] rfl (by decide +kernel)
set_option maxRecDepth 20000 in
theorem gX5_take_X5_hear : GoodIn wsX5_take (wsV RX5 93 RX5 yX5_hear wsX5_hear) := goodIn_app (goodIn_of _ (by decide +kernel)) ggX5_take_X5_hear
theorem dX5_take_0 : decode cX5_take 0 = .ok (.iload_n 1, 1) := by decide +kernel
theorem dX5_take_1 : decode cX5_take 1 = .ok (.invokestatic 97, 3) := by decide +kernel
theorem dX5_take_4 : decode cX5_take 4 = .ok (.aload_n 0, 1) := by decide +kernel
theorem dX5_take_5 : decode cX5_take 5 = .ok (.invokevirtual 90, 3) := by decide +kernel
theorem dX5_take_8 : decode cX5_take 8 = .ok (.aload_n 0, 1) := by decide +kernel
theorem dX5_take_9 : decode cX5_take 9 = .ok (.iconst 2, 1) := by decide +kernel
theorem dX5_take_10 : decode cX5_take 10 = .ok (.iload_n 1, 1) := by decide +kernel
theorem dX5_take_11 : decode cX5_take 11 = .ok (.iconst (-1), 1) := by decide +kernel
theorem dX5_take_12 : decode cX5_take 12 = .ok (.aload_n 0, 1) := by decide +kernel
theorem dX5_take_13 : decode cX5_take 13 = .ok (.getfield 44, 3) := by decide +kernel
theorem dX5_take_16 : decode cX5_take 16 = .ok (.invokevirtual 93, 3) := by decide +kernel
theorem dX5_take_19 : decode cX5_take 19 = .ok (.ireturn, 1) := by decide +kernel
set_option maxRecDepth 20000 in
theorem ggX5_unlocked_X5_needCycle : GoodIn wsX5_unlocked wsX5_needCycle := goodIn_ca (goodIn_r _ [4, 5, 6] (by decide +kernel) (by decide +kernel)) (goodIn_sub (fun _ h => List.mem_cons_of_mem _ (List.mem_append_left _ (List.mem_append_left _ (List.mem_append_right _ h)))) (by decide +kernel))
set_option maxRecDepth 20000 in
theorem gX5_unlocked_X5_needCycle : GoodIn wsX5_unlocked (va_wsS RX5 97 yX5_needCycle wsX5_needCycle) := goodIn_app (goodIn_of _ (by decide +kernel)) ggX5_unlocked_X5_needCycle
set_option maxRecDepth 20000 in
theorem ggX5_unlocked_X5_needRider : GoodIn wsX5_unlocked wsX5_needRider := goodIn_ca (goodIn_r _ [9, 5, 6] (by decide +kernel) (by decide +kernel)) (goodIn_sub (fun _ h => List.mem_cons_of_mem _ (List.mem_append_left _ (List.mem_append_left _ (List.mem_append_right _ h)))) (by decide +kernel))
set_option maxRecDepth 20000 in
theorem gX5_unlocked_X5_needRider : GoodIn wsX5_unlocked (va_wsS RX5 100 yX5_needRider wsX5_needRider) := goodIn_app (goodIn_of _ (by decide +kernel)) ggX5_unlocked_X5_needRider
set_option maxRecDepth 20000 in
theorem ggX5_unlocked_X5_needHearableMinute : GoodIn wsX5_unlocked wsX5_needHearableMinute := goodIn_ca (goodIn_r _ [13, 14, 15, 16, 17, 18, 19, 20, 213, 214, 215, 216, 217, 218, 219, 220, 221] (by decide +kernel) (by decide +kernel)) (goodIn_sub (fun _ h => List.mem_cons_of_mem _ (List.mem_append_left _ (List.mem_append_right _ h))) (by decide +kernel))
set_option maxRecDepth 20000 in
theorem gX5_unlocked_X5_needHearableMinute : GoodIn wsX5_unlocked (wsV RX5 103 RX5 yX5_needHearableMinute wsX5_needHearableMinute) := goodIn_app (goodIn_of _ (by decide +kernel)) ggX5_unlocked_X5_needHearableMinute
set_option maxRecDepth 20000 in
theorem ggX5_unlocked_X5_needRoom : GoodIn wsX5_unlocked wsX5_needRoom := goodIn_ca (goodIn_r _ [24, 25, 26, 27, 28, 29, 30, 31, 32, 33, 213, 214, 215, 216, 217, 218, 219, 220, 221, 222, 223, 224, 225, 226] (by decide +kernel) (by decide +kernel)) (goodIn_sub (fun _ h => List.mem_cons_of_mem _ (List.mem_append_right _ h)) (by decide +kernel))
set_option maxRecDepth 20000 in
theorem gX5_unlocked_X5_needRoom : GoodIn wsX5_unlocked (wsV RX5 90 RX5 yX5_needRoom wsX5_needRoom) := goodIn_app (goodIn_of _ (by decide +kernel)) ggX5_unlocked_X5_needRoom
set_option maxRecDepth 20000 in
theorem ggX5_unlocked_X5_hearOnce : GoodIn wsX5_unlocked wsX5_hearOnce := goodIn_r _ [37, 27, 38, 39, 40, 31, 41, 33, 42, 43, 44, 45, 46, 47, 48, 3, 49, 50, 51, 52, 53, 54, 55, 56, 57, 58, 59, 60, 61, 29, 30, 32, 62, 63, 64, 65, 66, 67, 68, 69, 70, 71, 72, 73, 74, 75, 76, 77, 78, 79, 80, 81, 82, 83, 84, 85, 86, 87, 88, 89, 90, 91, 92, 93, 94, 95, 96, 97, 98, 99, 100, 101, 102, 103, 104, 105, 106, 107, 108, 109, 110, 111, 112, 113, 114, 115, 116, 117, 118, 119, 120, 121, 122, 123, 124, 125, 126, 127, 128, 129, 130, 131, 132, 133, 134, 18, 19, 20, 135, 136, 137, 138, 139, 140, 141, 142, 143, 144, 145, 146, 147, 148, 149, 150, 151, 152, 153, 154, 155, 156, 157, 158, 159, 160, 161, 162, 163, 164, 165, 166, 167, 168, 169, 170, 171, 172, 173, 174, 175, 176, 177, 178, 179, 180, 181, 182, 183, 184, 185, 186, 187, 188, 189, 190, 191, 192, 193, 194, 195, 196, 197, 198, 199, 200, 201, 202, 203, 204, 205, 206, 207, 208, 209, 210, 211, 212, 213, 214, 215, 216, 217, 218, 219, 220, 221, 222, 223, 224, 225, 226, 227, 228, 229, 230, 231, 232, 233, 234, 235, 236, 237, 238, 239, 240, 241, 242, 243] rfl (by decide +kernel)
set_option maxRecDepth 20000 in
theorem gX5_unlocked_X5_hearOnce : GoodIn wsX5_unlocked (wsV RX5 106 RX5 yX5_hearOnce wsX5_hearOnce) := goodIn_app (goodIn_of _ (by decide +kernel)) ggX5_unlocked_X5_hearOnce
theorem dX5_unlocked_0 : decode cX5_unlocked 0 = .ok (.iload_n 1, 1) := by decide +kernel
theorem dX5_unlocked_1 : decode cX5_unlocked 1 = .ok (.invokestatic 97, 3) := by decide +kernel
theorem dX5_unlocked_4 : decode cX5_unlocked 4 = .ok (.iload_n 2, 1) := by decide +kernel
theorem dX5_unlocked_5 : decode cX5_unlocked 5 = .ok (.invokestatic 100, 3) := by decide +kernel
theorem dX5_unlocked_8 : decode cX5_unlocked 8 = .ok (.aload_n 0, 1) := by decide +kernel
theorem dX5_unlocked_9 : decode cX5_unlocked 9 = .ok (.iload_n 3, 1) := by decide +kernel
theorem dX5_unlocked_10 : decode cX5_unlocked 10 = .ok (.invokevirtual 103, 3) := by decide +kernel
theorem dX5_unlocked_13 : decode cX5_unlocked 13 = .ok (.aload_n 0, 1) := by decide +kernel
theorem dX5_unlocked_14 : decode cX5_unlocked 14 = .ok (.invokevirtual 90, 3) := by decide +kernel
theorem dX5_unlocked_17 : decode cX5_unlocked 17 = .ok (.aload_n 0, 1) := by decide +kernel
theorem dX5_unlocked_18 : decode cX5_unlocked 18 = .ok (.iconst 3, 1) := by decide +kernel
theorem dX5_unlocked_19 : decode cX5_unlocked 19 = .ok (.iload_n 1, 1) := by decide +kernel
theorem dX5_unlocked_20 : decode cX5_unlocked 20 = .ok (.iload_n 2, 1) := by decide +kernel
theorem dX5_unlocked_21 : decode cX5_unlocked 21 = .ok (.iload_n 3, 1) := by decide +kernel
theorem dX5_unlocked_22 : decode cX5_unlocked 22 = .ok (.invokevirtual 106, 3) := by decide +kernel
theorem dX5_unlocked_25 : decode cX5_unlocked 25 = .ok (.ireturn, 1) := by decide +kernel
set_option maxRecDepth 20000 in
theorem ggX5_locked_X5_needCycle : GoodIn wsX5_locked wsX5_needCycle := goodIn_ca (goodIn_r _ [4, 5, 6] (by decide +kernel) (by decide +kernel)) (goodIn_sub (fun _ h => List.mem_cons_of_mem _ (List.mem_append_left _ (List.mem_append_left _ (List.mem_append_right _ h)))) (by decide +kernel))
set_option maxRecDepth 20000 in
theorem gX5_locked_X5_needCycle : GoodIn wsX5_locked (va_wsS RX5 97 yX5_needCycle wsX5_needCycle) := goodIn_app (goodIn_of _ (by decide +kernel)) ggX5_locked_X5_needCycle
set_option maxRecDepth 20000 in
theorem ggX5_locked_X5_needStation : GoodIn wsX5_locked wsX5_needStation := goodIn_ca (goodIn_r _ [9, 5, 6] (by decide +kernel) (by decide +kernel)) (goodIn_sub (fun _ h => List.mem_cons_of_mem _ (List.mem_append_left _ (List.mem_append_left _ (List.mem_append_right _ h)))) (by decide +kernel))
set_option maxRecDepth 20000 in
theorem gX5_locked_X5_needStation : GoodIn wsX5_locked (va_wsS RX5 60 yX5_needStation wsX5_needStation) := goodIn_app (goodIn_of _ (by decide +kernel)) ggX5_locked_X5_needStation
set_option maxRecDepth 20000 in
theorem ggX5_locked_X5_needHearableMinute : GoodIn wsX5_locked wsX5_needHearableMinute := goodIn_ca (goodIn_r _ [13, 14, 15, 16, 17, 18, 19, 20, 213, 214, 215, 216, 217, 218, 219, 220, 221] (by decide +kernel) (by decide +kernel)) (goodIn_sub (fun _ h => List.mem_cons_of_mem _ (List.mem_append_left _ (List.mem_append_right _ h))) (by decide +kernel))
set_option maxRecDepth 20000 in
theorem gX5_locked_X5_needHearableMinute : GoodIn wsX5_locked (wsV RX5 103 RX5 yX5_needHearableMinute wsX5_needHearableMinute) := goodIn_app (goodIn_of _ (by decide +kernel)) ggX5_locked_X5_needHearableMinute
set_option maxRecDepth 20000 in
theorem ggX5_locked_X5_needRoom : GoodIn wsX5_locked wsX5_needRoom := goodIn_ca (goodIn_r _ [24, 25, 26, 27, 28, 29, 30, 31, 32, 33, 213, 214, 215, 216, 217, 218, 219, 220, 221, 222, 223, 224, 225, 226] (by decide +kernel) (by decide +kernel)) (goodIn_sub (fun _ h => List.mem_cons_of_mem _ (List.mem_append_right _ h)) (by decide +kernel))
set_option maxRecDepth 20000 in
theorem gX5_locked_X5_needRoom : GoodIn wsX5_locked (wsV RX5 90 RX5 yX5_needRoom wsX5_needRoom) := goodIn_app (goodIn_of _ (by decide +kernel)) ggX5_locked_X5_needRoom
set_option maxRecDepth 20000 in
theorem ggX5_locked_X5_hearOnce : GoodIn wsX5_locked wsX5_hearOnce := goodIn_r _ [37, 27, 38, 39, 40, 31, 41, 33, 42, 43, 44, 45, 46, 47, 48, 3, 49, 50, 51, 52, 53, 54, 55, 56, 57, 58, 59, 60, 61, 29, 30, 32, 62, 63, 64, 65, 66, 67, 68, 69, 70, 71, 72, 73, 74, 75, 76, 77, 78, 79, 80, 81, 82, 83, 84, 85, 86, 87, 88, 89, 90, 91, 92, 93, 94, 95, 96, 97, 98, 99, 100, 101, 102, 103, 104, 105, 106, 107, 108, 109, 110, 111, 112, 113, 114, 115, 116, 117, 118, 119, 120, 121, 122, 123, 124, 125, 126, 127, 128, 129, 130, 131, 132, 133, 134, 18, 19, 20, 135, 136, 137, 138, 139, 140, 141, 142, 143, 144, 145, 146, 147, 148, 149, 150, 151, 152, 153, 154, 155, 156, 157, 158, 159, 160, 161, 162, 163, 164, 165, 166, 167, 168, 169, 170, 171, 172, 173, 174, 175, 176, 177, 178, 179, 180, 181, 182, 183, 184, 185, 186, 187, 188, 189, 190, 191, 192, 193, 194, 195, 196, 197, 198, 199, 200, 201, 202, 203, 204, 205, 206, 207, 208, 209, 210, 211, 212, 213, 214, 215, 216, 217, 218, 219, 220, 221, 222, 223, 224, 225, 226, 227, 228, 229, 230, 231, 232, 233, 234, 235, 236, 237, 238, 239, 240, 241, 242, 243] rfl (by decide +kernel)
set_option maxRecDepth 20000 in
theorem gX5_locked_X5_hearOnce : GoodIn wsX5_locked (wsV RX5 106 RX5 yX5_hearOnce wsX5_hearOnce) := goodIn_app (goodIn_of _ (by decide +kernel)) ggX5_locked_X5_hearOnce
theorem dX5_locked_0 : decode cX5_locked 0 = .ok (.iload_n 1, 1) := by decide +kernel
theorem dX5_locked_1 : decode cX5_locked 1 = .ok (.invokestatic 97, 3) := by decide +kernel
theorem dX5_locked_4 : decode cX5_locked 4 = .ok (.iload_n 2, 1) := by decide +kernel
theorem dX5_locked_5 : decode cX5_locked 5 = .ok (.invokestatic 60, 3) := by decide +kernel
theorem dX5_locked_8 : decode cX5_locked 8 = .ok (.aload_n 0, 1) := by decide +kernel
theorem dX5_locked_9 : decode cX5_locked 9 = .ok (.iload_n 3, 1) := by decide +kernel
theorem dX5_locked_10 : decode cX5_locked 10 = .ok (.invokevirtual 103, 3) := by decide +kernel
theorem dX5_locked_13 : decode cX5_locked 13 = .ok (.aload_n 0, 1) := by decide +kernel
theorem dX5_locked_14 : decode cX5_locked 14 = .ok (.invokevirtual 90, 3) := by decide +kernel
theorem dX5_locked_17 : decode cX5_locked 17 = .ok (.aload_n 0, 1) := by decide +kernel
theorem dX5_locked_18 : decode cX5_locked 18 = .ok (.iconst 4, 1) := by decide +kernel
theorem dX5_locked_19 : decode cX5_locked 19 = .ok (.iload_n 1, 1) := by decide +kernel
theorem dX5_locked_20 : decode cX5_locked 20 = .ok (.iload_n 2, 1) := by decide +kernel
theorem dX5_locked_21 : decode cX5_locked 21 = .ok (.iload_n 3, 1) := by decide +kernel
theorem dX5_locked_22 : decode cX5_locked 22 = .ok (.invokevirtual 106, 3) := by decide +kernel
theorem dX5_locked_25 : decode cX5_locked 25 = .ok (.ireturn, 1) := by decide +kernel
set_option maxRecDepth 20000 in
theorem ggX5_faulty_X5_needCycle : GoodIn wsX5_faulty wsX5_needCycle := goodIn_ca (goodIn_r _ [4, 5, 6] (by decide +kernel) (by decide +kernel)) (goodIn_sub (fun _ h => List.mem_cons_of_mem _ (List.mem_append_left _ (List.mem_append_left _ (List.mem_append_right _ h)))) (by decide +kernel))
set_option maxRecDepth 20000 in
theorem gX5_faulty_X5_needCycle : GoodIn wsX5_faulty (va_wsS RX5 97 yX5_needCycle wsX5_needCycle) := goodIn_app (goodIn_of _ (by decide +kernel)) ggX5_faulty_X5_needCycle
set_option maxRecDepth 20000 in
theorem ggX5_faulty_X5_needRider : GoodIn wsX5_faulty wsX5_needRider := goodIn_ca (goodIn_r _ [9, 5, 6] (by decide +kernel) (by decide +kernel)) (goodIn_sub (fun _ h => List.mem_cons_of_mem _ (List.mem_append_left _ (List.mem_append_left _ (List.mem_append_right _ h)))) (by decide +kernel))
set_option maxRecDepth 20000 in
theorem gX5_faulty_X5_needRider : GoodIn wsX5_faulty (va_wsS RX5 100 yX5_needRider wsX5_needRider) := goodIn_app (goodIn_of _ (by decide +kernel)) ggX5_faulty_X5_needRider
set_option maxRecDepth 20000 in
theorem ggX5_faulty_X5_needHearableMinute : GoodIn wsX5_faulty wsX5_needHearableMinute := goodIn_ca (goodIn_r _ [13, 14, 15, 16, 17, 18, 19, 20, 213, 214, 215, 216, 217, 218, 219, 220, 221] (by decide +kernel) (by decide +kernel)) (goodIn_sub (fun _ h => List.mem_cons_of_mem _ (List.mem_append_left _ (List.mem_append_right _ h))) (by decide +kernel))
set_option maxRecDepth 20000 in
theorem gX5_faulty_X5_needHearableMinute : GoodIn wsX5_faulty (wsV RX5 103 RX5 yX5_needHearableMinute wsX5_needHearableMinute) := goodIn_app (goodIn_of _ (by decide +kernel)) ggX5_faulty_X5_needHearableMinute
set_option maxRecDepth 20000 in
theorem ggX5_faulty_X5_needRoom : GoodIn wsX5_faulty wsX5_needRoom := goodIn_ca (goodIn_r _ [24, 25, 26, 27, 28, 29, 30, 31, 32, 33, 213, 214, 215, 216, 217, 218, 219, 220, 221, 222, 223, 224, 225, 226] (by decide +kernel) (by decide +kernel)) (goodIn_sub (fun _ h => List.mem_cons_of_mem _ (List.mem_append_right _ h)) (by decide +kernel))
set_option maxRecDepth 20000 in
theorem gX5_faulty_X5_needRoom : GoodIn wsX5_faulty (wsV RX5 90 RX5 yX5_needRoom wsX5_needRoom) := goodIn_app (goodIn_of _ (by decide +kernel)) ggX5_faulty_X5_needRoom
set_option maxRecDepth 20000 in
theorem ggX5_faulty_X5_hearOnce : GoodIn wsX5_faulty wsX5_hearOnce := goodIn_r _ [37, 27, 38, 39, 40, 31, 41, 33, 42, 43, 44, 45, 46, 47, 48, 3, 49, 50, 51, 52, 53, 54, 55, 56, 57, 58, 59, 60, 61, 29, 30, 32, 62, 63, 64, 65, 66, 67, 68, 69, 70, 71, 72, 73, 74, 75, 76, 77, 78, 79, 80, 81, 82, 83, 84, 85, 86, 87, 88, 89, 90, 91, 92, 93, 94, 95, 96, 97, 98, 99, 100, 101, 102, 103, 104, 105, 106, 107, 108, 109, 110, 111, 112, 113, 114, 115, 116, 117, 118, 119, 120, 121, 122, 123, 124, 125, 126, 127, 128, 129, 130, 131, 132, 133, 134, 18, 19, 20, 135, 136, 137, 138, 139, 140, 141, 142, 143, 144, 145, 146, 147, 148, 149, 150, 151, 152, 153, 154, 155, 156, 157, 158, 159, 160, 161, 162, 163, 164, 165, 166, 167, 168, 169, 170, 171, 172, 173, 174, 175, 176, 177, 178, 179, 180, 181, 182, 183, 184, 185, 186, 187, 188, 189, 190, 191, 192, 193, 194, 195, 196, 197, 198, 199, 200, 201, 202, 203, 204, 205, 206, 207, 208, 209, 210, 211, 212, 213, 214, 215, 216, 217, 218, 219, 220, 221, 222, 223, 224, 225, 226, 227, 228, 229, 230, 231, 232, 233, 234, 235, 236, 237, 238, 239, 240, 241, 242, 243] rfl (by decide +kernel)
set_option maxRecDepth 20000 in
theorem gX5_faulty_X5_hearOnce : GoodIn wsX5_faulty (wsV RX5 106 RX5 yX5_hearOnce wsX5_hearOnce) := goodIn_app (goodIn_of _ (by decide +kernel)) ggX5_faulty_X5_hearOnce
theorem dX5_faulty_0 : decode cX5_faulty 0 = .ok (.iload_n 1, 1) := by decide +kernel
theorem dX5_faulty_1 : decode cX5_faulty 1 = .ok (.invokestatic 97, 3) := by decide +kernel
theorem dX5_faulty_4 : decode cX5_faulty 4 = .ok (.iload_n 2, 1) := by decide +kernel
theorem dX5_faulty_5 : decode cX5_faulty 5 = .ok (.invokestatic 100, 3) := by decide +kernel
theorem dX5_faulty_8 : decode cX5_faulty 8 = .ok (.aload_n 0, 1) := by decide +kernel
theorem dX5_faulty_9 : decode cX5_faulty 9 = .ok (.iload_n 3, 1) := by decide +kernel
theorem dX5_faulty_10 : decode cX5_faulty 10 = .ok (.invokevirtual 103, 3) := by decide +kernel
theorem dX5_faulty_13 : decode cX5_faulty 13 = .ok (.aload_n 0, 1) := by decide +kernel
theorem dX5_faulty_14 : decode cX5_faulty 14 = .ok (.invokevirtual 90, 3) := by decide +kernel
theorem dX5_faulty_17 : decode cX5_faulty 17 = .ok (.aload_n 0, 1) := by decide +kernel
theorem dX5_faulty_18 : decode cX5_faulty 18 = .ok (.iconst 5, 1) := by decide +kernel
theorem dX5_faulty_19 : decode cX5_faulty 19 = .ok (.iload_n 1, 1) := by decide +kernel
theorem dX5_faulty_20 : decode cX5_faulty 20 = .ok (.iload_n 2, 1) := by decide +kernel
theorem dX5_faulty_21 : decode cX5_faulty 21 = .ok (.iload_n 3, 1) := by decide +kernel
theorem dX5_faulty_22 : decode cX5_faulty 22 = .ok (.invokevirtual 106, 3) := by decide +kernel
theorem dX5_faulty_25 : decode cX5_faulty 25 = .ok (.ireturn, 1) := by decide +kernel
set_option maxRecDepth 20000 in
theorem ggX5_mend_X5_needCycle : GoodIn wsX5_mend wsX5_needCycle := goodIn_ca (goodIn_r _ [5, 6, 7] (by decide +kernel) (by decide +kernel)) (goodIn_sub (fun _ h => List.mem_cons_of_mem _ (List.mem_append_left _ (List.mem_append_right _ h))) (by decide +kernel))
set_option maxRecDepth 20000 in
theorem gX5_mend_X5_needCycle : GoodIn wsX5_mend (va_wsS RX5 97 yX5_needCycle wsX5_needCycle) := goodIn_app (goodIn_of _ (by decide +kernel)) ggX5_mend_X5_needCycle
set_option maxRecDepth 20000 in
theorem ggX5_mend_X5_needRoom : GoodIn wsX5_mend wsX5_needRoom := goodIn_ca (goodIn_r _ [11, 12, 13, 14, 15, 16, 17, 18, 19, 20, 195, 196, 197, 198, 199, 200, 201, 202, 203, 204, 205, 206, 207, 208] (by decide +kernel) (by decide +kernel)) (goodIn_sub (fun _ h => List.mem_cons_of_mem _ (List.mem_append_right _ h)) (by decide +kernel))
set_option maxRecDepth 20000 in
theorem gX5_mend_X5_needRoom : GoodIn wsX5_mend (wsV RX5 90 RX5 yX5_needRoom wsX5_needRoom) := goodIn_app (goodIn_of _ (by decide +kernel)) ggX5_mend_X5_needRoom
set_option maxRecDepth 20000 in
theorem ggX5_mend_X5_hear : GoodIn wsX5_mend wsX5_hear := goodIn_r _ [24, 14, 25, 26, 27, 28, 29, 30, 18, 31, 20, 32, 33, 34, 35, 36, 37, 38, 39, 40, 16, 17, 19, 41, 42, 43, 4, 44, 45, 46, 47, 48, 49, 50, 51, 52, 53, 54, 55, 56, 57, 58, 59, 60, 61, 62, 63, 64, 65, 66, 67, 68, 69, 70, 71, 72, 73, 74, 75, 76, 77, 78, 79, 80, 81, 82, 83, 84, 85, 86, 87, 88, 89, 90, 91, 92, 93, 94, 95, 96, 97, 98, 99, 100, 101, 102, 103, 104, 105, 106, 107, 108, 109, 110, 111, 112, 113, 114, 115, 116, 117, 118, 119, 120, 121, 122, 123, 124, 125, 126, 127, 128, 129, 130, 131, 132, 133, 134, 135, 136, 137, 138, 139, 140, 141, 142, 143, 144, 145, 146, 147, 148, 149, 150, 151, 152, 153, 154, 155, 156, 157, 158, 159, 160, 161, 162, 163, 164, 165, 166, 167, 168, 169, 170, 171, 172, 173, 174, 175, 176, 177, 178, 179, 180, 181, 182, 183, 184, 185, 186, 187, 188, 189, 190, 191, 192, 193, 194, 195, 196, 197, 198, 199, 200, 201, 202, 203, 204, 205, 206, 207, 208, 209, 210, 211, 212, 213, 214, 215, 216, 217, 218, 219, 220, 221, 222, 223, 224, 225] rfl (by decide +kernel)
set_option maxRecDepth 20000 in
theorem gX5_mend_X5_hear : GoodIn wsX5_mend (wsV RX5 93 RX5 yX5_hear wsX5_hear) := goodIn_app (goodIn_of _ (by decide +kernel)) ggX5_mend_X5_hear
theorem dX5_mend_0 : decode cX5_mend 0 = .ok (.iload_n 1, 1) := by decide +kernel
theorem dX5_mend_1 : decode cX5_mend 1 = .ok (.invokestatic 97, 3) := by decide +kernel
theorem dX5_mend_4 : decode cX5_mend 4 = .ok (.aload_n 0, 1) := by decide +kernel
theorem dX5_mend_5 : decode cX5_mend 5 = .ok (.invokevirtual 90, 3) := by decide +kernel
theorem dX5_mend_8 : decode cX5_mend 8 = .ok (.aload_n 0, 1) := by decide +kernel
theorem dX5_mend_9 : decode cX5_mend 9 = .ok (.bipush 6, 2) := by decide +kernel
theorem dX5_mend_11 : decode cX5_mend 11 = .ok (.iload_n 1, 1) := by decide +kernel
theorem dX5_mend_12 : decode cX5_mend 12 = .ok (.iconst (-1), 1) := by decide +kernel
theorem dX5_mend_13 : decode cX5_mend 13 = .ok (.aload_n 0, 1) := by decide +kernel
theorem dX5_mend_14 : decode cX5_mend 14 = .ok (.getfield 44, 3) := by decide +kernel
theorem dX5_mend_17 : decode cX5_mend 17 = .ok (.invokevirtual 93, 3) := by decide +kernel
theorem dX5_mend_20 : decode cX5_mend 20 = .ok (.ireturn, 1) := by decide +kernel
set_option maxRecDepth 20000 in
theorem ggX5_price_X5_needUpTo : GoodIn wsX5_price wsX5_needUpTo := goodIn_ca (goodIn_r _ [5, 6, 7] (by decide +kernel) (by decide +kernel)) (goodIn_sub (fun _ h => List.mem_cons_of_mem _ (List.mem_append_left _ (List.mem_append_right _ h))) (by decide +kernel))
set_option maxRecDepth 20000 in
theorem gX5_price_X5_needUpTo : GoodIn wsX5_price (va_wsS RX5 64 yX5_needUpTo wsX5_needUpTo) := goodIn_app (goodIn_of _ (by decide +kernel)) ggX5_price_X5_needUpTo
set_option maxRecDepth 20000 in
theorem ggX5_price_X5_needRoom : GoodIn wsX5_price wsX5_needRoom := goodIn_ca (goodIn_r _ [11, 12, 13, 14, 15, 16, 17, 18, 19, 20, 195, 196, 197, 198, 199, 200, 201, 202, 203, 204, 205, 206, 207, 208] (by decide +kernel) (by decide +kernel)) (goodIn_sub (fun _ h => List.mem_cons_of_mem _ (List.mem_append_right _ h)) (by decide +kernel))
set_option maxRecDepth 20000 in
theorem gX5_price_X5_needRoom : GoodIn wsX5_price (wsV RX5 90 RX5 yX5_needRoom wsX5_needRoom) := goodIn_app (goodIn_of _ (by decide +kernel)) ggX5_price_X5_needRoom
set_option maxRecDepth 20000 in
theorem ggX5_price_X5_hear : GoodIn wsX5_price wsX5_hear := goodIn_r _ [24, 14, 25, 26, 27, 28, 29, 30, 18, 31, 20, 32, 33, 34, 35, 36, 37, 38, 39, 40, 16, 17, 19, 41, 42, 43, 4, 44, 45, 46, 47, 48, 49, 50, 51, 52, 53, 54, 55, 56, 57, 58, 59, 60, 61, 62, 63, 64, 65, 66, 67, 68, 69, 70, 71, 72, 73, 74, 75, 76, 77, 78, 79, 80, 81, 82, 83, 84, 85, 86, 87, 88, 89, 90, 91, 92, 93, 94, 95, 96, 97, 98, 99, 100, 101, 102, 103, 104, 105, 106, 107, 108, 109, 110, 111, 112, 113, 114, 115, 116, 117, 118, 119, 120, 121, 122, 123, 124, 125, 126, 127, 128, 129, 130, 131, 132, 133, 134, 135, 136, 137, 138, 139, 140, 141, 142, 143, 144, 145, 146, 147, 148, 149, 150, 151, 152, 153, 154, 155, 156, 157, 158, 159, 160, 161, 162, 163, 164, 165, 166, 167, 168, 169, 170, 171, 172, 173, 174, 175, 176, 177, 178, 179, 180, 181, 182, 183, 184, 185, 186, 187, 188, 189, 190, 191, 192, 193, 194, 195, 196, 197, 198, 199, 200, 201, 202, 203, 204, 205, 206, 207, 208, 209, 210, 211, 212, 213, 214, 215, 216, 217, 218, 219, 220, 221, 222, 223, 224, 225] rfl (by decide +kernel)
set_option maxRecDepth 20000 in
theorem gX5_price_X5_hear : GoodIn wsX5_price (wsV RX5 93 RX5 yX5_hear wsX5_hear) := goodIn_app (goodIn_of _ (by decide +kernel)) ggX5_price_X5_hear
theorem dX5_price_0 : decode cX5_price 0 = .ok (.iload_n 1, 1) := by decide +kernel
theorem dX5_price_1 : decode cX5_price 1 = .ok (.bipush 99, 2) := by decide +kernel
theorem dX5_price_3 : decode cX5_price 3 = .ok (.invokestatic 64, 3) := by decide +kernel
theorem dX5_price_6 : decode cX5_price 6 = .ok (.aload_n 0, 1) := by decide +kernel
theorem dX5_price_7 : decode cX5_price 7 = .ok (.invokevirtual 90, 3) := by decide +kernel
theorem dX5_price_10 : decode cX5_price 10 = .ok (.aload_n 0, 1) := by decide +kernel
theorem dX5_price_11 : decode cX5_price 11 = .ok (.bipush 7, 2) := by decide +kernel
theorem dX5_price_13 : decode cX5_price 13 = .ok (.iload_n 1, 1) := by decide +kernel
theorem dX5_price_14 : decode cX5_price 14 = .ok (.iconst (-1), 1) := by decide +kernel
theorem dX5_price_15 : decode cX5_price 15 = .ok (.aload_n 0, 1) := by decide +kernel
theorem dX5_price_16 : decode cX5_price 16 = .ok (.getfield 44, 3) := by decide +kernel
theorem dX5_price_19 : decode cX5_price 19 = .ok (.invokevirtual 93, 3) := by decide +kernel
theorem dX5_price_22 : decode cX5_price 22 = .ok (.pop, 1) := by decide +kernel
theorem dX5_price_23 : decode cX5_price 23 = .ok (.return_, 1) := by decide +kernel
set_option maxRecDepth 20000 in
theorem ggX5_promise_X5_needRider : GoodIn wsX5_promise wsX5_needRider := goodIn_ca (goodIn_r _ [5, 6, 7] (by decide +kernel) (by decide +kernel)) (goodIn_sub (fun _ h => List.mem_cons_of_mem _ (List.mem_append_left _ (List.mem_append_right _ h))) (by decide +kernel))
set_option maxRecDepth 20000 in
theorem gX5_promise_X5_needRider : GoodIn wsX5_promise (va_wsS RX5 100 yX5_needRider wsX5_needRider) := goodIn_app (goodIn_of _ (by decide +kernel)) ggX5_promise_X5_needRider
set_option maxRecDepth 20000 in
theorem ggX5_promise_X5_needStation : GoodIn wsX5_promise wsX5_needStation := goodIn_ca (goodIn_r _ [10, 6, 7] (by decide +kernel) (by decide +kernel)) (goodIn_sub (fun _ h => List.mem_cons_of_mem _ (List.mem_append_left _ (List.mem_append_right _ h))) (by decide +kernel))
set_option maxRecDepth 20000 in
theorem gX5_promise_X5_needStation : GoodIn wsX5_promise (va_wsS RX5 60 yX5_needStation wsX5_needStation) := goodIn_app (goodIn_of _ (by decide +kernel)) ggX5_promise_X5_needStation
set_option maxRecDepth 20000 in
theorem ggX5_promise_X5_needRoom : GoodIn wsX5_promise wsX5_needRoom := goodIn_ca (goodIn_r _ [14, 15, 16, 17, 18, 19, 20, 21, 22, 23, 198, 199, 200, 201, 202, 203, 204, 205, 206, 207, 208, 209, 210, 211] (by decide +kernel) (by decide +kernel)) (goodIn_sub (fun _ h => List.mem_cons_of_mem _ (List.mem_append_right _ h)) (by decide +kernel))
set_option maxRecDepth 20000 in
theorem gX5_promise_X5_needRoom : GoodIn wsX5_promise (wsV RX5 90 RX5 yX5_needRoom wsX5_needRoom) := goodIn_app (goodIn_of _ (by decide +kernel)) ggX5_promise_X5_needRoom
set_option maxRecDepth 20000 in
theorem ggX5_promise_X5_hear : GoodIn wsX5_promise wsX5_hear := goodIn_r _ [27, 17, 28, 29, 30, 31, 32, 33, 21, 34, 23, 35, 36, 37, 38, 39, 40, 41, 42, 43, 19, 20, 22, 44, 45, 46, 4, 47, 48, 49, 50, 51, 52, 53, 54, 55, 56, 57, 58, 59, 60, 61, 62, 63, 64, 65, 66, 67, 68, 69, 70, 71, 72, 73, 74, 75, 76, 77, 78, 79, 80, 81, 82, 83, 84, 85, 86, 87, 88, 89, 90, 91, 92, 93, 94, 95, 96, 97, 98, 99, 100, 101, 102, 103, 104, 105, 106, 107, 108, 109, 110, 111, 112, 113, 114, 115, 116, 117, 118, 119, 120, 121, 122, 123, 124, 125, 126, 127, 128, 129, 130, 131, 132, 133, 134, 135, 136, 137, 138, 139, 140, 141, 142, 143, 144, 145, 146, 147, 148, 149, 150, 151, 152, 153, 154, 155, 156, 157, 158, 159, 160, 161, 162, 163, 164, 165, 166, 167, 168, 169, 170, 171, 172, 173, 174, 175, 176, 177, 178, 179, 180, 181, 182, 183, 184, 185, 186, 187, 188, 189, 190, 191, 192, 193, 194, 195, 196, 197, 198, 199, 200, 201, 202, 203, 204, 205, 206, 207, 208, 209, 210, 211, 212, 213, 214, 215, 216, 217, 218, 219, 220, 221, 222, 223, 224, 225, 226, 227, 228] rfl (by decide +kernel)
set_option maxRecDepth 20000 in
theorem gX5_promise_X5_hear : GoodIn wsX5_promise (wsV RX5 93 RX5 yX5_hear wsX5_hear) := goodIn_app (goodIn_of _ (by decide +kernel)) ggX5_promise_X5_hear
theorem dX5_promise_0 : decode cX5_promise 0 = .ok (.iload_n 1, 1) := by decide +kernel
theorem dX5_promise_1 : decode cX5_promise 1 = .ok (.invokestatic 100, 3) := by decide +kernel
theorem dX5_promise_4 : decode cX5_promise 4 = .ok (.iload_n 2, 1) := by decide +kernel
theorem dX5_promise_5 : decode cX5_promise 5 = .ok (.invokestatic 60, 3) := by decide +kernel
theorem dX5_promise_8 : decode cX5_promise 8 = .ok (.aload_n 0, 1) := by decide +kernel
theorem dX5_promise_9 : decode cX5_promise 9 = .ok (.invokevirtual 90, 3) := by decide +kernel
theorem dX5_promise_12 : decode cX5_promise 12 = .ok (.aload_n 0, 1) := by decide +kernel
theorem dX5_promise_13 : decode cX5_promise 13 = .ok (.bipush 8, 2) := by decide +kernel
theorem dX5_promise_15 : decode cX5_promise 15 = .ok (.iload_n 1, 1) := by decide +kernel
theorem dX5_promise_16 : decode cX5_promise 16 = .ok (.iload_n 2, 1) := by decide +kernel
theorem dX5_promise_17 : decode cX5_promise 17 = .ok (.aload_n 0, 1) := by decide +kernel
theorem dX5_promise_18 : decode cX5_promise 18 = .ok (.getfield 44, 3) := by decide +kernel
theorem dX5_promise_21 : decode cX5_promise 21 = .ok (.invokevirtual 93, 3) := by decide +kernel
theorem dX5_promise_24 : decode cX5_promise 24 = .ok (.ireturn, 1) := by decide +kernel
set_option maxRecDepth 20000 in
theorem ggX5_cycle_X5_needCycle : GoodIn wsX5_cycle wsX5_needCycle := goodIn_ca (goodIn_r _ [11, 12, 13] (by decide +kernel) (by decide +kernel)) (goodIn_sub (fun _ h => List.mem_cons_of_mem _ (List.mem_append_right _ h)) (by decide +kernel))
set_option maxRecDepth 20000 in
theorem gX5_cycle_X5_needCycle : GoodIn wsX5_cycle (va_wsS RX5 97 yX5_needCycle wsX5_needCycle) := goodIn_app (goodIn_of _ (by decide +kernel)) ggX5_cycle_X5_needCycle
set_option maxRecDepth 20000 in
theorem ggX5_cycle_X0_isBlocked : GoodIn wsX5_cycle wsX0_isBlocked := goodIn_r _ [18, 19, 20, 21, 22, 23, 24, 25, 26, 42, 43, 44, 45, 46, 47, 48] rfl (by decide +kernel)
set_option maxRecDepth 20000 in
theorem gX5_cycle_X0_isBlocked : GoodIn wsX5_cycle (wsV RX5 115 RX0 yX0_isBlocked wsX0_isBlocked) := goodIn_app (goodIn_of _ (by decide +kernel)) ggX5_cycle_X0_isBlocked
set_option maxRecDepth 20000 in
theorem ggX5_cycle_X0_minutesGoingOn : GoodIn wsX5_cycle wsX0_minutesGoingOn := goodIn_r _ [30, 31, 32, 42, 43, 44, 45, 46, 47, 48] rfl (by decide +kernel)
set_option maxRecDepth 20000 in
theorem gX5_cycle_X0_minutesGoingOn : GoodIn wsX5_cycle (wsV RX5 122 RX0 yX0_minutesGoingOn wsX0_minutesGoingOn) := goodIn_app (goodIn_of _ (by decide +kernel)) ggX5_cycle_X0_minutesGoingOn
theorem dX5_cycle_0 : decode cX5_cycle 0 = .ok (.iload_n 1, 1) := by decide +kernel
theorem dX5_cycle_1 : decode cX5_cycle 1 = .ok (.invokestatic 97, 3) := by decide +kernel
theorem dX5_cycle_4 : decode cX5_cycle 4 = .ok (.iload_n 2, 1) := by decide +kernel
theorem dX5_cycle_5 : decode cX5_cycle 5 = .ok (.tableswitch 91 0 3 #[31, 41, 51, 68], 31) := by decide +kernel
theorem dX5_cycle_36 : decode cX5_cycle 36 = .ok (.aload_n 0, 1) := by decide +kernel
theorem dX5_cycle_37 : decode cX5_cycle 37 = .ok (.getfield 33, 3) := by decide +kernel
theorem dX5_cycle_40 : decode cX5_cycle 40 = .ok (.getfield 109, 3) := by decide +kernel
theorem dX5_cycle_43 : decode cX5_cycle 43 = .ok (.iload_n 1, 1) := by decide +kernel
theorem dX5_cycle_44 : decode cX5_cycle 44 = .ok (.iaload, 1) := by decide +kernel
theorem dX5_cycle_45 : decode cX5_cycle 45 = .ok (.ireturn, 1) := by decide +kernel
theorem dX5_cycle_46 : decode cX5_cycle 46 = .ok (.aload_n 0, 1) := by decide +kernel
theorem dX5_cycle_47 : decode cX5_cycle 47 = .ok (.getfield 33, 3) := by decide +kernel
theorem dX5_cycle_50 : decode cX5_cycle 50 = .ok (.getfield 112, 3) := by decide +kernel
theorem dX5_cycle_53 : decode cX5_cycle 53 = .ok (.iload_n 1, 1) := by decide +kernel
theorem dX5_cycle_54 : decode cX5_cycle 54 = .ok (.iaload, 1) := by decide +kernel
theorem dX5_cycle_55 : decode cX5_cycle 55 = .ok (.ireturn, 1) := by decide +kernel
theorem dX5_cycle_56 : decode cX5_cycle 56 = .ok (.aload_n 0, 1) := by decide +kernel
theorem dX5_cycle_57 : decode cX5_cycle 57 = .ok (.getfield 33, 3) := by decide +kernel
theorem dX5_cycle_60 : decode cX5_cycle 60 = .ok (.iload_n 1, 1) := by decide +kernel
theorem dX5_cycle_61 : decode cX5_cycle 61 = .ok (.invokevirtual 115, 3) := by decide +kernel
theorem dX5_cycle_64 : decode cX5_cycle 64 = .ok (.ifCond .eq 7, 3) := by decide +kernel
theorem dX5_cycle_67 : decode cX5_cycle 67 = .ok (.iconst 1, 1) := by decide +kernel
theorem dX5_cycle_68 : decode cX5_cycle 68 = .ok (.goto 4, 3) := by decide +kernel
theorem dX5_cycle_71 : decode cX5_cycle 71 = .ok (.iconst 0, 1) := by decide +kernel
theorem dX5_cycle_72 : decode cX5_cycle 72 = .ok (.ireturn, 1) := by decide +kernel
theorem dX5_cycle_73 : decode cX5_cycle 73 = .ok (.aload_n 0, 1) := by decide +kernel
theorem dX5_cycle_74 : decode cX5_cycle 74 = .ok (.getfield 33, 3) := by decide +kernel
theorem dX5_cycle_77 : decode cX5_cycle 77 = .ok (.getfield 119, 3) := by decide +kernel
theorem dX5_cycle_80 : decode cX5_cycle 80 = .ok (.iload_n 1, 1) := by decide +kernel
theorem dX5_cycle_81 : decode cX5_cycle 81 = .ok (.iaload, 1) := by decide +kernel
theorem dX5_cycle_82 : decode cX5_cycle 82 = .ok (.aload_n 0, 1) := by decide +kernel
theorem dX5_cycle_83 : decode cX5_cycle 83 = .ok (.getfield 33, 3) := by decide +kernel
theorem dX5_cycle_86 : decode cX5_cycle 86 = .ok (.iload_n 1, 1) := by decide +kernel
theorem dX5_cycle_87 : decode cX5_cycle 87 = .ok (.aload_n 0, 1) := by decide +kernel
theorem dX5_cycle_88 : decode cX5_cycle 88 = .ok (.getfield 44, 3) := by decide +kernel
theorem dX5_cycle_91 : decode cX5_cycle 91 = .ok (.invokevirtual 122, 3) := by decide +kernel
theorem dX5_cycle_94 : decode cX5_cycle 94 = .ok (.iadd, 1) := by decide +kernel
theorem dX5_cycle_95 : decode cX5_cycle 95 = .ok (.ireturn, 1) := by decide +kernel
theorem dX5_cycle_96 : decode cX5_cycle 96 = .ok (.new 78, 3) := by decide +kernel
theorem dX5_cycle_99 : decode cX5_cycle 99 = .ok (.dup, 1) := by decide +kernel
theorem dX5_cycle_100 : decode cX5_cycle 100 = .ok (.ldc 126, 2) := by decide +kernel
theorem dX5_cycle_102 : decode cX5_cycle 102 = .ok (.invokespecial 82, 3) := by decide +kernel
theorem dX5_cycle_105 : decode cX5_cycle 105 = .ok (.athrow, 1) := by decide +kernel
set_option maxRecDepth 20000 in
theorem ggX5_station_X5_needStation : GoodIn wsX5_station wsX5_needStation := goodIn_ca (goodIn_r _ [11, 12, 13] (by decide +kernel) (by decide +kernel)) (goodIn_sub (fun _ h => List.mem_cons_of_mem _ (List.mem_append_right _ h)) (by decide +kernel))
set_option maxRecDepth 20000 in
theorem gX5_station_X5_needStation : GoodIn wsX5_station (va_wsS RX5 60 yX5_needStation wsX5_needStation) := goodIn_app (goodIn_of _ (by decide +kernel)) ggX5_station_X5_needStation
set_option maxRecDepth 20000 in
theorem ggX5_station_X3_freePlaces : GoodIn wsX5_station wsX3_freePlaces := goodIn_r _ [18, 19, 20, 21, 22, 23, 24, 51, 52, 53, 54] rfl (by decide +kernel)
set_option maxRecDepth 20000 in
theorem gX5_station_X3_freePlaces : GoodIn wsX5_station (wsV RX5 134 RX3 yX3_freePlaces wsX3_freePlaces) := goodIn_app (goodIn_of _ (by decide +kernel)) ggX5_station_X3_freePlaces
set_option maxRecDepth 20000 in
theorem ggX5_station_X2_promisesAt : GoodIn wsX5_station wsX2_promisesAt := goodIn_r _ [29, 30, 31, 32, 28, 33, 34, 35, 55, 56, 57, 58, 59, 60] rfl (by decide +kernel)
set_option maxRecDepth 20000 in
theorem gX5_station_X2_promisesAt : GoodIn wsX5_station (wsV RX5 138 RX2 yX2_promisesAt wsX2_promisesAt) := goodIn_app (goodIn_of _ (by decide +kernel)) ggX5_station_X2_promisesAt
set_option maxRecDepth 20000 in
theorem ggX5_station_X3_emptyMinutes : GoodIn wsX5_station wsX3_emptyMinutes := goodIn_r _ [39, 20, 40, 41, 51, 52, 53, 54] rfl (by decide +kernel)
set_option maxRecDepth 20000 in
theorem gX5_station_X3_emptyMinutes : GoodIn wsX5_station (wsV RX5 142 RX3 yX3_emptyMinutes wsX3_emptyMinutes) := goodIn_app (goodIn_of _ (by decide +kernel)) ggX5_station_X3_emptyMinutes
theorem dX5_station_0 : decode cX5_station 0 = .ok (.iload_n 1, 1) := by decide +kernel
theorem dX5_station_1 : decode cX5_station 1 = .ok (.invokestatic 60, 3) := by decide +kernel
theorem dX5_station_4 : decode cX5_station 4 = .ok (.iload_n 2, 1) := by decide +kernel
theorem dX5_station_5 : decode cX5_station 5 = .ok (.tableswitch 91 0 4 #[35, 45, 55, 64, 78], 35) := by decide +kernel
theorem dX5_station_40 : decode cX5_station 40 = .ok (.aload_n 0, 1) := by decide +kernel
theorem dX5_station_41 : decode cX5_station 41 = .ok (.getfield 26, 3) := by decide +kernel
theorem dX5_station_44 : decode cX5_station 44 = .ok (.getfield 128, 3) := by decide +kernel
theorem dX5_station_47 : decode cX5_station 47 = .ok (.iload_n 1, 1) := by decide +kernel
theorem dX5_station_48 : decode cX5_station 48 = .ok (.iaload, 1) := by decide +kernel
theorem dX5_station_49 : decode cX5_station 49 = .ok (.ireturn, 1) := by decide +kernel
theorem dX5_station_50 : decode cX5_station 50 = .ok (.aload_n 0, 1) := by decide +kernel
theorem dX5_station_51 : decode cX5_station 51 = .ok (.getfield 26, 3) := by decide +kernel
theorem dX5_station_54 : decode cX5_station 54 = .ok (.getfield 131, 3) := by decide +kernel
theorem dX5_station_57 : decode cX5_station 57 = .ok (.iload_n 1, 1) := by decide +kernel
theorem dX5_station_58 : decode cX5_station 58 = .ok (.iaload, 1) := by decide +kernel
theorem dX5_station_59 : decode cX5_station 59 = .ok (.ireturn, 1) := by decide +kernel
theorem dX5_station_60 : decode cX5_station 60 = .ok (.aload_n 0, 1) := by decide +kernel
theorem dX5_station_61 : decode cX5_station 61 = .ok (.getfield 26, 3) := by decide +kernel
theorem dX5_station_64 : decode cX5_station 64 = .ok (.iload_n 1, 1) := by decide +kernel
theorem dX5_station_65 : decode cX5_station 65 = .ok (.invokevirtual 134, 3) := by decide +kernel
theorem dX5_station_68 : decode cX5_station 68 = .ok (.ireturn, 1) := by decide +kernel
theorem dX5_station_69 : decode cX5_station 69 = .ok (.aload_n 0, 1) := by decide +kernel
theorem dX5_station_70 : decode cX5_station 70 = .ok (.getfield 40, 3) := by decide +kernel
theorem dX5_station_73 : decode cX5_station 73 = .ok (.iload_n 1, 1) := by decide +kernel
theorem dX5_station_74 : decode cX5_station 74 = .ok (.iconst (-1), 1) := by decide +kernel
theorem dX5_station_75 : decode cX5_station 75 = .ok (.aload_n 0, 1) := by decide +kernel
theorem dX5_station_76 : decode cX5_station 76 = .ok (.getfield 44, 3) := by decide +kernel
theorem dX5_station_79 : decode cX5_station 79 = .ok (.invokevirtual 138, 3) := by decide +kernel
theorem dX5_station_82 : decode cX5_station 82 = .ok (.ireturn, 1) := by decide +kernel
theorem dX5_station_83 : decode cX5_station 83 = .ok (.aload_n 0, 1) := by decide +kernel
theorem dX5_station_84 : decode cX5_station 84 = .ok (.getfield 26, 3) := by decide +kernel
theorem dX5_station_87 : decode cX5_station 87 = .ok (.iload_n 1, 1) := by decide +kernel
theorem dX5_station_88 : decode cX5_station 88 = .ok (.aload_n 0, 1) := by decide +kernel
theorem dX5_station_89 : decode cX5_station 89 = .ok (.getfield 44, 3) := by decide +kernel
theorem dX5_station_92 : decode cX5_station 92 = .ok (.invokevirtual 142, 3) := by decide +kernel
theorem dX5_station_95 : decode cX5_station 95 = .ok (.ireturn, 1) := by decide +kernel
theorem dX5_station_96 : decode cX5_station 96 = .ok (.new 78, 3) := by decide +kernel
theorem dX5_station_99 : decode cX5_station 99 = .ok (.dup, 1) := by decide +kernel
theorem dX5_station_100 : decode cX5_station 100 = .ok (.ldc 145, 2) := by decide +kernel
theorem dX5_station_102 : decode cX5_station 102 = .ok (.invokespecial 82, 3) := by decide +kernel
theorem dX5_station_105 : decode cX5_station 105 = .ok (.athrow, 1) := by decide +kernel
set_option maxRecDepth 20000 in
theorem ggX5_rider_X5_needRider : GoodIn wsX5_rider wsX5_needRider := goodIn_ca (goodIn_r _ [11, 12, 13] (by decide +kernel) (by decide +kernel)) (goodIn_sub (fun _ h => List.mem_cons_of_mem _ (List.mem_append_right _ h)) (by decide +kernel))
set_option maxRecDepth 20000 in
theorem gX5_rider_X5_needRider : GoodIn wsX5_rider (va_wsS RX5 100 yX5_needRider wsX5_needRider) := goodIn_app (goodIn_of _ (by decide +kernel)) ggX5_rider_X5_needRider
set_option maxRecDepth 20000 in
theorem ggX5_rider_X5_minutesOf : GoodIn wsX5_rider wsX5_minutesOf := goodIn_r _ [17, 3, 18, 19, 7, 20, 21, 22, 23, 24, 25, 26, 27, 28, 29, 30, 31, 53, 54, 55, 56, 57, 58, 59, 60, 61, 62, 63, 64, 65, 66, 67, 68, 69, 70, 71, 72, 73, 74] rfl (by decide +kernel)
set_option maxRecDepth 20000 in
theorem gX5_rider_X5_minutesOf : GoodIn wsX5_rider (wsV RX5 150 RX5 yX5_minutesOf wsX5_minutesOf) := goodIn_app (goodIn_of _ (by decide +kernel)) ggX5_rider_X5_minutesOf
set_option maxRecDepth 20000 in
theorem ggX5_rider_X5_costGoingOn : GoodIn wsX5_rider wsX5_costGoingOn := goodIn_r _ [35, 19, 7, 20, 21, 22, 23, 24, 25, 26, 27, 28, 29, 30, 31, 36, 37, 38, 39, 40, 41, 42, 43, 44, 45, 53, 54, 55, 56, 57, 58, 59, 60, 61, 68, 69, 70, 71, 72, 73, 74] rfl (by decide +kernel)
set_option maxRecDepth 20000 in
theorem gX5_rider_X5_costGoingOn : GoodIn wsX5_rider (wsV RX5 159 RX5 yX5_costGoingOn wsX5_costGoingOn) := goodIn_app (goodIn_of _ (by decide +kernel)) ggX5_rider_X5_costGoingOn
set_option maxRecDepth 20000 in
theorem ggX5_rider_X2_promisedStation : GoodIn wsX5_rider wsX2_promisedStation := goodIn_r _ [50, 51, 52, 62, 63, 64, 65, 66, 67] rfl (by decide +kernel)
set_option maxRecDepth 20000 in
theorem gX5_rider_X2_promisedStation : GoodIn wsX5_rider (wsV RX5 162 RX2 yX2_promisedStation wsX2_promisedStation) := goodIn_app (goodIn_of _ (by decide +kernel)) ggX5_rider_X2_promisedStation
theorem dX5_rider_0 : decode cX5_rider 0 = .ok (.iload_n 1, 1) := by decide +kernel
theorem dX5_rider_1 : decode cX5_rider 1 = .ok (.invokestatic 100, 3) := by decide +kernel
theorem dX5_rider_4 : decode cX5_rider 4 = .ok (.iload_n 2, 1) := by decide +kernel
theorem dX5_rider_5 : decode cX5_rider 5 = .ok (.tableswitch 100 0 4 #[35, 45, 51, 61, 87], 35) := by decide +kernel
theorem dX5_rider_40 : decode cX5_rider 40 = .ok (.aload_n 0, 1) := by decide +kernel
theorem dX5_rider_41 : decode cX5_rider 41 = .ok (.getfield 40, 3) := by decide +kernel
theorem dX5_rider_44 : decode cX5_rider 44 = .ok (.getfield 147, 3) := by decide +kernel
theorem dX5_rider_47 : decode cX5_rider 47 = .ok (.iload_n 1, 1) := by decide +kernel
theorem dX5_rider_48 : decode cX5_rider 48 = .ok (.iaload, 1) := by decide +kernel
theorem dX5_rider_49 : decode cX5_rider 49 = .ok (.ireturn, 1) := by decide +kernel
theorem dX5_rider_50 : decode cX5_rider 50 = .ok (.aload_n 0, 1) := by decide +kernel
theorem dX5_rider_51 : decode cX5_rider 51 = .ok (.iload_n 1, 1) := by decide +kernel
theorem dX5_rider_52 : decode cX5_rider 52 = .ok (.invokevirtual 150, 3) := by decide +kernel
theorem dX5_rider_55 : decode cX5_rider 55 = .ok (.ireturn, 1) := by decide +kernel
theorem dX5_rider_56 : decode cX5_rider 56 = .ok (.aload_n 0, 1) := by decide +kernel
theorem dX5_rider_57 : decode cX5_rider 57 = .ok (.getfield 40, 3) := by decide +kernel
theorem dX5_rider_60 : decode cX5_rider 60 = .ok (.getfield 153, 3) := by decide +kernel
theorem dX5_rider_63 : decode cX5_rider 63 = .ok (.iload_n 1, 1) := by decide +kernel
theorem dX5_rider_64 : decode cX5_rider 64 = .ok (.iaload, 1) := by decide +kernel
theorem dX5_rider_65 : decode cX5_rider 65 = .ok (.ireturn, 1) := by decide +kernel
theorem dX5_rider_66 : decode cX5_rider 66 = .ok (.aload_n 0, 1) := by decide +kernel
theorem dX5_rider_67 : decode cX5_rider 67 = .ok (.getfield 40, 3) := by decide +kernel
theorem dX5_rider_70 : decode cX5_rider 70 = .ok (.getfield 156, 3) := by decide +kernel
theorem dX5_rider_73 : decode cX5_rider 73 = .ok (.iload_n 1, 1) := by decide +kernel
theorem dX5_rider_74 : decode cX5_rider 74 = .ok (.iaload, 1) := by decide +kernel
theorem dX5_rider_75 : decode cX5_rider 75 = .ok (.aload_n 0, 1) := by decide +kernel
theorem dX5_rider_76 : decode cX5_rider 76 = .ok (.iload_n 1, 1) := by decide +kernel
theorem dX5_rider_77 : decode cX5_rider 77 = .ok (.invokevirtual 159, 3) := by decide +kernel
theorem dX5_rider_80 : decode cX5_rider 80 = .ok (.iadd, 1) := by decide +kernel
theorem dX5_rider_81 : decode cX5_rider 81 = .ok (.aload_n 0, 1) := by decide +kernel
theorem dX5_rider_82 : decode cX5_rider 82 = .ok (.getfield 40, 3) := by decide +kernel
theorem dX5_rider_85 : decode cX5_rider 85 = .ok (.getfield 153, 3) := by decide +kernel
theorem dX5_rider_88 : decode cX5_rider 88 = .ok (.iload_n 1, 1) := by decide +kernel
theorem dX5_rider_89 : decode cX5_rider 89 = .ok (.iaload, 1) := by decide +kernel
theorem dX5_rider_90 : decode cX5_rider 90 = .ok (.isub, 1) := by decide +kernel
theorem dX5_rider_91 : decode cX5_rider 91 = .ok (.ireturn, 1) := by decide +kernel
theorem dX5_rider_92 : decode cX5_rider 92 = .ok (.aload_n 0, 1) := by decide +kernel
theorem dX5_rider_93 : decode cX5_rider 93 = .ok (.getfield 40, 3) := by decide +kernel
theorem dX5_rider_96 : decode cX5_rider 96 = .ok (.iload_n 1, 1) := by decide +kernel
theorem dX5_rider_97 : decode cX5_rider 97 = .ok (.aload_n 0, 1) := by decide +kernel
theorem dX5_rider_98 : decode cX5_rider 98 = .ok (.getfield 44, 3) := by decide +kernel
theorem dX5_rider_101 : decode cX5_rider 101 = .ok (.invokevirtual 162, 3) := by decide +kernel
theorem dX5_rider_104 : decode cX5_rider 104 = .ok (.ireturn, 1) := by decide +kernel
theorem dX5_rider_105 : decode cX5_rider 105 = .ok (.new 78, 3) := by decide +kernel
theorem dX5_rider_108 : decode cX5_rider 108 = .ok (.dup, 1) := by decide +kernel
theorem dX5_rider_109 : decode cX5_rider 109 = .ok (.ldc 165, 2) := by decide +kernel
theorem dX5_rider_111 : decode cX5_rider 111 = .ok (.invokespecial 82, 3) := by decide +kernel
theorem dX5_rider_114 : decode cX5_rider 114 = .ok (.athrow, 1) := by decide +kernel
theorem dX5_odd_0 : decode cX5_odd 0 = .ok (.aload_n 0, 1) := by decide +kernel
theorem dX5_odd_1 : decode cX5_odd 1 = .ok (.getfield 51, 3) := by decide +kernel
theorem dX5_odd_4 : decode cX5_odd 4 = .ok (.ireturn, 1) := by decide +kernel
set_option maxRecDepth 20000 in
theorem ggX5_nearest_X5_needStation : GoodIn wsX5_nearest wsX5_needStation := goodIn_ca (goodIn_r _ [6, 7, 8] (by decide +kernel) (by decide +kernel)) (goodIn_sub (fun _ h => List.mem_cons_of_mem _ (List.mem_append_right _ h)) (by decide +kernel))
set_option maxRecDepth 20000 in
theorem gX5_nearest_X5_needStation : GoodIn wsX5_nearest (va_wsS RX5 60 yX5_needStation wsX5_needStation) := goodIn_app (goodIn_of _ (by decide +kernel)) ggX5_nearest_X5_needStation
set_option maxRecDepth 20000 in
theorem ggX5_nearest_X3_freePlaces : GoodIn wsX5_nearest wsX3_freePlaces := goodIn_r _ [13, 14, 15, 16, 17, 18, 19, 45, 46, 47, 48] rfl (by decide +kernel)
set_option maxRecDepth 20000 in
theorem gX5_nearest_X3_freePlaces : GoodIn wsX5_nearest (wsV RX5 134 RX3 yX3_freePlaces wsX3_freePlaces) := goodIn_app (goodIn_of _ (by decide +kernel)) ggX5_nearest_X3_freePlaces
set_option maxRecDepth 20000 in
theorem ggX5_nearest_X1_wayBetween : GoodIn wsX5_nearest wsX1_wayBetween := goodIn_r _ [24, 25, 26, 27, 28, 17, 18, 19, 29, 30, 31, 23, 32, 33, 34, 35, 49, 50, 51] rfl (by decide +kernel)
set_option maxRecDepth 20000 in
theorem gX5_nearest_X1_wayBetween : GoodIn wsX5_nearest (wsV RX5 167 RX1 yX1_wayBetween wsX1_wayBetween) := goodIn_app (goodIn_of _ (by decide +kernel)) ggX5_nearest_X1_wayBetween
theorem dX5_nearest_0 : decode cX5_nearest 0 = .ok (.iload_n 1, 1) := by decide +kernel
theorem dX5_nearest_1 : decode cX5_nearest 1 = .ok (.invokestatic 60, 3) := by decide +kernel
theorem dX5_nearest_4 : decode cX5_nearest 4 = .ok (.iconst (-1), 1) := by decide +kernel
theorem dX5_nearest_5 : decode cX5_nearest 5 = .ok (.istore_n 2, 1) := by decide +kernel
theorem dX5_nearest_6 : decode cX5_nearest 6 = .ok (.dconst 0, 1) := by decide +kernel
theorem dX5_nearest_7 : decode cX5_nearest 7 = .ok (.dstore_n 3, 1) := by decide +kernel
theorem dX5_nearest_8 : decode cX5_nearest 8 = .ok (.iconst 0, 1) := by decide +kernel
theorem dX5_nearest_9 : decode cX5_nearest 9 = .ok (.istore 5, 2) := by decide +kernel
theorem dX5_nearest_11 : decode cX5_nearest 11 = .ok (.iload 5, 2) := by decide +kernel
theorem dX5_nearest_13 : decode cX5_nearest 13 = .ok (.bipush 8, 2) := by decide +kernel
theorem dX5_nearest_15 : decode cX5_nearest 15 = .ok (.if_icmp .ge 60, 3) := by decide +kernel
theorem dX5_nearest_18 : decode cX5_nearest 18 = .ok (.iload 5, 2) := by decide +kernel
theorem dX5_nearest_20 : decode cX5_nearest 20 = .ok (.iload_n 1, 1) := by decide +kernel
theorem dX5_nearest_21 : decode cX5_nearest 21 = .ok (.if_icmp .eq 48, 3) := by decide +kernel
theorem dX5_nearest_24 : decode cX5_nearest 24 = .ok (.aload_n 0, 1) := by decide +kernel
theorem dX5_nearest_25 : decode cX5_nearest 25 = .ok (.getfield 26, 3) := by decide +kernel
theorem dX5_nearest_28 : decode cX5_nearest 28 = .ok (.iload 5, 2) := by decide +kernel
theorem dX5_nearest_30 : decode cX5_nearest 30 = .ok (.invokevirtual 134, 3) := by decide +kernel
theorem dX5_nearest_33 : decode cX5_nearest 33 = .ok (.ifCond .ne 6, 3) := by decide +kernel
theorem dX5_nearest_36 : decode cX5_nearest 36 = .ok (.goto 33, 3) := by decide +kernel
theorem dX5_nearest_39 : decode cX5_nearest 39 = .ok (.aload_n 0, 1) := by decide +kernel
theorem dX5_nearest_40 : decode cX5_nearest 40 = .ok (.getfield 19, 3) := by decide +kernel
theorem dX5_nearest_43 : decode cX5_nearest 43 = .ok (.iload_n 1, 1) := by decide +kernel
theorem dX5_nearest_44 : decode cX5_nearest 44 = .ok (.iload 5, 2) := by decide +kernel
theorem dX5_nearest_46 : decode cX5_nearest 46 = .ok (.invokevirtual 167, 3) := by decide +kernel
theorem dX5_nearest_49 : decode cX5_nearest 49 = .ok (.dstore 6, 2) := by decide +kernel
theorem dX5_nearest_51 : decode cX5_nearest 51 = .ok (.iload_n 2, 1) := by decide +kernel
theorem dX5_nearest_52 : decode cX5_nearest 52 = .ok (.iconst (-1), 1) := by decide +kernel
theorem dX5_nearest_53 : decode cX5_nearest 53 = .ok (.if_icmp .eq 10, 3) := by decide +kernel
theorem dX5_nearest_56 : decode cX5_nearest 56 = .ok (.dload 6, 2) := by decide +kernel
theorem dX5_nearest_58 : decode cX5_nearest 58 = .ok (.dload_n 3, 1) := by decide +kernel
theorem dX5_nearest_59 : decode cX5_nearest 59 = .ok (.dcmp .g, 1) := by decide +kernel
theorem dX5_nearest_60 : decode cX5_nearest 60 = .ok (.ifCond .ge 9, 3) := by decide +kernel
theorem dX5_nearest_63 : decode cX5_nearest 63 = .ok (.iload 5, 2) := by decide +kernel
theorem dX5_nearest_65 : decode cX5_nearest 65 = .ok (.istore_n 2, 1) := by decide +kernel
theorem dX5_nearest_66 : decode cX5_nearest 66 = .ok (.dload 6, 2) := by decide +kernel
theorem dX5_nearest_68 : decode cX5_nearest 68 = .ok (.dstore_n 3, 1) := by decide +kernel
theorem dX5_nearest_69 : decode cX5_nearest 69 = .ok (.iinc 5 1, 3) := by decide +kernel
theorem dX5_nearest_72 : decode cX5_nearest 72 = .ok (.goto (-61), 3) := by decide +kernel
theorem dX5_nearest_75 : decode cX5_nearest 75 = .ok (.iload_n 2, 1) := by decide +kernel
theorem dX5_nearest_76 : decode cX5_nearest 76 = .ok (.ireturn, 1) := by decide +kernel
set_option maxRecDepth 20000 in
theorem ggX5_way_X5_needStation : GoodIn wsX5_way wsX5_needStation := goodIn_ca (goodIn_r _ [6, 7, 8] (by decide +kernel) (by decide +kernel)) (goodIn_sub (fun _ h => List.mem_cons_of_mem _ (List.mem_append_right _ h)) (by decide +kernel))
set_option maxRecDepth 20000 in
theorem gX5_way_X5_needStation : GoodIn wsX5_way (va_wsS RX5 60 yX5_needStation wsX5_needStation) := goodIn_app (goodIn_of _ (by decide +kernel)) ggX5_way_X5_needStation
set_option maxRecDepth 20000 in
theorem ggX5_way_X1_wayBetween : GoodIn wsX5_way wsX1_wayBetween := goodIn_r _ [13, 14, 15, 16, 17, 18, 19, 20, 21, 22, 23, 12, 24, 25, 26, 27, 37, 38, 39] rfl (by decide +kernel)
set_option maxRecDepth 20000 in
theorem gX5_way_X1_wayBetween : GoodIn wsX5_way (wsV RX5 167 RX1 yX1_wayBetween wsX1_wayBetween) := goodIn_app (goodIn_of _ (by decide +kernel)) ggX5_way_X1_wayBetween
theorem dX5_way_0 : decode cX5_way 0 = .ok (.iload_n 1, 1) := by decide +kernel
theorem dX5_way_1 : decode cX5_way 1 = .ok (.invokestatic 60, 3) := by decide +kernel
theorem dX5_way_4 : decode cX5_way 4 = .ok (.iload_n 2, 1) := by decide +kernel
theorem dX5_way_5 : decode cX5_way 5 = .ok (.invokestatic 60, 3) := by decide +kernel
theorem dX5_way_8 : decode cX5_way 8 = .ok (.ldc2_w 171, 3) := by decide +kernel
theorem dX5_way_11 : decode cX5_way 11 = .ok (.aload_n 0, 1) := by decide +kernel
theorem dX5_way_12 : decode cX5_way 12 = .ok (.getfield 19, 3) := by decide +kernel
theorem dX5_way_15 : decode cX5_way 15 = .ok (.iload_n 1, 1) := by decide +kernel
theorem dX5_way_16 : decode cX5_way 16 = .ok (.iload_n 2, 1) := by decide +kernel
theorem dX5_way_17 : decode cX5_way 17 = .ok (.invokevirtual 167, 3) := by decide +kernel
theorem dX5_way_20 : decode cX5_way 20 = .ok (.dmul, 1) := by decide +kernel
theorem dX5_way_21 : decode cX5_way 21 = .ok (.d2i, 1) := by decide +kernel
theorem dX5_way_22 : decode cX5_way 22 = .ok (.ireturn, 1) := by decide +kernel
theorem dX5_plan_0 : decode cX5_plan 0 = .ok (.iconst (-1), 1) := by decide +kernel
theorem dX5_plan_1 : decode cX5_plan 1 = .ok (.istore_n 1, 1) := by decide +kernel
theorem dX5_plan_2 : decode cX5_plan 2 = .ok (.iconst (-1), 1) := by decide +kernel
theorem dX5_plan_3 : decode cX5_plan 3 = .ok (.istore_n 2, 1) := by decide +kernel
theorem dX5_plan_4 : decode cX5_plan 4 = .ok (.iconst 0, 1) := by decide +kernel
theorem dX5_plan_5 : decode cX5_plan 5 = .ok (.istore_n 3, 1) := by decide +kernel
theorem dX5_plan_6 : decode cX5_plan 6 = .ok (.iconst 0, 1) := by decide +kernel
theorem dX5_plan_7 : decode cX5_plan 7 = .ok (.istore 4, 2) := by decide +kernel
theorem dX5_plan_9 : decode cX5_plan 9 = .ok (.iconst 0, 1) := by decide +kernel
theorem dX5_plan_10 : decode cX5_plan 10 = .ok (.istore 5, 2) := by decide +kernel
theorem dX5_plan_12 : decode cX5_plan 12 = .ok (.iload 5, 2) := by decide +kernel
theorem dX5_plan_14 : decode cX5_plan 14 = .ok (.bipush 8, 2) := by decide +kernel
theorem dX5_plan_16 : decode cX5_plan 16 = .ok (.if_icmp .ge 62, 3) := by decide +kernel
theorem dX5_plan_19 : decode cX5_plan 19 = .ok (.aload_n 0, 1) := by decide +kernel
theorem dX5_plan_20 : decode cX5_plan 20 = .ok (.getfield 26, 3) := by decide +kernel
theorem dX5_plan_23 : decode cX5_plan 23 = .ok (.getfield 131, 3) := by decide +kernel
theorem dX5_plan_26 : decode cX5_plan 26 = .ok (.iload 5, 2) := by decide +kernel
theorem dX5_plan_28 : decode cX5_plan 28 = .ok (.iaload, 1) := by decide +kernel
theorem dX5_plan_29 : decode cX5_plan 29 = .ok (.aload_n 0, 1) := by decide +kernel
theorem dX5_plan_30 : decode cX5_plan 30 = .ok (.getfield 26, 3) := by decide +kernel
theorem dX5_plan_33 : decode cX5_plan 33 = .ok (.getfield 128, 3) := by decide +kernel
theorem dX5_plan_36 : decode cX5_plan 36 = .ok (.iload 5, 2) := by decide +kernel
theorem dX5_plan_38 : decode cX5_plan 38 = .ok (.iaload, 1) := by decide +kernel
theorem dX5_plan_39 : decode cX5_plan 39 = .ok (.iconst 2, 1) := by decide +kernel
theorem dX5_plan_40 : decode cX5_plan 40 = .ok (.idiv, 1) := by decide +kernel
theorem dX5_plan_41 : decode cX5_plan 41 = .ok (.isub, 1) := by decide +kernel
theorem dX5_plan_42 : decode cX5_plan 42 = .ok (.istore 6, 2) := by decide +kernel
theorem dX5_plan_44 : decode cX5_plan 44 = .ok (.iload 6, 2) := by decide +kernel
theorem dX5_plan_46 : decode cX5_plan 46 = .ok (.iload_n 3, 1) := by decide +kernel
theorem dX5_plan_47 : decode cX5_plan 47 = .ok (.if_icmp .le 9, 3) := by decide +kernel
theorem dX5_plan_50 : decode cX5_plan 50 = .ok (.iload 6, 2) := by decide +kernel
theorem dX5_plan_52 : decode cX5_plan 52 = .ok (.istore_n 3, 1) := by decide +kernel
theorem dX5_plan_53 : decode cX5_plan 53 = .ok (.iload 5, 2) := by decide +kernel
theorem dX5_plan_55 : decode cX5_plan 55 = .ok (.istore_n 1, 1) := by decide +kernel
theorem dX5_plan_56 : decode cX5_plan 56 = .ok (.iload 6, 2) := by decide +kernel
theorem dX5_plan_58 : decode cX5_plan 58 = .ok (.ineg, 1) := by decide +kernel
theorem dX5_plan_59 : decode cX5_plan 59 = .ok (.iload 4, 2) := by decide +kernel
theorem dX5_plan_61 : decode cX5_plan 61 = .ok (.if_icmp .le 11, 3) := by decide +kernel
theorem dX5_plan_64 : decode cX5_plan 64 = .ok (.iload 6, 2) := by decide +kernel
theorem dX5_plan_66 : decode cX5_plan 66 = .ok (.ineg, 1) := by decide +kernel
theorem dX5_plan_67 : decode cX5_plan 67 = .ok (.istore 4, 2) := by decide +kernel
theorem dX5_plan_69 : decode cX5_plan 69 = .ok (.iload 5, 2) := by decide +kernel
theorem dX5_plan_71 : decode cX5_plan 71 = .ok (.istore_n 2, 1) := by decide +kernel
theorem dX5_plan_72 : decode cX5_plan 72 = .ok (.iinc 5 1, 3) := by decide +kernel
theorem dX5_plan_75 : decode cX5_plan 75 = .ok (.goto (-63), 3) := by decide +kernel
theorem dX5_plan_78 : decode cX5_plan 78 = .ok (.iload_n 1, 1) := by decide +kernel
theorem dX5_plan_79 : decode cX5_plan 79 = .ok (.iconst (-1), 1) := by decide +kernel
theorem dX5_plan_80 : decode cX5_plan 80 = .ok (.if_icmp .eq 8, 3) := by decide +kernel
theorem dX5_plan_83 : decode cX5_plan 83 = .ok (.iload_n 2, 1) := by decide +kernel
theorem dX5_plan_84 : decode cX5_plan 84 = .ok (.iconst (-1), 1) := by decide +kernel
theorem dX5_plan_85 : decode cX5_plan 85 = .ok (.if_icmp .ne 7, 3) := by decide +kernel
theorem dX5_plan_88 : decode cX5_plan 88 = .ok (.iconst (-1), 1) := by decide +kernel
theorem dX5_plan_89 : decode cX5_plan 89 = .ok (.goto 9, 3) := by decide +kernel
theorem dX5_plan_92 : decode cX5_plan 92 = .ok (.bipush 10, 2) := by decide +kernel
theorem dX5_plan_94 : decode cX5_plan 94 = .ok (.iload_n 1, 1) := by decide +kernel
theorem dX5_plan_95 : decode cX5_plan 95 = .ok (.imul, 1) := by decide +kernel
theorem dX5_plan_96 : decode cX5_plan 96 = .ok (.iload_n 2, 1) := by decide +kernel
theorem dX5_plan_97 : decode cX5_plan 97 = .ok (.iadd, 1) := by decide +kernel
theorem dX5_plan_98 : decode cX5_plan 98 = .ok (.ireturn, 1) := by decide +kernel
set_option maxRecDepth 20000 in
theorem ggX5_agrees_X0_minutesGoingOn : GoodIn wsX5_agrees wsX0_minutesGoingOn := goodIn_r _ [8, 9, 10, 32, 33, 34, 35, 36, 37, 38] rfl (by decide +kernel)
set_option maxRecDepth 20000 in
theorem gX5_agrees_X0_minutesGoingOn : GoodIn wsX5_agrees (wsV RX5 122 RX0 yX0_minutesGoingOn wsX0_minutesGoingOn) := goodIn_app (goodIn_of _ (by decide +kernel)) ggX5_agrees_X0_minutesGoingOn
set_option maxRecDepth 20000 in
theorem ggX5_agrees_X5_minutesOf : GoodIn wsX5_agrees wsX5_minutesOf := goodIn_r _ [15, 16, 17, 1, 3, 18, 19, 20, 7, 21, 9, 22, 4, 5, 6, 8, 10, 23, 24, 25, 26, 27, 28, 29, 30, 31, 39, 40, 41, 42, 43, 44, 32, 33, 34, 35, 36, 37, 38] rfl (by decide +kernel)
set_option maxRecDepth 20000 in
theorem gX5_agrees_X5_minutesOf : GoodIn wsX5_agrees (wsV RX5 150 RX5 yX5_minutesOf wsX5_minutesOf) := goodIn_app (goodIn_of _ (by decide +kernel)) ggX5_agrees_X5_minutesOf
theorem dX5_agrees_0 : decode cX5_agrees 0 = .ok (.iconst 0, 1) := by decide +kernel
theorem dX5_agrees_1 : decode cX5_agrees 1 = .ok (.istore_n 1, 1) := by decide +kernel
theorem dX5_agrees_2 : decode cX5_agrees 2 = .ok (.iconst 0, 1) := by decide +kernel
theorem dX5_agrees_3 : decode cX5_agrees 3 = .ok (.istore_n 2, 1) := by decide +kernel
theorem dX5_agrees_4 : decode cX5_agrees 4 = .ok (.iload_n 2, 1) := by decide +kernel
theorem dX5_agrees_5 : decode cX5_agrees 5 = .ok (.bipush 30, 2) := by decide +kernel
theorem dX5_agrees_7 : decode cX5_agrees 7 = .ok (.if_icmp .ge 34, 3) := by decide +kernel
theorem dX5_agrees_10 : decode cX5_agrees 10 = .ok (.iload_n 1, 1) := by decide +kernel
theorem dX5_agrees_11 : decode cX5_agrees 11 = .ok (.aload_n 0, 1) := by decide +kernel
theorem dX5_agrees_12 : decode cX5_agrees 12 = .ok (.getfield 33, 3) := by decide +kernel
theorem dX5_agrees_15 : decode cX5_agrees 15 = .ok (.getfield 119, 3) := by decide +kernel
theorem dX5_agrees_18 : decode cX5_agrees 18 = .ok (.iload_n 2, 1) := by decide +kernel
theorem dX5_agrees_19 : decode cX5_agrees 19 = .ok (.iaload, 1) := by decide +kernel
theorem dX5_agrees_20 : decode cX5_agrees 20 = .ok (.aload_n 0, 1) := by decide +kernel
theorem dX5_agrees_21 : decode cX5_agrees 21 = .ok (.getfield 33, 3) := by decide +kernel
theorem dX5_agrees_24 : decode cX5_agrees 24 = .ok (.iload_n 2, 1) := by decide +kernel
theorem dX5_agrees_25 : decode cX5_agrees 25 = .ok (.aload_n 0, 1) := by decide +kernel
theorem dX5_agrees_26 : decode cX5_agrees 26 = .ok (.getfield 44, 3) := by decide +kernel
theorem dX5_agrees_29 : decode cX5_agrees 29 = .ok (.invokevirtual 122, 3) := by decide +kernel
theorem dX5_agrees_32 : decode cX5_agrees 32 = .ok (.iadd, 1) := by decide +kernel
theorem dX5_agrees_33 : decode cX5_agrees 33 = .ok (.iadd, 1) := by decide +kernel
theorem dX5_agrees_34 : decode cX5_agrees 34 = .ok (.istore_n 1, 1) := by decide +kernel
theorem dX5_agrees_35 : decode cX5_agrees 35 = .ok (.iinc 2 1, 3) := by decide +kernel
theorem dX5_agrees_38 : decode cX5_agrees 38 = .ok (.goto (-34), 3) := by decide +kernel
theorem dX5_agrees_41 : decode cX5_agrees 41 = .ok (.iconst 0, 1) := by decide +kernel
theorem dX5_agrees_42 : decode cX5_agrees 42 = .ok (.istore_n 2, 1) := by decide +kernel
theorem dX5_agrees_43 : decode cX5_agrees 43 = .ok (.iconst 0, 1) := by decide +kernel
theorem dX5_agrees_44 : decode cX5_agrees 44 = .ok (.istore_n 3, 1) := by decide +kernel
theorem dX5_agrees_45 : decode cX5_agrees 45 = .ok (.iload_n 3, 1) := by decide +kernel
theorem dX5_agrees_46 : decode cX5_agrees 46 = .ok (.bipush 10, 2) := by decide +kernel
theorem dX5_agrees_48 : decode cX5_agrees 48 = .ok (.if_icmp .ge 17, 3) := by decide +kernel
theorem dX5_agrees_51 : decode cX5_agrees 51 = .ok (.iload_n 2, 1) := by decide +kernel
theorem dX5_agrees_52 : decode cX5_agrees 52 = .ok (.aload_n 0, 1) := by decide +kernel
theorem dX5_agrees_53 : decode cX5_agrees 53 = .ok (.iload_n 3, 1) := by decide +kernel
theorem dX5_agrees_54 : decode cX5_agrees 54 = .ok (.invokevirtual 150, 3) := by decide +kernel
theorem dX5_agrees_57 : decode cX5_agrees 57 = .ok (.iadd, 1) := by decide +kernel
theorem dX5_agrees_58 : decode cX5_agrees 58 = .ok (.istore_n 2, 1) := by decide +kernel
theorem dX5_agrees_59 : decode cX5_agrees 59 = .ok (.iinc 3 1, 3) := by decide +kernel
theorem dX5_agrees_62 : decode cX5_agrees 62 = .ok (.goto (-17), 3) := by decide +kernel
theorem dX5_agrees_65 : decode cX5_agrees 65 = .ok (.iload_n 1, 1) := by decide +kernel
theorem dX5_agrees_66 : decode cX5_agrees 66 = .ok (.iload_n 2, 1) := by decide +kernel
theorem dX5_agrees_67 : decode cX5_agrees 67 = .ok (.if_icmp .ne 7, 3) := by decide +kernel
theorem dX5_agrees_70 : decode cX5_agrees 70 = .ok (.iconst 1, 1) := by decide +kernel
theorem dX5_agrees_71 : decode cX5_agrees 71 = .ok (.goto 4, 3) := by decide +kernel
theorem dX5_agrees_74 : decode cX5_agrees 74 = .ok (.iconst 0, 1) := by decide +kernel
theorem dX5_agrees_75 : decode cX5_agrees 75 = .ok (.ireturn, 1) := by decide +kernel
theorem dX5_needStation_0 : decode cX5_needStation 0 = .ok (.iload_n 0, 1) := by decide +kernel
theorem dX5_needStation_1 : decode cX5_needStation 1 = .ok (.ifCond .lt 9, 3) := by decide +kernel
theorem dX5_needStation_4 : decode cX5_needStation 4 = .ok (.iload_n 0, 1) := by decide +kernel
theorem dX5_needStation_5 : decode cX5_needStation 5 = .ok (.bipush 8, 2) := by decide +kernel
theorem dX5_needStation_7 : decode cX5_needStation 7 = .ok (.if_icmp .lt 13, 3) := by decide +kernel
theorem dX5_needStation_10 : decode cX5_needStation 10 = .ok (.new 173, 3) := by decide +kernel
theorem dX5_needStation_13 : decode cX5_needStation 13 = .ok (.dup, 1) := by decide +kernel
theorem dX5_needStation_14 : decode cX5_needStation 14 = .ok (.ldc 175, 2) := by decide +kernel
theorem dX5_needStation_16 : decode cX5_needStation 16 = .ok (.invokespecial 177, 3) := by decide +kernel
theorem dX5_needStation_19 : decode cX5_needStation 19 = .ok (.athrow, 1) := by decide +kernel
theorem dX5_needStation_20 : decode cX5_needStation 20 = .ok (.return_, 1) := by decide +kernel
theorem dX5_needCycle_0 : decode cX5_needCycle 0 = .ok (.iload_n 0, 1) := by decide +kernel
theorem dX5_needCycle_1 : decode cX5_needCycle 1 = .ok (.ifCond .lt 9, 3) := by decide +kernel
theorem dX5_needCycle_4 : decode cX5_needCycle 4 = .ok (.iload_n 0, 1) := by decide +kernel
theorem dX5_needCycle_5 : decode cX5_needCycle 5 = .ok (.bipush 30, 2) := by decide +kernel
theorem dX5_needCycle_7 : decode cX5_needCycle 7 = .ok (.if_icmp .lt 13, 3) := by decide +kernel
theorem dX5_needCycle_10 : decode cX5_needCycle 10 = .ok (.new 173, 3) := by decide +kernel
theorem dX5_needCycle_13 : decode cX5_needCycle 13 = .ok (.dup, 1) := by decide +kernel
theorem dX5_needCycle_14 : decode cX5_needCycle 14 = .ok (.ldc 178, 2) := by decide +kernel
theorem dX5_needCycle_16 : decode cX5_needCycle 16 = .ok (.invokespecial 177, 3) := by decide +kernel
theorem dX5_needCycle_19 : decode cX5_needCycle 19 = .ok (.athrow, 1) := by decide +kernel
theorem dX5_needCycle_20 : decode cX5_needCycle 20 = .ok (.return_, 1) := by decide +kernel
theorem dX5_needRider_0 : decode cX5_needRider 0 = .ok (.iload_n 0, 1) := by decide +kernel
theorem dX5_needRider_1 : decode cX5_needRider 1 = .ok (.ifCond .lt 9, 3) := by decide +kernel
theorem dX5_needRider_4 : decode cX5_needRider 4 = .ok (.iload_n 0, 1) := by decide +kernel
theorem dX5_needRider_5 : decode cX5_needRider 5 = .ok (.bipush 10, 2) := by decide +kernel
theorem dX5_needRider_7 : decode cX5_needRider 7 = .ok (.if_icmp .lt 13, 3) := by decide +kernel
theorem dX5_needRider_10 : decode cX5_needRider 10 = .ok (.new 173, 3) := by decide +kernel
theorem dX5_needRider_13 : decode cX5_needRider 13 = .ok (.dup, 1) := by decide +kernel
theorem dX5_needRider_14 : decode cX5_needRider 14 = .ok (.ldc 180, 2) := by decide +kernel
theorem dX5_needRider_16 : decode cX5_needRider 16 = .ok (.invokespecial 177, 3) := by decide +kernel
theorem dX5_needRider_19 : decode cX5_needRider 19 = .ok (.athrow, 1) := by decide +kernel
theorem dX5_needRider_20 : decode cX5_needRider 20 = .ok (.return_, 1) := by decide +kernel
theorem dX5_needUpTo_0 : decode cX5_needUpTo 0 = .ok (.iload_n 0, 1) := by decide +kernel
theorem dX5_needUpTo_1 : decode cX5_needUpTo 1 = .ok (.ifCond .lt 8, 3) := by decide +kernel
theorem dX5_needUpTo_4 : decode cX5_needUpTo 4 = .ok (.iload_n 0, 1) := by decide +kernel
theorem dX5_needUpTo_5 : decode cX5_needUpTo 5 = .ok (.iload_n 1, 1) := by decide +kernel
theorem dX5_needUpTo_6 : decode cX5_needUpTo 6 = .ok (.if_icmp .le 13, 3) := by decide +kernel
theorem dX5_needUpTo_9 : decode cX5_needUpTo 9 = .ok (.new 78, 3) := by decide +kernel
theorem dX5_needUpTo_12 : decode cX5_needUpTo 12 = .ok (.dup, 1) := by decide +kernel
theorem dX5_needUpTo_13 : decode cX5_needUpTo 13 = .ok (.ldc 182, 2) := by decide +kernel
theorem dX5_needUpTo_15 : decode cX5_needUpTo 15 = .ok (.invokespecial 82, 3) := by decide +kernel
theorem dX5_needUpTo_18 : decode cX5_needUpTo 18 = .ok (.athrow, 1) := by decide +kernel
theorem dX5_needUpTo_19 : decode cX5_needUpTo 19 = .ok (.return_, 1) := by decide +kernel
theorem dX5_needHearableMinute_0 : decode cX5_needHearableMinute 0 = .ok (.iload_n 1, 1) := by decide +kernel
theorem dX5_needHearableMinute_1 : decode cX5_needHearableMinute 1 = .ok (.iconst 0, 1) := by decide +kernel
theorem dX5_needHearableMinute_2 : decode cX5_needHearableMinute 2 = .ok (.aload_n 0, 1) := by decide +kernel
theorem dX5_needHearableMinute_3 : decode cX5_needHearableMinute 3 = .ok (.getfield 44, 3) := by decide +kernel
theorem dX5_needHearableMinute_6 : decode cX5_needHearableMinute 6 = .ok (.bipush 60, 2) := by decide +kernel
theorem dX5_needHearableMinute_8 : decode cX5_needHearableMinute 8 = .ok (.isub, 1) := by decide +kernel
theorem dX5_needHearableMinute_9 : decode cX5_needHearableMinute 9 = .ok (.invokestatic 184, 3) := by decide +kernel
theorem dX5_needHearableMinute_12 : decode cX5_needHearableMinute 12 = .ok (.if_icmp .lt 11, 3) := by decide +kernel
theorem dX5_needHearableMinute_15 : decode cX5_needHearableMinute 15 = .ok (.iload_n 1, 1) := by decide +kernel
theorem dX5_needHearableMinute_16 : decode cX5_needHearableMinute 16 = .ok (.aload_n 0, 1) := by decide +kernel
theorem dX5_needHearableMinute_17 : decode cX5_needHearableMinute 17 = .ok (.getfield 44, 3) := by decide +kernel
theorem dX5_needHearableMinute_20 : decode cX5_needHearableMinute 20 = .ok (.if_icmp .le 13, 3) := by decide +kernel
theorem dX5_needHearableMinute_23 : decode cX5_needHearableMinute 23 = .ok (.new 78, 3) := by decide +kernel
theorem dX5_needHearableMinute_26 : decode cX5_needHearableMinute 26 = .ok (.dup, 1) := by decide +kernel
theorem dX5_needHearableMinute_27 : decode cX5_needHearableMinute 27 = .ok (.ldc 189, 2) := by decide +kernel
theorem dX5_needHearableMinute_29 : decode cX5_needHearableMinute 29 = .ok (.invokespecial 82, 3) := by decide +kernel
theorem dX5_needHearableMinute_32 : decode cX5_needHearableMinute 32 = .ok (.athrow, 1) := by decide +kernel
theorem dX5_needHearableMinute_33 : decode cX5_needHearableMinute 33 = .ok (.return_, 1) := by decide +kernel
set_option maxRecDepth 20000 in
theorem ggX5_needRoom_X4_isFull : GoodIn wsX5_needRoom wsX4_isFull := goodIn_r _ [8, 9, 19, 20, 21, 22, 23] rfl (by decide +kernel)
set_option maxRecDepth 20000 in
theorem gX5_needRoom_X4_isFull : GoodIn wsX5_needRoom (wsV RX5 191 RX4 yX4_isFull wsX4_isFull) := goodIn_app (goodIn_of _ (by decide +kernel)) ggX5_needRoom_X4_isFull
theorem dX5_needRoom_0 : decode cX5_needRoom 0 = .ok (.aload_n 0, 1) := by decide +kernel
theorem dX5_needRoom_1 : decode cX5_needRoom 1 = .ok (.getfield 10, 3) := by decide +kernel
theorem dX5_needRoom_4 : decode cX5_needRoom 4 = .ok (.invokevirtual 191, 3) := by decide +kernel
theorem dX5_needRoom_7 : decode cX5_needRoom 7 = .ok (.ifCond .eq 13, 3) := by decide +kernel
theorem dX5_needRoom_10 : decode cX5_needRoom 10 = .ok (.new 85, 3) := by decide +kernel
theorem dX5_needRoom_13 : decode cX5_needRoom 13 = .ok (.dup, 1) := by decide +kernel
theorem dX5_needRoom_14 : decode cX5_needRoom 14 = .ok (.ldc 195, 2) := by decide +kernel
theorem dX5_needRoom_16 : decode cX5_needRoom 16 = .ok (.invokespecial 89, 3) := by decide +kernel
theorem dX5_needRoom_19 : decode cX5_needRoom 19 = .ok (.athrow, 1) := by decide +kernel
theorem dX5_needRoom_20 : decode cX5_needRoom 20 = .ok (.return_, 1) := by decide +kernel
set_option maxRecDepth 20000 in
theorem ggX5_hearOnce_X4_tells : GoodIn wsX5_hearOnce wsX4_tells := goodIn_r _ [6, 7, 8, 9, 10, 11, 195, 196, 197, 198, 199] rfl (by decide +kernel)
set_option maxRecDepth 20000 in
theorem gX5_hearOnce_X4_tells : GoodIn wsX5_hearOnce (wsV RX5 197 RX4 yX4_tells wsX4_tells) := goodIn_app (goodIn_of _ (by decide +kernel)) ggX5_hearOnce_X4_tells
set_option maxRecDepth 20000 in
theorem ggX5_hearOnce_X5_hear : GoodIn wsX5_hearOnce wsX5_hear := goodIn_r _ [16, 1, 17, 18, 19, 20, 21, 22, 5, 23, 7, 11, 8, 24, 25, 26, 27, 9, 10, 28, 29, 30, 31, 32, 33, 34, 15, 35, 36, 37, 38, 39, 40, 41, 42, 43, 44, 45, 46, 47, 48, 49, 50, 51, 52, 53, 54, 55, 56, 57, 58, 59, 60, 61, 62, 63, 64, 65, 66, 67, 68, 69, 70, 71, 72, 73, 74, 75, 76, 77, 78, 79, 80, 81, 82, 83, 84, 85, 86, 87, 88, 89, 90, 91, 92, 93, 94, 95, 96, 97, 98, 99, 100, 101, 102, 103, 104, 105, 106, 107, 108, 109, 110, 111, 112, 113, 114, 115, 116, 117, 118, 119, 120, 121, 122, 123, 124, 125, 126, 127, 128, 129, 130, 131, 132, 133, 134, 135, 136, 137, 138, 139, 140, 141, 142, 143, 144, 145, 146, 147, 148, 149, 150, 151, 152, 153, 154, 155, 156, 157, 158, 159, 160, 161, 162, 163, 164, 165, 166, 167, 168, 169, 170, 171, 172, 173, 174, 175, 176, 177, 178, 179, 180, 181, 182, 183, 184, 185, 186, 187, 188, 189, 190, 191, 192, 193, 194, 195, 196, 197, 198, 199, 200, 201, 202, 203, 204, 205, 206, 207, 208, 209, 210, 211, 212, 213, 214, 215, 216] rfl (by decide +kernel)
set_option maxRecDepth 20000 in
theorem gX5_hearOnce_X5_hear : GoodIn wsX5_hearOnce (wsV RX5 93 RX5 yX5_hear wsX5_hear) := goodIn_app (goodIn_of _ (by decide +kernel)) ggX5_hearOnce_X5_hear
theorem dX5_hearOnce_0 : decode cX5_hearOnce 0 = .ok (.aload_n 0, 1) := by decide +kernel
theorem dX5_hearOnce_1 : decode cX5_hearOnce 1 = .ok (.getfield 10, 3) := by decide +kernel
theorem dX5_hearOnce_4 : decode cX5_hearOnce 4 = .ok (.iload_n 1, 1) := by decide +kernel
theorem dX5_hearOnce_5 : decode cX5_hearOnce 5 = .ok (.iload_n 2, 1) := by decide +kernel
theorem dX5_hearOnce_6 : decode cX5_hearOnce 6 = .ok (.iload_n 3, 1) := by decide +kernel
theorem dX5_hearOnce_7 : decode cX5_hearOnce 7 = .ok (.iload 4, 2) := by decide +kernel
theorem dX5_hearOnce_9 : decode cX5_hearOnce 9 = .ok (.invokevirtual 197, 3) := by decide +kernel
theorem dX5_hearOnce_12 : decode cX5_hearOnce 12 = .ok (.ifCond .eq 5, 3) := by decide +kernel
theorem dX5_hearOnce_15 : decode cX5_hearOnce 15 = .ok (.iconst 0, 1) := by decide +kernel
theorem dX5_hearOnce_16 : decode cX5_hearOnce 16 = .ok (.ireturn, 1) := by decide +kernel
theorem dX5_hearOnce_17 : decode cX5_hearOnce 17 = .ok (.aload_n 0, 1) := by decide +kernel
theorem dX5_hearOnce_18 : decode cX5_hearOnce 18 = .ok (.iload_n 1, 1) := by decide +kernel
theorem dX5_hearOnce_19 : decode cX5_hearOnce 19 = .ok (.iload_n 2, 1) := by decide +kernel
theorem dX5_hearOnce_20 : decode cX5_hearOnce 20 = .ok (.iload_n 3, 1) := by decide +kernel
theorem dX5_hearOnce_21 : decode cX5_hearOnce 21 = .ok (.iload 4, 2) := by decide +kernel
theorem dX5_hearOnce_23 : decode cX5_hearOnce 23 = .ok (.invokevirtual 93, 3) := by decide +kernel
theorem dX5_hearOnce_26 : decode cX5_hearOnce 26 = .ok (.pop, 1) := by decide +kernel
theorem dX5_hearOnce_27 : decode cX5_hearOnce 27 = .ok (.iconst 1, 1) := by decide +kernel
theorem dX5_hearOnce_28 : decode cX5_hearOnce 28 = .ok (.ireturn, 1) := by decide +kernel
set_option maxRecDepth 20000 in
theorem ggX5_hear_X4_insert : GoodIn wsX5_hear wsX4_insert := goodIn_r _ [9, 10, 11, 12, 13, 14, 15, 16, 17, 18, 19, 20, 21, 8, 22, 187, 188, 189, 190, 191] rfl (by decide +kernel)
set_option maxRecDepth 20000 in
theorem gX5_hear_X4_insert : GoodIn wsX5_hear (wsV RX5 200 RX4 yX4_insert wsX4_insert) := goodIn_app (goodIn_of _ (by decide +kernel)) ggX5_hear_X4_insert
set_option maxRecDepth 20000 in
theorem ggX5_hear_X5_beginAnew : GoodIn wsX5_hear wsX5_beginAnew := goodIn_r _ [27, 2, 4, 28, 29, 30, 31, 32, 33, 34, 35, 36, 37, 38, 39, 40, 41, 42, 43, 44, 45, 46, 47, 48, 49, 50, 51, 52, 53, 54, 55, 56, 57, 58, 59, 60, 61, 62, 63, 64, 65, 66, 67, 68, 69, 178, 179, 180, 181, 182, 183, 184, 185, 186, 192, 193, 194, 195, 196, 197, 198, 199, 200, 201, 202, 203, 204, 205, 206, 207, 208] rfl (by decide +kernel)
set_option maxRecDepth 20000 in
theorem gX5_hear_X5_beginAnew : GoodIn wsX5_hear (wsV RX5 57 RX5 yX5_beginAnew wsX5_beginAnew) := goodIn_app (goodIn_of _ (by decide +kernel)) ggX5_hear_X5_beginAnew
set_option maxRecDepth 20000 in
theorem ggX5_hear_X5_happens : GoodIn wsX5_hear wsX5_happens := goodIn_r _ [73, 1, 74, 75, 76, 29, 77, 78, 30, 28, 79, 80, 81, 35, 82, 39, 40, 83, 84, 85, 86, 38, 87, 88, 89, 26, 90, 91, 92, 93, 94, 95, 37, 96, 97, 98, 99, 100, 101, 102, 103, 104, 105, 106, 107, 108, 109, 110, 111, 112, 113, 114, 115, 116, 48, 117, 52, 118, 119, 120, 121, 122, 123, 124, 125, 126, 127, 128, 129, 130, 131, 31, 132, 133, 134, 135, 136, 137, 138, 139, 140, 141, 142, 143, 50, 54, 144, 145, 146, 147, 55, 56, 148, 149, 150, 151, 152, 153, 154, 155, 156, 157, 61, 158, 159, 160, 161, 162, 68, 67, 163, 164, 165, 166, 167, 168, 169, 170, 171, 172, 173, 174, 175, 176, 177, 178, 179, 180, 181, 182, 183, 184, 185, 186, 187, 188, 189, 190, 191, 192, 193, 194, 195, 196, 197, 198, 199, 200, 201, 202, 203, 204, 205, 206, 207, 208] rfl (by decide +kernel)
set_option maxRecDepth 20000 in
theorem gX5_hear_X5_happens : GoodIn wsX5_hear (wsV RX5 207 RX5 yX5_happens wsX5_happens) := goodIn_app (goodIn_of _ (by decide +kernel)) ggX5_hear_X5_happens
theorem dX5_hear_0 : decode cX5_hear 0 = .ok (.aload_n 0, 1) := by decide +kernel
theorem dX5_hear_1 : decode cX5_hear 1 = .ok (.getfield 10, 3) := by decide +kernel
theorem dX5_hear_4 : decode cX5_hear 4 = .ok (.iload_n 1, 1) := by decide +kernel
theorem dX5_hear_5 : decode cX5_hear 5 = .ok (.iload_n 2, 1) := by decide +kernel
theorem dX5_hear_6 : decode cX5_hear 6 = .ok (.iload_n 3, 1) := by decide +kernel
theorem dX5_hear_7 : decode cX5_hear 7 = .ok (.iload 4, 2) := by decide +kernel
theorem dX5_hear_9 : decode cX5_hear 9 = .ok (.invokevirtual 200, 3) := by decide +kernel
theorem dX5_hear_12 : decode cX5_hear 12 = .ok (.aload_n 0, 1) := by decide +kernel
theorem dX5_hear_13 : decode cX5_hear 13 = .ok (.getfield 48, 3) := by decide +kernel
theorem dX5_hear_16 : decode cX5_hear 16 = .ok (.if_icmp .ge 7, 3) := by decide +kernel
theorem dX5_hear_19 : decode cX5_hear 19 = .ok (.aload_n 0, 1) := by decide +kernel
theorem dX5_hear_20 : decode cX5_hear 20 = .ok (.invokevirtual 57, 3) := by decide +kernel
theorem dX5_hear_23 : decode cX5_hear 23 = .ok (.iconst 1, 1) := by decide +kernel
theorem dX5_hear_24 : decode cX5_hear 24 = .ok (.istore 5, 2) := by decide +kernel
theorem dX5_hear_26 : decode cX5_hear 26 = .ok (.aload_n 0, 1) := by decide +kernel
theorem dX5_hear_27 : decode cX5_hear 27 = .ok (.getfield 10, 3) := by decide +kernel
theorem dX5_hear_30 : decode cX5_hear 30 = .ok (.getfield 204, 3) := by decide +kernel
theorem dX5_hear_33 : decode cX5_hear 33 = .ok (.istore 6, 2) := by decide +kernel
theorem dX5_hear_35 : decode cX5_hear 35 = .ok (.aload_n 0, 1) := by decide +kernel
theorem dX5_hear_36 : decode cX5_hear 36 = .ok (.getfield 48, 3) := by decide +kernel
theorem dX5_hear_39 : decode cX5_hear 39 = .ok (.istore 7, 2) := by decide +kernel
theorem dX5_hear_41 : decode cX5_hear 41 = .ok (.iload 7, 2) := by decide +kernel
theorem dX5_hear_43 : decode cX5_hear 43 = .ok (.iload 6, 2) := by decide +kernel
theorem dX5_hear_45 : decode cX5_hear 45 = .ok (.if_icmp .ge 32, 3) := by decide +kernel
theorem dX5_hear_48 : decode cX5_hear 48 = .ok (.aload_n 0, 1) := by decide +kernel
theorem dX5_hear_49 : decode cX5_hear 49 = .ok (.iload 7, 2) := by decide +kernel
theorem dX5_hear_51 : decode cX5_hear 51 = .ok (.invokevirtual 207, 3) := by decide +kernel
theorem dX5_hear_54 : decode cX5_hear 54 = .ok (.istore 5, 2) := by decide +kernel
theorem dX5_hear_56 : decode cX5_hear 56 = .ok (.iload 5, 2) := by decide +kernel
theorem dX5_hear_58 : decode cX5_hear 58 = .ok (.ifCond .ne 13, 3) := by decide +kernel
theorem dX5_hear_61 : decode cX5_hear 61 = .ok (.aload_n 0, 1) := by decide +kernel
theorem dX5_hear_62 : decode cX5_hear 62 = .ok (.dup, 1) := by decide +kernel
theorem dX5_hear_63 : decode cX5_hear 63 = .ok (.getfield 51, 3) := by decide +kernel
theorem dX5_hear_66 : decode cX5_hear 66 = .ok (.iconst 1, 1) := by decide +kernel
theorem dX5_hear_67 : decode cX5_hear 67 = .ok (.iadd, 1) := by decide +kernel
theorem dX5_hear_68 : decode cX5_hear 68 = .ok (.putfield 51, 3) := by decide +kernel
theorem dX5_hear_71 : decode cX5_hear 71 = .ok (.iinc 7 1, 3) := by decide +kernel
theorem dX5_hear_74 : decode cX5_hear 74 = .ok (.goto (-33), 3) := by decide +kernel
theorem dX5_hear_77 : decode cX5_hear 77 = .ok (.aload_n 0, 1) := by decide +kernel
theorem dX5_hear_78 : decode cX5_hear 78 = .ok (.iload 6, 2) := by decide +kernel
theorem dX5_hear_80 : decode cX5_hear 80 = .ok (.putfield 48, 3) := by decide +kernel
theorem dX5_hear_83 : decode cX5_hear 83 = .ok (.iload 5, 2) := by decide +kernel
theorem dX5_hear_85 : decode cX5_hear 85 = .ok (.ireturn, 1) := by decide +kernel
set_option maxRecDepth 20000 in
theorem ggX5_beginAnew_X3_clear : GoodIn wsX5_beginAnew wsX3_clear := goodIn_r _ [11, 12, 13, 14, 15, 16, 17, 18, 19, 54, 55, 56, 57] rfl (by decide +kernel)
set_option maxRecDepth 20000 in
theorem gX5_beginAnew_X3_clear : GoodIn wsX5_beginAnew (wsV RX5 210 RX3 yX3_clear wsX3_clear) := goodIn_app (goodIn_of _ (by decide +kernel)) ggX5_beginAnew_X3_clear
set_option maxRecDepth 20000 in
theorem ggX5_beginAnew_X0_clear : GoodIn wsX5_beginAnew wsX0_clear := goodIn_r _ [24, 25, 26, 27, 28, 29, 30, 31, 32, 17, 18, 19, 58, 59, 60, 61, 62, 63, 64] rfl (by decide +kernel)
set_option maxRecDepth 20000 in
theorem gX5_beginAnew_X0_clear : GoodIn wsX5_beginAnew (wsV RX5 213 RX0 yX0_clear wsX0_clear) := goodIn_app (goodIn_of _ (by decide +kernel)) ggX5_beginAnew_X0_clear
set_option maxRecDepth 20000 in
theorem ggX5_beginAnew_X2_clear : GoodIn wsX5_beginAnew wsX2_clear := goodIn_r _ [37, 38, 39, 40, 41, 42, 43, 44, 17, 18, 19, 65, 66, 67, 68, 69, 70] rfl (by decide +kernel)
set_option maxRecDepth 20000 in
theorem gX5_beginAnew_X2_clear : GoodIn wsX5_beginAnew (wsV RX5 214 RX2 yX2_clear wsX2_clear) := goodIn_app (goodIn_of _ (by decide +kernel)) ggX5_beginAnew_X2_clear
theorem dX5_beginAnew_0 : decode cX5_beginAnew 0 = .ok (.aload_n 0, 1) := by decide +kernel
theorem dX5_beginAnew_1 : decode cX5_beginAnew 1 = .ok (.iconst 0, 1) := by decide +kernel
theorem dX5_beginAnew_2 : decode cX5_beginAnew 2 = .ok (.putfield 48, 3) := by decide +kernel
theorem dX5_beginAnew_5 : decode cX5_beginAnew 5 = .ok (.aload_n 0, 1) := by decide +kernel
theorem dX5_beginAnew_6 : decode cX5_beginAnew 6 = .ok (.iconst 0, 1) := by decide +kernel
theorem dX5_beginAnew_7 : decode cX5_beginAnew 7 = .ok (.putfield 51, 3) := by decide +kernel
theorem dX5_beginAnew_10 : decode cX5_beginAnew 10 = .ok (.aload_n 0, 1) := by decide +kernel
theorem dX5_beginAnew_11 : decode cX5_beginAnew 11 = .ok (.iconst 1, 1) := by decide +kernel
theorem dX5_beginAnew_12 : decode cX5_beginAnew 12 = .ok (.putfield 54, 3) := by decide +kernel
theorem dX5_beginAnew_15 : decode cX5_beginAnew 15 = .ok (.aload_n 0, 1) := by decide +kernel
theorem dX5_beginAnew_16 : decode cX5_beginAnew 16 = .ok (.getfield 26, 3) := by decide +kernel
theorem dX5_beginAnew_19 : decode cX5_beginAnew 19 = .ok (.invokevirtual 210, 3) := by decide +kernel
theorem dX5_beginAnew_22 : decode cX5_beginAnew 22 = .ok (.aload_n 0, 1) := by decide +kernel
theorem dX5_beginAnew_23 : decode cX5_beginAnew 23 = .ok (.getfield 33, 3) := by decide +kernel
theorem dX5_beginAnew_26 : decode cX5_beginAnew 26 = .ok (.invokevirtual 213, 3) := by decide +kernel
theorem dX5_beginAnew_29 : decode cX5_beginAnew 29 = .ok (.aload_n 0, 1) := by decide +kernel
theorem dX5_beginAnew_30 : decode cX5_beginAnew 30 = .ok (.getfield 40, 3) := by decide +kernel
theorem dX5_beginAnew_33 : decode cX5_beginAnew 33 = .ok (.invokevirtual 214, 3) := by decide +kernel
theorem dX5_beginAnew_36 : decode cX5_beginAnew 36 = .ok (.return_, 1) := by decide +kernel
set_option maxRecDepth 20000 in
theorem ggX5_happens_X3_countEmptyUntil : GoodIn wsX5_happens wsX3_countEmptyUntil := goodIn_r _ [14, 15, 16, 17, 18, 19, 13, 20, 21, 139, 140, 141, 142] rfl (by decide +kernel)
set_option maxRecDepth 20000 in
theorem gX5_happens_X3_countEmptyUntil : GoodIn wsX5_happens (wsV RX5 224 RX3 yX3_countEmptyUntil wsX3_countEmptyUntil) := goodIn_app (goodIn_of _ (by decide +kernel)) ggX5_happens_X3_countEmptyUntil
set_option maxRecDepth 20000 in
theorem ggX5_happens_X5_bePut : GoodIn wsX5_happens wsX5_bePut := goodIn_r _ [26, 8, 27, 5, 28, 29, 30, 13, 31, 32, 21, 33, 34, 35, 36, 37, 38, 39, 25, 40, 41, 42, 125, 126, 127, 128, 129, 130, 131, 132, 133, 143, 144, 145, 146, 147, 148, 149, 139, 140, 141, 142] rfl (by decide +kernel)
set_option maxRecDepth 20000 in
theorem gX5_happens_X5_bePut : GoodIn wsX5_happens (wsV RX5 230 RX5 yX5_bePut wsX5_bePut) := goodIn_app (goodIn_of _ (by decide +kernel)) ggX5_happens_X5_bePut
set_option maxRecDepth 20000 in
theorem ggX5_happens_X5_beTaken : GoodIn wsX5_happens wsX5_beTaken := goodIn_r _ [46, 8, 27, 5, 42, 41, 125, 126, 127, 128, 129, 130, 131, 132, 133, 143, 144, 145, 146, 147, 148, 149, 139, 140, 141, 142] rfl (by decide +kernel)
set_option maxRecDepth 20000 in
theorem gX5_happens_X5_beTaken : GoodIn wsX5_happens (wsV RX5 234 RX5 yX5_beTaken wsX5_beTaken) := goodIn_app (goodIn_of _ (by decide +kernel)) ggX5_happens_X5_beTaken
set_option maxRecDepth 20000 in
theorem ggX5_happens_X5_beUnlocked : GoodIn wsX5_happens wsX5_beUnlocked := goodIn_r _ [50, 8, 27, 41, 5, 42, 51, 52, 53, 54, 55, 56, 57, 58, 59, 60, 61, 62, 63, 64, 65, 66, 25, 67, 68, 69, 9, 70, 71, 72, 73, 74, 75, 76, 77, 78, 79, 80, 81, 82, 83, 84, 85, 86, 87, 88, 89, 90, 91, 92, 34, 35, 36, 125, 126, 127, 128, 129, 130, 131, 132, 133, 143, 144, 145, 146, 147, 148, 149, 139, 140, 141, 142, 150, 151, 152, 153, 154, 155] rfl (by decide +kernel)
set_option maxRecDepth 20000 in
theorem gX5_happens_X5_beUnlocked : GoodIn wsX5_happens (wsV RX5 237 RX5 yX5_beUnlocked wsX5_beUnlocked) := goodIn_app (goodIn_of _ (by decide +kernel)) ggX5_happens_X5_beUnlocked
set_option maxRecDepth 20000 in
theorem ggX5_happens_X5_beLocked : GoodIn wsX5_happens wsX5_beLocked := goodIn_r _ [96, 8, 27, 41, 5, 71, 97, 70, 98, 28, 29, 30, 13, 31, 32, 21, 33, 34, 35, 36, 99, 100, 101, 102, 103, 104, 105, 106, 107, 108, 109, 110, 73, 74, 75, 25, 76, 77, 78, 79, 80, 81, 82, 54, 83, 84, 85, 86, 87, 88, 89, 90, 91, 92, 37, 38, 39, 40, 42, 125, 126, 127, 128, 129, 130, 131, 132, 133, 143, 144, 145, 146, 147, 148, 149, 150, 151, 152, 153, 154, 155, 139, 140, 141, 142] rfl (by decide +kernel)
set_option maxRecDepth 20000 in
theorem gX5_happens_X5_beLocked : GoodIn wsX5_happens (wsV RX5 241 RX5 yX5_beLocked wsX5_beLocked) := goodIn_app (goodIn_of _ (by decide +kernel)) ggX5_happens_X5_beLocked
set_option maxRecDepth 20000 in
theorem ggX5_happens_X0_addFault : GoodIn wsX5_happens wsX0_addFault := goodIn_r _ [114, 56, 143, 144, 145, 146, 147, 148, 149] rfl (by decide +kernel)
set_option maxRecDepth 20000 in
theorem gX5_happens_X0_addFault : GoodIn wsX5_happens (wsV RX5 244 RX0 yX0_addFault wsX0_addFault) := goodIn_app (goodIn_of _ (by decide +kernel)) ggX5_happens_X0_addFault
set_option maxRecDepth 20000 in
theorem ggX5_happens_X5_beMended : GoodIn wsX5_happens wsX5_beMended := goodIn_r _ [118, 8, 27, 119, 125, 126, 127, 128, 129, 130, 131, 132, 133, 143, 144, 145, 146, 147, 148, 149] rfl (by decide +kernel)
set_option maxRecDepth 20000 in
theorem gX5_happens_X5_beMended : GoodIn wsX5_happens (wsV RX5 247 RX5 yX5_beMended wsX5_beMended) := goodIn_app (goodIn_of _ (by decide +kernel)) ggX5_happens_X5_beMended
set_option maxRecDepth 20000 in
theorem ggX5_happens_X5_bePromised : GoodIn wsX5_happens wsX5_bePromised := goodIn_r _ [123, 5, 71, 97, 124, 28, 29, 30, 13, 31, 32, 21, 33, 34, 35, 36, 99, 100, 101, 102, 103, 104, 105, 106, 107, 108, 109, 125, 126, 127, 128, 129, 130, 131, 132, 133, 150, 151, 152, 153, 154, 155, 139, 140, 141, 142] rfl (by decide +kernel)
set_option maxRecDepth 20000 in
theorem gX5_happens_X5_bePromised : GoodIn wsX5_happens (wsV RX5 250 RX5 yX5_bePromised wsX5_bePromised) := goodIn_app (goodIn_of _ (by decide +kernel)) ggX5_happens_X5_bePromised
theorem dX5_happens_0 : decode cX5_happens 0 = .ok (.aload_n 0, 1) := by decide +kernel
theorem dX5_happens_1 : decode cX5_happens 1 = .ok (.getfield 10, 3) := by decide +kernel
theorem dX5_happens_4 : decode cX5_happens 4 = .ok (.getfield 215, 3) := by decide +kernel
theorem dX5_happens_7 : decode cX5_happens 7 = .ok (.iload_n 1, 1) := by decide +kernel
theorem dX5_happens_8 : decode cX5_happens 8 = .ok (.iaload, 1) := by decide +kernel
theorem dX5_happens_9 : decode cX5_happens 9 = .ok (.istore_n 2, 1) := by decide +kernel
theorem dX5_happens_10 : decode cX5_happens 10 = .ok (.aload_n 0, 1) := by decide +kernel
theorem dX5_happens_11 : decode cX5_happens 11 = .ok (.getfield 10, 3) := by decide +kernel
theorem dX5_happens_14 : decode cX5_happens 14 = .ok (.getfield 218, 3) := by decide +kernel
theorem dX5_happens_17 : decode cX5_happens 17 = .ok (.iload_n 1, 1) := by decide +kernel
theorem dX5_happens_18 : decode cX5_happens 18 = .ok (.iaload, 1) := by decide +kernel
theorem dX5_happens_19 : decode cX5_happens 19 = .ok (.istore_n 3, 1) := by decide +kernel
theorem dX5_happens_20 : decode cX5_happens 20 = .ok (.aload_n 0, 1) := by decide +kernel
theorem dX5_happens_21 : decode cX5_happens 21 = .ok (.getfield 10, 3) := by decide +kernel
theorem dX5_happens_24 : decode cX5_happens 24 = .ok (.getfield 221, 3) := by decide +kernel
theorem dX5_happens_27 : decode cX5_happens 27 = .ok (.iload_n 1, 1) := by decide +kernel
theorem dX5_happens_28 : decode cX5_happens 28 = .ok (.iaload, 1) := by decide +kernel
theorem dX5_happens_29 : decode cX5_happens 29 = .ok (.istore 4, 2) := by decide +kernel
theorem dX5_happens_31 : decode cX5_happens 31 = .ok (.aload_n 0, 1) := by decide +kernel
theorem dX5_happens_32 : decode cX5_happens 32 = .ok (.getfield 26, 3) := by decide +kernel
theorem dX5_happens_35 : decode cX5_happens 35 = .ok (.iload 4, 2) := by decide +kernel
theorem dX5_happens_37 : decode cX5_happens 37 = .ok (.invokevirtual 224, 3) := by decide +kernel
theorem dX5_happens_40 : decode cX5_happens 40 = .ok (.aload_n 0, 1) := by decide +kernel
theorem dX5_happens_41 : decode cX5_happens 41 = .ok (.getfield 10, 3) := by decide +kernel
theorem dX5_happens_44 : decode cX5_happens 44 = .ok (.getfield 227, 3) := by decide +kernel
theorem dX5_happens_47 : decode cX5_happens 47 = .ok (.iload_n 1, 1) := by decide +kernel
theorem dX5_happens_48 : decode cX5_happens 48 = .ok (.iaload, 1) := by decide +kernel
theorem dX5_happens_49 : decode cX5_happens 49 = .ok (.tableswitch 114 0 7 #[47, 59, 66, 72, 81, 90, 101, 107], 47) := by decide +kernel
theorem dX5_happens_96 : decode cX5_happens 96 = .ok (.aload_n 0, 1) := by decide +kernel
theorem dX5_happens_97 : decode cX5_happens 97 = .ok (.getfield 26, 3) := by decide +kernel
theorem dX5_happens_100 : decode cX5_happens 100 = .ok (.getfield 128, 3) := by decide +kernel
theorem dX5_happens_103 : decode cX5_happens 103 = .ok (.iload_n 2, 1) := by decide +kernel
theorem dX5_happens_104 : decode cX5_happens 104 = .ok (.iload_n 3, 1) := by decide +kernel
theorem dX5_happens_105 : decode cX5_happens 105 = .ok (.iastore, 1) := by decide +kernel
theorem dX5_happens_106 : decode cX5_happens 106 = .ok (.iconst 1, 1) := by decide +kernel
theorem dX5_happens_107 : decode cX5_happens 107 = .ok (.ireturn, 1) := by decide +kernel
theorem dX5_happens_108 : decode cX5_happens 108 = .ok (.aload_n 0, 1) := by decide +kernel
theorem dX5_happens_109 : decode cX5_happens 109 = .ok (.iload_n 2, 1) := by decide +kernel
theorem dX5_happens_110 : decode cX5_happens 110 = .ok (.iload_n 3, 1) := by decide +kernel
theorem dX5_happens_111 : decode cX5_happens 111 = .ok (.invokevirtual 230, 3) := by decide +kernel
theorem dX5_happens_114 : decode cX5_happens 114 = .ok (.ireturn, 1) := by decide +kernel
theorem dX5_happens_115 : decode cX5_happens 115 = .ok (.aload_n 0, 1) := by decide +kernel
theorem dX5_happens_116 : decode cX5_happens 116 = .ok (.iload_n 2, 1) := by decide +kernel
theorem dX5_happens_117 : decode cX5_happens 117 = .ok (.invokevirtual 234, 3) := by decide +kernel
theorem dX5_happens_120 : decode cX5_happens 120 = .ok (.ireturn, 1) := by decide +kernel
theorem dX5_happens_121 : decode cX5_happens 121 = .ok (.aload_n 0, 1) := by decide +kernel
theorem dX5_happens_122 : decode cX5_happens 122 = .ok (.iload_n 2, 1) := by decide +kernel
theorem dX5_happens_123 : decode cX5_happens 123 = .ok (.iload_n 3, 1) := by decide +kernel
theorem dX5_happens_124 : decode cX5_happens 124 = .ok (.iload 4, 2) := by decide +kernel
theorem dX5_happens_126 : decode cX5_happens 126 = .ok (.invokevirtual 237, 3) := by decide +kernel
theorem dX5_happens_129 : decode cX5_happens 129 = .ok (.ireturn, 1) := by decide +kernel
theorem dX5_happens_130 : decode cX5_happens 130 = .ok (.aload_n 0, 1) := by decide +kernel
theorem dX5_happens_131 : decode cX5_happens 131 = .ok (.iload_n 2, 1) := by decide +kernel
theorem dX5_happens_132 : decode cX5_happens 132 = .ok (.iload_n 3, 1) := by decide +kernel
theorem dX5_happens_133 : decode cX5_happens 133 = .ok (.iload 4, 2) := by decide +kernel
theorem dX5_happens_135 : decode cX5_happens 135 = .ok (.invokevirtual 241, 3) := by decide +kernel
theorem dX5_happens_138 : decode cX5_happens 138 = .ok (.ireturn, 1) := by decide +kernel
theorem dX5_happens_139 : decode cX5_happens 139 = .ok (.aload_n 0, 1) := by decide +kernel
theorem dX5_happens_140 : decode cX5_happens 140 = .ok (.getfield 33, 3) := by decide +kernel
theorem dX5_happens_143 : decode cX5_happens 143 = .ok (.iload_n 2, 1) := by decide +kernel
theorem dX5_happens_144 : decode cX5_happens 144 = .ok (.iload_n 3, 1) := by decide +kernel
theorem dX5_happens_145 : decode cX5_happens 145 = .ok (.invokevirtual 244, 3) := by decide +kernel
theorem dX5_happens_148 : decode cX5_happens 148 = .ok (.iconst 1, 1) := by decide +kernel
theorem dX5_happens_149 : decode cX5_happens 149 = .ok (.ireturn, 1) := by decide +kernel
theorem dX5_happens_150 : decode cX5_happens 150 = .ok (.aload_n 0, 1) := by decide +kernel
theorem dX5_happens_151 : decode cX5_happens 151 = .ok (.iload_n 2, 1) := by decide +kernel
theorem dX5_happens_152 : decode cX5_happens 152 = .ok (.invokevirtual 247, 3) := by decide +kernel
theorem dX5_happens_155 : decode cX5_happens 155 = .ok (.ireturn, 1) := by decide +kernel
theorem dX5_happens_156 : decode cX5_happens 156 = .ok (.aload_n 0, 1) := by decide +kernel
theorem dX5_happens_157 : decode cX5_happens 157 = .ok (.iload_n 2, 1) := by decide +kernel
theorem dX5_happens_158 : decode cX5_happens 158 = .ok (.putfield 54, 3) := by decide +kernel
theorem dX5_happens_161 : decode cX5_happens 161 = .ok (.iconst 1, 1) := by decide +kernel
theorem dX5_happens_162 : decode cX5_happens 162 = .ok (.ireturn, 1) := by decide +kernel
theorem dX5_happens_163 : decode cX5_happens 163 = .ok (.aload_n 0, 1) := by decide +kernel
theorem dX5_happens_164 : decode cX5_happens 164 = .ok (.iload_n 2, 1) := by decide +kernel
theorem dX5_happens_165 : decode cX5_happens 165 = .ok (.iload_n 3, 1) := by decide +kernel
theorem dX5_happens_166 : decode cX5_happens 166 = .ok (.iload 4, 2) := by decide +kernel
theorem dX5_happens_168 : decode cX5_happens 168 = .ok (.invokevirtual 250, 3) := by decide +kernel
theorem dX5_happens_171 : decode cX5_happens 171 = .ok (.ireturn, 1) := by decide +kernel
set_option maxRecDepth 20000 in
theorem ggX5_bePut_X3_freePlaces : GoodIn wsX5_bePut wsX3_freePlaces := goodIn_r _ [8, 9, 10, 11, 12, 13, 14, 38, 39, 40, 41] rfl (by decide +kernel)
set_option maxRecDepth 20000 in
theorem gX5_bePut_X3_freePlaces : GoodIn wsX5_bePut (wsV RX5 134 RX3 yX3_freePlaces wsX3_freePlaces) := goodIn_app (goodIn_of _ (by decide +kernel)) ggX5_bePut_X3_freePlaces
set_option maxRecDepth 20000 in
theorem ggX5_bePut_X5_dock : GoodIn wsX5_bePut wsX5_dock := goodIn_r _ [19, 1, 2, 20, 3, 21, 22, 23, 24, 25, 26, 27, 28, 29, 30, 31, 32, 33, 34, 35, 36, 37, 38, 39, 40, 41] rfl (by decide +kernel)
set_option maxRecDepth 20000 in
theorem gX5_bePut_X5_dock : GoodIn wsX5_bePut (wsV RX5 253 RX5 yX5_dock wsX5_dock) := goodIn_app (goodIn_of _ (by decide +kernel)) ggX5_bePut_X5_dock
theorem dX5_bePut_0 : decode cX5_bePut 0 = .ok (.aload_n 0, 1) := by decide +kernel
theorem dX5_bePut_1 : decode cX5_bePut 1 = .ok (.getfield 33, 3) := by decide +kernel
theorem dX5_bePut_4 : decode cX5_bePut 4 = .ok (.getfield 109, 3) := by decide +kernel
theorem dX5_bePut_7 : decode cX5_bePut 7 = .ok (.iload_n 1, 1) := by decide +kernel
theorem dX5_bePut_8 : decode cX5_bePut 8 = .ok (.iaload, 1) := by decide +kernel
theorem dX5_bePut_9 : decode cX5_bePut 9 = .ok (.istore_n 3, 1) := by decide +kernel
theorem dX5_bePut_10 : decode cX5_bePut 10 = .ok (.iload_n 3, 1) := by decide +kernel
theorem dX5_bePut_11 : decode cX5_bePut 11 = .ok (.ifCond .eq 8, 3) := by decide +kernel
theorem dX5_bePut_14 : decode cX5_bePut 14 = .ok (.iload_n 3, 1) := by decide +kernel
theorem dX5_bePut_15 : decode cX5_bePut 15 = .ok (.iconst 3, 1) := by decide +kernel
theorem dX5_bePut_16 : decode cX5_bePut 16 = .ok (.if_icmp .ne 14, 3) := by decide +kernel
theorem dX5_bePut_19 : decode cX5_bePut 19 = .ok (.aload_n 0, 1) := by decide +kernel
theorem dX5_bePut_20 : decode cX5_bePut 20 = .ok (.getfield 26, 3) := by decide +kernel
theorem dX5_bePut_23 : decode cX5_bePut 23 = .ok (.iload_n 2, 1) := by decide +kernel
theorem dX5_bePut_24 : decode cX5_bePut 24 = .ok (.invokevirtual 134, 3) := by decide +kernel
theorem dX5_bePut_27 : decode cX5_bePut 27 = .ok (.ifCond .ne 5, 3) := by decide +kernel
theorem dX5_bePut_30 : decode cX5_bePut 30 = .ok (.iconst 0, 1) := by decide +kernel
theorem dX5_bePut_31 : decode cX5_bePut 31 = .ok (.ireturn, 1) := by decide +kernel
theorem dX5_bePut_32 : decode cX5_bePut 32 = .ok (.aload_n 0, 1) := by decide +kernel
theorem dX5_bePut_33 : decode cX5_bePut 33 = .ok (.iload_n 1, 1) := by decide +kernel
theorem dX5_bePut_34 : decode cX5_bePut 34 = .ok (.iload_n 2, 1) := by decide +kernel
theorem dX5_bePut_35 : decode cX5_bePut 35 = .ok (.invokevirtual 253, 3) := by decide +kernel
theorem dX5_bePut_38 : decode cX5_bePut 38 = .ok (.iconst 1, 1) := by decide +kernel
theorem dX5_bePut_39 : decode cX5_bePut 39 = .ok (.ireturn, 1) := by decide +kernel
theorem dX5_beTaken_0 : decode cX5_beTaken 0 = .ok (.aload_n 0, 1) := by decide +kernel
theorem dX5_beTaken_1 : decode cX5_beTaken 1 = .ok (.getfield 33, 3) := by decide +kernel
theorem dX5_beTaken_4 : decode cX5_beTaken 4 = .ok (.getfield 109, 3) := by decide +kernel
theorem dX5_beTaken_7 : decode cX5_beTaken 7 = .ok (.iload_n 1, 1) := by decide +kernel
theorem dX5_beTaken_8 : decode cX5_beTaken 8 = .ok (.iaload, 1) := by decide +kernel
theorem dX5_beTaken_9 : decode cX5_beTaken 9 = .ok (.iconst 1, 1) := by decide +kernel
theorem dX5_beTaken_10 : decode cX5_beTaken 10 = .ok (.if_icmp .eq 5, 3) := by decide +kernel
theorem dX5_beTaken_13 : decode cX5_beTaken 13 = .ok (.iconst 0, 1) := by decide +kernel
theorem dX5_beTaken_14 : decode cX5_beTaken 14 = .ok (.ireturn, 1) := by decide +kernel
theorem dX5_beTaken_15 : decode cX5_beTaken 15 = .ok (.aload_n 0, 1) := by decide +kernel
theorem dX5_beTaken_16 : decode cX5_beTaken 16 = .ok (.getfield 26, 3) := by decide +kernel
theorem dX5_beTaken_19 : decode cX5_beTaken 19 = .ok (.getfield 131, 3) := by decide +kernel
theorem dX5_beTaken_22 : decode cX5_beTaken 22 = .ok (.aload_n 0, 1) := by decide +kernel
theorem dX5_beTaken_23 : decode cX5_beTaken 23 = .ok (.getfield 33, 3) := by decide +kernel
theorem dX5_beTaken_26 : decode cX5_beTaken 26 = .ok (.getfield 112, 3) := by decide +kernel
theorem dX5_beTaken_29 : decode cX5_beTaken 29 = .ok (.iload_n 1, 1) := by decide +kernel
theorem dX5_beTaken_30 : decode cX5_beTaken 30 = .ok (.iaload, 1) := by decide +kernel
theorem dX5_beTaken_31 : decode cX5_beTaken 31 = .ok (.dup2, 1) := by decide +kernel
theorem dX5_beTaken_32 : decode cX5_beTaken 32 = .ok (.iaload, 1) := by decide +kernel
theorem dX5_beTaken_33 : decode cX5_beTaken 33 = .ok (.iconst 1, 1) := by decide +kernel
theorem dX5_beTaken_34 : decode cX5_beTaken 34 = .ok (.isub, 1) := by decide +kernel
theorem dX5_beTaken_35 : decode cX5_beTaken 35 = .ok (.iastore, 1) := by decide +kernel
theorem dX5_beTaken_36 : decode cX5_beTaken 36 = .ok (.aload_n 0, 1) := by decide +kernel
theorem dX5_beTaken_37 : decode cX5_beTaken 37 = .ok (.getfield 33, 3) := by decide +kernel
theorem dX5_beTaken_40 : decode cX5_beTaken 40 = .ok (.getfield 109, 3) := by decide +kernel
theorem dX5_beTaken_43 : decode cX5_beTaken 43 = .ok (.iload_n 1, 1) := by decide +kernel
theorem dX5_beTaken_44 : decode cX5_beTaken 44 = .ok (.iconst 3, 1) := by decide +kernel
theorem dX5_beTaken_45 : decode cX5_beTaken 45 = .ok (.iastore, 1) := by decide +kernel
theorem dX5_beTaken_46 : decode cX5_beTaken 46 = .ok (.aload_n 0, 1) := by decide +kernel
theorem dX5_beTaken_47 : decode cX5_beTaken 47 = .ok (.getfield 33, 3) := by decide +kernel
theorem dX5_beTaken_50 : decode cX5_beTaken 50 = .ok (.getfield 112, 3) := by decide +kernel
theorem dX5_beTaken_53 : decode cX5_beTaken 53 = .ok (.iload_n 1, 1) := by decide +kernel
theorem dX5_beTaken_54 : decode cX5_beTaken 54 = .ok (.iconst (-1), 1) := by decide +kernel
theorem dX5_beTaken_55 : decode cX5_beTaken 55 = .ok (.iastore, 1) := by decide +kernel
theorem dX5_beTaken_56 : decode cX5_beTaken 56 = .ok (.iconst 1, 1) := by decide +kernel
theorem dX5_beTaken_57 : decode cX5_beTaken 57 = .ok (.ireturn, 1) := by decide +kernel
set_option maxRecDepth 20000 in
theorem ggX5_beUnlocked_X0_isBlocked : GoodIn wsX5_beUnlocked wsX0_isBlocked := goodIn_r _ [10, 11, 12, 13, 14, 15, 16, 17, 18, 62, 63, 64, 65, 66, 67, 68] rfl (by decide +kernel)
set_option maxRecDepth 20000 in
theorem gX5_beUnlocked_X0_isBlocked : GoodIn wsX5_beUnlocked (wsV RX5 115 RX0 yX0_isBlocked wsX0_isBlocked) := goodIn_app (goodIn_of _ (by decide +kernel)) ggX5_beUnlocked_X0_isBlocked
set_option maxRecDepth 20000 in
theorem ggX5_beUnlocked_X5_beginRide : GoodIn wsX5_beUnlocked wsX5_beginRide := goodIn_r _ [23, 1, 2, 3, 24, 25, 26, 27, 28, 29, 53, 54, 55, 56, 57, 58, 59, 60, 61, 62, 63, 64, 65, 66, 67, 68, 73, 74, 75, 76, 77, 78] rfl (by decide +kernel)
set_option maxRecDepth 20000 in
theorem gX5_beUnlocked_X5_beginRide : GoodIn wsX5_beUnlocked (wsV RX5 256 RX5 yX5_beginRide wsX5_beginRide) := goodIn_app (goodIn_of _ (by decide +kernel)) ggX5_beUnlocked_X5_beginRide
set_option maxRecDepth 20000 in
theorem ggX5_beUnlocked_X5_endRide : GoodIn wsX5_beUnlocked wsX5_endRide := goodIn_r _ [33, 1, 3, 34, 28, 35, 36, 37, 38, 39, 9, 40, 41, 42, 43, 44, 45, 46, 47, 48, 49, 50, 51, 52, 53, 54, 55, 56, 57, 58, 59, 60, 61, 62, 63, 64, 65, 66, 67, 68, 73, 74, 75, 76, 77, 78] rfl (by decide +kernel)
set_option maxRecDepth 20000 in
theorem gX5_beUnlocked_X5_endRide : GoodIn wsX5_beUnlocked (wsV RX5 260 RX5 yX5_endRide wsX5_endRide) := goodIn_app (goodIn_of _ (by decide +kernel)) ggX5_beUnlocked_X5_endRide
theorem dX5_beUnlocked_0 : decode cX5_beUnlocked 0 = .ok (.aload_n 0, 1) := by decide +kernel
theorem dX5_beUnlocked_1 : decode cX5_beUnlocked 1 = .ok (.getfield 33, 3) := by decide +kernel
theorem dX5_beUnlocked_4 : decode cX5_beUnlocked 4 = .ok (.getfield 109, 3) := by decide +kernel
theorem dX5_beUnlocked_7 : decode cX5_beUnlocked 7 = .ok (.iload_n 1, 1) := by decide +kernel
theorem dX5_beUnlocked_8 : decode cX5_beUnlocked 8 = .ok (.iaload, 1) := by decide +kernel
theorem dX5_beUnlocked_9 : decode cX5_beUnlocked 9 = .ok (.istore 4, 2) := by decide +kernel
theorem dX5_beUnlocked_11 : decode cX5_beUnlocked 11 = .ok (.aload_n 0, 1) := by decide +kernel
theorem dX5_beUnlocked_12 : decode cX5_beUnlocked 12 = .ok (.getfield 33, 3) := by decide +kernel
theorem dX5_beUnlocked_15 : decode cX5_beUnlocked 15 = .ok (.getfield 112, 3) := by decide +kernel
theorem dX5_beUnlocked_18 : decode cX5_beUnlocked 18 = .ok (.iload_n 1, 1) := by decide +kernel
theorem dX5_beUnlocked_19 : decode cX5_beUnlocked 19 = .ok (.iaload, 1) := by decide +kernel
theorem dX5_beUnlocked_20 : decode cX5_beUnlocked 20 = .ok (.istore 5, 2) := by decide +kernel
theorem dX5_beUnlocked_22 : decode cX5_beUnlocked 22 = .ok (.iload 4, 2) := by decide +kernel
theorem dX5_beUnlocked_24 : decode cX5_beUnlocked 24 = .ok (.iconst 1, 1) := by decide +kernel
theorem dX5_beUnlocked_25 : decode cX5_beUnlocked 25 = .ok (.if_icmp .ne 37, 3) := by decide +kernel
theorem dX5_beUnlocked_28 : decode cX5_beUnlocked 28 = .ok (.aload_n 0, 1) := by decide +kernel
theorem dX5_beUnlocked_29 : decode cX5_beUnlocked 29 = .ok (.getfield 33, 3) := by decide +kernel
theorem dX5_beUnlocked_32 : decode cX5_beUnlocked 32 = .ok (.iload_n 1, 1) := by decide +kernel
theorem dX5_beUnlocked_33 : decode cX5_beUnlocked 33 = .ok (.invokevirtual 115, 3) := by decide +kernel
theorem dX5_beUnlocked_36 : decode cX5_beUnlocked 36 = .ok (.ifCond .ne 26, 3) := by decide +kernel
theorem dX5_beUnlocked_39 : decode cX5_beUnlocked 39 = .ok (.aload_n 0, 1) := by decide +kernel
theorem dX5_beUnlocked_40 : decode cX5_beUnlocked 40 = .ok (.getfield 26, 3) := by decide +kernel
theorem dX5_beUnlocked_43 : decode cX5_beUnlocked 43 = .ok (.getfield 131, 3) := by decide +kernel
theorem dX5_beUnlocked_46 : decode cX5_beUnlocked 46 = .ok (.iload 5, 2) := by decide +kernel
theorem dX5_beUnlocked_48 : decode cX5_beUnlocked 48 = .ok (.dup2, 1) := by decide +kernel
theorem dX5_beUnlocked_49 : decode cX5_beUnlocked 49 = .ok (.iaload, 1) := by decide +kernel
theorem dX5_beUnlocked_50 : decode cX5_beUnlocked 50 = .ok (.iconst 1, 1) := by decide +kernel
theorem dX5_beUnlocked_51 : decode cX5_beUnlocked 51 = .ok (.isub, 1) := by decide +kernel
theorem dX5_beUnlocked_52 : decode cX5_beUnlocked 52 = .ok (.iastore, 1) := by decide +kernel
theorem dX5_beUnlocked_53 : decode cX5_beUnlocked 53 = .ok (.aload_n 0, 1) := by decide +kernel
theorem dX5_beUnlocked_54 : decode cX5_beUnlocked 54 = .ok (.iload_n 1, 1) := by decide +kernel
theorem dX5_beUnlocked_55 : decode cX5_beUnlocked 55 = .ok (.iload_n 2, 1) := by decide +kernel
theorem dX5_beUnlocked_56 : decode cX5_beUnlocked 56 = .ok (.iload_n 3, 1) := by decide +kernel
theorem dX5_beUnlocked_57 : decode cX5_beUnlocked 57 = .ok (.invokevirtual 256, 3) := by decide +kernel
theorem dX5_beUnlocked_60 : decode cX5_beUnlocked 60 = .ok (.iconst 1, 1) := by decide +kernel
theorem dX5_beUnlocked_61 : decode cX5_beUnlocked 61 = .ok (.ireturn, 1) := by decide +kernel
theorem dX5_beUnlocked_62 : decode cX5_beUnlocked 62 = .ok (.iload 4, 2) := by decide +kernel
theorem dX5_beUnlocked_64 : decode cX5_beUnlocked 64 = .ok (.iconst 2, 1) := by decide +kernel
theorem dX5_beUnlocked_65 : decode cX5_beUnlocked 65 = .ok (.if_icmp .ne 24, 3) := by decide +kernel
theorem dX5_beUnlocked_68 : decode cX5_beUnlocked 68 = .ok (.iload 5, 2) := by decide +kernel
theorem dX5_beUnlocked_70 : decode cX5_beUnlocked 70 = .ok (.iload_n 2, 1) := by decide +kernel
theorem dX5_beUnlocked_71 : decode cX5_beUnlocked 71 = .ok (.if_icmp .eq 18, 3) := by decide +kernel
theorem dX5_beUnlocked_74 : decode cX5_beUnlocked 74 = .ok (.aload_n 0, 1) := by decide +kernel
theorem dX5_beUnlocked_75 : decode cX5_beUnlocked 75 = .ok (.iload_n 1, 1) := by decide +kernel
theorem dX5_beUnlocked_76 : decode cX5_beUnlocked 76 = .ok (.iload_n 3, 1) := by decide +kernel
theorem dX5_beUnlocked_77 : decode cX5_beUnlocked 77 = .ok (.invokevirtual 260, 3) := by decide +kernel
theorem dX5_beUnlocked_80 : decode cX5_beUnlocked 80 = .ok (.aload_n 0, 1) := by decide +kernel
theorem dX5_beUnlocked_81 : decode cX5_beUnlocked 81 = .ok (.iload_n 1, 1) := by decide +kernel
theorem dX5_beUnlocked_82 : decode cX5_beUnlocked 82 = .ok (.iload_n 2, 1) := by decide +kernel
theorem dX5_beUnlocked_83 : decode cX5_beUnlocked 83 = .ok (.iload_n 3, 1) := by decide +kernel
theorem dX5_beUnlocked_84 : decode cX5_beUnlocked 84 = .ok (.invokevirtual 256, 3) := by decide +kernel
theorem dX5_beUnlocked_87 : decode cX5_beUnlocked 87 = .ok (.iconst 1, 1) := by decide +kernel
theorem dX5_beUnlocked_88 : decode cX5_beUnlocked 88 = .ok (.ireturn, 1) := by decide +kernel
theorem dX5_beUnlocked_89 : decode cX5_beUnlocked 89 = .ok (.iconst 0, 1) := by decide +kernel
theorem dX5_beUnlocked_90 : decode cX5_beUnlocked 90 = .ok (.ireturn, 1) := by decide +kernel
set_option maxRecDepth 20000 in
theorem ggX5_beLocked_X3_freePlaces : GoodIn wsX5_beLocked wsX3_freePlaces := goodIn_r _ [13, 14, 15, 16, 17, 18, 19, 81, 82, 83, 84] rfl (by decide +kernel)
set_option maxRecDepth 20000 in
theorem gX5_beLocked_X3_freePlaces : GoodIn wsX5_beLocked (wsV RX5 134 RX3 yX3_freePlaces wsX3_freePlaces) := goodIn_app (goodIn_of _ (by decide +kernel)) ggX5_beLocked_X3_freePlaces
set_option maxRecDepth 20000 in
theorem ggX5_beLocked_X2_promisesAt : GoodIn wsX5_beLocked wsX2_promisesAt := goodIn_r _ [24, 25, 26, 27, 23, 28, 29, 30, 75, 76, 77, 78, 79, 80] rfl (by decide +kernel)
set_option maxRecDepth 20000 in
theorem gX5_beLocked_X2_promisesAt : GoodIn wsX5_beLocked (wsV RX5 138 RX2 yX2_promisesAt wsX2_promisesAt) := goodIn_app (goodIn_of _ (by decide +kernel)) ggX5_beLocked_X2_promisesAt
set_option maxRecDepth 20000 in
theorem ggX5_beLocked_X2_promisedStation : GoodIn wsX5_beLocked wsX2_promisedStation := goodIn_r _ [28, 29, 30, 75, 76, 77, 78, 79, 80] rfl (by decide +kernel)
set_option maxRecDepth 20000 in
theorem gX5_beLocked_X2_promisedStation : GoodIn wsX5_beLocked (wsV RX5 162 RX2 yX2_promisedStation wsX2_promisedStation) := goodIn_app (goodIn_of _ (by decide +kernel)) ggX5_beLocked_X2_promisedStation
set_option maxRecDepth 20000 in
theorem ggX5_beLocked_X5_endRide : GoodIn wsX5_beLocked wsX5_endRide := goodIn_r _ [36, 1, 3, 37, 5, 38, 39, 40, 41, 42, 43, 44, 45, 46, 47, 48, 49, 50, 51, 52, 53, 17, 18, 19, 59, 60, 61, 62, 63, 64, 65, 66, 67, 68, 69, 70, 71, 72, 73, 74, 75, 76, 77, 78, 79, 80] rfl (by decide +kernel)
set_option maxRecDepth 20000 in
theorem gX5_beLocked_X5_endRide : GoodIn wsX5_beLocked (wsV RX5 260 RX5 yX5_endRide wsX5_endRide) := goodIn_app (goodIn_of _ (by decide +kernel)) ggX5_beLocked_X5_endRide
set_option maxRecDepth 20000 in
theorem ggX5_beLocked_X5_dock : GoodIn wsX5_beLocked wsX5_dock := goodIn_r _ [57, 1, 2, 3, 4, 58, 59, 60, 61, 62, 63, 64, 65, 66, 67, 68, 69, 70, 71, 72, 73, 74, 81, 82, 83, 84] rfl (by decide +kernel)
set_option maxRecDepth 20000 in
theorem gX5_beLocked_X5_dock : GoodIn wsX5_beLocked (wsV RX5 253 RX5 yX5_dock wsX5_dock) := goodIn_app (goodIn_of _ (by decide +kernel)) ggX5_beLocked_X5_dock
theorem dX5_beLocked_0 : decode cX5_beLocked 0 = .ok (.aload_n 0, 1) := by decide +kernel
theorem dX5_beLocked_1 : decode cX5_beLocked 1 = .ok (.getfield 33, 3) := by decide +kernel
theorem dX5_beLocked_4 : decode cX5_beLocked 4 = .ok (.getfield 109, 3) := by decide +kernel
theorem dX5_beLocked_7 : decode cX5_beLocked 7 = .ok (.iload_n 1, 1) := by decide +kernel
theorem dX5_beLocked_8 : decode cX5_beLocked 8 = .ok (.iaload, 1) := by decide +kernel
theorem dX5_beLocked_9 : decode cX5_beLocked 9 = .ok (.iconst 2, 1) := by decide +kernel
theorem dX5_beLocked_10 : decode cX5_beLocked 10 = .ok (.if_icmp .eq 5, 3) := by decide +kernel
theorem dX5_beLocked_13 : decode cX5_beLocked 13 = .ok (.iconst 0, 1) := by decide +kernel
theorem dX5_beLocked_14 : decode cX5_beLocked 14 = .ok (.ireturn, 1) := by decide +kernel
theorem dX5_beLocked_15 : decode cX5_beLocked 15 = .ok (.aload_n 0, 1) := by decide +kernel
theorem dX5_beLocked_16 : decode cX5_beLocked 16 = .ok (.getfield 33, 3) := by decide +kernel
theorem dX5_beLocked_19 : decode cX5_beLocked 19 = .ok (.getfield 112, 3) := by decide +kernel
theorem dX5_beLocked_22 : decode cX5_beLocked 22 = .ok (.iload_n 1, 1) := by decide +kernel
theorem dX5_beLocked_23 : decode cX5_beLocked 23 = .ok (.iaload, 1) := by decide +kernel
theorem dX5_beLocked_24 : decode cX5_beLocked 24 = .ok (.istore 4, 2) := by decide +kernel
theorem dX5_beLocked_26 : decode cX5_beLocked 26 = .ok (.aload_n 0, 1) := by decide +kernel
theorem dX5_beLocked_27 : decode cX5_beLocked 27 = .ok (.getfield 26, 3) := by decide +kernel
theorem dX5_beLocked_30 : decode cX5_beLocked 30 = .ok (.iload_n 2, 1) := by decide +kernel
theorem dX5_beLocked_31 : decode cX5_beLocked 31 = .ok (.invokevirtual 134, 3) := by decide +kernel
theorem dX5_beLocked_34 : decode cX5_beLocked 34 = .ok (.aload_n 0, 1) := by decide +kernel
theorem dX5_beLocked_35 : decode cX5_beLocked 35 = .ok (.getfield 40, 3) := by decide +kernel
theorem dX5_beLocked_38 : decode cX5_beLocked 38 = .ok (.iload_n 2, 1) := by decide +kernel
theorem dX5_beLocked_39 : decode cX5_beLocked 39 = .ok (.iload 4, 2) := by decide +kernel
theorem dX5_beLocked_41 : decode cX5_beLocked 41 = .ok (.iload_n 3, 1) := by decide +kernel
theorem dX5_beLocked_42 : decode cX5_beLocked 42 = .ok (.invokevirtual 138, 3) := by decide +kernel
theorem dX5_beLocked_45 : decode cX5_beLocked 45 = .ok (.if_icmp .le 7, 3) := by decide +kernel
theorem dX5_beLocked_48 : decode cX5_beLocked 48 = .ok (.iconst 1, 1) := by decide +kernel
theorem dX5_beLocked_49 : decode cX5_beLocked 49 = .ok (.goto 4, 3) := by decide +kernel
theorem dX5_beLocked_52 : decode cX5_beLocked 52 = .ok (.iconst 0, 1) := by decide +kernel
theorem dX5_beLocked_53 : decode cX5_beLocked 53 = .ok (.istore 5, 2) := by decide +kernel
theorem dX5_beLocked_55 : decode cX5_beLocked 55 = .ok (.aload_n 0, 1) := by decide +kernel
theorem dX5_beLocked_56 : decode cX5_beLocked 56 = .ok (.getfield 40, 3) := by decide +kernel
theorem dX5_beLocked_59 : decode cX5_beLocked 59 = .ok (.iload 4, 2) := by decide +kernel
theorem dX5_beLocked_61 : decode cX5_beLocked 61 = .ok (.iload_n 3, 1) := by decide +kernel
theorem dX5_beLocked_62 : decode cX5_beLocked 62 = .ok (.invokevirtual 162, 3) := by decide +kernel
theorem dX5_beLocked_65 : decode cX5_beLocked 65 = .ok (.iload_n 2, 1) := by decide +kernel
theorem dX5_beLocked_66 : decode cX5_beLocked 66 = .ok (.if_icmp .ne 7, 3) := by decide +kernel
theorem dX5_beLocked_69 : decode cX5_beLocked 69 = .ok (.iconst 1, 1) := by decide +kernel
theorem dX5_beLocked_70 : decode cX5_beLocked 70 = .ok (.goto 4, 3) := by decide +kernel
theorem dX5_beLocked_73 : decode cX5_beLocked 73 = .ok (.iconst 0, 1) := by decide +kernel
theorem dX5_beLocked_74 : decode cX5_beLocked 74 = .ok (.istore 6, 2) := by decide +kernel
theorem dX5_beLocked_76 : decode cX5_beLocked 76 = .ok (.iload 6, 2) := by decide +kernel
theorem dX5_beLocked_78 : decode cX5_beLocked 78 = .ok (.ifCond .eq 14, 3) := by decide +kernel
theorem dX5_beLocked_81 : decode cX5_beLocked 81 = .ok (.aload_n 0, 1) := by decide +kernel
theorem dX5_beLocked_82 : decode cX5_beLocked 82 = .ok (.getfield 40, 3) := by decide +kernel
theorem dX5_beLocked_85 : decode cX5_beLocked 85 = .ok (.getfield 263, 3) := by decide +kernel
theorem dX5_beLocked_88 : decode cX5_beLocked 88 = .ok (.iload 4, 2) := by decide +kernel
theorem dX5_beLocked_90 : decode cX5_beLocked 90 = .ok (.iconst (-1), 1) := by decide +kernel
theorem dX5_beLocked_91 : decode cX5_beLocked 91 = .ok (.iastore, 1) := by decide +kernel
theorem dX5_beLocked_92 : decode cX5_beLocked 92 = .ok (.iload 5, 2) := by decide +kernel
theorem dX5_beLocked_94 : decode cX5_beLocked 94 = .ok (.ifCond .eq 17, 3) := by decide +kernel
theorem dX5_beLocked_97 : decode cX5_beLocked 97 = .ok (.aload_n 0, 1) := by decide +kernel
theorem dX5_beLocked_98 : decode cX5_beLocked 98 = .ok (.iload_n 1, 1) := by decide +kernel
theorem dX5_beLocked_99 : decode cX5_beLocked 99 = .ok (.iload_n 3, 1) := by decide +kernel
theorem dX5_beLocked_100 : decode cX5_beLocked 100 = .ok (.invokevirtual 260, 3) := by decide +kernel
theorem dX5_beLocked_103 : decode cX5_beLocked 103 = .ok (.aload_n 0, 1) := by decide +kernel
theorem dX5_beLocked_104 : decode cX5_beLocked 104 = .ok (.iload_n 1, 1) := by decide +kernel
theorem dX5_beLocked_105 : decode cX5_beLocked 105 = .ok (.iload_n 2, 1) := by decide +kernel
theorem dX5_beLocked_106 : decode cX5_beLocked 106 = .ok (.invokevirtual 253, 3) := by decide +kernel
theorem dX5_beLocked_109 : decode cX5_beLocked 109 = .ok (.iconst 1, 1) := by decide +kernel
theorem dX5_beLocked_110 : decode cX5_beLocked 110 = .ok (.ireturn, 1) := by decide +kernel
theorem dX5_beLocked_111 : decode cX5_beLocked 111 = .ok (.aload_n 0, 1) := by decide +kernel
theorem dX5_beLocked_112 : decode cX5_beLocked 112 = .ok (.getfield 33, 3) := by decide +kernel
theorem dX5_beLocked_115 : decode cX5_beLocked 115 = .ok (.getfield 266, 3) := by decide +kernel
theorem dX5_beLocked_118 : decode cX5_beLocked 118 = .ok (.iload_n 1, 1) := by decide +kernel
theorem dX5_beLocked_119 : decode cX5_beLocked 119 = .ok (.dup2, 1) := by decide +kernel
theorem dX5_beLocked_120 : decode cX5_beLocked 120 = .ok (.iaload, 1) := by decide +kernel
theorem dX5_beLocked_121 : decode cX5_beLocked 121 = .ok (.bipush 10, 2) := by decide +kernel
theorem dX5_beLocked_123 : decode cX5_beLocked 123 = .ok (.iadd, 1) := by decide +kernel
theorem dX5_beLocked_124 : decode cX5_beLocked 124 = .ok (.iastore, 1) := by decide +kernel
theorem dX5_beLocked_125 : decode cX5_beLocked 125 = .ok (.iload 6, 2) := by decide +kernel
theorem dX5_beLocked_127 : decode cX5_beLocked 127 = .ok (.ifCond .eq 18, 3) := by decide +kernel
theorem dX5_beLocked_130 : decode cX5_beLocked 130 = .ok (.aload_n 0, 1) := by decide +kernel
theorem dX5_beLocked_131 : decode cX5_beLocked 131 = .ok (.getfield 40, 3) := by decide +kernel
theorem dX5_beLocked_134 : decode cX5_beLocked 134 = .ok (.getfield 153, 3) := by decide +kernel
theorem dX5_beLocked_137 : decode cX5_beLocked 137 = .ok (.iload 4, 2) := by decide +kernel
theorem dX5_beLocked_139 : decode cX5_beLocked 139 = .ok (.dup2, 1) := by decide +kernel
theorem dX5_beLocked_140 : decode cX5_beLocked 140 = .ok (.iaload, 1) := by decide +kernel
theorem dX5_beLocked_141 : decode cX5_beLocked 141 = .ok (.bipush 100, 2) := by decide +kernel
theorem dX5_beLocked_143 : decode cX5_beLocked 143 = .ok (.iadd, 1) := by decide +kernel
theorem dX5_beLocked_144 : decode cX5_beLocked 144 = .ok (.iastore, 1) := by decide +kernel
theorem dX5_beLocked_145 : decode cX5_beLocked 145 = .ok (.iconst 0, 1) := by decide +kernel
theorem dX5_beLocked_146 : decode cX5_beLocked 146 = .ok (.ireturn, 1) := by decide +kernel
theorem dX5_beMended_0 : decode cX5_beMended 0 = .ok (.aload_n 0, 1) := by decide +kernel
theorem dX5_beMended_1 : decode cX5_beMended 1 = .ok (.getfield 33, 3) := by decide +kernel
theorem dX5_beMended_4 : decode cX5_beMended 4 = .ok (.getfield 109, 3) := by decide +kernel
theorem dX5_beMended_7 : decode cX5_beMended 7 = .ok (.iload_n 1, 1) := by decide +kernel
theorem dX5_beMended_8 : decode cX5_beMended 8 = .ok (.iaload, 1) := by decide +kernel
theorem dX5_beMended_9 : decode cX5_beMended 9 = .ok (.iconst 2, 1) := by decide +kernel
theorem dX5_beMended_10 : decode cX5_beMended 10 = .ok (.if_icmp .ne 5, 3) := by decide +kernel
theorem dX5_beMended_13 : decode cX5_beMended 13 = .ok (.iconst 0, 1) := by decide +kernel
theorem dX5_beMended_14 : decode cX5_beMended 14 = .ok (.ireturn, 1) := by decide +kernel
theorem dX5_beMended_15 : decode cX5_beMended 15 = .ok (.aload_n 0, 1) := by decide +kernel
theorem dX5_beMended_16 : decode cX5_beMended 16 = .ok (.getfield 33, 3) := by decide +kernel
theorem dX5_beMended_19 : decode cX5_beMended 19 = .ok (.getfield 269, 3) := by decide +kernel
theorem dX5_beMended_22 : decode cX5_beMended 22 = .ok (.iload_n 1, 1) := by decide +kernel
theorem dX5_beMended_23 : decode cX5_beMended 23 = .ok (.iconst 0, 1) := by decide +kernel
theorem dX5_beMended_24 : decode cX5_beMended 24 = .ok (.iastore, 1) := by decide +kernel
theorem dX5_beMended_25 : decode cX5_beMended 25 = .ok (.iconst 1, 1) := by decide +kernel
theorem dX5_beMended_26 : decode cX5_beMended 26 = .ok (.ireturn, 1) := by decide +kernel
set_option maxRecDepth 20000 in
theorem ggX5_bePromised_X3_freePlaces : GoodIn wsX5_bePromised wsX3_freePlaces := goodIn_r _ [9, 10, 11, 12, 13, 14, 15, 42, 43, 44, 45] rfl (by decide +kernel)
set_option maxRecDepth 20000 in
theorem gX5_bePromised_X3_freePlaces : GoodIn wsX5_bePromised (wsV RX5 134 RX3 yX3_freePlaces wsX3_freePlaces) := goodIn_app (goodIn_of _ (by decide +kernel)) ggX5_bePromised_X3_freePlaces
set_option maxRecDepth 20000 in
theorem ggX5_bePromised_X2_promisesAt : GoodIn wsX5_bePromised wsX2_promisesAt := goodIn_r _ [20, 21, 22, 23, 19, 24, 25, 26, 36, 37, 38, 39, 40, 41] rfl (by decide +kernel)
set_option maxRecDepth 20000 in
theorem gX5_bePromised_X2_promisesAt : GoodIn wsX5_bePromised (wsV RX5 138 RX2 yX2_promisesAt wsX2_promisesAt) := goodIn_app (goodIn_of _ (by decide +kernel)) ggX5_bePromised_X2_promisesAt
theorem dX5_bePromised_0 : decode cX5_bePromised 0 = .ok (.aload_n 0, 1) := by decide +kernel
theorem dX5_bePromised_1 : decode cX5_bePromised 1 = .ok (.getfield 26, 3) := by decide +kernel
theorem dX5_bePromised_4 : decode cX5_bePromised 4 = .ok (.iload_n 2, 1) := by decide +kernel
theorem dX5_bePromised_5 : decode cX5_bePromised 5 = .ok (.invokevirtual 134, 3) := by decide +kernel
theorem dX5_bePromised_8 : decode cX5_bePromised 8 = .ok (.aload_n 0, 1) := by decide +kernel
theorem dX5_bePromised_9 : decode cX5_bePromised 9 = .ok (.getfield 40, 3) := by decide +kernel
theorem dX5_bePromised_12 : decode cX5_bePromised 12 = .ok (.iload_n 2, 1) := by decide +kernel
theorem dX5_bePromised_13 : decode cX5_bePromised 13 = .ok (.iconst (-1), 1) := by decide +kernel
theorem dX5_bePromised_14 : decode cX5_bePromised 14 = .ok (.iload_n 3, 1) := by decide +kernel
theorem dX5_bePromised_15 : decode cX5_bePromised 15 = .ok (.invokevirtual 138, 3) := by decide +kernel
theorem dX5_bePromised_18 : decode cX5_bePromised 18 = .ok (.if_icmp .gt 5, 3) := by decide +kernel
theorem dX5_bePromised_21 : decode cX5_bePromised 21 = .ok (.iconst 0, 1) := by decide +kernel
theorem dX5_bePromised_22 : decode cX5_bePromised 22 = .ok (.ireturn, 1) := by decide +kernel
theorem dX5_bePromised_23 : decode cX5_bePromised 23 = .ok (.aload_n 0, 1) := by decide +kernel
theorem dX5_bePromised_24 : decode cX5_bePromised 24 = .ok (.getfield 40, 3) := by decide +kernel
theorem dX5_bePromised_27 : decode cX5_bePromised 27 = .ok (.getfield 263, 3) := by decide +kernel
theorem dX5_bePromised_30 : decode cX5_bePromised 30 = .ok (.iload_n 1, 1) := by decide +kernel
theorem dX5_bePromised_31 : decode cX5_bePromised 31 = .ok (.iload_n 2, 1) := by decide +kernel
theorem dX5_bePromised_32 : decode cX5_bePromised 32 = .ok (.iastore, 1) := by decide +kernel
theorem dX5_bePromised_33 : decode cX5_bePromised 33 = .ok (.aload_n 0, 1) := by decide +kernel
theorem dX5_bePromised_34 : decode cX5_bePromised 34 = .ok (.getfield 40, 3) := by decide +kernel
theorem dX5_bePromised_37 : decode cX5_bePromised 37 = .ok (.getfield 272, 3) := by decide +kernel
theorem dX5_bePromised_40 : decode cX5_bePromised 40 = .ok (.iload_n 1, 1) := by decide +kernel
theorem dX5_bePromised_41 : decode cX5_bePromised 41 = .ok (.iload_n 3, 1) := by decide +kernel
theorem dX5_bePromised_42 : decode cX5_bePromised 42 = .ok (.iastore, 1) := by decide +kernel
theorem dX5_bePromised_43 : decode cX5_bePromised 43 = .ok (.iconst 1, 1) := by decide +kernel
theorem dX5_bePromised_44 : decode cX5_bePromised 44 = .ok (.ireturn, 1) := by decide +kernel
theorem dX5_dock_0 : decode cX5_dock 0 = .ok (.aload_n 0, 1) := by decide +kernel
theorem dX5_dock_1 : decode cX5_dock 1 = .ok (.getfield 33, 3) := by decide +kernel
theorem dX5_dock_4 : decode cX5_dock 4 = .ok (.getfield 109, 3) := by decide +kernel
theorem dX5_dock_7 : decode cX5_dock 7 = .ok (.iload_n 1, 1) := by decide +kernel
theorem dX5_dock_8 : decode cX5_dock 8 = .ok (.iconst 1, 1) := by decide +kernel
theorem dX5_dock_9 : decode cX5_dock 9 = .ok (.iastore, 1) := by decide +kernel
theorem dX5_dock_10 : decode cX5_dock 10 = .ok (.aload_n 0, 1) := by decide +kernel
theorem dX5_dock_11 : decode cX5_dock 11 = .ok (.getfield 33, 3) := by decide +kernel
theorem dX5_dock_14 : decode cX5_dock 14 = .ok (.getfield 112, 3) := by decide +kernel
theorem dX5_dock_17 : decode cX5_dock 17 = .ok (.iload_n 1, 1) := by decide +kernel
theorem dX5_dock_18 : decode cX5_dock 18 = .ok (.iload_n 2, 1) := by decide +kernel
theorem dX5_dock_19 : decode cX5_dock 19 = .ok (.iastore, 1) := by decide +kernel
theorem dX5_dock_20 : decode cX5_dock 20 = .ok (.aload_n 0, 1) := by decide +kernel
theorem dX5_dock_21 : decode cX5_dock 21 = .ok (.getfield 26, 3) := by decide +kernel
theorem dX5_dock_24 : decode cX5_dock 24 = .ok (.getfield 131, 3) := by decide +kernel
theorem dX5_dock_27 : decode cX5_dock 27 = .ok (.iload_n 2, 1) := by decide +kernel
theorem dX5_dock_28 : decode cX5_dock 28 = .ok (.dup2, 1) := by decide +kernel
theorem dX5_dock_29 : decode cX5_dock 29 = .ok (.iaload, 1) := by decide +kernel
theorem dX5_dock_30 : decode cX5_dock 30 = .ok (.iconst 1, 1) := by decide +kernel
theorem dX5_dock_31 : decode cX5_dock 31 = .ok (.iadd, 1) := by decide +kernel
theorem dX5_dock_32 : decode cX5_dock 32 = .ok (.iastore, 1) := by decide +kernel
theorem dX5_dock_33 : decode cX5_dock 33 = .ok (.return_, 1) := by decide +kernel
theorem dX5_beginRide_0 : decode cX5_beginRide 0 = .ok (.aload_n 0, 1) := by decide +kernel
theorem dX5_beginRide_1 : decode cX5_beginRide 1 = .ok (.getfield 33, 3) := by decide +kernel
theorem dX5_beginRide_4 : decode cX5_beginRide 4 = .ok (.getfield 109, 3) := by decide +kernel
theorem dX5_beginRide_7 : decode cX5_beginRide 7 = .ok (.iload_n 1, 1) := by decide +kernel
theorem dX5_beginRide_8 : decode cX5_beginRide 8 = .ok (.iconst 2, 1) := by decide +kernel
theorem dX5_beginRide_9 : decode cX5_beginRide 9 = .ok (.iastore, 1) := by decide +kernel
theorem dX5_beginRide_10 : decode cX5_beginRide 10 = .ok (.aload_n 0, 1) := by decide +kernel
theorem dX5_beginRide_11 : decode cX5_beginRide 11 = .ok (.getfield 33, 3) := by decide +kernel
theorem dX5_beginRide_14 : decode cX5_beginRide 14 = .ok (.getfield 112, 3) := by decide +kernel
theorem dX5_beginRide_17 : decode cX5_beginRide 17 = .ok (.iload_n 1, 1) := by decide +kernel
theorem dX5_beginRide_18 : decode cX5_beginRide 18 = .ok (.iload_n 2, 1) := by decide +kernel
theorem dX5_beginRide_19 : decode cX5_beginRide 19 = .ok (.iastore, 1) := by decide +kernel
theorem dX5_beginRide_20 : decode cX5_beginRide 20 = .ok (.aload_n 0, 1) := by decide +kernel
theorem dX5_beginRide_21 : decode cX5_beginRide 21 = .ok (.getfield 33, 3) := by decide +kernel
theorem dX5_beginRide_24 : decode cX5_beginRide 24 = .ok (.getfield 275, 3) := by decide +kernel
theorem dX5_beginRide_27 : decode cX5_beginRide 27 = .ok (.iload_n 1, 1) := by decide +kernel
theorem dX5_beginRide_28 : decode cX5_beginRide 28 = .ok (.iload_n 3, 1) := by decide +kernel
theorem dX5_beginRide_29 : decode cX5_beginRide 29 = .ok (.iastore, 1) := by decide +kernel
theorem dX5_beginRide_30 : decode cX5_beginRide 30 = .ok (.aload_n 0, 1) := by decide +kernel
theorem dX5_beginRide_31 : decode cX5_beginRide 31 = .ok (.getfield 33, 3) := by decide +kernel
theorem dX5_beginRide_34 : decode cX5_beginRide 34 = .ok (.getfield 278, 3) := by decide +kernel
theorem dX5_beginRide_37 : decode cX5_beginRide 37 = .ok (.iload_n 1, 1) := by decide +kernel
theorem dX5_beginRide_38 : decode cX5_beginRide 38 = .ok (.aload_n 0, 1) := by decide +kernel
theorem dX5_beginRide_39 : decode cX5_beginRide 39 = .ok (.getfield 54, 3) := by decide +kernel
theorem dX5_beginRide_42 : decode cX5_beginRide 42 = .ok (.iastore, 1) := by decide +kernel
theorem dX5_beginRide_43 : decode cX5_beginRide 43 = .ok (.aload_n 0, 1) := by decide +kernel
theorem dX5_beginRide_44 : decode cX5_beginRide 44 = .ok (.getfield 33, 3) := by decide +kernel
theorem dX5_beginRide_47 : decode cX5_beginRide 47 = .ok (.getfield 266, 3) := by decide +kernel
theorem dX5_beginRide_50 : decode cX5_beginRide 50 = .ok (.iload_n 1, 1) := by decide +kernel
theorem dX5_beginRide_51 : decode cX5_beginRide 51 = .ok (.iconst 0, 1) := by decide +kernel
theorem dX5_beginRide_52 : decode cX5_beginRide 52 = .ok (.iastore, 1) := by decide +kernel
theorem dX5_beginRide_53 : decode cX5_beginRide 53 = .ok (.aload_n 0, 1) := by decide +kernel
theorem dX5_beginRide_54 : decode cX5_beginRide 54 = .ok (.getfield 40, 3) := by decide +kernel
theorem dX5_beginRide_57 : decode cX5_beginRide 57 = .ok (.getfield 147, 3) := by decide +kernel
theorem dX5_beginRide_60 : decode cX5_beginRide 60 = .ok (.iload_n 2, 1) := by decide +kernel
theorem dX5_beginRide_61 : decode cX5_beginRide 61 = .ok (.dup2, 1) := by decide +kernel
theorem dX5_beginRide_62 : decode cX5_beginRide 62 = .ok (.iaload, 1) := by decide +kernel
theorem dX5_beginRide_63 : decode cX5_beginRide 63 = .ok (.iconst 1, 1) := by decide +kernel
theorem dX5_beginRide_64 : decode cX5_beginRide 64 = .ok (.iadd, 1) := by decide +kernel
theorem dX5_beginRide_65 : decode cX5_beginRide 65 = .ok (.iastore, 1) := by decide +kernel
theorem dX5_beginRide_66 : decode cX5_beginRide 66 = .ok (.return_, 1) := by decide +kernel
set_option maxRecDepth 20000 in
theorem ggX5_endRide_X0_minutesGoingOn : GoodIn wsX5_endRide wsX0_minutesGoingOn := goodIn_r _ [11, 12, 13, 33, 34, 35, 36, 37, 38, 39] rfl (by decide +kernel)
set_option maxRecDepth 20000 in
theorem gX5_endRide_X0_minutesGoingOn : GoodIn wsX5_endRide (wsV RX5 122 RX0 yX0_minutesGoingOn wsX0_minutesGoingOn) := goodIn_app (goodIn_of _ (by decide +kernel)) ggX5_endRide_X0_minutesGoingOn
set_option maxRecDepth 20000 in
theorem ggX5_endRide_X0_rideCost : GoodIn wsX5_endRide wsX0_rideCost := goodIn_r _ [17, 18, 19, 20, 21, 22, 23, 33, 34, 35, 36, 37, 38, 39] rfl (by decide +kernel)
set_option maxRecDepth 20000 in
theorem gX5_endRide_X0_rideCost : GoodIn wsX5_endRide (wsV RX5 284 RX0 yX0_rideCost wsX0_rideCost) := goodIn_app (goodIn_of _ (by decide +kernel)) ggX5_endRide_X0_rideCost
theorem dX5_endRide_0 : decode cX5_endRide 0 = .ok (.aload_n 0, 1) := by decide +kernel
theorem dX5_endRide_1 : decode cX5_endRide 1 = .ok (.getfield 33, 3) := by decide +kernel
theorem dX5_endRide_4 : decode cX5_endRide 4 = .ok (.getfield 112, 3) := by decide +kernel
theorem dX5_endRide_7 : decode cX5_endRide 7 = .ok (.iload_n 1, 1) := by decide +kernel
theorem dX5_endRide_8 : decode cX5_endRide 8 = .ok (.iaload, 1) := by decide +kernel
theorem dX5_endRide_9 : decode cX5_endRide 9 = .ok (.istore_n 3, 1) := by decide +kernel
theorem dX5_endRide_10 : decode cX5_endRide 10 = .ok (.aload_n 0, 1) := by decide +kernel
theorem dX5_endRide_11 : decode cX5_endRide 11 = .ok (.getfield 33, 3) := by decide +kernel
theorem dX5_endRide_14 : decode cX5_endRide 14 = .ok (.iload_n 1, 1) := by decide +kernel
theorem dX5_endRide_15 : decode cX5_endRide 15 = .ok (.iload_n 2, 1) := by decide +kernel
theorem dX5_endRide_16 : decode cX5_endRide 16 = .ok (.invokevirtual 122, 3) := by decide +kernel
theorem dX5_endRide_19 : decode cX5_endRide 19 = .ok (.istore 4, 2) := by decide +kernel
theorem dX5_endRide_21 : decode cX5_endRide 21 = .ok (.aload_n 0, 1) := by decide +kernel
theorem dX5_endRide_22 : decode cX5_endRide 22 = .ok (.getfield 33, 3) := by decide +kernel
theorem dX5_endRide_25 : decode cX5_endRide 25 = .ok (.getfield 119, 3) := by decide +kernel
theorem dX5_endRide_28 : decode cX5_endRide 28 = .ok (.iload_n 1, 1) := by decide +kernel
theorem dX5_endRide_29 : decode cX5_endRide 29 = .ok (.dup2, 1) := by decide +kernel
theorem dX5_endRide_30 : decode cX5_endRide 30 = .ok (.iaload, 1) := by decide +kernel
theorem dX5_endRide_31 : decode cX5_endRide 31 = .ok (.iload 4, 2) := by decide +kernel
theorem dX5_endRide_33 : decode cX5_endRide 33 = .ok (.iadd, 1) := by decide +kernel
theorem dX5_endRide_34 : decode cX5_endRide 34 = .ok (.iastore, 1) := by decide +kernel
theorem dX5_endRide_35 : decode cX5_endRide 35 = .ok (.aload_n 0, 1) := by decide +kernel
theorem dX5_endRide_36 : decode cX5_endRide 36 = .ok (.getfield 40, 3) := by decide +kernel
theorem dX5_endRide_39 : decode cX5_endRide 39 = .ok (.getfield 281, 3) := by decide +kernel
theorem dX5_endRide_42 : decode cX5_endRide 42 = .ok (.iload_n 3, 1) := by decide +kernel
theorem dX5_endRide_43 : decode cX5_endRide 43 = .ok (.dup2, 1) := by decide +kernel
theorem dX5_endRide_44 : decode cX5_endRide 44 = .ok (.iaload, 1) := by decide +kernel
theorem dX5_endRide_45 : decode cX5_endRide 45 = .ok (.iload 4, 2) := by decide +kernel
theorem dX5_endRide_47 : decode cX5_endRide 47 = .ok (.iadd, 1) := by decide +kernel
theorem dX5_endRide_48 : decode cX5_endRide 48 = .ok (.iastore, 1) := by decide +kernel
theorem dX5_endRide_49 : decode cX5_endRide 49 = .ok (.aload_n 0, 1) := by decide +kernel
theorem dX5_endRide_50 : decode cX5_endRide 50 = .ok (.getfield 40, 3) := by decide +kernel
theorem dX5_endRide_53 : decode cX5_endRide 53 = .ok (.getfield 156, 3) := by decide +kernel
theorem dX5_endRide_56 : decode cX5_endRide 56 = .ok (.iload_n 3, 1) := by decide +kernel
theorem dX5_endRide_57 : decode cX5_endRide 57 = .ok (.dup2, 1) := by decide +kernel
theorem dX5_endRide_58 : decode cX5_endRide 58 = .ok (.iaload, 1) := by decide +kernel
theorem dX5_endRide_59 : decode cX5_endRide 59 = .ok (.aload_n 0, 1) := by decide +kernel
theorem dX5_endRide_60 : decode cX5_endRide 60 = .ok (.getfield 33, 3) := by decide +kernel
theorem dX5_endRide_63 : decode cX5_endRide 63 = .ok (.iload_n 1, 1) := by decide +kernel
theorem dX5_endRide_64 : decode cX5_endRide 64 = .ok (.iload 4, 2) := by decide +kernel
theorem dX5_endRide_66 : decode cX5_endRide 66 = .ok (.invokevirtual 284, 3) := by decide +kernel
theorem dX5_endRide_69 : decode cX5_endRide 69 = .ok (.iadd, 1) := by decide +kernel
theorem dX5_endRide_70 : decode cX5_endRide 70 = .ok (.iastore, 1) := by decide +kernel
theorem dX5_endRide_71 : decode cX5_endRide 71 = .ok (.return_, 1) := by decide +kernel
set_option maxRecDepth 20000 in
theorem ggX5_minutesOf_X0_isRiddenBy : GoodIn wsX5_minutesOf wsX0_isRiddenBy := goodIn_r _ [9, 10, 11, 32, 33, 34, 35, 36, 37, 38] rfl (by decide +kernel)
set_option maxRecDepth 20000 in
theorem gX5_minutesOf_X0_isRiddenBy : GoodIn wsX5_minutesOf (wsV RX5 287 RX0 yX0_isRiddenBy wsX0_isRiddenBy) := goodIn_app (goodIn_of _ (by decide +kernel)) ggX5_minutesOf_X0_isRiddenBy
set_option maxRecDepth 20000 in
theorem ggX5_minutesOf_X0_minutesGoingOn : GoodIn wsX5_minutesOf wsX0_minutesGoingOn := goodIn_r _ [15, 10, 16, 32, 33, 34, 35, 36, 37, 38] rfl (by decide +kernel)
set_option maxRecDepth 20000 in
theorem gX5_minutesOf_X0_minutesGoingOn : GoodIn wsX5_minutesOf (wsV RX5 122 RX0 yX0_minutesGoingOn wsX0_minutesGoingOn) := goodIn_app (goodIn_of _ (by decide +kernel)) ggX5_minutesOf_X0_minutesGoingOn
theorem dX5_minutesOf_0 : decode cX5_minutesOf 0 = .ok (.aload_n 0, 1) := by decide +kernel
theorem dX5_minutesOf_1 : decode cX5_minutesOf 1 = .ok (.getfield 40, 3) := by decide +kernel
theorem dX5_minutesOf_4 : decode cX5_minutesOf 4 = .ok (.getfield 281, 3) := by decide +kernel
theorem dX5_minutesOf_7 : decode cX5_minutesOf 7 = .ok (.iload_n 1, 1) := by decide +kernel
theorem dX5_minutesOf_8 : decode cX5_minutesOf 8 = .ok (.iaload, 1) := by decide +kernel
theorem dX5_minutesOf_9 : decode cX5_minutesOf 9 = .ok (.istore_n 2, 1) := by decide +kernel
theorem dX5_minutesOf_10 : decode cX5_minutesOf 10 = .ok (.iconst 0, 1) := by decide +kernel
theorem dX5_minutesOf_11 : decode cX5_minutesOf 11 = .ok (.istore_n 3, 1) := by decide +kernel
theorem dX5_minutesOf_12 : decode cX5_minutesOf 12 = .ok (.iload_n 3, 1) := by decide +kernel
theorem dX5_minutesOf_13 : decode cX5_minutesOf 13 = .ok (.bipush 30, 2) := by decide +kernel
theorem dX5_minutesOf_15 : decode cX5_minutesOf 15 = .ok (.if_icmp .ge 36, 3) := by decide +kernel
theorem dX5_minutesOf_18 : decode cX5_minutesOf 18 = .ok (.aload_n 0, 1) := by decide +kernel
theorem dX5_minutesOf_19 : decode cX5_minutesOf 19 = .ok (.getfield 33, 3) := by decide +kernel
theorem dX5_minutesOf_22 : decode cX5_minutesOf 22 = .ok (.iload_n 3, 1) := by decide +kernel
theorem dX5_minutesOf_23 : decode cX5_minutesOf 23 = .ok (.iload_n 1, 1) := by decide +kernel
theorem dX5_minutesOf_24 : decode cX5_minutesOf 24 = .ok (.invokevirtual 287, 3) := by decide +kernel
theorem dX5_minutesOf_27 : decode cX5_minutesOf 27 = .ok (.ifCond .eq 18, 3) := by decide +kernel
theorem dX5_minutesOf_30 : decode cX5_minutesOf 30 = .ok (.iload_n 2, 1) := by decide +kernel
theorem dX5_minutesOf_31 : decode cX5_minutesOf 31 = .ok (.aload_n 0, 1) := by decide +kernel
theorem dX5_minutesOf_32 : decode cX5_minutesOf 32 = .ok (.getfield 33, 3) := by decide +kernel
theorem dX5_minutesOf_35 : decode cX5_minutesOf 35 = .ok (.iload_n 3, 1) := by decide +kernel
theorem dX5_minutesOf_36 : decode cX5_minutesOf 36 = .ok (.aload_n 0, 1) := by decide +kernel
theorem dX5_minutesOf_37 : decode cX5_minutesOf 37 = .ok (.getfield 44, 3) := by decide +kernel
theorem dX5_minutesOf_40 : decode cX5_minutesOf 40 = .ok (.invokevirtual 122, 3) := by decide +kernel
theorem dX5_minutesOf_43 : decode cX5_minutesOf 43 = .ok (.iadd, 1) := by decide +kernel
theorem dX5_minutesOf_44 : decode cX5_minutesOf 44 = .ok (.istore_n 2, 1) := by decide +kernel
theorem dX5_minutesOf_45 : decode cX5_minutesOf 45 = .ok (.iinc 3 1, 3) := by decide +kernel
theorem dX5_minutesOf_48 : decode cX5_minutesOf 48 = .ok (.goto (-36), 3) := by decide +kernel
theorem dX5_minutesOf_51 : decode cX5_minutesOf 51 = .ok (.iload_n 2, 1) := by decide +kernel
theorem dX5_minutesOf_52 : decode cX5_minutesOf 52 = .ok (.ireturn, 1) := by decide +kernel
set_option maxRecDepth 20000 in
theorem ggX5_costGoingOn_X0_isRiddenBy : GoodIn wsX5_costGoingOn wsX0_isRiddenBy := goodIn_r _ [7, 8, 9, 34, 35, 36, 37, 38, 39, 40] rfl (by decide +kernel)
set_option maxRecDepth 20000 in
theorem gX5_costGoingOn_X0_isRiddenBy : GoodIn wsX5_costGoingOn (wsV RX5 287 RX0 yX0_isRiddenBy wsX0_isRiddenBy) := goodIn_app (goodIn_of _ (by decide +kernel)) ggX5_costGoingOn_X0_isRiddenBy
set_option maxRecDepth 20000 in
theorem ggX5_costGoingOn_X0_minutesGoingOn : GoodIn wsX5_costGoingOn wsX0_minutesGoingOn := goodIn_r _ [13, 8, 14, 34, 35, 36, 37, 38, 39, 40] rfl (by decide +kernel)
set_option maxRecDepth 20000 in
theorem gX5_costGoingOn_X0_minutesGoingOn : GoodIn wsX5_costGoingOn (wsV RX5 122 RX0 yX0_minutesGoingOn wsX0_minutesGoingOn) := goodIn_app (goodIn_of _ (by decide +kernel)) ggX5_costGoingOn_X0_minutesGoingOn
set_option maxRecDepth 20000 in
theorem ggX5_costGoingOn_X0_rideCost : GoodIn wsX5_costGoingOn wsX0_rideCost := goodIn_r _ [18, 19, 20, 21, 22, 23, 24, 34, 35, 36, 37, 38, 39, 40] rfl (by decide +kernel)
set_option maxRecDepth 20000 in
theorem gX5_costGoingOn_X0_rideCost : GoodIn wsX5_costGoingOn (wsV RX5 284 RX0 yX0_rideCost wsX0_rideCost) := goodIn_app (goodIn_of _ (by decide +kernel)) ggX5_costGoingOn_X0_rideCost
theorem dX5_costGoingOn_0 : decode cX5_costGoingOn 0 = .ok (.iconst 0, 1) := by decide +kernel
theorem dX5_costGoingOn_1 : decode cX5_costGoingOn 1 = .ok (.istore_n 2, 1) := by decide +kernel
theorem dX5_costGoingOn_2 : decode cX5_costGoingOn 2 = .ok (.iconst 0, 1) := by decide +kernel
theorem dX5_costGoingOn_3 : decode cX5_costGoingOn 3 = .ok (.istore_n 3, 1) := by decide +kernel
theorem dX5_costGoingOn_4 : decode cX5_costGoingOn 4 = .ok (.iload_n 3, 1) := by decide +kernel
theorem dX5_costGoingOn_5 : decode cX5_costGoingOn 5 = .ok (.bipush 30, 2) := by decide +kernel
theorem dX5_costGoingOn_7 : decode cX5_costGoingOn 7 = .ok (.if_icmp .ge 44, 3) := by decide +kernel
theorem dX5_costGoingOn_10 : decode cX5_costGoingOn 10 = .ok (.aload_n 0, 1) := by decide +kernel
theorem dX5_costGoingOn_11 : decode cX5_costGoingOn 11 = .ok (.getfield 33, 3) := by decide +kernel
theorem dX5_costGoingOn_14 : decode cX5_costGoingOn 14 = .ok (.iload_n 3, 1) := by decide +kernel
theorem dX5_costGoingOn_15 : decode cX5_costGoingOn 15 = .ok (.iload_n 1, 1) := by decide +kernel
theorem dX5_costGoingOn_16 : decode cX5_costGoingOn 16 = .ok (.invokevirtual 287, 3) := by decide +kernel
theorem dX5_costGoingOn_19 : decode cX5_costGoingOn 19 = .ok (.ifCond .eq 26, 3) := by decide +kernel
theorem dX5_costGoingOn_22 : decode cX5_costGoingOn 22 = .ok (.iload_n 2, 1) := by decide +kernel
theorem dX5_costGoingOn_23 : decode cX5_costGoingOn 23 = .ok (.aload_n 0, 1) := by decide +kernel
theorem dX5_costGoingOn_24 : decode cX5_costGoingOn 24 = .ok (.getfield 33, 3) := by decide +kernel
theorem dX5_costGoingOn_27 : decode cX5_costGoingOn 27 = .ok (.iload_n 3, 1) := by decide +kernel
theorem dX5_costGoingOn_28 : decode cX5_costGoingOn 28 = .ok (.aload_n 0, 1) := by decide +kernel
theorem dX5_costGoingOn_29 : decode cX5_costGoingOn 29 = .ok (.getfield 33, 3) := by decide +kernel
theorem dX5_costGoingOn_32 : decode cX5_costGoingOn 32 = .ok (.iload_n 3, 1) := by decide +kernel
theorem dX5_costGoingOn_33 : decode cX5_costGoingOn 33 = .ok (.aload_n 0, 1) := by decide +kernel
theorem dX5_costGoingOn_34 : decode cX5_costGoingOn 34 = .ok (.getfield 44, 3) := by decide +kernel
theorem dX5_costGoingOn_37 : decode cX5_costGoingOn 37 = .ok (.invokevirtual 122, 3) := by decide +kernel
theorem dX5_costGoingOn_40 : decode cX5_costGoingOn 40 = .ok (.invokevirtual 284, 3) := by decide +kernel
theorem dX5_costGoingOn_43 : decode cX5_costGoingOn 43 = .ok (.iadd, 1) := by decide +kernel
theorem dX5_costGoingOn_44 : decode cX5_costGoingOn 44 = .ok (.istore_n 2, 1) := by decide +kernel
theorem dX5_costGoingOn_45 : decode cX5_costGoingOn 45 = .ok (.iinc 3 1, 3) := by decide +kernel
theorem dX5_costGoingOn_48 : decode cX5_costGoingOn 48 = .ok (.goto (-44), 3) := by decide +kernel
theorem dX5_costGoingOn_51 : decode cX5_costGoingOn 51 = .ok (.iload_n 2, 1) := by decide +kernel
theorem dX5_costGoingOn_52 : decode cX5_costGoingOn 52 = .ok (.ireturn, 1) := by decide +kernel
