theorem dX6_init_0 : decode cX6_init 0 = .ok (.aload_n 0, 1) := by decide +kernel
theorem dX6_init_1 : decode cX6_init 1 = .ok (.invokespecial 1, 3) := by decide +kernel
theorem dX6_init_4 : decode cX6_init 4 = .ok (.aload_n 0, 1) := by decide +kernel
theorem dX6_init_5 : decode cX6_init 5 = .ok (.bipush 8, 2) := by decide +kernel
theorem dX6_init_7 : decode cX6_init 7 = .ok (.newarray .int, 2) := by decide +kernel
theorem dX6_init_9 : decode cX6_init 9 = .ok (.putfield 7, 3) := by decide +kernel
theorem dX6_init_12 : decode cX6_init 12 = .ok (.aload_n 0, 1) := by decide +kernel
theorem dX6_init_13 : decode cX6_init 13 = .ok (.bipush 8, 2) := by decide +kernel
theorem dX6_init_15 : decode cX6_init 15 = .ok (.newarray .int, 2) := by decide +kernel
theorem dX6_init_17 : decode cX6_init 17 = .ok (.putfield 13, 3) := by decide +kernel
theorem dX6_init_20 : decode cX6_init 20 = .ok (.aload_n 0, 1) := by decide +kernel
theorem dX6_init_21 : decode cX6_init 21 = .ok (.bipush 8, 2) := by decide +kernel
theorem dX6_init_23 : decode cX6_init 23 = .ok (.newarray .int, 2) := by decide +kernel
theorem dX6_init_25 : decode cX6_init 25 = .ok (.putfield 16, 3) := by decide +kernel
theorem dX6_init_28 : decode cX6_init 28 = .ok (.aload_n 0, 1) := by decide +kernel
theorem dX6_init_29 : decode cX6_init 29 = .ok (.sipush 300, 3) := by decide +kernel
theorem dX6_init_32 : decode cX6_init 32 = .ok (.newarray .int, 2) := by decide +kernel
theorem dX6_init_34 : decode cX6_init 34 = .ok (.putfield 19, 3) := by decide +kernel
theorem dX6_init_37 : decode cX6_init 37 = .ok (.aload_n 0, 1) := by decide +kernel
theorem dX6_init_38 : decode cX6_init 38 = .ok (.sipush 300, 3) := by decide +kernel
theorem dX6_init_41 : decode cX6_init 41 = .ok (.newarray .int, 2) := by decide +kernel
theorem dX6_init_43 : decode cX6_init 43 = .ok (.putfield 22, 3) := by decide +kernel
theorem dX6_init_46 : decode cX6_init 46 = .ok (.aload_n 0, 1) := by decide +kernel
theorem dX6_init_47 : decode cX6_init 47 = .ok (.sipush 300, 3) := by decide +kernel
theorem dX6_init_50 : decode cX6_init 50 = .ok (.newarray .int, 2) := by decide +kernel
theorem dX6_init_52 : decode cX6_init 52 = .ok (.putfield 25, 3) := by decide +kernel
theorem dX6_init_55 : decode cX6_init 55 = .ok (.aload_n 0, 1) := by decide +kernel
theorem dX6_init_56 : decode cX6_init 56 = .ok (.sipush 300, 3) := by decide +kernel
theorem dX6_init_59 : decode cX6_init 59 = .ok (.newarray .int, 2) := by decide +kernel
theorem dX6_init_61 : decode cX6_init 61 = .ok (.putfield 28, 3) := by decide +kernel
theorem dX6_init_64 : decode cX6_init 64 = .ok (.aload_n 0, 1) := by decide +kernel
theorem dX6_init_65 : decode cX6_init 65 = .ok (.bipush 8, 2) := by decide +kernel
theorem dX6_init_67 : decode cX6_init 67 = .ok (.newarray .int, 2) := by decide +kernel
theorem dX6_init_69 : decode cX6_init 69 = .ok (.putfield 31, 3) := by decide +kernel
theorem dX6_init_72 : decode cX6_init 72 = .ok (.aload_n 0, 1) := by decide +kernel
theorem dX6_init_73 : decode cX6_init 73 = .ok (.bipush 8, 2) := by decide +kernel
theorem dX6_init_75 : decode cX6_init 75 = .ok (.newarray .int, 2) := by decide +kernel
theorem dX6_init_77 : decode cX6_init 77 = .ok (.putfield 34, 3) := by decide +kernel
theorem dX6_init_80 : decode cX6_init 80 = .ok (.aload_n 0, 1) := by decide +kernel
theorem dX6_init_81 : decode cX6_init 81 = .ok (.bipush 8, 2) := by decide +kernel
theorem dX6_init_83 : decode cX6_init 83 = .ok (.newarray .int, 2) := by decide +kernel
theorem dX6_init_85 : decode cX6_init 85 = .ok (.putfield 37, 3) := by decide +kernel
theorem dX6_init_88 : decode cX6_init 88 = .ok (.aload_n 0, 1) := by decide +kernel
theorem dX6_init_89 : decode cX6_init 89 = .ok (.bipush 30, 2) := by decide +kernel
theorem dX6_init_91 : decode cX6_init 91 = .ok (.newarray .int, 2) := by decide +kernel
theorem dX6_init_93 : decode cX6_init 93 = .ok (.putfield 40, 3) := by decide +kernel
theorem dX6_init_96 : decode cX6_init 96 = .ok (.aload_n 0, 1) := by decide +kernel
theorem dX6_init_97 : decode cX6_init 97 = .ok (.bipush 30, 2) := by decide +kernel
theorem dX6_init_99 : decode cX6_init 99 = .ok (.newarray .int, 2) := by decide +kernel
theorem dX6_init_101 : decode cX6_init 101 = .ok (.putfield 43, 3) := by decide +kernel
theorem dX6_init_104 : decode cX6_init 104 = .ok (.aload_n 0, 1) := by decide +kernel
theorem dX6_init_105 : decode cX6_init 105 = .ok (.bipush 30, 2) := by decide +kernel
theorem dX6_init_107 : decode cX6_init 107 = .ok (.newarray .int, 2) := by decide +kernel
theorem dX6_init_109 : decode cX6_init 109 = .ok (.putfield 46, 3) := by decide +kernel
theorem dX6_init_112 : decode cX6_init 112 = .ok (.aload_n 0, 1) := by decide +kernel
theorem dX6_init_113 : decode cX6_init 113 = .ok (.bipush 30, 2) := by decide +kernel
theorem dX6_init_115 : decode cX6_init 115 = .ok (.newarray .int, 2) := by decide +kernel
theorem dX6_init_117 : decode cX6_init 117 = .ok (.putfield 49, 3) := by decide +kernel
theorem dX6_init_120 : decode cX6_init 120 = .ok (.aload_n 0, 1) := by decide +kernel
theorem dX6_init_121 : decode cX6_init 121 = .ok (.bipush 30, 2) := by decide +kernel
theorem dX6_init_123 : decode cX6_init 123 = .ok (.newarray .int, 2) := by decide +kernel
theorem dX6_init_125 : decode cX6_init 125 = .ok (.putfield 52, 3) := by decide +kernel
theorem dX6_init_128 : decode cX6_init 128 = .ok (.aload_n 0, 1) := by decide +kernel
theorem dX6_init_129 : decode cX6_init 129 = .ok (.bipush 30, 2) := by decide +kernel
theorem dX6_init_131 : decode cX6_init 131 = .ok (.newarray .int, 2) := by decide +kernel
theorem dX6_init_133 : decode cX6_init 133 = .ok (.putfield 55, 3) := by decide +kernel
theorem dX6_init_136 : decode cX6_init 136 = .ok (.aload_n 0, 1) := by decide +kernel
theorem dX6_init_137 : decode cX6_init 137 = .ok (.bipush 30, 2) := by decide +kernel
theorem dX6_init_139 : decode cX6_init 139 = .ok (.newarray .int, 2) := by decide +kernel
theorem dX6_init_141 : decode cX6_init 141 = .ok (.putfield 58, 3) := by decide +kernel
theorem dX6_init_144 : decode cX6_init 144 = .ok (.aload_n 0, 1) := by decide +kernel
theorem dX6_init_145 : decode cX6_init 145 = .ok (.bipush 10, 2) := by decide +kernel
theorem dX6_init_147 : decode cX6_init 147 = .ok (.newarray .int, 2) := by decide +kernel
theorem dX6_init_149 : decode cX6_init 149 = .ok (.putfield 61, 3) := by decide +kernel
theorem dX6_init_152 : decode cX6_init 152 = .ok (.aload_n 0, 1) := by decide +kernel
theorem dX6_init_153 : decode cX6_init 153 = .ok (.bipush 10, 2) := by decide +kernel
theorem dX6_init_155 : decode cX6_init 155 = .ok (.newarray .int, 2) := by decide +kernel
theorem dX6_init_157 : decode cX6_init 157 = .ok (.putfield 64, 3) := by decide +kernel
theorem dX6_init_160 : decode cX6_init 160 = .ok (.aload_n 0, 1) := by decide +kernel
theorem dX6_init_161 : decode cX6_init 161 = .ok (.bipush 10, 2) := by decide +kernel
theorem dX6_init_163 : decode cX6_init 163 = .ok (.newarray .int, 2) := by decide +kernel
theorem dX6_init_165 : decode cX6_init 165 = .ok (.putfield 67, 3) := by decide +kernel
theorem dX6_init_168 : decode cX6_init 168 = .ok (.aload_n 0, 1) := by decide +kernel
theorem dX6_init_169 : decode cX6_init 169 = .ok (.bipush 10, 2) := by decide +kernel
theorem dX6_init_171 : decode cX6_init 171 = .ok (.newarray .int, 2) := by decide +kernel
theorem dX6_init_173 : decode cX6_init 173 = .ok (.putfield 70, 3) := by decide +kernel
theorem dX6_init_176 : decode cX6_init 176 = .ok (.aload_n 0, 1) := by decide +kernel
theorem dX6_init_177 : decode cX6_init 177 = .ok (.bipush 10, 2) := by decide +kernel
theorem dX6_init_179 : decode cX6_init 179 = .ok (.newarray .int, 2) := by decide +kernel
theorem dX6_init_181 : decode cX6_init 181 = .ok (.putfield 73, 3) := by decide +kernel
theorem dX6_init_184 : decode cX6_init 184 = .ok (.aload_n 0, 1) := by decide +kernel
theorem dX6_init_185 : decode cX6_init 185 = .ok (.bipush 10, 2) := by decide +kernel
theorem dX6_init_187 : decode cX6_init 187 = .ok (.newarray .int, 2) := by decide +kernel
theorem dX6_init_189 : decode cX6_init 189 = .ok (.putfield 76, 3) := by decide +kernel
theorem dX6_init_192 : decode cX6_init 192 = .ok (.return_, 1) := by decide +kernel
theorem dX6_thrown_0 : decode cX6_thrown 0 = .ok (.aload_n 0, 1) := by decide +kernel
theorem dX6_thrown_1 : decode cX6_thrown 1 = .ok (.getfield 79, 3) := by decide +kernel
theorem dX6_thrown_4 : decode cX6_thrown 4 = .ok (.ireturn, 1) := by decide +kernel
theorem dX6_goesWell_0 : decode cX6_goesWell 0 = .ok (.aload_n 0, 1) := by decide +kernel
theorem dX6_goesWell_1 : decode cX6_goesWell 1 = .ok (.iload_n 1, 1) := by decide +kernel
theorem dX6_goesWell_2 : decode cX6_goesWell 2 = .ok (.putfield 79, 3) := by decide +kernel
theorem dX6_goesWell_5 : decode cX6_goesWell 5 = .ok (.iload_n 1, 1) := by decide +kernel
theorem dX6_goesWell_6 : decode cX6_goesWell 6 = .ok (.ifCond .ne 7, 3) := by decide +kernel
theorem dX6_goesWell_9 : decode cX6_goesWell 9 = .ok (.iconst 1, 1) := by decide +kernel
theorem dX6_goesWell_10 : decode cX6_goesWell 10 = .ok (.goto 4, 3) := by decide +kernel
theorem dX6_goesWell_13 : decode cX6_goesWell 13 = .ok (.iconst 0, 1) := by decide +kernel
theorem dX6_goesWell_14 : decode cX6_goesWell 14 = .ok (.ireturn, 1) := by decide +kernel
theorem dX6_in_0 : decode cX6_in 0 = .ok (.iload_n 0, 1) := by decide +kernel
theorem dX6_in_1 : decode cX6_in 1 = .ok (.iload_n 1, 1) := by decide +kernel
theorem dX6_in_2 : decode cX6_in 2 = .ok (.if_icmp .lt 12, 3) := by decide +kernel
theorem dX6_in_5 : decode cX6_in 5 = .ok (.iload_n 0, 1) := by decide +kernel
theorem dX6_in_6 : decode cX6_in 6 = .ok (.iload_n 2, 1) := by decide +kernel
theorem dX6_in_7 : decode cX6_in 7 = .ok (.if_icmp .gt 7, 3) := by decide +kernel
theorem dX6_in_10 : decode cX6_in 10 = .ok (.iconst 1, 1) := by decide +kernel
theorem dX6_in_11 : decode cX6_in 11 = .ok (.goto 4, 3) := by decide +kernel
theorem dX6_in_14 : decode cX6_in 14 = .ok (.iconst 0, 1) := by decide +kernel
theorem dX6_in_15 : decode cX6_in 15 = .ok (.ireturn, 1) := by decide +kernel
set_option maxRecDepth 20000 in
theorem ggX6_isStation_X6_in : GoodIn wsX6_isStation wsX6_in := goodIn_r _ [4] rfl (by decide +kernel)
set_option maxRecDepth 20000 in
theorem gX6_isStation_X6_in : GoodIn wsX6_isStation (va_wsS RX6 83 yX6_in wsX6_in) := goodIn_app (goodIn_of _ (by decide +kernel)) ggX6_isStation_X6_in
theorem dX6_isStation_0 : decode cX6_isStation 0 = .ok (.iload_n 0, 1) := by decide +kernel
theorem dX6_isStation_1 : decode cX6_isStation 1 = .ok (.iconst 0, 1) := by decide +kernel
theorem dX6_isStation_2 : decode cX6_isStation 2 = .ok (.bipush 7, 2) := by decide +kernel
theorem dX6_isStation_4 : decode cX6_isStation 4 = .ok (.invokestatic 83, 3) := by decide +kernel
theorem dX6_isStation_7 : decode cX6_isStation 7 = .ok (.ireturn, 1) := by decide +kernel
set_option maxRecDepth 20000 in
theorem ggX6_isCycle_X6_in : GoodIn wsX6_isCycle wsX6_in := goodIn_r _ [4] rfl (by decide +kernel)
set_option maxRecDepth 20000 in
theorem gX6_isCycle_X6_in : GoodIn wsX6_isCycle (va_wsS RX6 83 yX6_in wsX6_in) := goodIn_app (goodIn_of _ (by decide +kernel)) ggX6_isCycle_X6_in
theorem dX6_isCycle_0 : decode cX6_isCycle 0 = .ok (.iload_n 0, 1) := by decide +kernel
theorem dX6_isCycle_1 : decode cX6_isCycle 1 = .ok (.iconst 0, 1) := by decide +kernel
theorem dX6_isCycle_2 : decode cX6_isCycle 2 = .ok (.bipush 29, 2) := by decide +kernel
theorem dX6_isCycle_4 : decode cX6_isCycle 4 = .ok (.invokestatic 83, 3) := by decide +kernel
theorem dX6_isCycle_7 : decode cX6_isCycle 7 = .ok (.ireturn, 1) := by decide +kernel
set_option maxRecDepth 20000 in
theorem ggX6_isRider_X6_in : GoodIn wsX6_isRider wsX6_in := goodIn_r _ [4] rfl (by decide +kernel)
set_option maxRecDepth 20000 in
theorem gX6_isRider_X6_in : GoodIn wsX6_isRider (va_wsS RX6 83 yX6_in wsX6_in) := goodIn_app (goodIn_of _ (by decide +kernel)) ggX6_isRider_X6_in
theorem dX6_isRider_0 : decode cX6_isRider 0 = .ok (.iload_n 0, 1) := by decide +kernel
theorem dX6_isRider_1 : decode cX6_isRider 1 = .ok (.iconst 0, 1) := by decide +kernel
theorem dX6_isRider_2 : decode cX6_isRider 2 = .ok (.bipush 9, 2) := by decide +kernel
theorem dX6_isRider_4 : decode cX6_isRider 4 = .ok (.invokestatic 83, 3) := by decide +kernel
theorem dX6_isRider_7 : decode cX6_isRider 7 = .ok (.ireturn, 1) := by decide +kernel
set_option maxRecDepth 20000 in
theorem ggX6_lies_X6_isStation : GoodIn wsX6_lies wsX6_isStation := goodIn_r _ [7, 8, 9, 6, 10] rfl (by decide +kernel)
set_option maxRecDepth 20000 in
theorem gX6_lies_X6_isStation : GoodIn wsX6_lies (va_wsS RX6 87 yX6_isStation wsX6_isStation) := goodIn_app (goodIn_of _ (by decide +kernel)) ggX6_lies_X6_isStation
set_option maxRecDepth 20000 in
theorem ggX6_lies_X6_in : GoodIn wsX6_lies wsX6_in := goodIn_r _ [10] rfl (by decide +kernel)
set_option maxRecDepth 20000 in
theorem gX6_lies_X6_in : GoodIn wsX6_lies (va_wsS RX6 83 yX6_in wsX6_in) := goodIn_app (goodIn_of _ (by decide +kernel)) ggX6_lies_X6_in
set_option maxRecDepth 20000 in
theorem ggX6_lies_X6_goesWell : GoodIn wsX6_lies wsX6_goesWell := goodIn_r _ [14, 15, 16, 17, 18, 19, 20, 21, 22, 23, 24, 25, 26, 27, 28, 29, 30, 31, 32, 33, 34, 35, 36, 37, 38, 39, 40, 41, 42, 43, 44] rfl (by decide +kernel)
set_option maxRecDepth 20000 in
theorem gX6_lies_X6_goesWell : GoodIn wsX6_lies (wsV RX6 91 RX6 yX6_goesWell wsX6_goesWell) := goodIn_app (goodIn_of _ (by decide +kernel)) ggX6_lies_X6_goesWell
theorem dX6_lies_0 : decode cX6_lies 0 = .ok (.iload_n 1, 1) := by decide +kernel
theorem dX6_lies_1 : decode cX6_lies 1 = .ok (.invokestatic 87, 3) := by decide +kernel
theorem dX6_lies_4 : decode cX6_lies 4 = .ok (.istore 5, 2) := by decide +kernel
theorem dX6_lies_6 : decode cX6_lies 6 = .ok (.aload_n 0, 1) := by decide +kernel
theorem dX6_lies_7 : decode cX6_lies 7 = .ok (.iload 5, 2) := by decide +kernel
theorem dX6_lies_9 : decode cX6_lies 9 = .ok (.ifCond .ne 7, 3) := by decide +kernel
theorem dX6_lies_12 : decode cX6_lies 12 = .ok (.iconst 1, 1) := by decide +kernel
theorem dX6_lies_13 : decode cX6_lies 13 = .ok (.goto 39, 3) := by decide +kernel
theorem dX6_lies_16 : decode cX6_lies 16 = .ok (.iload_n 2, 1) := by decide +kernel
theorem dX6_lies_17 : decode cX6_lies 17 = .ok (.iconst 0, 1) := by decide +kernel
theorem dX6_lies_18 : decode cX6_lies 18 = .ok (.bipush 99, 2) := by decide +kernel
theorem dX6_lies_20 : decode cX6_lies 20 = .ok (.invokestatic 83, 3) := by decide +kernel
theorem dX6_lies_23 : decode cX6_lies 23 = .ok (.ifCond .eq 28, 3) := by decide +kernel
theorem dX6_lies_26 : decode cX6_lies 26 = .ok (.iload_n 3, 1) := by decide +kernel
theorem dX6_lies_27 : decode cX6_lies 27 = .ok (.iconst 0, 1) := by decide +kernel
theorem dX6_lies_28 : decode cX6_lies 28 = .ok (.bipush 99, 2) := by decide +kernel
theorem dX6_lies_30 : decode cX6_lies 30 = .ok (.invokestatic 83, 3) := by decide +kernel
theorem dX6_lies_33 : decode cX6_lies 33 = .ok (.ifCond .eq 18, 3) := by decide +kernel
theorem dX6_lies_36 : decode cX6_lies 36 = .ok (.iload 4, 2) := by decide +kernel
theorem dX6_lies_38 : decode cX6_lies 38 = .ok (.iconst 0, 1) := by decide +kernel
theorem dX6_lies_39 : decode cX6_lies 39 = .ok (.bipush 99, 2) := by decide +kernel
theorem dX6_lies_41 : decode cX6_lies 41 = .ok (.invokestatic 83, 3) := by decide +kernel
theorem dX6_lies_44 : decode cX6_lies 44 = .ok (.ifCond .eq 7, 3) := by decide +kernel
theorem dX6_lies_47 : decode cX6_lies 47 = .ok (.iconst 0, 1) := by decide +kernel
theorem dX6_lies_48 : decode cX6_lies 48 = .ok (.goto 4, 3) := by decide +kernel
theorem dX6_lies_51 : decode cX6_lies 51 = .ok (.iconst 2, 1) := by decide +kernel
theorem dX6_lies_52 : decode cX6_lies 52 = .ok (.invokevirtual 91, 3) := by decide +kernel
theorem dX6_lies_55 : decode cX6_lies 55 = .ok (.ifCond .eq 25, 3) := by decide +kernel
theorem dX6_lies_58 : decode cX6_lies 58 = .ok (.aload_n 0, 1) := by decide +kernel
theorem dX6_lies_59 : decode cX6_lies 59 = .ok (.getfield 7, 3) := by decide +kernel
theorem dX6_lies_62 : decode cX6_lies 62 = .ok (.iload_n 1, 1) := by decide +kernel
theorem dX6_lies_63 : decode cX6_lies 63 = .ok (.iload_n 2, 1) := by decide +kernel
theorem dX6_lies_64 : decode cX6_lies 64 = .ok (.iastore, 1) := by decide +kernel
theorem dX6_lies_65 : decode cX6_lies 65 = .ok (.aload_n 0, 1) := by decide +kernel
theorem dX6_lies_66 : decode cX6_lies 66 = .ok (.getfield 13, 3) := by decide +kernel
theorem dX6_lies_69 : decode cX6_lies 69 = .ok (.iload_n 1, 1) := by decide +kernel
theorem dX6_lies_70 : decode cX6_lies 70 = .ok (.iload_n 3, 1) := by decide +kernel
theorem dX6_lies_71 : decode cX6_lies 71 = .ok (.iastore, 1) := by decide +kernel
theorem dX6_lies_72 : decode cX6_lies 72 = .ok (.aload_n 0, 1) := by decide +kernel
theorem dX6_lies_73 : decode cX6_lies 73 = .ok (.getfield 16, 3) := by decide +kernel
theorem dX6_lies_76 : decode cX6_lies 76 = .ok (.iload_n 1, 1) := by decide +kernel
theorem dX6_lies_77 : decode cX6_lies 77 = .ok (.iload 4, 2) := by decide +kernel
theorem dX6_lies_79 : decode cX6_lies 79 = .ok (.iastore, 1) := by decide +kernel
theorem dX6_lies_80 : decode cX6_lies 80 = .ok (.return_, 1) := by decide +kernel
set_option maxRecDepth 20000 in
theorem ggX6_pass_X6_in : GoodIn wsX6_pass wsX6_in := goodIn_r _ [5] rfl (by decide +kernel)
set_option maxRecDepth 20000 in
theorem gX6_pass_X6_in : GoodIn wsX6_pass (va_wsS RX6 83 yX6_in wsX6_in) := goodIn_app (goodIn_of _ (by decide +kernel)) ggX6_pass_X6_in
set_option maxRecDepth 20000 in
theorem ggX6_pass_X6_goesWell : GoodIn wsX6_pass wsX6_goesWell := goodIn_r _ [9, 10, 11, 12, 13, 14, 15, 16, 17, 18, 19, 20, 21, 22, 23, 24, 25, 26, 27, 28, 29, 30, 31, 32, 33, 34, 35, 36, 37, 38, 39] rfl (by decide +kernel)
set_option maxRecDepth 20000 in
theorem gX6_pass_X6_goesWell : GoodIn wsX6_pass (wsV RX6 91 RX6 yX6_goesWell wsX6_goesWell) := goodIn_app (goodIn_of _ (by decide +kernel)) ggX6_pass_X6_goesWell
theorem dX6_pass_0 : decode cX6_pass 0 = .ok (.iload_n 1, 1) := by decide +kernel
theorem dX6_pass_1 : decode cX6_pass 1 = .ok (.iconst 1, 1) := by decide +kernel
theorem dX6_pass_2 : decode cX6_pass 2 = .ok (.sipush 600, 3) := by decide +kernel
theorem dX6_pass_5 : decode cX6_pass 5 = .ok (.invokestatic 83, 3) := by decide +kernel
theorem dX6_pass_8 : decode cX6_pass 8 = .ok (.istore_n 2, 1) := by decide +kernel
theorem dX6_pass_9 : decode cX6_pass 9 = .ok (.aload_n 0, 1) := by decide +kernel
theorem dX6_pass_10 : decode cX6_pass 10 = .ok (.iload_n 2, 1) := by decide +kernel
theorem dX6_pass_11 : decode cX6_pass 11 = .ok (.ifCond .ne 7, 3) := by decide +kernel
theorem dX6_pass_14 : decode cX6_pass 14 = .ok (.iconst 1, 1) := by decide +kernel
theorem dX6_pass_15 : decode cX6_pass 15 = .ok (.goto 20, 3) := by decide +kernel
theorem dX6_pass_18 : decode cX6_pass 18 = .ok (.aload_n 0, 1) := by decide +kernel
theorem dX6_pass_19 : decode cX6_pass 19 = .ok (.getfield 94, 3) := by decide +kernel
theorem dX6_pass_22 : decode cX6_pass 22 = .ok (.iload_n 1, 1) := by decide +kernel
theorem dX6_pass_23 : decode cX6_pass 23 = .ok (.iadd, 1) := by decide +kernel
theorem dX6_pass_24 : decode cX6_pass 24 = .ok (.sipush 20000, 3) := by decide +kernel
theorem dX6_pass_27 : decode cX6_pass 27 = .ok (.if_icmp .le 7, 3) := by decide +kernel
theorem dX6_pass_30 : decode cX6_pass 30 = .ok (.iconst 2, 1) := by decide +kernel
theorem dX6_pass_31 : decode cX6_pass 31 = .ok (.goto 4, 3) := by decide +kernel
theorem dX6_pass_34 : decode cX6_pass 34 = .ok (.iconst 0, 1) := by decide +kernel
theorem dX6_pass_35 : decode cX6_pass 35 = .ok (.invokevirtual 91, 3) := by decide +kernel
theorem dX6_pass_38 : decode cX6_pass 38 = .ok (.ifCond .ne 5, 3) := by decide +kernel
theorem dX6_pass_41 : decode cX6_pass 41 = .ok (.iconst 0, 1) := by decide +kernel
theorem dX6_pass_42 : decode cX6_pass 42 = .ok (.ireturn, 1) := by decide +kernel
theorem dX6_pass_43 : decode cX6_pass 43 = .ok (.aload_n 0, 1) := by decide +kernel
theorem dX6_pass_44 : decode cX6_pass 44 = .ok (.dup, 1) := by decide +kernel
theorem dX6_pass_45 : decode cX6_pass 45 = .ok (.getfield 94, 3) := by decide +kernel
theorem dX6_pass_48 : decode cX6_pass 48 = .ok (.iload_n 1, 1) := by decide +kernel
theorem dX6_pass_49 : decode cX6_pass 49 = .ok (.iadd, 1) := by decide +kernel
theorem dX6_pass_50 : decode cX6_pass 50 = .ok (.putfield 94, 3) := by decide +kernel
theorem dX6_pass_53 : decode cX6_pass 53 = .ok (.aload_n 0, 1) := by decide +kernel
theorem dX6_pass_54 : decode cX6_pass 54 = .ok (.getfield 94, 3) := by decide +kernel
theorem dX6_pass_57 : decode cX6_pass 57 = .ok (.ireturn, 1) := by decide +kernel
theorem dX6_keep_0 : decode cX6_keep 0 = .ok (.aload_n 0, 1) := by decide +kernel
theorem dX6_keep_1 : decode cX6_keep 1 = .ok (.getfield 97, 3) := by decide +kernel
theorem dX6_keep_4 : decode cX6_keep 4 = .ok (.istore 5, 2) := by decide +kernel
theorem dX6_keep_6 : decode cX6_keep 6 = .ok (.iload 5, 2) := by decide +kernel
theorem dX6_keep_8 : decode cX6_keep 8 = .ok (.ifCond .le 87, 3) := by decide +kernel
theorem dX6_keep_11 : decode cX6_keep 11 = .ok (.aload_n 0, 1) := by decide +kernel
theorem dX6_keep_12 : decode cX6_keep 12 = .ok (.getfield 28, 3) := by decide +kernel
theorem dX6_keep_15 : decode cX6_keep 15 = .ok (.iload 5, 2) := by decide +kernel
theorem dX6_keep_17 : decode cX6_keep 17 = .ok (.iconst 1, 1) := by decide +kernel
theorem dX6_keep_18 : decode cX6_keep 18 = .ok (.isub, 1) := by decide +kernel
theorem dX6_keep_19 : decode cX6_keep 19 = .ok (.iaload, 1) := by decide +kernel
theorem dX6_keep_20 : decode cX6_keep 20 = .ok (.iload 4, 2) := by decide +kernel
theorem dX6_keep_22 : decode cX6_keep 22 = .ok (.if_icmp .le 73, 3) := by decide +kernel
theorem dX6_keep_25 : decode cX6_keep 25 = .ok (.aload_n 0, 1) := by decide +kernel
theorem dX6_keep_26 : decode cX6_keep 26 = .ok (.getfield 19, 3) := by decide +kernel
theorem dX6_keep_29 : decode cX6_keep 29 = .ok (.iload 5, 2) := by decide +kernel
theorem dX6_keep_31 : decode cX6_keep 31 = .ok (.aload_n 0, 1) := by decide +kernel
theorem dX6_keep_32 : decode cX6_keep 32 = .ok (.getfield 19, 3) := by decide +kernel
theorem dX6_keep_35 : decode cX6_keep 35 = .ok (.iload 5, 2) := by decide +kernel
theorem dX6_keep_37 : decode cX6_keep 37 = .ok (.iconst 1, 1) := by decide +kernel
theorem dX6_keep_38 : decode cX6_keep 38 = .ok (.isub, 1) := by decide +kernel
theorem dX6_keep_39 : decode cX6_keep 39 = .ok (.iaload, 1) := by decide +kernel
theorem dX6_keep_40 : decode cX6_keep 40 = .ok (.iastore, 1) := by decide +kernel
theorem dX6_keep_41 : decode cX6_keep 41 = .ok (.aload_n 0, 1) := by decide +kernel
theorem dX6_keep_42 : decode cX6_keep 42 = .ok (.getfield 22, 3) := by decide +kernel
theorem dX6_keep_45 : decode cX6_keep 45 = .ok (.iload 5, 2) := by decide +kernel
theorem dX6_keep_47 : decode cX6_keep 47 = .ok (.aload_n 0, 1) := by decide +kernel
theorem dX6_keep_48 : decode cX6_keep 48 = .ok (.getfield 22, 3) := by decide +kernel
theorem dX6_keep_51 : decode cX6_keep 51 = .ok (.iload 5, 2) := by decide +kernel
theorem dX6_keep_53 : decode cX6_keep 53 = .ok (.iconst 1, 1) := by decide +kernel
theorem dX6_keep_54 : decode cX6_keep 54 = .ok (.isub, 1) := by decide +kernel
theorem dX6_keep_55 : decode cX6_keep 55 = .ok (.iaload, 1) := by decide +kernel
theorem dX6_keep_56 : decode cX6_keep 56 = .ok (.iastore, 1) := by decide +kernel
theorem dX6_keep_57 : decode cX6_keep 57 = .ok (.aload_n 0, 1) := by decide +kernel
theorem dX6_keep_58 : decode cX6_keep 58 = .ok (.getfield 25, 3) := by decide +kernel
theorem dX6_keep_61 : decode cX6_keep 61 = .ok (.iload 5, 2) := by decide +kernel
theorem dX6_keep_63 : decode cX6_keep 63 = .ok (.aload_n 0, 1) := by decide +kernel
theorem dX6_keep_64 : decode cX6_keep 64 = .ok (.getfield 25, 3) := by decide +kernel
theorem dX6_keep_67 : decode cX6_keep 67 = .ok (.iload 5, 2) := by decide +kernel
theorem dX6_keep_69 : decode cX6_keep 69 = .ok (.iconst 1, 1) := by decide +kernel
theorem dX6_keep_70 : decode cX6_keep 70 = .ok (.isub, 1) := by decide +kernel
theorem dX6_keep_71 : decode cX6_keep 71 = .ok (.iaload, 1) := by decide +kernel
theorem dX6_keep_72 : decode cX6_keep 72 = .ok (.iastore, 1) := by decide +kernel
theorem dX6_keep_73 : decode cX6_keep 73 = .ok (.aload_n 0, 1) := by decide +kernel
theorem dX6_keep_74 : decode cX6_keep 74 = .ok (.getfield 28, 3) := by decide +kernel
theorem dX6_keep_77 : decode cX6_keep 77 = .ok (.iload 5, 2) := by decide +kernel
theorem dX6_keep_79 : decode cX6_keep 79 = .ok (.aload_n 0, 1) := by decide +kernel
theorem dX6_keep_80 : decode cX6_keep 80 = .ok (.getfield 28, 3) := by decide +kernel
theorem dX6_keep_83 : decode cX6_keep 83 = .ok (.iload 5, 2) := by decide +kernel
theorem dX6_keep_85 : decode cX6_keep 85 = .ok (.iconst 1, 1) := by decide +kernel
theorem dX6_keep_86 : decode cX6_keep 86 = .ok (.isub, 1) := by decide +kernel
theorem dX6_keep_87 : decode cX6_keep 87 = .ok (.iaload, 1) := by decide +kernel
theorem dX6_keep_88 : decode cX6_keep 88 = .ok (.iastore, 1) := by decide +kernel
theorem dX6_keep_89 : decode cX6_keep 89 = .ok (.iinc 5 (-1), 3) := by decide +kernel
theorem dX6_keep_92 : decode cX6_keep 92 = .ok (.goto (-86), 3) := by decide +kernel
theorem dX6_keep_95 : decode cX6_keep 95 = .ok (.aload_n 0, 1) := by decide +kernel
theorem dX6_keep_96 : decode cX6_keep 96 = .ok (.getfield 19, 3) := by decide +kernel
theorem dX6_keep_99 : decode cX6_keep 99 = .ok (.iload 5, 2) := by decide +kernel
theorem dX6_keep_101 : decode cX6_keep 101 = .ok (.iload_n 1, 1) := by decide +kernel
theorem dX6_keep_102 : decode cX6_keep 102 = .ok (.iastore, 1) := by decide +kernel
theorem dX6_keep_103 : decode cX6_keep 103 = .ok (.aload_n 0, 1) := by decide +kernel
theorem dX6_keep_104 : decode cX6_keep 104 = .ok (.getfield 22, 3) := by decide +kernel
theorem dX6_keep_107 : decode cX6_keep 107 = .ok (.iload 5, 2) := by decide +kernel
theorem dX6_keep_109 : decode cX6_keep 109 = .ok (.iload_n 2, 1) := by decide +kernel
theorem dX6_keep_110 : decode cX6_keep 110 = .ok (.iastore, 1) := by decide +kernel
theorem dX6_keep_111 : decode cX6_keep 111 = .ok (.aload_n 0, 1) := by decide +kernel
theorem dX6_keep_112 : decode cX6_keep 112 = .ok (.getfield 25, 3) := by decide +kernel
theorem dX6_keep_115 : decode cX6_keep 115 = .ok (.iload 5, 2) := by decide +kernel
theorem dX6_keep_117 : decode cX6_keep 117 = .ok (.iload_n 3, 1) := by decide +kernel
theorem dX6_keep_118 : decode cX6_keep 118 = .ok (.iastore, 1) := by decide +kernel
theorem dX6_keep_119 : decode cX6_keep 119 = .ok (.aload_n 0, 1) := by decide +kernel
theorem dX6_keep_120 : decode cX6_keep 120 = .ok (.getfield 28, 3) := by decide +kernel
theorem dX6_keep_123 : decode cX6_keep 123 = .ok (.iload 5, 2) := by decide +kernel
theorem dX6_keep_125 : decode cX6_keep 125 = .ok (.iload 4, 2) := by decide +kernel
theorem dX6_keep_127 : decode cX6_keep 127 = .ok (.iastore, 1) := by decide +kernel
theorem dX6_keep_128 : decode cX6_keep 128 = .ok (.aload_n 0, 1) := by decide +kernel
theorem dX6_keep_129 : decode cX6_keep 129 = .ok (.dup, 1) := by decide +kernel
theorem dX6_keep_130 : decode cX6_keep 130 = .ok (.getfield 97, 3) := by decide +kernel
theorem dX6_keep_133 : decode cX6_keep 133 = .ok (.iconst 1, 1) := by decide +kernel
theorem dX6_keep_134 : decode cX6_keep 134 = .ok (.iadd, 1) := by decide +kernel
theorem dX6_keep_135 : decode cX6_keep 135 = .ok (.putfield 97, 3) := by decide +kernel
theorem dX6_keep_138 : decode cX6_keep 138 = .ok (.iload 5, 2) := by decide +kernel
theorem dX6_keep_140 : decode cX6_keep 140 = .ok (.ireturn, 1) := by decide +kernel
theorem dX6_wasHeard_0 : decode cX6_wasHeard 0 = .ok (.iconst 0, 1) := by decide +kernel
theorem dX6_wasHeard_1 : decode cX6_wasHeard 1 = .ok (.istore 5, 2) := by decide +kernel
theorem dX6_wasHeard_3 : decode cX6_wasHeard 3 = .ok (.iconst 0, 1) := by decide +kernel
theorem dX6_wasHeard_4 : decode cX6_wasHeard 4 = .ok (.istore 6, 2) := by decide +kernel
theorem dX6_wasHeard_6 : decode cX6_wasHeard 6 = .ok (.iload 6, 2) := by decide +kernel
theorem dX6_wasHeard_8 : decode cX6_wasHeard 8 = .ok (.aload_n 0, 1) := by decide +kernel
theorem dX6_wasHeard_9 : decode cX6_wasHeard 9 = .ok (.getfield 97, 3) := by decide +kernel
theorem dX6_wasHeard_12 : decode cX6_wasHeard 12 = .ok (.if_icmp .ge 66, 3) := by decide +kernel
theorem dX6_wasHeard_15 : decode cX6_wasHeard 15 = .ok (.iload 5, 2) := by decide +kernel
theorem dX6_wasHeard_17 : decode cX6_wasHeard 17 = .ok (.ifCond .ne 48, 3) := by decide +kernel
theorem dX6_wasHeard_20 : decode cX6_wasHeard 20 = .ok (.aload_n 0, 1) := by decide +kernel
theorem dX6_wasHeard_21 : decode cX6_wasHeard 21 = .ok (.getfield 19, 3) := by decide +kernel
theorem dX6_wasHeard_24 : decode cX6_wasHeard 24 = .ok (.iload 6, 2) := by decide +kernel
theorem dX6_wasHeard_26 : decode cX6_wasHeard 26 = .ok (.iaload, 1) := by decide +kernel
theorem dX6_wasHeard_27 : decode cX6_wasHeard 27 = .ok (.iload_n 1, 1) := by decide +kernel
theorem dX6_wasHeard_28 : decode cX6_wasHeard 28 = .ok (.if_icmp .ne 41, 3) := by decide +kernel
theorem dX6_wasHeard_31 : decode cX6_wasHeard 31 = .ok (.aload_n 0, 1) := by decide +kernel
theorem dX6_wasHeard_32 : decode cX6_wasHeard 32 = .ok (.getfield 22, 3) := by decide +kernel
theorem dX6_wasHeard_35 : decode cX6_wasHeard 35 = .ok (.iload 6, 2) := by decide +kernel
theorem dX6_wasHeard_37 : decode cX6_wasHeard 37 = .ok (.iaload, 1) := by decide +kernel
theorem dX6_wasHeard_38 : decode cX6_wasHeard 38 = .ok (.iload_n 2, 1) := by decide +kernel
theorem dX6_wasHeard_39 : decode cX6_wasHeard 39 = .ok (.if_icmp .ne 30, 3) := by decide +kernel
theorem dX6_wasHeard_42 : decode cX6_wasHeard 42 = .ok (.aload_n 0, 1) := by decide +kernel
theorem dX6_wasHeard_43 : decode cX6_wasHeard 43 = .ok (.getfield 25, 3) := by decide +kernel
theorem dX6_wasHeard_46 : decode cX6_wasHeard 46 = .ok (.iload 6, 2) := by decide +kernel
theorem dX6_wasHeard_48 : decode cX6_wasHeard 48 = .ok (.iaload, 1) := by decide +kernel
theorem dX6_wasHeard_49 : decode cX6_wasHeard 49 = .ok (.iload_n 3, 1) := by decide +kernel
theorem dX6_wasHeard_50 : decode cX6_wasHeard 50 = .ok (.if_icmp .ne 19, 3) := by decide +kernel
theorem dX6_wasHeard_53 : decode cX6_wasHeard 53 = .ok (.aload_n 0, 1) := by decide +kernel
theorem dX6_wasHeard_54 : decode cX6_wasHeard 54 = .ok (.getfield 28, 3) := by decide +kernel
theorem dX6_wasHeard_57 : decode cX6_wasHeard 57 = .ok (.iload 6, 2) := by decide +kernel
theorem dX6_wasHeard_59 : decode cX6_wasHeard 59 = .ok (.iaload, 1) := by decide +kernel
theorem dX6_wasHeard_60 : decode cX6_wasHeard 60 = .ok (.iload 4, 2) := by decide +kernel
theorem dX6_wasHeard_62 : decode cX6_wasHeard 62 = .ok (.if_icmp .ne 7, 3) := by decide +kernel
theorem dX6_wasHeard_65 : decode cX6_wasHeard 65 = .ok (.iconst 1, 1) := by decide +kernel
theorem dX6_wasHeard_66 : decode cX6_wasHeard 66 = .ok (.goto 4, 3) := by decide +kernel
theorem dX6_wasHeard_69 : decode cX6_wasHeard 69 = .ok (.iconst 0, 1) := by decide +kernel
theorem dX6_wasHeard_70 : decode cX6_wasHeard 70 = .ok (.istore 5, 2) := by decide +kernel
theorem dX6_wasHeard_72 : decode cX6_wasHeard 72 = .ok (.iinc 6 1, 3) := by decide +kernel
theorem dX6_wasHeard_75 : decode cX6_wasHeard 75 = .ok (.goto (-69), 3) := by decide +kernel
theorem dX6_wasHeard_78 : decode cX6_wasHeard 78 = .ok (.iload 5, 2) := by decide +kernel
theorem dX6_wasHeard_80 : decode cX6_wasHeard 80 = .ok (.ireturn, 1) := by decide +kernel
set_option maxRecDepth 20000 in
theorem ggX6_tell_X6_keep : GoodIn wsX6_tell wsX6_keep := goodIn_r _ [7, 8, 9, 10, 11, 12, 91, 92, 93, 94, 95, 96, 97, 98, 99, 100, 101, 102, 103, 104, 105, 106, 107, 108, 109, 110, 111, 112, 113, 114, 115, 116, 117, 118, 119] rfl (by decide +kernel)
set_option maxRecDepth 20000 in
theorem gX6_tell_X6_keep : GoodIn wsX6_tell (wsV RX6 100 RX6 yX6_keep wsX6_keep) := goodIn_app (goodIn_of _ (by decide +kernel)) ggX6_tell_X6_keep
set_option maxRecDepth 20000 in
theorem ggX6_tell_X6_goThrough : GoodIn wsX6_tell wsX6_goThrough := goodIn_r _ [16, 2, 8, 9, 17, 1, 18, 19, 20, 21, 6, 22, 23, 24, 25, 26, 27, 28, 29, 30, 31, 32, 33, 34, 35, 36, 37, 38, 39, 40, 41, 42, 11, 12, 10, 43, 44, 45, 46, 47, 48, 49, 50, 51, 52, 53, 54, 55, 56, 57, 58, 59, 60, 61, 62, 63, 64, 65, 66, 67, 68, 69, 70, 71, 72, 73, 74, 75, 76, 77, 78, 79, 80, 81, 82, 83, 84, 85, 86, 87, 88, 89, 90, 91, 92, 93, 94, 95, 96, 97, 98, 99, 100, 101, 102, 103, 104, 105, 106, 107, 108, 109, 110, 111, 112, 113, 114, 115, 116, 117, 118, 119] rfl (by decide +kernel)
set_option maxRecDepth 20000 in
theorem gX6_tell_X6_goThrough : GoodIn wsX6_tell (wsV RX6 107 RX6 yX6_goThrough wsX6_goThrough) := goodIn_app (goodIn_of _ (by decide +kernel)) ggX6_tell_X6_goThrough
theorem dX6_tell_0 : decode cX6_tell 0 = .ok (.aload_n 0, 1) := by decide +kernel
theorem dX6_tell_1 : decode cX6_tell 1 = .ok (.aload_n 0, 1) := by decide +kernel
theorem dX6_tell_2 : decode cX6_tell 2 = .ok (.iload_n 1, 1) := by decide +kernel
theorem dX6_tell_3 : decode cX6_tell 3 = .ok (.iload_n 2, 1) := by decide +kernel
theorem dX6_tell_4 : decode cX6_tell 4 = .ok (.iload_n 3, 1) := by decide +kernel
theorem dX6_tell_5 : decode cX6_tell 5 = .ok (.aload_n 0, 1) := by decide +kernel
theorem dX6_tell_6 : decode cX6_tell 6 = .ok (.getfield 94, 3) := by decide +kernel
theorem dX6_tell_9 : decode cX6_tell 9 = .ok (.invokevirtual 100, 3) := by decide +kernel
theorem dX6_tell_12 : decode cX6_tell 12 = .ok (.putfield 104, 3) := by decide +kernel
theorem dX6_tell_15 : decode cX6_tell 15 = .ok (.aload_n 0, 1) := by decide +kernel
theorem dX6_tell_16 : decode cX6_tell 16 = .ok (.getfield 104, 3) := by decide +kernel
theorem dX6_tell_19 : decode cX6_tell 19 = .ok (.istore 4, 2) := by decide +kernel
theorem dX6_tell_21 : decode cX6_tell 21 = .ok (.aload_n 0, 1) := by decide +kernel
theorem dX6_tell_22 : decode cX6_tell 22 = .ok (.invokevirtual 107, 3) := by decide +kernel
theorem dX6_tell_25 : decode cX6_tell 25 = .ok (.aload_n 0, 1) := by decide +kernel
theorem dX6_tell_26 : decode cX6_tell 26 = .ok (.getfield 104, 3) := by decide +kernel
theorem dX6_tell_29 : decode cX6_tell 29 = .ok (.iload 4, 2) := by decide +kernel
theorem dX6_tell_31 : decode cX6_tell 31 = .ok (.if_icmp .ne 7, 3) := by decide +kernel
theorem dX6_tell_34 : decode cX6_tell 34 = .ok (.iconst 1, 1) := by decide +kernel
theorem dX6_tell_35 : decode cX6_tell 35 = .ok (.goto 4, 3) := by decide +kernel
theorem dX6_tell_38 : decode cX6_tell 38 = .ok (.iconst 0, 1) := by decide +kernel
theorem dX6_tell_39 : decode cX6_tell 39 = .ok (.ireturn, 1) := by decide +kernel
set_option maxRecDepth 20000 in
theorem ggX6_docks_X6_isStation : GoodIn wsX6_docks wsX6_isStation := goodIn_r _ [6, 7, 8, 5, 9] rfl (by decide +kernel)
set_option maxRecDepth 20000 in
theorem gX6_docks_X6_isStation : GoodIn wsX6_docks (va_wsS RX6 87 yX6_isStation wsX6_isStation) := goodIn_app (goodIn_of _ (by decide +kernel)) ggX6_docks_X6_isStation
set_option maxRecDepth 20000 in
theorem ggX6_docks_X6_in : GoodIn wsX6_docks wsX6_in := goodIn_r _ [9] rfl (by decide +kernel)
set_option maxRecDepth 20000 in
theorem gX6_docks_X6_in : GoodIn wsX6_docks (va_wsS RX6 83 yX6_in wsX6_in) := goodIn_app (goodIn_of _ (by decide +kernel)) ggX6_docks_X6_in
set_option maxRecDepth 20000 in
theorem ggX6_docks_X6_goesWell : GoodIn wsX6_docks wsX6_goesWell := goodIn_r _ [13, 14, 23, 24, 25, 26, 27, 28, 29, 30, 31, 32, 33, 34, 35, 36, 37, 38, 39, 40, 41, 42, 43, 44, 45, 46, 47, 48, 49, 50, 51] rfl (by decide +kernel)
set_option maxRecDepth 20000 in
theorem gX6_docks_X6_goesWell : GoodIn wsX6_docks (wsV RX6 91 RX6 yX6_goesWell wsX6_goesWell) := goodIn_app (goodIn_of _ (by decide +kernel)) ggX6_docks_X6_goesWell
set_option maxRecDepth 20000 in
theorem ggX6_docks_X6_keep : GoodIn wsX6_docks wsX6_keep := goodIn_r _ [18, 1, 19, 20, 21, 22, 23, 24, 25, 26, 27, 28, 29, 30, 31, 32, 33, 34, 35, 36, 37, 38, 39, 40, 41, 42, 43, 44, 45, 46, 47, 48, 49, 50, 51] rfl (by decide +kernel)
set_option maxRecDepth 20000 in
theorem gX6_docks_X6_keep : GoodIn wsX6_docks (wsV RX6 100 RX6 yX6_keep wsX6_keep) := goodIn_app (goodIn_of _ (by decide +kernel)) ggX6_docks_X6_keep
theorem dX6_docks_0 : decode cX6_docks 0 = .ok (.iload_n 1, 1) := by decide +kernel
theorem dX6_docks_1 : decode cX6_docks 1 = .ok (.invokestatic 87, 3) := by decide +kernel
theorem dX6_docks_4 : decode cX6_docks 4 = .ok (.istore_n 3, 1) := by decide +kernel
theorem dX6_docks_5 : decode cX6_docks 5 = .ok (.aload_n 0, 1) := by decide +kernel
theorem dX6_docks_6 : decode cX6_docks 6 = .ok (.iload_n 3, 1) := by decide +kernel
theorem dX6_docks_7 : decode cX6_docks 7 = .ok (.ifCond .ne 7, 3) := by decide +kernel
theorem dX6_docks_10 : decode cX6_docks 10 = .ok (.iconst 1, 1) := by decide +kernel
theorem dX6_docks_11 : decode cX6_docks 11 = .ok (.goto 32, 3) := by decide +kernel
theorem dX6_docks_14 : decode cX6_docks 14 = .ok (.iload_n 2, 1) := by decide +kernel
theorem dX6_docks_15 : decode cX6_docks 15 = .ok (.iconst 0, 1) := by decide +kernel
theorem dX6_docks_16 : decode cX6_docks 16 = .ok (.bipush 20, 2) := by decide +kernel
theorem dX6_docks_18 : decode cX6_docks 18 = .ok (.invokestatic 83, 3) := by decide +kernel
theorem dX6_docks_21 : decode cX6_docks 21 = .ok (.ifCond .ne 7, 3) := by decide +kernel
theorem dX6_docks_24 : decode cX6_docks 24 = .ok (.iconst 2, 1) := by decide +kernel
theorem dX6_docks_25 : decode cX6_docks 25 = .ok (.goto 18, 3) := by decide +kernel
theorem dX6_docks_28 : decode cX6_docks 28 = .ok (.aload_n 0, 1) := by decide +kernel
theorem dX6_docks_29 : decode cX6_docks 29 = .ok (.getfield 97, 3) := by decide +kernel
theorem dX6_docks_32 : decode cX6_docks 32 = .ok (.sipush 300, 3) := by decide +kernel
theorem dX6_docks_35 : decode cX6_docks 35 = .ok (.if_icmp .ne 7, 3) := by decide +kernel
theorem dX6_docks_38 : decode cX6_docks 38 = .ok (.iconst 3, 1) := by decide +kernel
theorem dX6_docks_39 : decode cX6_docks 39 = .ok (.goto 4, 3) := by decide +kernel
theorem dX6_docks_42 : decode cX6_docks 42 = .ok (.iconst 0, 1) := by decide +kernel
theorem dX6_docks_43 : decode cX6_docks 43 = .ok (.invokevirtual 91, 3) := by decide +kernel
theorem dX6_docks_46 : decode cX6_docks 46 = .ok (.ifCond .eq 15, 3) := by decide +kernel
theorem dX6_docks_49 : decode cX6_docks 49 = .ok (.aload_n 0, 1) := by decide +kernel
theorem dX6_docks_50 : decode cX6_docks 50 = .ok (.iconst 0, 1) := by decide +kernel
theorem dX6_docks_51 : decode cX6_docks 51 = .ok (.iload_n 1, 1) := by decide +kernel
theorem dX6_docks_52 : decode cX6_docks 52 = .ok (.iload_n 2, 1) := by decide +kernel
theorem dX6_docks_53 : decode cX6_docks 53 = .ok (.aload_n 0, 1) := by decide +kernel
theorem dX6_docks_54 : decode cX6_docks 54 = .ok (.getfield 94, 3) := by decide +kernel
theorem dX6_docks_57 : decode cX6_docks 57 = .ok (.invokevirtual 100, 3) := by decide +kernel
theorem dX6_docks_60 : decode cX6_docks 60 = .ok (.pop, 1) := by decide +kernel
theorem dX6_docks_61 : decode cX6_docks 61 = .ok (.return_, 1) := by decide +kernel
set_option maxRecDepth 20000 in
theorem ggX6_put_X6_isCycle : GoodIn wsX6_put wsX6_isCycle := goodIn_r _ [5, 6, 7, 4, 8] rfl (by decide +kernel)
set_option maxRecDepth 20000 in
theorem gX6_put_X6_isCycle : GoodIn wsX6_put (va_wsS RX6 110 yX6_isCycle wsX6_isCycle) := goodIn_app (goodIn_of _ (by decide +kernel)) ggX6_put_X6_isCycle
set_option maxRecDepth 20000 in
theorem ggX6_put_X6_isStation : GoodIn wsX6_put wsX6_isStation := goodIn_r _ [11, 6, 7, 4, 8] rfl (by decide +kernel)
set_option maxRecDepth 20000 in
theorem gX6_put_X6_isStation : GoodIn wsX6_put (va_wsS RX6 87 yX6_isStation wsX6_isStation) := goodIn_app (goodIn_of _ (by decide +kernel)) ggX6_put_X6_isStation
set_option maxRecDepth 20000 in
theorem ggX6_put_X6_goesWell : GoodIn wsX6_put wsX6_goesWell := goodIn_r _ [15, 16, 109, 110, 111, 112, 113, 114, 115, 116, 117, 118, 119, 120, 121, 122, 123, 124, 125, 126, 127, 128, 129, 130, 131, 132, 133, 134, 135, 136, 137] rfl (by decide +kernel)
set_option maxRecDepth 20000 in
theorem gX6_put_X6_goesWell : GoodIn wsX6_put (wsV RX6 91 RX6 yX6_goesWell wsX6_goesWell) := goodIn_app (goodIn_of _ (by decide +kernel)) ggX6_put_X6_goesWell
set_option maxRecDepth 20000 in
theorem ggX6_put_X6_tell : GoodIn wsX6_put wsX6_tell := goodIn_r _ [20, 21, 22, 23, 24, 25, 4, 26, 1, 27, 28, 29, 30, 31, 32, 33, 34, 35, 36, 37, 38, 39, 40, 41, 42, 43, 44, 45, 46, 47, 48, 49, 50, 51, 52, 53, 54, 55, 56, 57, 58, 59, 60, 61, 62, 63, 64, 65, 66, 67, 68, 69, 70, 71, 72, 73, 74, 75, 76, 77, 78, 79, 80, 81, 82, 83, 84, 85, 86, 87, 88, 89, 90, 91, 92, 93, 94, 95, 96, 97, 98, 99, 100, 101, 102, 103, 104, 105, 106, 107, 108, 109, 110, 111, 112, 113, 114, 115, 116, 117, 118, 119, 120, 121, 122, 123, 124, 125, 126, 127, 128, 129, 130, 131, 132, 133, 134, 135, 136, 137] rfl (by decide +kernel)
set_option maxRecDepth 20000 in
theorem gX6_put_X6_tell : GoodIn wsX6_put (wsV RX6 113 RX6 yX6_tell wsX6_tell) := goodIn_app (goodIn_of _ (by decide +kernel)) ggX6_put_X6_tell
theorem dX6_put_0 : decode cX6_put 0 = .ok (.iload_n 1, 1) := by decide +kernel
theorem dX6_put_1 : decode cX6_put 1 = .ok (.invokestatic 110, 3) := by decide +kernel
theorem dX6_put_4 : decode cX6_put 4 = .ok (.ifCond .eq 14, 3) := by decide +kernel
theorem dX6_put_7 : decode cX6_put 7 = .ok (.iload_n 2, 1) := by decide +kernel
theorem dX6_put_8 : decode cX6_put 8 = .ok (.invokestatic 87, 3) := by decide +kernel
theorem dX6_put_11 : decode cX6_put 11 = .ok (.ifCond .eq 7, 3) := by decide +kernel
theorem dX6_put_14 : decode cX6_put 14 = .ok (.iconst 1, 1) := by decide +kernel
theorem dX6_put_15 : decode cX6_put 15 = .ok (.goto 4, 3) := by decide +kernel
theorem dX6_put_18 : decode cX6_put 18 = .ok (.iconst 0, 1) := by decide +kernel
theorem dX6_put_19 : decode cX6_put 19 = .ok (.istore_n 3, 1) := by decide +kernel
theorem dX6_put_20 : decode cX6_put 20 = .ok (.aload_n 0, 1) := by decide +kernel
theorem dX6_put_21 : decode cX6_put 21 = .ok (.iload_n 3, 1) := by decide +kernel
theorem dX6_put_22 : decode cX6_put 22 = .ok (.ifCond .ne 7, 3) := by decide +kernel
theorem dX6_put_25 : decode cX6_put 25 = .ok (.iconst 1, 1) := by decide +kernel
theorem dX6_put_26 : decode cX6_put 26 = .ok (.goto 18, 3) := by decide +kernel
theorem dX6_put_29 : decode cX6_put 29 = .ok (.aload_n 0, 1) := by decide +kernel
theorem dX6_put_30 : decode cX6_put 30 = .ok (.getfield 97, 3) := by decide +kernel
theorem dX6_put_33 : decode cX6_put 33 = .ok (.sipush 300, 3) := by decide +kernel
theorem dX6_put_36 : decode cX6_put 36 = .ok (.if_icmp .ne 7, 3) := by decide +kernel
theorem dX6_put_39 : decode cX6_put 39 = .ok (.iconst 2, 1) := by decide +kernel
theorem dX6_put_40 : decode cX6_put 40 = .ok (.goto 4, 3) := by decide +kernel
theorem dX6_put_43 : decode cX6_put 43 = .ok (.iconst 0, 1) := by decide +kernel
theorem dX6_put_44 : decode cX6_put 44 = .ok (.invokevirtual 91, 3) := by decide +kernel
theorem dX6_put_47 : decode cX6_put 47 = .ok (.ifCond .eq 17, 3) := by decide +kernel
theorem dX6_put_50 : decode cX6_put 50 = .ok (.aload_n 0, 1) := by decide +kernel
theorem dX6_put_51 : decode cX6_put 51 = .ok (.iconst 1, 1) := by decide +kernel
theorem dX6_put_52 : decode cX6_put 52 = .ok (.iload_n 1, 1) := by decide +kernel
theorem dX6_put_53 : decode cX6_put 53 = .ok (.iload_n 2, 1) := by decide +kernel
theorem dX6_put_54 : decode cX6_put 54 = .ok (.invokevirtual 113, 3) := by decide +kernel
theorem dX6_put_57 : decode cX6_put 57 = .ok (.ifCond .eq 7, 3) := by decide +kernel
theorem dX6_put_60 : decode cX6_put 60 = .ok (.iconst 1, 1) := by decide +kernel
theorem dX6_put_61 : decode cX6_put 61 = .ok (.goto 4, 3) := by decide +kernel
theorem dX6_put_64 : decode cX6_put 64 = .ok (.iconst 0, 1) := by decide +kernel
theorem dX6_put_65 : decode cX6_put 65 = .ok (.ireturn, 1) := by decide +kernel
set_option maxRecDepth 20000 in
theorem ggX6_take_X6_isCycle : GoodIn wsX6_take wsX6_isCycle := goodIn_r _ [5, 6, 7, 4, 8] rfl (by decide +kernel)
set_option maxRecDepth 20000 in
theorem gX6_take_X6_isCycle : GoodIn wsX6_take (va_wsS RX6 110 yX6_isCycle wsX6_isCycle) := goodIn_app (goodIn_of _ (by decide +kernel)) ggX6_take_X6_isCycle
set_option maxRecDepth 20000 in
theorem ggX6_take_X6_goesWell : GoodIn wsX6_take wsX6_goesWell := goodIn_r _ [12, 13, 106, 107, 108, 109, 110, 111, 112, 113, 114, 115, 116, 117, 118, 119, 120, 121, 122, 123, 124, 125, 126, 127, 128, 129, 130, 131, 132, 133, 134] rfl (by decide +kernel)
set_option maxRecDepth 20000 in
theorem gX6_take_X6_goesWell : GoodIn wsX6_take (wsV RX6 91 RX6 yX6_goesWell wsX6_goesWell) := goodIn_app (goodIn_of _ (by decide +kernel)) ggX6_take_X6_goesWell
set_option maxRecDepth 20000 in
theorem ggX6_take_X6_tell : GoodIn wsX6_take wsX6_tell := goodIn_r _ [17, 18, 19, 20, 21, 22, 4, 23, 1, 24, 25, 26, 27, 28, 29, 30, 31, 32, 33, 34, 35, 36, 37, 38, 39, 40, 41, 42, 43, 44, 45, 46, 47, 48, 49, 50, 51, 52, 53, 54, 55, 56, 57, 58, 59, 60, 61, 62, 63, 64, 65, 66, 67, 68, 69, 70, 71, 72, 73, 74, 75, 76, 77, 78, 79, 80, 81, 82, 83, 84, 85, 86, 87, 88, 89, 90, 91, 92, 93, 94, 95, 96, 97, 98, 99, 100, 101, 102, 103, 104, 105, 106, 107, 108, 109, 110, 111, 112, 113, 114, 115, 116, 117, 118, 119, 120, 121, 122, 123, 124, 125, 126, 127, 128, 129, 130, 131, 132, 133, 134] rfl (by decide +kernel)
set_option maxRecDepth 20000 in
theorem gX6_take_X6_tell : GoodIn wsX6_take (wsV RX6 113 RX6 yX6_tell wsX6_tell) := goodIn_app (goodIn_of _ (by decide +kernel)) ggX6_take_X6_tell
theorem dX6_take_0 : decode cX6_take 0 = .ok (.aload_n 0, 1) := by decide +kernel
theorem dX6_take_1 : decode cX6_take 1 = .ok (.iload_n 1, 1) := by decide +kernel
theorem dX6_take_2 : decode cX6_take 2 = .ok (.invokestatic 110, 3) := by decide +kernel
theorem dX6_take_5 : decode cX6_take 5 = .ok (.ifCond .ne 7, 3) := by decide +kernel
theorem dX6_take_8 : decode cX6_take 8 = .ok (.iconst 1, 1) := by decide +kernel
theorem dX6_take_9 : decode cX6_take 9 = .ok (.goto 18, 3) := by decide +kernel
theorem dX6_take_12 : decode cX6_take 12 = .ok (.aload_n 0, 1) := by decide +kernel
theorem dX6_take_13 : decode cX6_take 13 = .ok (.getfield 97, 3) := by decide +kernel
theorem dX6_take_16 : decode cX6_take 16 = .ok (.sipush 300, 3) := by decide +kernel
theorem dX6_take_19 : decode cX6_take 19 = .ok (.if_icmp .ne 7, 3) := by decide +kernel
theorem dX6_take_22 : decode cX6_take 22 = .ok (.iconst 2, 1) := by decide +kernel
theorem dX6_take_23 : decode cX6_take 23 = .ok (.goto 4, 3) := by decide +kernel
theorem dX6_take_26 : decode cX6_take 26 = .ok (.iconst 0, 1) := by decide +kernel
theorem dX6_take_27 : decode cX6_take 27 = .ok (.invokevirtual 91, 3) := by decide +kernel
theorem dX6_take_30 : decode cX6_take 30 = .ok (.ifCond .eq 17, 3) := by decide +kernel
theorem dX6_take_33 : decode cX6_take 33 = .ok (.aload_n 0, 1) := by decide +kernel
theorem dX6_take_34 : decode cX6_take 34 = .ok (.iconst 2, 1) := by decide +kernel
theorem dX6_take_35 : decode cX6_take 35 = .ok (.iload_n 1, 1) := by decide +kernel
theorem dX6_take_36 : decode cX6_take 36 = .ok (.iconst 0, 1) := by decide +kernel
theorem dX6_take_37 : decode cX6_take 37 = .ok (.invokevirtual 113, 3) := by decide +kernel
theorem dX6_take_40 : decode cX6_take 40 = .ok (.ifCond .eq 7, 3) := by decide +kernel
theorem dX6_take_43 : decode cX6_take 43 = .ok (.iconst 1, 1) := by decide +kernel
theorem dX6_take_44 : decode cX6_take 44 = .ok (.goto 4, 3) := by decide +kernel
theorem dX6_take_47 : decode cX6_take 47 = .ok (.iconst 0, 1) := by decide +kernel
theorem dX6_take_48 : decode cX6_take 48 = .ok (.ireturn, 1) := by decide +kernel
set_option maxRecDepth 20000 in
theorem ggX6_hear_X6_wasHeard : GoodIn wsX6_hear wsX6_wasHeard := goodIn_r _ [5, 6, 7, 8, 9, 10, 15, 16, 17, 18, 19, 20, 21, 22, 23, 24, 25, 26, 27, 28, 29, 30, 31, 32, 33, 34, 35, 36, 37, 38, 39, 40, 41, 42, 43] rfl (by decide +kernel)
set_option maxRecDepth 20000 in
theorem gX6_hear_X6_wasHeard : GoodIn wsX6_hear (wsV RX6 116 RX6 yX6_wasHeard wsX6_wasHeard) := goodIn_app (goodIn_of _ (by decide +kernel)) ggX6_hear_X6_wasHeard
set_option maxRecDepth 20000 in
theorem ggX6_hear_X6_keep : GoodIn wsX6_hear wsX6_keep := goodIn_r _ [14, 6, 10, 7, 8, 9, 15, 16, 17, 18, 19, 20, 21, 22, 23, 24, 25, 26, 27, 28, 29, 30, 31, 32, 33, 34, 35, 36, 37, 38, 39, 40, 41, 42, 43] rfl (by decide +kernel)
set_option maxRecDepth 20000 in
theorem gX6_hear_X6_keep : GoodIn wsX6_hear (wsV RX6 100 RX6 yX6_keep wsX6_keep) := goodIn_app (goodIn_of _ (by decide +kernel)) ggX6_hear_X6_keep
theorem dX6_hear_0 : decode cX6_hear 0 = .ok (.aload_n 0, 1) := by decide +kernel
theorem dX6_hear_1 : decode cX6_hear 1 = .ok (.iload_n 1, 1) := by decide +kernel
theorem dX6_hear_2 : decode cX6_hear 2 = .ok (.iload_n 2, 1) := by decide +kernel
theorem dX6_hear_3 : decode cX6_hear 3 = .ok (.iload_n 3, 1) := by decide +kernel
theorem dX6_hear_4 : decode cX6_hear 4 = .ok (.iload 4, 2) := by decide +kernel
theorem dX6_hear_6 : decode cX6_hear 6 = .ok (.invokevirtual 116, 3) := by decide +kernel
theorem dX6_hear_9 : decode cX6_hear 9 = .ok (.ifCond .eq 5, 3) := by decide +kernel
theorem dX6_hear_12 : decode cX6_hear 12 = .ok (.iconst 0, 1) := by decide +kernel
theorem dX6_hear_13 : decode cX6_hear 13 = .ok (.ireturn, 1) := by decide +kernel
theorem dX6_hear_14 : decode cX6_hear 14 = .ok (.aload_n 0, 1) := by decide +kernel
theorem dX6_hear_15 : decode cX6_hear 15 = .ok (.iload_n 1, 1) := by decide +kernel
theorem dX6_hear_16 : decode cX6_hear 16 = .ok (.iload_n 2, 1) := by decide +kernel
theorem dX6_hear_17 : decode cX6_hear 17 = .ok (.iload_n 3, 1) := by decide +kernel
theorem dX6_hear_18 : decode cX6_hear 18 = .ok (.iload 4, 2) := by decide +kernel
theorem dX6_hear_20 : decode cX6_hear 20 = .ok (.invokevirtual 100, 3) := by decide +kernel
theorem dX6_hear_23 : decode cX6_hear 23 = .ok (.pop, 1) := by decide +kernel
theorem dX6_hear_24 : decode cX6_hear 24 = .ok (.iconst 1, 1) := by decide +kernel
theorem dX6_hear_25 : decode cX6_hear 25 = .ok (.ireturn, 1) := by decide +kernel
set_option maxRecDepth 20000 in
theorem ggX6_isWhen_X6_in : GoodIn wsX6_isWhen wsX6_in := goodIn_r _ [5] rfl (by decide +kernel)
set_option maxRecDepth 20000 in
theorem gX6_isWhen_X6_in : GoodIn wsX6_isWhen (va_wsS RX6 83 yX6_in wsX6_in) := goodIn_app (goodIn_of _ (by decide +kernel)) ggX6_isWhen_X6_in
theorem dX6_isWhen_0 : decode cX6_isWhen 0 = .ok (.iload_n 1, 1) := by decide +kernel
theorem dX6_isWhen_1 : decode cX6_isWhen 1 = .ok (.aload_n 0, 1) := by decide +kernel
theorem dX6_isWhen_2 : decode cX6_isWhen 2 = .ok (.getfield 94, 3) := by decide +kernel
theorem dX6_isWhen_5 : decode cX6_isWhen 5 = .ok (.bipush 60, 2) := by decide +kernel
theorem dX6_isWhen_7 : decode cX6_isWhen 7 = .ok (.if_icmp .ge 7, 3) := by decide +kernel
theorem dX6_isWhen_10 : decode cX6_isWhen 10 = .ok (.iconst 0, 1) := by decide +kernel
theorem dX6_isWhen_11 : decode cX6_isWhen 11 = .ok (.goto 10, 3) := by decide +kernel
theorem dX6_isWhen_14 : decode cX6_isWhen 14 = .ok (.aload_n 0, 1) := by decide +kernel
theorem dX6_isWhen_15 : decode cX6_isWhen 15 = .ok (.getfield 94, 3) := by decide +kernel
theorem dX6_isWhen_18 : decode cX6_isWhen 18 = .ok (.bipush 60, 2) := by decide +kernel
theorem dX6_isWhen_20 : decode cX6_isWhen 20 = .ok (.isub, 1) := by decide +kernel
theorem dX6_isWhen_21 : decode cX6_isWhen 21 = .ok (.aload_n 0, 1) := by decide +kernel
theorem dX6_isWhen_22 : decode cX6_isWhen 22 = .ok (.getfield 94, 3) := by decide +kernel
theorem dX6_isWhen_25 : decode cX6_isWhen 25 = .ok (.invokestatic 83, 3) := by decide +kernel
theorem dX6_isWhen_28 : decode cX6_isWhen 28 = .ok (.ireturn, 1) := by decide +kernel
set_option maxRecDepth 20000 in
theorem ggX6_unlocked_X6_isCycle : GoodIn wsX6_unlocked wsX6_isCycle := goodIn_r _ [5, 6, 7, 4, 8] rfl (by decide +kernel)
set_option maxRecDepth 20000 in
theorem gX6_unlocked_X6_isCycle : GoodIn wsX6_unlocked (va_wsS RX6 110 yX6_isCycle wsX6_isCycle) := goodIn_app (goodIn_of _ (by decide +kernel)) ggX6_unlocked_X6_isCycle
set_option maxRecDepth 20000 in
theorem ggX6_unlocked_X6_isRider : GoodIn wsX6_unlocked wsX6_isRider := goodIn_r _ [11, 6, 7, 4, 8] rfl (by decide +kernel)
set_option maxRecDepth 20000 in
theorem gX6_unlocked_X6_isRider : GoodIn wsX6_unlocked (va_wsS RX6 120 yX6_isRider wsX6_isRider) := goodIn_app (goodIn_of _ (by decide +kernel)) ggX6_unlocked_X6_isRider
set_option maxRecDepth 20000 in
theorem ggX6_unlocked_X6_isWhen : GoodIn wsX6_unlocked wsX6_isWhen := goodIn_r _ [15, 16, 6, 7, 4, 8, 38, 39, 40, 41, 42, 43, 44, 45, 46, 47, 48, 49, 50, 51, 52, 53, 54, 55, 56, 57, 58, 59, 60, 61, 62, 63, 64, 65, 66] rfl (by decide +kernel)
set_option maxRecDepth 20000 in
theorem gX6_unlocked_X6_isWhen : GoodIn wsX6_unlocked (wsV RX6 123 RX6 yX6_isWhen wsX6_isWhen) := goodIn_app (goodIn_of _ (by decide +kernel)) ggX6_unlocked_X6_isWhen
set_option maxRecDepth 20000 in
theorem ggX6_unlocked_X6_goesWell : GoodIn wsX6_unlocked wsX6_goesWell := goodIn_r _ [20, 21, 38, 39, 40, 41, 42, 43, 44, 45, 46, 47, 48, 49, 50, 51, 52, 53, 54, 55, 56, 57, 58, 59, 60, 61, 62, 63, 64, 65, 66] rfl (by decide +kernel)
set_option maxRecDepth 20000 in
theorem gX6_unlocked_X6_goesWell : GoodIn wsX6_unlocked (wsV RX6 91 RX6 yX6_goesWell wsX6_goesWell) := goodIn_app (goodIn_of _ (by decide +kernel)) ggX6_unlocked_X6_goesWell
set_option maxRecDepth 20000 in
theorem ggX6_unlocked_X6_hear : GoodIn wsX6_unlocked wsX6_hear := goodIn_r _ [25, 26, 27, 28, 4, 29, 1, 30, 31, 32, 33, 34, 35, 36, 37, 38, 39, 40, 41, 42, 43, 44, 45, 46, 47, 48, 49, 50, 51, 52, 53, 54, 55, 56, 57, 58, 59, 60, 61, 62, 63, 64, 65, 66] rfl (by decide +kernel)
set_option maxRecDepth 20000 in
theorem gX6_unlocked_X6_hear : GoodIn wsX6_unlocked (wsV RX6 126 RX6 yX6_hear wsX6_hear) := goodIn_app (goodIn_of _ (by decide +kernel)) ggX6_unlocked_X6_hear
theorem dX6_unlocked_0 : decode cX6_unlocked 0 = .ok (.iload_n 1, 1) := by decide +kernel
theorem dX6_unlocked_1 : decode cX6_unlocked 1 = .ok (.invokestatic 110, 3) := by decide +kernel
theorem dX6_unlocked_4 : decode cX6_unlocked 4 = .ok (.ifCond .eq 14, 3) := by decide +kernel
theorem dX6_unlocked_7 : decode cX6_unlocked 7 = .ok (.iload_n 2, 1) := by decide +kernel
theorem dX6_unlocked_8 : decode cX6_unlocked 8 = .ok (.invokestatic 120, 3) := by decide +kernel
theorem dX6_unlocked_11 : decode cX6_unlocked 11 = .ok (.ifCond .eq 7, 3) := by decide +kernel
theorem dX6_unlocked_14 : decode cX6_unlocked 14 = .ok (.iconst 1, 1) := by decide +kernel
theorem dX6_unlocked_15 : decode cX6_unlocked 15 = .ok (.goto 4, 3) := by decide +kernel
theorem dX6_unlocked_18 : decode cX6_unlocked 18 = .ok (.iconst 0, 1) := by decide +kernel
theorem dX6_unlocked_19 : decode cX6_unlocked 19 = .ok (.istore 4, 2) := by decide +kernel
theorem dX6_unlocked_21 : decode cX6_unlocked 21 = .ok (.aload_n 0, 1) := by decide +kernel
theorem dX6_unlocked_22 : decode cX6_unlocked 22 = .ok (.iload 4, 2) := by decide +kernel
theorem dX6_unlocked_24 : decode cX6_unlocked 24 = .ok (.ifCond .ne 7, 3) := by decide +kernel
theorem dX6_unlocked_27 : decode cX6_unlocked 27 = .ok (.iconst 1, 1) := by decide +kernel
theorem dX6_unlocked_28 : decode cX6_unlocked 28 = .ok (.goto 30, 3) := by decide +kernel
theorem dX6_unlocked_31 : decode cX6_unlocked 31 = .ok (.aload_n 0, 1) := by decide +kernel
theorem dX6_unlocked_32 : decode cX6_unlocked 32 = .ok (.iload_n 3, 1) := by decide +kernel
theorem dX6_unlocked_33 : decode cX6_unlocked 33 = .ok (.invokevirtual 123, 3) := by decide +kernel
theorem dX6_unlocked_36 : decode cX6_unlocked 36 = .ok (.ifCond .ne 7, 3) := by decide +kernel
theorem dX6_unlocked_39 : decode cX6_unlocked 39 = .ok (.iconst 2, 1) := by decide +kernel
theorem dX6_unlocked_40 : decode cX6_unlocked 40 = .ok (.goto 18, 3) := by decide +kernel
theorem dX6_unlocked_43 : decode cX6_unlocked 43 = .ok (.aload_n 0, 1) := by decide +kernel
theorem dX6_unlocked_44 : decode cX6_unlocked 44 = .ok (.getfield 97, 3) := by decide +kernel
theorem dX6_unlocked_47 : decode cX6_unlocked 47 = .ok (.sipush 300, 3) := by decide +kernel
theorem dX6_unlocked_50 : decode cX6_unlocked 50 = .ok (.if_icmp .ne 7, 3) := by decide +kernel
theorem dX6_unlocked_53 : decode cX6_unlocked 53 = .ok (.iconst 3, 1) := by decide +kernel
theorem dX6_unlocked_54 : decode cX6_unlocked 54 = .ok (.goto 4, 3) := by decide +kernel
theorem dX6_unlocked_57 : decode cX6_unlocked 57 = .ok (.iconst 0, 1) := by decide +kernel
theorem dX6_unlocked_58 : decode cX6_unlocked 58 = .ok (.invokevirtual 91, 3) := by decide +kernel
theorem dX6_unlocked_61 : decode cX6_unlocked 61 = .ok (.ifCond .eq 18, 3) := by decide +kernel
theorem dX6_unlocked_64 : decode cX6_unlocked 64 = .ok (.aload_n 0, 1) := by decide +kernel
theorem dX6_unlocked_65 : decode cX6_unlocked 65 = .ok (.iconst 3, 1) := by decide +kernel
theorem dX6_unlocked_66 : decode cX6_unlocked 66 = .ok (.iload_n 1, 1) := by decide +kernel
theorem dX6_unlocked_67 : decode cX6_unlocked 67 = .ok (.iload_n 2, 1) := by decide +kernel
theorem dX6_unlocked_68 : decode cX6_unlocked 68 = .ok (.iload_n 3, 1) := by decide +kernel
theorem dX6_unlocked_69 : decode cX6_unlocked 69 = .ok (.invokevirtual 126, 3) := by decide +kernel
theorem dX6_unlocked_72 : decode cX6_unlocked 72 = .ok (.ifCond .eq 7, 3) := by decide +kernel
theorem dX6_unlocked_75 : decode cX6_unlocked 75 = .ok (.iconst 1, 1) := by decide +kernel
theorem dX6_unlocked_76 : decode cX6_unlocked 76 = .ok (.goto 4, 3) := by decide +kernel
theorem dX6_unlocked_79 : decode cX6_unlocked 79 = .ok (.iconst 0, 1) := by decide +kernel
theorem dX6_unlocked_80 : decode cX6_unlocked 80 = .ok (.ireturn, 1) := by decide +kernel
set_option maxRecDepth 20000 in
theorem ggX6_locked_X6_isCycle : GoodIn wsX6_locked wsX6_isCycle := goodIn_r _ [5, 6, 7, 4, 8] rfl (by decide +kernel)
set_option maxRecDepth 20000 in
theorem gX6_locked_X6_isCycle : GoodIn wsX6_locked (va_wsS RX6 110 yX6_isCycle wsX6_isCycle) := goodIn_app (goodIn_of _ (by decide +kernel)) ggX6_locked_X6_isCycle
set_option maxRecDepth 20000 in
theorem ggX6_locked_X6_isStation : GoodIn wsX6_locked wsX6_isStation := goodIn_r _ [11, 6, 7, 4, 8] rfl (by decide +kernel)
set_option maxRecDepth 20000 in
theorem gX6_locked_X6_isStation : GoodIn wsX6_locked (va_wsS RX6 87 yX6_isStation wsX6_isStation) := goodIn_app (goodIn_of _ (by decide +kernel)) ggX6_locked_X6_isStation
set_option maxRecDepth 20000 in
theorem ggX6_locked_X6_isWhen : GoodIn wsX6_locked wsX6_isWhen := goodIn_r _ [15, 16, 6, 7, 4, 8, 38, 39, 40, 41, 42, 43, 44, 45, 46, 47, 48, 49, 50, 51, 52, 53, 54, 55, 56, 57, 58, 59, 60, 61, 62, 63, 64, 65, 66] rfl (by decide +kernel)
set_option maxRecDepth 20000 in
theorem gX6_locked_X6_isWhen : GoodIn wsX6_locked (wsV RX6 123 RX6 yX6_isWhen wsX6_isWhen) := goodIn_app (goodIn_of _ (by decide +kernel)) ggX6_locked_X6_isWhen
set_option maxRecDepth 20000 in
theorem ggX6_locked_X6_goesWell : GoodIn wsX6_locked wsX6_goesWell := goodIn_r _ [20, 21, 38, 39, 40, 41, 42, 43, 44, 45, 46, 47, 48, 49, 50, 51, 52, 53, 54, 55, 56, 57, 58, 59, 60, 61, 62, 63, 64, 65, 66] rfl (by decide +kernel)
set_option maxRecDepth 20000 in
theorem gX6_locked_X6_goesWell : GoodIn wsX6_locked (wsV RX6 91 RX6 yX6_goesWell wsX6_goesWell) := goodIn_app (goodIn_of _ (by decide +kernel)) ggX6_locked_X6_goesWell
set_option maxRecDepth 20000 in
theorem ggX6_locked_X6_hear : GoodIn wsX6_locked wsX6_hear := goodIn_r _ [25, 26, 27, 28, 4, 29, 1, 30, 31, 32, 33, 34, 35, 36, 37, 38, 39, 40, 41, 42, 43, 44, 45, 46, 47, 48, 49, 50, 51, 52, 53, 54, 55, 56, 57, 58, 59, 60, 61, 62, 63, 64, 65, 66] rfl (by decide +kernel)
set_option maxRecDepth 20000 in
theorem gX6_locked_X6_hear : GoodIn wsX6_locked (wsV RX6 126 RX6 yX6_hear wsX6_hear) := goodIn_app (goodIn_of _ (by decide +kernel)) ggX6_locked_X6_hear
theorem dX6_locked_0 : decode cX6_locked 0 = .ok (.iload_n 1, 1) := by decide +kernel
theorem dX6_locked_1 : decode cX6_locked 1 = .ok (.invokestatic 110, 3) := by decide +kernel
theorem dX6_locked_4 : decode cX6_locked 4 = .ok (.ifCond .eq 14, 3) := by decide +kernel
theorem dX6_locked_7 : decode cX6_locked 7 = .ok (.iload_n 2, 1) := by decide +kernel
theorem dX6_locked_8 : decode cX6_locked 8 = .ok (.invokestatic 87, 3) := by decide +kernel
theorem dX6_locked_11 : decode cX6_locked 11 = .ok (.ifCond .eq 7, 3) := by decide +kernel
theorem dX6_locked_14 : decode cX6_locked 14 = .ok (.iconst 1, 1) := by decide +kernel
theorem dX6_locked_15 : decode cX6_locked 15 = .ok (.goto 4, 3) := by decide +kernel
theorem dX6_locked_18 : decode cX6_locked 18 = .ok (.iconst 0, 1) := by decide +kernel
theorem dX6_locked_19 : decode cX6_locked 19 = .ok (.istore 4, 2) := by decide +kernel
theorem dX6_locked_21 : decode cX6_locked 21 = .ok (.aload_n 0, 1) := by decide +kernel
theorem dX6_locked_22 : decode cX6_locked 22 = .ok (.iload 4, 2) := by decide +kernel
theorem dX6_locked_24 : decode cX6_locked 24 = .ok (.ifCond .ne 7, 3) := by decide +kernel
theorem dX6_locked_27 : decode cX6_locked 27 = .ok (.iconst 1, 1) := by decide +kernel
theorem dX6_locked_28 : decode cX6_locked 28 = .ok (.goto 30, 3) := by decide +kernel
theorem dX6_locked_31 : decode cX6_locked 31 = .ok (.aload_n 0, 1) := by decide +kernel
theorem dX6_locked_32 : decode cX6_locked 32 = .ok (.iload_n 3, 1) := by decide +kernel
theorem dX6_locked_33 : decode cX6_locked 33 = .ok (.invokevirtual 123, 3) := by decide +kernel
theorem dX6_locked_36 : decode cX6_locked 36 = .ok (.ifCond .ne 7, 3) := by decide +kernel
theorem dX6_locked_39 : decode cX6_locked 39 = .ok (.iconst 2, 1) := by decide +kernel
theorem dX6_locked_40 : decode cX6_locked 40 = .ok (.goto 18, 3) := by decide +kernel
theorem dX6_locked_43 : decode cX6_locked 43 = .ok (.aload_n 0, 1) := by decide +kernel
theorem dX6_locked_44 : decode cX6_locked 44 = .ok (.getfield 97, 3) := by decide +kernel
theorem dX6_locked_47 : decode cX6_locked 47 = .ok (.sipush 300, 3) := by decide +kernel
theorem dX6_locked_50 : decode cX6_locked 50 = .ok (.if_icmp .ne 7, 3) := by decide +kernel
theorem dX6_locked_53 : decode cX6_locked 53 = .ok (.iconst 3, 1) := by decide +kernel
theorem dX6_locked_54 : decode cX6_locked 54 = .ok (.goto 4, 3) := by decide +kernel
theorem dX6_locked_57 : decode cX6_locked 57 = .ok (.iconst 0, 1) := by decide +kernel
theorem dX6_locked_58 : decode cX6_locked 58 = .ok (.invokevirtual 91, 3) := by decide +kernel
theorem dX6_locked_61 : decode cX6_locked 61 = .ok (.ifCond .eq 18, 3) := by decide +kernel
theorem dX6_locked_64 : decode cX6_locked 64 = .ok (.aload_n 0, 1) := by decide +kernel
theorem dX6_locked_65 : decode cX6_locked 65 = .ok (.iconst 4, 1) := by decide +kernel
theorem dX6_locked_66 : decode cX6_locked 66 = .ok (.iload_n 1, 1) := by decide +kernel
theorem dX6_locked_67 : decode cX6_locked 67 = .ok (.iload_n 2, 1) := by decide +kernel
theorem dX6_locked_68 : decode cX6_locked 68 = .ok (.iload_n 3, 1) := by decide +kernel
theorem dX6_locked_69 : decode cX6_locked 69 = .ok (.invokevirtual 126, 3) := by decide +kernel
theorem dX6_locked_72 : decode cX6_locked 72 = .ok (.ifCond .eq 7, 3) := by decide +kernel
theorem dX6_locked_75 : decode cX6_locked 75 = .ok (.iconst 1, 1) := by decide +kernel
theorem dX6_locked_76 : decode cX6_locked 76 = .ok (.goto 4, 3) := by decide +kernel
theorem dX6_locked_79 : decode cX6_locked 79 = .ok (.iconst 0, 1) := by decide +kernel
theorem dX6_locked_80 : decode cX6_locked 80 = .ok (.ireturn, 1) := by decide +kernel
set_option maxRecDepth 20000 in
theorem ggX6_faulty_X6_isCycle : GoodIn wsX6_faulty wsX6_isCycle := goodIn_r _ [5, 6, 7, 4, 8] rfl (by decide +kernel)
set_option maxRecDepth 20000 in
theorem gX6_faulty_X6_isCycle : GoodIn wsX6_faulty (va_wsS RX6 110 yX6_isCycle wsX6_isCycle) := goodIn_app (goodIn_of _ (by decide +kernel)) ggX6_faulty_X6_isCycle
set_option maxRecDepth 20000 in
theorem ggX6_faulty_X6_isRider : GoodIn wsX6_faulty wsX6_isRider := goodIn_r _ [11, 6, 7, 4, 8] rfl (by decide +kernel)
set_option maxRecDepth 20000 in
theorem gX6_faulty_X6_isRider : GoodIn wsX6_faulty (va_wsS RX6 120 yX6_isRider wsX6_isRider) := goodIn_app (goodIn_of _ (by decide +kernel)) ggX6_faulty_X6_isRider
set_option maxRecDepth 20000 in
theorem ggX6_faulty_X6_isWhen : GoodIn wsX6_faulty wsX6_isWhen := goodIn_r _ [15, 16, 6, 7, 4, 8, 38, 39, 40, 41, 42, 43, 44, 45, 46, 47, 48, 49, 50, 51, 52, 53, 54, 55, 56, 57, 58, 59, 60, 61, 62, 63, 64, 65, 66] rfl (by decide +kernel)
set_option maxRecDepth 20000 in
theorem gX6_faulty_X6_isWhen : GoodIn wsX6_faulty (wsV RX6 123 RX6 yX6_isWhen wsX6_isWhen) := goodIn_app (goodIn_of _ (by decide +kernel)) ggX6_faulty_X6_isWhen
set_option maxRecDepth 20000 in
theorem ggX6_faulty_X6_goesWell : GoodIn wsX6_faulty wsX6_goesWell := goodIn_r _ [20, 21, 38, 39, 40, 41, 42, 43, 44, 45, 46, 47, 48, 49, 50, 51, 52, 53, 54, 55, 56, 57, 58, 59, 60, 61, 62, 63, 64, 65, 66] rfl (by decide +kernel)
set_option maxRecDepth 20000 in
theorem gX6_faulty_X6_goesWell : GoodIn wsX6_faulty (wsV RX6 91 RX6 yX6_goesWell wsX6_goesWell) := goodIn_app (goodIn_of _ (by decide +kernel)) ggX6_faulty_X6_goesWell
set_option maxRecDepth 20000 in
theorem ggX6_faulty_X6_hear : GoodIn wsX6_faulty wsX6_hear := goodIn_r _ [25, 26, 27, 28, 4, 29, 1, 30, 31, 32, 33, 34, 35, 36, 37, 38, 39, 40, 41, 42, 43, 44, 45, 46, 47, 48, 49, 50, 51, 52, 53, 54, 55, 56, 57, 58, 59, 60, 61, 62, 63, 64, 65, 66] rfl (by decide +kernel)
set_option maxRecDepth 20000 in
theorem gX6_faulty_X6_hear : GoodIn wsX6_faulty (wsV RX6 126 RX6 yX6_hear wsX6_hear) := goodIn_app (goodIn_of _ (by decide +kernel)) ggX6_faulty_X6_hear
theorem dX6_faulty_0 : decode cX6_faulty 0 = .ok (.iload_n 1, 1) := by decide +kernel
theorem dX6_faulty_1 : decode cX6_faulty 1 = .ok (.invokestatic 110, 3) := by decide +kernel
theorem dX6_faulty_4 : decode cX6_faulty 4 = .ok (.ifCond .eq 14, 3) := by decide +kernel
theorem dX6_faulty_7 : decode cX6_faulty 7 = .ok (.iload_n 2, 1) := by decide +kernel
theorem dX6_faulty_8 : decode cX6_faulty 8 = .ok (.invokestatic 120, 3) := by decide +kernel
theorem dX6_faulty_11 : decode cX6_faulty 11 = .ok (.ifCond .eq 7, 3) := by decide +kernel
theorem dX6_faulty_14 : decode cX6_faulty 14 = .ok (.iconst 1, 1) := by decide +kernel
theorem dX6_faulty_15 : decode cX6_faulty 15 = .ok (.goto 4, 3) := by decide +kernel
theorem dX6_faulty_18 : decode cX6_faulty 18 = .ok (.iconst 0, 1) := by decide +kernel
theorem dX6_faulty_19 : decode cX6_faulty 19 = .ok (.istore 4, 2) := by decide +kernel
theorem dX6_faulty_21 : decode cX6_faulty 21 = .ok (.aload_n 0, 1) := by decide +kernel
theorem dX6_faulty_22 : decode cX6_faulty 22 = .ok (.iload 4, 2) := by decide +kernel
theorem dX6_faulty_24 : decode cX6_faulty 24 = .ok (.ifCond .ne 7, 3) := by decide +kernel
theorem dX6_faulty_27 : decode cX6_faulty 27 = .ok (.iconst 1, 1) := by decide +kernel
theorem dX6_faulty_28 : decode cX6_faulty 28 = .ok (.goto 30, 3) := by decide +kernel
theorem dX6_faulty_31 : decode cX6_faulty 31 = .ok (.aload_n 0, 1) := by decide +kernel
theorem dX6_faulty_32 : decode cX6_faulty 32 = .ok (.iload_n 3, 1) := by decide +kernel
theorem dX6_faulty_33 : decode cX6_faulty 33 = .ok (.invokevirtual 123, 3) := by decide +kernel
theorem dX6_faulty_36 : decode cX6_faulty 36 = .ok (.ifCond .ne 7, 3) := by decide +kernel
theorem dX6_faulty_39 : decode cX6_faulty 39 = .ok (.iconst 2, 1) := by decide +kernel
theorem dX6_faulty_40 : decode cX6_faulty 40 = .ok (.goto 18, 3) := by decide +kernel
theorem dX6_faulty_43 : decode cX6_faulty 43 = .ok (.aload_n 0, 1) := by decide +kernel
theorem dX6_faulty_44 : decode cX6_faulty 44 = .ok (.getfield 97, 3) := by decide +kernel
theorem dX6_faulty_47 : decode cX6_faulty 47 = .ok (.sipush 300, 3) := by decide +kernel
theorem dX6_faulty_50 : decode cX6_faulty 50 = .ok (.if_icmp .ne 7, 3) := by decide +kernel
theorem dX6_faulty_53 : decode cX6_faulty 53 = .ok (.iconst 3, 1) := by decide +kernel
theorem dX6_faulty_54 : decode cX6_faulty 54 = .ok (.goto 4, 3) := by decide +kernel
theorem dX6_faulty_57 : decode cX6_faulty 57 = .ok (.iconst 0, 1) := by decide +kernel
theorem dX6_faulty_58 : decode cX6_faulty 58 = .ok (.invokevirtual 91, 3) := by decide +kernel
theorem dX6_faulty_61 : decode cX6_faulty 61 = .ok (.ifCond .eq 18, 3) := by decide +kernel
theorem dX6_faulty_64 : decode cX6_faulty 64 = .ok (.aload_n 0, 1) := by decide +kernel
theorem dX6_faulty_65 : decode cX6_faulty 65 = .ok (.iconst 5, 1) := by decide +kernel
theorem dX6_faulty_66 : decode cX6_faulty 66 = .ok (.iload_n 1, 1) := by decide +kernel
theorem dX6_faulty_67 : decode cX6_faulty 67 = .ok (.iload_n 2, 1) := by decide +kernel
theorem dX6_faulty_68 : decode cX6_faulty 68 = .ok (.iload_n 3, 1) := by decide +kernel
theorem dX6_faulty_69 : decode cX6_faulty 69 = .ok (.invokevirtual 126, 3) := by decide +kernel
theorem dX6_faulty_72 : decode cX6_faulty 72 = .ok (.ifCond .eq 7, 3) := by decide +kernel
theorem dX6_faulty_75 : decode cX6_faulty 75 = .ok (.iconst 1, 1) := by decide +kernel
theorem dX6_faulty_76 : decode cX6_faulty 76 = .ok (.goto 4, 3) := by decide +kernel
theorem dX6_faulty_79 : decode cX6_faulty 79 = .ok (.iconst 0, 1) := by decide +kernel
theorem dX6_faulty_80 : decode cX6_faulty 80 = .ok (.ireturn, 1) := by decide +kernel
set_option maxRecDepth 20000 in
theorem ggX6_mend_X6_isCycle : GoodIn wsX6_mend wsX6_isCycle := goodIn_r _ [5, 6, 7, 4, 8] rfl (by decide +kernel)
set_option maxRecDepth 20000 in
theorem gX6_mend_X6_isCycle : GoodIn wsX6_mend (va_wsS RX6 110 yX6_isCycle wsX6_isCycle) := goodIn_app (goodIn_of _ (by decide +kernel)) ggX6_mend_X6_isCycle
set_option maxRecDepth 20000 in
theorem ggX6_mend_X6_goesWell : GoodIn wsX6_mend wsX6_goesWell := goodIn_r _ [12, 13, 106, 107, 108, 109, 110, 111, 112, 113, 114, 115, 116, 117, 118, 119, 120, 121, 122, 123, 124, 125, 126, 127, 128, 129, 130, 131, 132, 133, 134] rfl (by decide +kernel)
set_option maxRecDepth 20000 in
theorem gX6_mend_X6_goesWell : GoodIn wsX6_mend (wsV RX6 91 RX6 yX6_goesWell wsX6_goesWell) := goodIn_app (goodIn_of _ (by decide +kernel)) ggX6_mend_X6_goesWell
set_option maxRecDepth 20000 in
theorem ggX6_mend_X6_tell : GoodIn wsX6_mend wsX6_tell := goodIn_r _ [17, 18, 19, 20, 21, 22, 4, 23, 1, 24, 25, 26, 27, 28, 29, 30, 31, 32, 33, 34, 35, 36, 37, 38, 39, 40, 41, 42, 43, 44, 45, 46, 47, 48, 49, 50, 51, 52, 53, 54, 55, 56, 57, 58, 59, 60, 61, 62, 63, 64, 65, 66, 67, 68, 69, 70, 71, 72, 73, 74, 75, 76, 77, 78, 79, 80, 81, 82, 83, 84, 85, 86, 87, 88, 89, 90, 91, 92, 93, 94, 95, 96, 97, 98, 99, 100, 101, 102, 103, 104, 105, 106, 107, 108, 109, 110, 111, 112, 113, 114, 115, 116, 117, 118, 119, 120, 121, 122, 123, 124, 125, 126, 127, 128, 129, 130, 131, 132, 133, 134] rfl (by decide +kernel)
set_option maxRecDepth 20000 in
theorem gX6_mend_X6_tell : GoodIn wsX6_mend (wsV RX6 113 RX6 yX6_tell wsX6_tell) := goodIn_app (goodIn_of _ (by decide +kernel)) ggX6_mend_X6_tell
theorem dX6_mend_0 : decode cX6_mend 0 = .ok (.aload_n 0, 1) := by decide +kernel
theorem dX6_mend_1 : decode cX6_mend 1 = .ok (.iload_n 1, 1) := by decide +kernel
theorem dX6_mend_2 : decode cX6_mend 2 = .ok (.invokestatic 110, 3) := by decide +kernel
theorem dX6_mend_5 : decode cX6_mend 5 = .ok (.ifCond .ne 7, 3) := by decide +kernel
theorem dX6_mend_8 : decode cX6_mend 8 = .ok (.iconst 1, 1) := by decide +kernel
theorem dX6_mend_9 : decode cX6_mend 9 = .ok (.goto 18, 3) := by decide +kernel
theorem dX6_mend_12 : decode cX6_mend 12 = .ok (.aload_n 0, 1) := by decide +kernel
theorem dX6_mend_13 : decode cX6_mend 13 = .ok (.getfield 97, 3) := by decide +kernel
theorem dX6_mend_16 : decode cX6_mend 16 = .ok (.sipush 300, 3) := by decide +kernel
theorem dX6_mend_19 : decode cX6_mend 19 = .ok (.if_icmp .ne 7, 3) := by decide +kernel
theorem dX6_mend_22 : decode cX6_mend 22 = .ok (.iconst 2, 1) := by decide +kernel
theorem dX6_mend_23 : decode cX6_mend 23 = .ok (.goto 4, 3) := by decide +kernel
theorem dX6_mend_26 : decode cX6_mend 26 = .ok (.iconst 0, 1) := by decide +kernel
theorem dX6_mend_27 : decode cX6_mend 27 = .ok (.invokevirtual 91, 3) := by decide +kernel
theorem dX6_mend_30 : decode cX6_mend 30 = .ok (.ifCond .eq 18, 3) := by decide +kernel
theorem dX6_mend_33 : decode cX6_mend 33 = .ok (.aload_n 0, 1) := by decide +kernel
theorem dX6_mend_34 : decode cX6_mend 34 = .ok (.bipush 6, 2) := by decide +kernel
theorem dX6_mend_36 : decode cX6_mend 36 = .ok (.iload_n 1, 1) := by decide +kernel
theorem dX6_mend_37 : decode cX6_mend 37 = .ok (.iconst 0, 1) := by decide +kernel
theorem dX6_mend_38 : decode cX6_mend 38 = .ok (.invokevirtual 113, 3) := by decide +kernel
theorem dX6_mend_41 : decode cX6_mend 41 = .ok (.ifCond .eq 7, 3) := by decide +kernel
theorem dX6_mend_44 : decode cX6_mend 44 = .ok (.iconst 1, 1) := by decide +kernel
theorem dX6_mend_45 : decode cX6_mend 45 = .ok (.goto 4, 3) := by decide +kernel
theorem dX6_mend_48 : decode cX6_mend 48 = .ok (.iconst 0, 1) := by decide +kernel
theorem dX6_mend_49 : decode cX6_mend 49 = .ok (.ireturn, 1) := by decide +kernel
set_option maxRecDepth 20000 in
theorem ggX6_price_X6_in : GoodIn wsX6_price wsX6_in := goodIn_r _ [6] rfl (by decide +kernel)
set_option maxRecDepth 20000 in
theorem gX6_price_X6_in : GoodIn wsX6_price (va_wsS RX6 83 yX6_in wsX6_in) := goodIn_app (goodIn_of _ (by decide +kernel)) ggX6_price_X6_in
set_option maxRecDepth 20000 in
theorem ggX6_price_X6_goesWell : GoodIn wsX6_price wsX6_goesWell := goodIn_r _ [10, 11, 20, 21, 22, 23, 24, 25, 26, 27, 28, 29, 30, 31, 32, 33, 34, 35, 36, 37, 38, 39, 40, 41, 42, 43, 44, 45, 46, 47, 48] rfl (by decide +kernel)
set_option maxRecDepth 20000 in
theorem gX6_price_X6_goesWell : GoodIn wsX6_price (wsV RX6 91 RX6 yX6_goesWell wsX6_goesWell) := goodIn_app (goodIn_of _ (by decide +kernel)) ggX6_price_X6_goesWell
set_option maxRecDepth 20000 in
theorem ggX6_price_X6_keep : GoodIn wsX6_price wsX6_keep := goodIn_r _ [15, 1, 16, 17, 18, 19, 20, 21, 22, 23, 24, 25, 26, 27, 28, 29, 30, 31, 32, 33, 34, 35, 36, 37, 38, 39, 40, 41, 42, 43, 44, 45, 46, 47, 48] rfl (by decide +kernel)
set_option maxRecDepth 20000 in
theorem gX6_price_X6_keep : GoodIn wsX6_price (wsV RX6 100 RX6 yX6_keep wsX6_keep) := goodIn_app (goodIn_of _ (by decide +kernel)) ggX6_price_X6_keep
theorem dX6_price_0 : decode cX6_price 0 = .ok (.iload_n 1, 1) := by decide +kernel
theorem dX6_price_1 : decode cX6_price 1 = .ok (.iconst 0, 1) := by decide +kernel
theorem dX6_price_2 : decode cX6_price 2 = .ok (.bipush 99, 2) := by decide +kernel
theorem dX6_price_4 : decode cX6_price 4 = .ok (.invokestatic 83, 3) := by decide +kernel
theorem dX6_price_7 : decode cX6_price 7 = .ok (.istore_n 2, 1) := by decide +kernel
theorem dX6_price_8 : decode cX6_price 8 = .ok (.aload_n 0, 1) := by decide +kernel
theorem dX6_price_9 : decode cX6_price 9 = .ok (.iload_n 2, 1) := by decide +kernel
theorem dX6_price_10 : decode cX6_price 10 = .ok (.ifCond .ne 7, 3) := by decide +kernel
theorem dX6_price_13 : decode cX6_price 13 = .ok (.iconst 1, 1) := by decide +kernel
theorem dX6_price_14 : decode cX6_price 14 = .ok (.goto 18, 3) := by decide +kernel
theorem dX6_price_17 : decode cX6_price 17 = .ok (.aload_n 0, 1) := by decide +kernel
theorem dX6_price_18 : decode cX6_price 18 = .ok (.getfield 97, 3) := by decide +kernel
theorem dX6_price_21 : decode cX6_price 21 = .ok (.sipush 300, 3) := by decide +kernel
theorem dX6_price_24 : decode cX6_price 24 = .ok (.if_icmp .ne 7, 3) := by decide +kernel
theorem dX6_price_27 : decode cX6_price 27 = .ok (.iconst 2, 1) := by decide +kernel
theorem dX6_price_28 : decode cX6_price 28 = .ok (.goto 4, 3) := by decide +kernel
theorem dX6_price_31 : decode cX6_price 31 = .ok (.iconst 0, 1) := by decide +kernel
theorem dX6_price_32 : decode cX6_price 32 = .ok (.invokevirtual 91, 3) := by decide +kernel
theorem dX6_price_35 : decode cX6_price 35 = .ok (.ifCond .eq 16, 3) := by decide +kernel
theorem dX6_price_38 : decode cX6_price 38 = .ok (.aload_n 0, 1) := by decide +kernel
theorem dX6_price_39 : decode cX6_price 39 = .ok (.bipush 7, 2) := by decide +kernel
theorem dX6_price_41 : decode cX6_price 41 = .ok (.iload_n 1, 1) := by decide +kernel
theorem dX6_price_42 : decode cX6_price 42 = .ok (.iconst 0, 1) := by decide +kernel
theorem dX6_price_43 : decode cX6_price 43 = .ok (.aload_n 0, 1) := by decide +kernel
theorem dX6_price_44 : decode cX6_price 44 = .ok (.getfield 94, 3) := by decide +kernel
theorem dX6_price_47 : decode cX6_price 47 = .ok (.invokevirtual 100, 3) := by decide +kernel
theorem dX6_price_50 : decode cX6_price 50 = .ok (.pop, 1) := by decide +kernel
theorem dX6_price_51 : decode cX6_price 51 = .ok (.return_, 1) := by decide +kernel
set_option maxRecDepth 20000 in
theorem ggX6_promise_X6_isRider : GoodIn wsX6_promise wsX6_isRider := goodIn_r _ [5, 6, 7, 4, 8] rfl (by decide +kernel)
set_option maxRecDepth 20000 in
theorem gX6_promise_X6_isRider : GoodIn wsX6_promise (va_wsS RX6 120 yX6_isRider wsX6_isRider) := goodIn_app (goodIn_of _ (by decide +kernel)) ggX6_promise_X6_isRider
set_option maxRecDepth 20000 in
theorem ggX6_promise_X6_isStation : GoodIn wsX6_promise wsX6_isStation := goodIn_r _ [11, 6, 7, 4, 8] rfl (by decide +kernel)
set_option maxRecDepth 20000 in
theorem gX6_promise_X6_isStation : GoodIn wsX6_promise (va_wsS RX6 87 yX6_isStation wsX6_isStation) := goodIn_app (goodIn_of _ (by decide +kernel)) ggX6_promise_X6_isStation
set_option maxRecDepth 20000 in
theorem ggX6_promise_X6_goesWell : GoodIn wsX6_promise wsX6_goesWell := goodIn_r _ [15, 16, 109, 110, 111, 112, 113, 114, 115, 116, 117, 118, 119, 120, 121, 122, 123, 124, 125, 126, 127, 128, 129, 130, 131, 132, 133, 134, 135, 136, 137] rfl (by decide +kernel)
set_option maxRecDepth 20000 in
theorem gX6_promise_X6_goesWell : GoodIn wsX6_promise (wsV RX6 91 RX6 yX6_goesWell wsX6_goesWell) := goodIn_app (goodIn_of _ (by decide +kernel)) ggX6_promise_X6_goesWell
set_option maxRecDepth 20000 in
theorem ggX6_promise_X6_tell : GoodIn wsX6_promise wsX6_tell := goodIn_r _ [20, 21, 22, 23, 24, 25, 4, 26, 1, 27, 28, 29, 30, 31, 32, 33, 34, 35, 36, 37, 38, 39, 40, 41, 42, 43, 44, 45, 46, 47, 48, 49, 50, 51, 52, 53, 54, 55, 56, 57, 58, 59, 60, 61, 62, 63, 64, 65, 66, 67, 68, 69, 70, 71, 72, 73, 74, 75, 76, 77, 78, 79, 80, 81, 82, 83, 84, 85, 86, 87, 88, 89, 90, 91, 92, 93, 94, 95, 96, 97, 98, 99, 100, 101, 102, 103, 104, 105, 106, 107, 108, 109, 110, 111, 112, 113, 114, 115, 116, 117, 118, 119, 120, 121, 122, 123, 124, 125, 126, 127, 128, 129, 130, 131, 132, 133, 134, 135, 136, 137] rfl (by decide +kernel)
set_option maxRecDepth 20000 in
theorem gX6_promise_X6_tell : GoodIn wsX6_promise (wsV RX6 113 RX6 yX6_tell wsX6_tell) := goodIn_app (goodIn_of _ (by decide +kernel)) ggX6_promise_X6_tell
theorem dX6_promise_0 : decode cX6_promise 0 = .ok (.iload_n 1, 1) := by decide +kernel
theorem dX6_promise_1 : decode cX6_promise 1 = .ok (.invokestatic 120, 3) := by decide +kernel
theorem dX6_promise_4 : decode cX6_promise 4 = .ok (.ifCond .eq 14, 3) := by decide +kernel
theorem dX6_promise_7 : decode cX6_promise 7 = .ok (.iload_n 2, 1) := by decide +kernel
theorem dX6_promise_8 : decode cX6_promise 8 = .ok (.invokestatic 87, 3) := by decide +kernel
theorem dX6_promise_11 : decode cX6_promise 11 = .ok (.ifCond .eq 7, 3) := by decide +kernel
theorem dX6_promise_14 : decode cX6_promise 14 = .ok (.iconst 1, 1) := by decide +kernel
theorem dX6_promise_15 : decode cX6_promise 15 = .ok (.goto 4, 3) := by decide +kernel
theorem dX6_promise_18 : decode cX6_promise 18 = .ok (.iconst 0, 1) := by decide +kernel
theorem dX6_promise_19 : decode cX6_promise 19 = .ok (.istore_n 3, 1) := by decide +kernel
theorem dX6_promise_20 : decode cX6_promise 20 = .ok (.aload_n 0, 1) := by decide +kernel
theorem dX6_promise_21 : decode cX6_promise 21 = .ok (.iload_n 3, 1) := by decide +kernel
theorem dX6_promise_22 : decode cX6_promise 22 = .ok (.ifCond .ne 7, 3) := by decide +kernel
theorem dX6_promise_25 : decode cX6_promise 25 = .ok (.iconst 1, 1) := by decide +kernel
theorem dX6_promise_26 : decode cX6_promise 26 = .ok (.goto 18, 3) := by decide +kernel
theorem dX6_promise_29 : decode cX6_promise 29 = .ok (.aload_n 0, 1) := by decide +kernel
theorem dX6_promise_30 : decode cX6_promise 30 = .ok (.getfield 97, 3) := by decide +kernel
theorem dX6_promise_33 : decode cX6_promise 33 = .ok (.sipush 300, 3) := by decide +kernel
theorem dX6_promise_36 : decode cX6_promise 36 = .ok (.if_icmp .ne 7, 3) := by decide +kernel
theorem dX6_promise_39 : decode cX6_promise 39 = .ok (.iconst 2, 1) := by decide +kernel
theorem dX6_promise_40 : decode cX6_promise 40 = .ok (.goto 4, 3) := by decide +kernel
theorem dX6_promise_43 : decode cX6_promise 43 = .ok (.iconst 0, 1) := by decide +kernel
theorem dX6_promise_44 : decode cX6_promise 44 = .ok (.invokevirtual 91, 3) := by decide +kernel
theorem dX6_promise_47 : decode cX6_promise 47 = .ok (.ifCond .eq 18, 3) := by decide +kernel
theorem dX6_promise_50 : decode cX6_promise 50 = .ok (.aload_n 0, 1) := by decide +kernel
theorem dX6_promise_51 : decode cX6_promise 51 = .ok (.bipush 8, 2) := by decide +kernel
theorem dX6_promise_53 : decode cX6_promise 53 = .ok (.iload_n 1, 1) := by decide +kernel
theorem dX6_promise_54 : decode cX6_promise 54 = .ok (.iload_n 2, 1) := by decide +kernel
theorem dX6_promise_55 : decode cX6_promise 55 = .ok (.invokevirtual 113, 3) := by decide +kernel
theorem dX6_promise_58 : decode cX6_promise 58 = .ok (.ifCond .eq 7, 3) := by decide +kernel
theorem dX6_promise_61 : decode cX6_promise 61 = .ok (.iconst 1, 1) := by decide +kernel
theorem dX6_promise_62 : decode cX6_promise 62 = .ok (.goto 4, 3) := by decide +kernel
theorem dX6_promise_65 : decode cX6_promise 65 = .ok (.iconst 0, 1) := by decide +kernel
theorem dX6_promise_66 : decode cX6_promise 66 = .ok (.ireturn, 1) := by decide +kernel
theorem dX6_begin_0 : decode cX6_begin 0 = .ok (.iconst 0, 1) := by decide +kernel
theorem dX6_begin_1 : decode cX6_begin 1 = .ok (.istore_n 1, 1) := by decide +kernel
theorem dX6_begin_2 : decode cX6_begin 2 = .ok (.iload_n 1, 1) := by decide +kernel
theorem dX6_begin_3 : decode cX6_begin 3 = .ok (.bipush 8, 2) := by decide +kernel
theorem dX6_begin_5 : decode cX6_begin 5 = .ok (.if_icmp .ge 30, 3) := by decide +kernel
theorem dX6_begin_8 : decode cX6_begin 8 = .ok (.aload_n 0, 1) := by decide +kernel
theorem dX6_begin_9 : decode cX6_begin 9 = .ok (.getfield 31, 3) := by decide +kernel
theorem dX6_begin_12 : decode cX6_begin 12 = .ok (.iload_n 1, 1) := by decide +kernel
theorem dX6_begin_13 : decode cX6_begin 13 = .ok (.iconst 0, 1) := by decide +kernel
theorem dX6_begin_14 : decode cX6_begin 14 = .ok (.iastore, 1) := by decide +kernel
theorem dX6_begin_15 : decode cX6_begin 15 = .ok (.aload_n 0, 1) := by decide +kernel
theorem dX6_begin_16 : decode cX6_begin 16 = .ok (.getfield 34, 3) := by decide +kernel
theorem dX6_begin_19 : decode cX6_begin 19 = .ok (.iload_n 1, 1) := by decide +kernel
theorem dX6_begin_20 : decode cX6_begin 20 = .ok (.iconst 0, 1) := by decide +kernel
theorem dX6_begin_21 : decode cX6_begin 21 = .ok (.iastore, 1) := by decide +kernel
theorem dX6_begin_22 : decode cX6_begin 22 = .ok (.aload_n 0, 1) := by decide +kernel
theorem dX6_begin_23 : decode cX6_begin 23 = .ok (.getfield 37, 3) := by decide +kernel
theorem dX6_begin_26 : decode cX6_begin 26 = .ok (.iload_n 1, 1) := by decide +kernel
theorem dX6_begin_27 : decode cX6_begin 27 = .ok (.iconst 0, 1) := by decide +kernel
theorem dX6_begin_28 : decode cX6_begin 28 = .ok (.iastore, 1) := by decide +kernel
theorem dX6_begin_29 : decode cX6_begin 29 = .ok (.iinc 1 1, 3) := by decide +kernel
theorem dX6_begin_32 : decode cX6_begin 32 = .ok (.goto (-30), 3) := by decide +kernel
theorem dX6_begin_35 : decode cX6_begin 35 = .ok (.iconst 0, 1) := by decide +kernel
theorem dX6_begin_36 : decode cX6_begin 36 = .ok (.istore_n 1, 1) := by decide +kernel
theorem dX6_begin_37 : decode cX6_begin 37 = .ok (.iload_n 1, 1) := by decide +kernel
theorem dX6_begin_38 : decode cX6_begin 38 = .ok (.bipush 30, 2) := by decide +kernel
theorem dX6_begin_40 : decode cX6_begin 40 = .ok (.if_icmp .ge 37, 3) := by decide +kernel
theorem dX6_begin_43 : decode cX6_begin 43 = .ok (.aload_n 0, 1) := by decide +kernel
theorem dX6_begin_44 : decode cX6_begin 44 = .ok (.getfield 40, 3) := by decide +kernel
theorem dX6_begin_47 : decode cX6_begin 47 = .ok (.iload_n 1, 1) := by decide +kernel
theorem dX6_begin_48 : decode cX6_begin 48 = .ok (.iconst 0, 1) := by decide +kernel
theorem dX6_begin_49 : decode cX6_begin 49 = .ok (.iastore, 1) := by decide +kernel
theorem dX6_begin_50 : decode cX6_begin 50 = .ok (.aload_n 0, 1) := by decide +kernel
theorem dX6_begin_51 : decode cX6_begin 51 = .ok (.getfield 43, 3) := by decide +kernel
theorem dX6_begin_54 : decode cX6_begin 54 = .ok (.iload_n 1, 1) := by decide +kernel
theorem dX6_begin_55 : decode cX6_begin 55 = .ok (.iconst (-1), 1) := by decide +kernel
theorem dX6_begin_56 : decode cX6_begin 56 = .ok (.iastore, 1) := by decide +kernel
theorem dX6_begin_57 : decode cX6_begin 57 = .ok (.aload_n 0, 1) := by decide +kernel
theorem dX6_begin_58 : decode cX6_begin 58 = .ok (.getfield 46, 3) := by decide +kernel
theorem dX6_begin_61 : decode cX6_begin 61 = .ok (.iload_n 1, 1) := by decide +kernel
theorem dX6_begin_62 : decode cX6_begin 62 = .ok (.iconst 0, 1) := by decide +kernel
theorem dX6_begin_63 : decode cX6_begin 63 = .ok (.iastore, 1) := by decide +kernel
theorem dX6_begin_64 : decode cX6_begin 64 = .ok (.aload_n 0, 1) := by decide +kernel
theorem dX6_begin_65 : decode cX6_begin 65 = .ok (.getfield 58, 3) := by decide +kernel
theorem dX6_begin_68 : decode cX6_begin 68 = .ok (.iload_n 1, 1) := by decide +kernel
theorem dX6_begin_69 : decode cX6_begin 69 = .ok (.iconst 0, 1) := by decide +kernel
theorem dX6_begin_70 : decode cX6_begin 70 = .ok (.iastore, 1) := by decide +kernel
theorem dX6_begin_71 : decode cX6_begin 71 = .ok (.iinc 1 1, 3) := by decide +kernel
theorem dX6_begin_74 : decode cX6_begin 74 = .ok (.goto (-37), 3) := by decide +kernel
theorem dX6_begin_77 : decode cX6_begin 77 = .ok (.iconst 0, 1) := by decide +kernel
theorem dX6_begin_78 : decode cX6_begin 78 = .ok (.istore_n 1, 1) := by decide +kernel
theorem dX6_begin_79 : decode cX6_begin 79 = .ok (.iload_n 1, 1) := by decide +kernel
theorem dX6_begin_80 : decode cX6_begin 80 = .ok (.bipush 10, 2) := by decide +kernel
theorem dX6_begin_82 : decode cX6_begin 82 = .ok (.if_icmp .ge 44, 3) := by decide +kernel
theorem dX6_begin_85 : decode cX6_begin 85 = .ok (.aload_n 0, 1) := by decide +kernel
theorem dX6_begin_86 : decode cX6_begin 86 = .ok (.getfield 61, 3) := by decide +kernel
theorem dX6_begin_89 : decode cX6_begin 89 = .ok (.iload_n 1, 1) := by decide +kernel
theorem dX6_begin_90 : decode cX6_begin 90 = .ok (.iconst 0, 1) := by decide +kernel
theorem dX6_begin_91 : decode cX6_begin 91 = .ok (.iastore, 1) := by decide +kernel
theorem dX6_begin_92 : decode cX6_begin 92 = .ok (.aload_n 0, 1) := by decide +kernel
theorem dX6_begin_93 : decode cX6_begin 93 = .ok (.getfield 64, 3) := by decide +kernel
theorem dX6_begin_96 : decode cX6_begin 96 = .ok (.iload_n 1, 1) := by decide +kernel
theorem dX6_begin_97 : decode cX6_begin 97 = .ok (.iconst 0, 1) := by decide +kernel
theorem dX6_begin_98 : decode cX6_begin 98 = .ok (.iastore, 1) := by decide +kernel
theorem dX6_begin_99 : decode cX6_begin 99 = .ok (.aload_n 0, 1) := by decide +kernel
theorem dX6_begin_100 : decode cX6_begin 100 = .ok (.getfield 67, 3) := by decide +kernel
theorem dX6_begin_103 : decode cX6_begin 103 = .ok (.iload_n 1, 1) := by decide +kernel
theorem dX6_begin_104 : decode cX6_begin 104 = .ok (.iconst 0, 1) := by decide +kernel
theorem dX6_begin_105 : decode cX6_begin 105 = .ok (.iastore, 1) := by decide +kernel
theorem dX6_begin_106 : decode cX6_begin 106 = .ok (.aload_n 0, 1) := by decide +kernel
theorem dX6_begin_107 : decode cX6_begin 107 = .ok (.getfield 70, 3) := by decide +kernel
theorem dX6_begin_110 : decode cX6_begin 110 = .ok (.iload_n 1, 1) := by decide +kernel
theorem dX6_begin_111 : decode cX6_begin 111 = .ok (.iconst 0, 1) := by decide +kernel
theorem dX6_begin_112 : decode cX6_begin 112 = .ok (.iastore, 1) := by decide +kernel
theorem dX6_begin_113 : decode cX6_begin 113 = .ok (.aload_n 0, 1) := by decide +kernel
theorem dX6_begin_114 : decode cX6_begin 114 = .ok (.getfield 73, 3) := by decide +kernel
theorem dX6_begin_117 : decode cX6_begin 117 = .ok (.iload_n 1, 1) := by decide +kernel
theorem dX6_begin_118 : decode cX6_begin 118 = .ok (.iconst (-1), 1) := by decide +kernel
theorem dX6_begin_119 : decode cX6_begin 119 = .ok (.iastore, 1) := by decide +kernel
theorem dX6_begin_120 : decode cX6_begin 120 = .ok (.iinc 1 1, 3) := by decide +kernel
theorem dX6_begin_123 : decode cX6_begin 123 = .ok (.goto (-44), 3) := by decide +kernel
theorem dX6_begin_126 : decode cX6_begin 126 = .ok (.aload_n 0, 1) := by decide +kernel
theorem dX6_begin_127 : decode cX6_begin 127 = .ok (.iconst 1, 1) := by decide +kernel
theorem dX6_begin_128 : decode cX6_begin 128 = .ok (.putfield 129, 3) := by decide +kernel
theorem dX6_begin_131 : decode cX6_begin 131 = .ok (.aload_n 0, 1) := by decide +kernel
theorem dX6_begin_132 : decode cX6_begin 132 = .ok (.iconst 0, 1) := by decide +kernel
theorem dX6_begin_133 : decode cX6_begin 133 = .ok (.putfield 132, 3) := by decide +kernel
theorem dX6_begin_136 : decode cX6_begin 136 = .ok (.return_, 1) := by decide +kernel
theorem dX6_free_0 : decode cX6_free 0 = .ok (.aload_n 0, 1) := by decide +kernel
theorem dX6_free_1 : decode cX6_free 1 = .ok (.getfield 31, 3) := by decide +kernel
theorem dX6_free_4 : decode cX6_free 4 = .ok (.iload_n 1, 1) := by decide +kernel
theorem dX6_free_5 : decode cX6_free 5 = .ok (.iaload, 1) := by decide +kernel
theorem dX6_free_6 : decode cX6_free 6 = .ok (.aload_n 0, 1) := by decide +kernel
theorem dX6_free_7 : decode cX6_free 7 = .ok (.getfield 34, 3) := by decide +kernel
theorem dX6_free_10 : decode cX6_free 10 = .ok (.iload_n 1, 1) := by decide +kernel
theorem dX6_free_11 : decode cX6_free 11 = .ok (.iaload, 1) := by decide +kernel
theorem dX6_free_12 : decode cX6_free 12 = .ok (.if_icmp .le 19, 3) := by decide +kernel
theorem dX6_free_15 : decode cX6_free 15 = .ok (.aload_n 0, 1) := by decide +kernel
theorem dX6_free_16 : decode cX6_free 16 = .ok (.getfield 31, 3) := by decide +kernel
theorem dX6_free_19 : decode cX6_free 19 = .ok (.iload_n 1, 1) := by decide +kernel
theorem dX6_free_20 : decode cX6_free 20 = .ok (.iaload, 1) := by decide +kernel
theorem dX6_free_21 : decode cX6_free 21 = .ok (.aload_n 0, 1) := by decide +kernel
theorem dX6_free_22 : decode cX6_free 22 = .ok (.getfield 34, 3) := by decide +kernel
theorem dX6_free_25 : decode cX6_free 25 = .ok (.iload_n 1, 1) := by decide +kernel
theorem dX6_free_26 : decode cX6_free 26 = .ok (.iaload, 1) := by decide +kernel
theorem dX6_free_27 : decode cX6_free 27 = .ok (.isub, 1) := by decide +kernel
theorem dX6_free_28 : decode cX6_free 28 = .ok (.goto 4, 3) := by decide +kernel
theorem dX6_free_31 : decode cX6_free 31 = .ok (.iconst 0, 1) := by decide +kernel
theorem dX6_free_32 : decode cX6_free 32 = .ok (.ireturn, 1) := by decide +kernel
theorem dX6_isPromised_0 : decode cX6_isPromised 0 = .ok (.aload_n 0, 1) := by decide +kernel
theorem dX6_isPromised_1 : decode cX6_isPromised 1 = .ok (.getfield 73, 3) := by decide +kernel
theorem dX6_isPromised_4 : decode cX6_isPromised 4 = .ok (.iload_n 1, 1) := by decide +kernel
theorem dX6_isPromised_5 : decode cX6_isPromised 5 = .ok (.iaload, 1) := by decide +kernel
theorem dX6_isPromised_6 : decode cX6_isPromised 6 = .ok (.iload_n 2, 1) := by decide +kernel
theorem dX6_isPromised_7 : decode cX6_isPromised 7 = .ok (.if_icmp .ne 20, 3) := by decide +kernel
theorem dX6_isPromised_10 : decode cX6_isPromised 10 = .ok (.iload_n 3, 1) := by decide +kernel
theorem dX6_isPromised_11 : decode cX6_isPromised 11 = .ok (.aload_n 0, 1) := by decide +kernel
theorem dX6_isPromised_12 : decode cX6_isPromised 12 = .ok (.getfield 76, 3) := by decide +kernel
theorem dX6_isPromised_15 : decode cX6_isPromised 15 = .ok (.iload_n 1, 1) := by decide +kernel
theorem dX6_isPromised_16 : decode cX6_isPromised 16 = .ok (.iaload, 1) := by decide +kernel
theorem dX6_isPromised_17 : decode cX6_isPromised 17 = .ok (.isub, 1) := by decide +kernel
theorem dX6_isPromised_18 : decode cX6_isPromised 18 = .ok (.bipush 15, 2) := by decide +kernel
theorem dX6_isPromised_20 : decode cX6_isPromised 20 = .ok (.if_icmp .ge 7, 3) := by decide +kernel
theorem dX6_isPromised_23 : decode cX6_isPromised 23 = .ok (.iconst 1, 1) := by decide +kernel
theorem dX6_isPromised_24 : decode cX6_isPromised 24 = .ok (.goto 4, 3) := by decide +kernel
theorem dX6_isPromised_27 : decode cX6_isPromised 27 = .ok (.iconst 0, 1) := by decide +kernel
theorem dX6_isPromised_28 : decode cX6_isPromised 28 = .ok (.ireturn, 1) := by decide +kernel
set_option maxRecDepth 20000 in
theorem ggX6_promises_X6_isPromised : GoodIn wsX6_promises wsX6_isPromised := goodIn_r _ [5, 6, 7, 8, 9, 10, 11, 12, 13, 14, 15, 16, 17, 18, 19, 20, 21, 22, 23, 24, 25, 26, 27, 28, 29, 30, 31, 32, 33, 34, 35, 36] rfl (by decide +kernel)
set_option maxRecDepth 20000 in
theorem gX6_promises_X6_isPromised : GoodIn wsX6_promises (wsV RX6 135 RX6 yX6_isPromised wsX6_isPromised) := goodIn_app (goodIn_of _ (by decide +kernel)) ggX6_promises_X6_isPromised
theorem dX6_promises_0 : decode cX6_promises 0 = .ok (.iconst 0, 1) := by decide +kernel
theorem dX6_promises_1 : decode cX6_promises 1 = .ok (.istore 4, 2) := by decide +kernel
theorem dX6_promises_3 : decode cX6_promises 3 = .ok (.iconst 0, 1) := by decide +kernel
theorem dX6_promises_4 : decode cX6_promises 4 = .ok (.istore 5, 2) := by decide +kernel
theorem dX6_promises_6 : decode cX6_promises 6 = .ok (.iload 5, 2) := by decide +kernel
theorem dX6_promises_8 : decode cX6_promises 8 = .ok (.bipush 10, 2) := by decide +kernel
theorem dX6_promises_10 : decode cX6_promises 10 = .ok (.if_icmp .ge 36, 3) := by decide +kernel
theorem dX6_promises_13 : decode cX6_promises 13 = .ok (.iload 4, 2) := by decide +kernel
theorem dX6_promises_15 : decode cX6_promises 15 = .ok (.iload 5, 2) := by decide +kernel
theorem dX6_promises_17 : decode cX6_promises 17 = .ok (.iload_n 2, 1) := by decide +kernel
theorem dX6_promises_18 : decode cX6_promises 18 = .ok (.if_icmp .eq 18, 3) := by decide +kernel
theorem dX6_promises_21 : decode cX6_promises 21 = .ok (.aload_n 0, 1) := by decide +kernel
theorem dX6_promises_22 : decode cX6_promises 22 = .ok (.iload 5, 2) := by decide +kernel
theorem dX6_promises_24 : decode cX6_promises 24 = .ok (.iload_n 1, 1) := by decide +kernel
theorem dX6_promises_25 : decode cX6_promises 25 = .ok (.iload_n 3, 1) := by decide +kernel
theorem dX6_promises_26 : decode cX6_promises 26 = .ok (.invokevirtual 135, 3) := by decide +kernel
theorem dX6_promises_29 : decode cX6_promises 29 = .ok (.ifCond .eq 7, 3) := by decide +kernel
theorem dX6_promises_32 : decode cX6_promises 32 = .ok (.iconst 1, 1) := by decide +kernel
theorem dX6_promises_33 : decode cX6_promises 33 = .ok (.goto 4, 3) := by decide +kernel
theorem dX6_promises_36 : decode cX6_promises 36 = .ok (.iconst 0, 1) := by decide +kernel
theorem dX6_promises_37 : decode cX6_promises 37 = .ok (.iadd, 1) := by decide +kernel
theorem dX6_promises_38 : decode cX6_promises 38 = .ok (.istore 4, 2) := by decide +kernel
theorem dX6_promises_40 : decode cX6_promises 40 = .ok (.iinc 5 1, 3) := by decide +kernel
theorem dX6_promises_43 : decode cX6_promises 43 = .ok (.goto (-37), 3) := by decide +kernel
theorem dX6_promises_46 : decode cX6_promises 46 = .ok (.iload 4, 2) := by decide +kernel
theorem dX6_promises_48 : decode cX6_promises 48 = .ok (.ireturn, 1) := by decide +kernel
theorem dX6_isBlocked_0 : decode cX6_isBlocked 0 = .ok (.iconst 0, 1) := by decide +kernel
theorem dX6_isBlocked_1 : decode cX6_isBlocked 1 = .ok (.istore_n 2, 1) := by decide +kernel
theorem dX6_isBlocked_2 : decode cX6_isBlocked 2 = .ok (.iconst 0, 1) := by decide +kernel
theorem dX6_isBlocked_3 : decode cX6_isBlocked 3 = .ok (.istore_n 3, 1) := by decide +kernel
theorem dX6_isBlocked_4 : decode cX6_isBlocked 4 = .ok (.iload_n 3, 1) := by decide +kernel
theorem dX6_isBlocked_5 : decode cX6_isBlocked 5 = .ok (.bipush 10, 2) := by decide +kernel
theorem dX6_isBlocked_7 : decode cX6_isBlocked 7 = .ok (.if_icmp .ge 22, 3) := by decide +kernel
theorem dX6_isBlocked_10 : decode cX6_isBlocked 10 = .ok (.iload_n 2, 1) := by decide +kernel
theorem dX6_isBlocked_11 : decode cX6_isBlocked 11 = .ok (.aload_n 0, 1) := by decide +kernel
theorem dX6_isBlocked_12 : decode cX6_isBlocked 12 = .ok (.getfield 46, 3) := by decide +kernel
theorem dX6_isBlocked_15 : decode cX6_isBlocked 15 = .ok (.iload_n 1, 1) := by decide +kernel
theorem dX6_isBlocked_16 : decode cX6_isBlocked 16 = .ok (.iaload, 1) := by decide +kernel
theorem dX6_isBlocked_17 : decode cX6_isBlocked 17 = .ok (.iload_n 3, 1) := by decide +kernel
theorem dX6_isBlocked_18 : decode cX6_isBlocked 18 = .ok (.ishr, 1) := by decide +kernel
theorem dX6_isBlocked_19 : decode cX6_isBlocked 19 = .ok (.iconst 1, 1) := by decide +kernel
theorem dX6_isBlocked_20 : decode cX6_isBlocked 20 = .ok (.iand, 1) := by decide +kernel
theorem dX6_isBlocked_21 : decode cX6_isBlocked 21 = .ok (.iadd, 1) := by decide +kernel
theorem dX6_isBlocked_22 : decode cX6_isBlocked 22 = .ok (.istore_n 2, 1) := by decide +kernel
theorem dX6_isBlocked_23 : decode cX6_isBlocked 23 = .ok (.iinc 3 1, 3) := by decide +kernel
theorem dX6_isBlocked_26 : decode cX6_isBlocked 26 = .ok (.goto (-22), 3) := by decide +kernel
theorem dX6_isBlocked_29 : decode cX6_isBlocked 29 = .ok (.iload_n 2, 1) := by decide +kernel
theorem dX6_isBlocked_30 : decode cX6_isBlocked 30 = .ok (.iconst 1, 1) := by decide +kernel
theorem dX6_isBlocked_31 : decode cX6_isBlocked 31 = .ok (.if_icmp .le 7, 3) := by decide +kernel
theorem dX6_isBlocked_34 : decode cX6_isBlocked 34 = .ok (.iconst 1, 1) := by decide +kernel
theorem dX6_isBlocked_35 : decode cX6_isBlocked 35 = .ok (.goto 4, 3) := by decide +kernel
theorem dX6_isBlocked_38 : decode cX6_isBlocked 38 = .ok (.iconst 0, 1) := by decide +kernel
theorem dX6_isBlocked_39 : decode cX6_isBlocked 39 = .ok (.ireturn, 1) := by decide +kernel
theorem dX6_ride_0 : decode cX6_ride 0 = .ok (.aload_n 0, 1) := by decide +kernel
theorem dX6_ride_1 : decode cX6_ride 1 = .ok (.getfield 43, 3) := by decide +kernel
theorem dX6_ride_4 : decode cX6_ride 4 = .ok (.iload_n 1, 1) := by decide +kernel
theorem dX6_ride_5 : decode cX6_ride 5 = .ok (.iaload, 1) := by decide +kernel
theorem dX6_ride_6 : decode cX6_ride 6 = .ok (.istore_n 3, 1) := by decide +kernel
theorem dX6_ride_7 : decode cX6_ride 7 = .ok (.iload_n 2, 1) := by decide +kernel
theorem dX6_ride_8 : decode cX6_ride 8 = .ok (.aload_n 0, 1) := by decide +kernel
theorem dX6_ride_9 : decode cX6_ride 9 = .ok (.getfield 49, 3) := by decide +kernel
theorem dX6_ride_12 : decode cX6_ride 12 = .ok (.iload_n 1, 1) := by decide +kernel
theorem dX6_ride_13 : decode cX6_ride 13 = .ok (.iaload, 1) := by decide +kernel
theorem dX6_ride_14 : decode cX6_ride 14 = .ok (.isub, 1) := by decide +kernel
theorem dX6_ride_15 : decode cX6_ride 15 = .ok (.istore 4, 2) := by decide +kernel
theorem dX6_ride_17 : decode cX6_ride 17 = .ok (.iload 4, 2) := by decide +kernel
theorem dX6_ride_19 : decode cX6_ride 19 = .ok (.bipush 30, 2) := by decide +kernel
theorem dX6_ride_21 : decode cX6_ride 21 = .ok (.isub, 1) := by decide +kernel
theorem dX6_ride_22 : decode cX6_ride 22 = .ok (.aload_n 0, 1) := by decide +kernel
theorem dX6_ride_23 : decode cX6_ride 23 = .ok (.getfield 55, 3) := by decide +kernel
theorem dX6_ride_26 : decode cX6_ride 26 = .ok (.iload_n 1, 1) := by decide +kernel
theorem dX6_ride_27 : decode cX6_ride 27 = .ok (.iaload, 1) := by decide +kernel
theorem dX6_ride_28 : decode cX6_ride 28 = .ok (.isub, 1) := by decide +kernel
theorem dX6_ride_29 : decode cX6_ride 29 = .ok (.istore 5, 2) := by decide +kernel
theorem dX6_ride_31 : decode cX6_ride 31 = .ok (.aload_n 0, 1) := by decide +kernel
theorem dX6_ride_32 : decode cX6_ride 32 = .ok (.getfield 58, 3) := by decide +kernel
theorem dX6_ride_35 : decode cX6_ride 35 = .ok (.iload_n 1, 1) := by decide +kernel
theorem dX6_ride_36 : decode cX6_ride 36 = .ok (.dup2, 1) := by decide +kernel
theorem dX6_ride_37 : decode cX6_ride 37 = .ok (.iaload, 1) := by decide +kernel
theorem dX6_ride_38 : decode cX6_ride 38 = .ok (.iload 4, 2) := by decide +kernel
theorem dX6_ride_40 : decode cX6_ride 40 = .ok (.iadd, 1) := by decide +kernel
theorem dX6_ride_41 : decode cX6_ride 41 = .ok (.iastore, 1) := by decide +kernel
theorem dX6_ride_42 : decode cX6_ride 42 = .ok (.aload_n 0, 1) := by decide +kernel
theorem dX6_ride_43 : decode cX6_ride 43 = .ok (.getfield 64, 3) := by decide +kernel
theorem dX6_ride_46 : decode cX6_ride 46 = .ok (.iload_n 3, 1) := by decide +kernel
theorem dX6_ride_47 : decode cX6_ride 47 = .ok (.dup2, 1) := by decide +kernel
theorem dX6_ride_48 : decode cX6_ride 48 = .ok (.iaload, 1) := by decide +kernel
theorem dX6_ride_49 : decode cX6_ride 49 = .ok (.iload 4, 2) := by decide +kernel
theorem dX6_ride_51 : decode cX6_ride 51 = .ok (.iadd, 1) := by decide +kernel
theorem dX6_ride_52 : decode cX6_ride 52 = .ok (.iastore, 1) := by decide +kernel
theorem dX6_ride_53 : decode cX6_ride 53 = .ok (.aload_n 0, 1) := by decide +kernel
theorem dX6_ride_54 : decode cX6_ride 54 = .ok (.getfield 70, 3) := by decide +kernel
theorem dX6_ride_57 : decode cX6_ride 57 = .ok (.iload_n 3, 1) := by decide +kernel
theorem dX6_ride_58 : decode cX6_ride 58 = .ok (.dup2, 1) := by decide +kernel
theorem dX6_ride_59 : decode cX6_ride 59 = .ok (.iaload, 1) := by decide +kernel
theorem dX6_ride_60 : decode cX6_ride 60 = .ok (.iload 5, 2) := by decide +kernel
theorem dX6_ride_62 : decode cX6_ride 62 = .ok (.ifCond .le 15, 3) := by decide +kernel
theorem dX6_ride_65 : decode cX6_ride 65 = .ok (.iload 5, 2) := by decide +kernel
theorem dX6_ride_67 : decode cX6_ride 67 = .ok (.aload_n 0, 1) := by decide +kernel
theorem dX6_ride_68 : decode cX6_ride 68 = .ok (.getfield 52, 3) := by decide +kernel
theorem dX6_ride_71 : decode cX6_ride 71 = .ok (.iload_n 1, 1) := by decide +kernel
theorem dX6_ride_72 : decode cX6_ride 72 = .ok (.iaload, 1) := by decide +kernel
theorem dX6_ride_73 : decode cX6_ride 73 = .ok (.imul, 1) := by decide +kernel
theorem dX6_ride_74 : decode cX6_ride 74 = .ok (.goto 4, 3) := by decide +kernel
theorem dX6_ride_77 : decode cX6_ride 77 = .ok (.iconst 0, 1) := by decide +kernel
theorem dX6_ride_78 : decode cX6_ride 78 = .ok (.iadd, 1) := by decide +kernel
theorem dX6_ride_79 : decode cX6_ride 79 = .ok (.iastore, 1) := by decide +kernel
theorem dX6_ride_80 : decode cX6_ride 80 = .ok (.return_, 1) := by decide +kernel
theorem dX6_dock_0 : decode cX6_dock 0 = .ok (.aload_n 0, 1) := by decide +kernel
theorem dX6_dock_1 : decode cX6_dock 1 = .ok (.getfield 40, 3) := by decide +kernel
theorem dX6_dock_4 : decode cX6_dock 4 = .ok (.iload_n 1, 1) := by decide +kernel
theorem dX6_dock_5 : decode cX6_dock 5 = .ok (.iconst 1, 1) := by decide +kernel
theorem dX6_dock_6 : decode cX6_dock 6 = .ok (.iastore, 1) := by decide +kernel
theorem dX6_dock_7 : decode cX6_dock 7 = .ok (.aload_n 0, 1) := by decide +kernel
theorem dX6_dock_8 : decode cX6_dock 8 = .ok (.getfield 43, 3) := by decide +kernel
theorem dX6_dock_11 : decode cX6_dock 11 = .ok (.iload_n 1, 1) := by decide +kernel
theorem dX6_dock_12 : decode cX6_dock 12 = .ok (.iload_n 2, 1) := by decide +kernel
theorem dX6_dock_13 : decode cX6_dock 13 = .ok (.iastore, 1) := by decide +kernel
theorem dX6_dock_14 : decode cX6_dock 14 = .ok (.aload_n 0, 1) := by decide +kernel
theorem dX6_dock_15 : decode cX6_dock 15 = .ok (.getfield 34, 3) := by decide +kernel
theorem dX6_dock_18 : decode cX6_dock 18 = .ok (.iload_n 2, 1) := by decide +kernel
theorem dX6_dock_19 : decode cX6_dock 19 = .ok (.dup2, 1) := by decide +kernel
theorem dX6_dock_20 : decode cX6_dock 20 = .ok (.iaload, 1) := by decide +kernel
theorem dX6_dock_21 : decode cX6_dock 21 = .ok (.iconst 1, 1) := by decide +kernel
theorem dX6_dock_22 : decode cX6_dock 22 = .ok (.iadd, 1) := by decide +kernel
theorem dX6_dock_23 : decode cX6_dock 23 = .ok (.iastore, 1) := by decide +kernel
theorem dX6_dock_24 : decode cX6_dock 24 = .ok (.return_, 1) := by decide +kernel
set_option maxRecDepth 20000 in
theorem ggX6_unlock_X6_isBlocked : GoodIn wsX6_unlock wsX6_isBlocked := goodIn_r _ [13, 14, 22, 23, 24, 25, 26, 27, 28, 29, 30, 31, 32, 33, 34, 35, 36, 37, 38, 39, 40, 41, 42, 43, 44, 45, 46, 47, 48, 49, 50] rfl (by decide +kernel)
set_option maxRecDepth 20000 in
theorem gX6_unlock_X6_isBlocked : GoodIn wsX6_unlock (wsV RX6 138 RX6 yX6_isBlocked wsX6_isBlocked) := goodIn_app (goodIn_of _ (by decide +kernel)) ggX6_unlock_X6_isBlocked
set_option maxRecDepth 20000 in
theorem ggX6_unlock_X6_ride : GoodIn wsX6_unlock wsX6_ride := goodIn_r _ [18, 2, 4, 7, 19, 20, 21, 5, 22, 23, 24, 25, 26, 27, 28, 29, 30, 31, 32, 33, 34, 35, 36, 37, 38, 39, 40, 41, 42, 43, 44, 45, 46, 47, 48, 49, 50] rfl (by decide +kernel)
set_option maxRecDepth 20000 in
theorem gX6_unlock_X6_ride : GoodIn wsX6_unlock (wsV RX6 141 RX6 yX6_ride wsX6_ride) := goodIn_app (goodIn_of _ (by decide +kernel)) ggX6_unlock_X6_ride
theorem dX6_unlock_0 : decode cX6_unlock 0 = .ok (.aload_n 0, 1) := by decide +kernel
theorem dX6_unlock_1 : decode cX6_unlock 1 = .ok (.getfield 40, 3) := by decide +kernel
theorem dX6_unlock_4 : decode cX6_unlock 4 = .ok (.iload_n 1, 1) := by decide +kernel
theorem dX6_unlock_5 : decode cX6_unlock 5 = .ok (.iaload, 1) := by decide +kernel
theorem dX6_unlock_6 : decode cX6_unlock 6 = .ok (.iconst 2, 1) := by decide +kernel
theorem dX6_unlock_7 : decode cX6_unlock 7 = .ok (.if_icmp .ne 17, 3) := by decide +kernel
theorem dX6_unlock_10 : decode cX6_unlock 10 = .ok (.aload_n 0, 1) := by decide +kernel
