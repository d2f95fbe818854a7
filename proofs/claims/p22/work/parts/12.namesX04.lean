theorem dJ6_bitCount_0f7a4_0 : decode cJ6_bitCount_0f7a4 0 = .ok (.iload_n 0, 1) := by decide +kernel
theorem dJ6_bitCount_0f7a4_1 : decode cJ6_bitCount_0f7a4 1 = .ok (.iload_n 0, 1) := by decide +kernel
theorem dJ6_bitCount_0f7a4_2 : decode cJ6_bitCount_0f7a4 2 = .ok (.iconst 1, 1) := by decide +kernel
theorem dJ6_bitCount_0f7a4_3 : decode cJ6_bitCount_0f7a4 3 = .ok (.iushr, 1) := by decide +kernel
theorem dJ6_bitCount_0f7a4_4 : decode cJ6_bitCount_0f7a4 4 = .ok (.ldc_w 265, 3) := by decide +kernel
theorem dJ6_bitCount_0f7a4_7 : decode cJ6_bitCount_0f7a4 7 = .ok (.iand, 1) := by decide +kernel
theorem dJ6_bitCount_0f7a4_8 : decode cJ6_bitCount_0f7a4 8 = .ok (.isub, 1) := by decide +kernel
theorem dJ6_bitCount_0f7a4_9 : decode cJ6_bitCount_0f7a4 9 = .ok (.istore_n 0, 1) := by decide +kernel
theorem dJ6_bitCount_0f7a4_10 : decode cJ6_bitCount_0f7a4 10 = .ok (.iload_n 0, 1) := by decide +kernel
theorem dJ6_bitCount_0f7a4_11 : decode cJ6_bitCount_0f7a4 11 = .ok (.ldc_w 266, 3) := by decide +kernel
theorem dJ6_bitCount_0f7a4_14 : decode cJ6_bitCount_0f7a4 14 = .ok (.iand, 1) := by decide +kernel
theorem dJ6_bitCount_0f7a4_15 : decode cJ6_bitCount_0f7a4 15 = .ok (.iload_n 0, 1) := by decide +kernel
theorem dJ6_bitCount_0f7a4_16 : decode cJ6_bitCount_0f7a4 16 = .ok (.iconst 2, 1) := by decide +kernel
theorem dJ6_bitCount_0f7a4_17 : decode cJ6_bitCount_0f7a4 17 = .ok (.iushr, 1) := by decide +kernel
theorem dJ6_bitCount_0f7a4_18 : decode cJ6_bitCount_0f7a4 18 = .ok (.ldc_w 266, 3) := by decide +kernel
theorem dJ6_bitCount_0f7a4_21 : decode cJ6_bitCount_0f7a4 21 = .ok (.iand, 1) := by decide +kernel
theorem dJ6_bitCount_0f7a4_22 : decode cJ6_bitCount_0f7a4 22 = .ok (.iadd, 1) := by decide +kernel
theorem dJ6_bitCount_0f7a4_23 : decode cJ6_bitCount_0f7a4 23 = .ok (.istore_n 0, 1) := by decide +kernel
theorem dJ6_bitCount_0f7a4_24 : decode cJ6_bitCount_0f7a4 24 = .ok (.iload_n 0, 1) := by decide +kernel
theorem dJ6_bitCount_0f7a4_25 : decode cJ6_bitCount_0f7a4 25 = .ok (.iload_n 0, 1) := by decide +kernel
theorem dJ6_bitCount_0f7a4_26 : decode cJ6_bitCount_0f7a4 26 = .ok (.iconst 4, 1) := by decide +kernel
theorem dJ6_bitCount_0f7a4_27 : decode cJ6_bitCount_0f7a4 27 = .ok (.iushr, 1) := by decide +kernel
theorem dJ6_bitCount_0f7a4_28 : decode cJ6_bitCount_0f7a4 28 = .ok (.iadd, 1) := by decide +kernel
theorem dJ6_bitCount_0f7a4_29 : decode cJ6_bitCount_0f7a4 29 = .ok (.ldc_w 267, 3) := by decide +kernel
theorem dJ6_bitCount_0f7a4_32 : decode cJ6_bitCount_0f7a4 32 = .ok (.iand, 1) := by decide +kernel
theorem dJ6_bitCount_0f7a4_33 : decode cJ6_bitCount_0f7a4 33 = .ok (.istore_n 0, 1) := by decide +kernel
theorem dJ6_bitCount_0f7a4_34 : decode cJ6_bitCount_0f7a4 34 = .ok (.iload_n 0, 1) := by decide +kernel
theorem dJ6_bitCount_0f7a4_35 : decode cJ6_bitCount_0f7a4 35 = .ok (.iload_n 0, 1) := by decide +kernel
theorem dJ6_bitCount_0f7a4_36 : decode cJ6_bitCount_0f7a4 36 = .ok (.bipush 8, 2) := by decide +kernel
theorem dJ6_bitCount_0f7a4_38 : decode cJ6_bitCount_0f7a4 38 = .ok (.iushr, 1) := by decide +kernel
theorem dJ6_bitCount_0f7a4_39 : decode cJ6_bitCount_0f7a4 39 = .ok (.iadd, 1) := by decide +kernel
theorem dJ6_bitCount_0f7a4_40 : decode cJ6_bitCount_0f7a4 40 = .ok (.istore_n 0, 1) := by decide +kernel
theorem dJ6_bitCount_0f7a4_41 : decode cJ6_bitCount_0f7a4 41 = .ok (.iload_n 0, 1) := by decide +kernel
theorem dJ6_bitCount_0f7a4_42 : decode cJ6_bitCount_0f7a4 42 = .ok (.iload_n 0, 1) := by decide +kernel
theorem dJ6_bitCount_0f7a4_43 : decode cJ6_bitCount_0f7a4 43 = .ok (.bipush 16, 2) := by decide +kernel
theorem dJ6_bitCount_0f7a4_45 : decode cJ6_bitCount_0f7a4 45 = .ok (.iushr, 1) := by decide +kernel
theorem dJ6_bitCount_0f7a4_46 : decode cJ6_bitCount_0f7a4 46 = .ok (.iadd, 1) := by decide +kernel
theorem dJ6_bitCount_0f7a4_47 : decode cJ6_bitCount_0f7a4 47 = .ok (.istore_n 0, 1) := by decide +kernel
theorem dJ6_bitCount_0f7a4_48 : decode cJ6_bitCount_0f7a4 48 = .ok (.iload_n 0, 1) := by decide +kernel
theorem dJ6_bitCount_0f7a4_49 : decode cJ6_bitCount_0f7a4 49 = .ok (.bipush 63, 2) := by decide +kernel
theorem dJ6_bitCount_0f7a4_51 : decode cJ6_bitCount_0f7a4 51 = .ok (.iand, 1) := by decide +kernel
theorem dJ6_bitCount_0f7a4_52 : decode cJ6_bitCount_0f7a4 52 = .ok (.ireturn, 1) := by decide +kernel
theorem dJ9_max_7cf53_0 : decode cJ9_max_7cf53 0 = .ok (.iload_n 0, 1) := by decide +kernel
theorem dJ9_max_7cf53_1 : decode cJ9_max_7cf53 1 = .ok (.iload_n 1, 1) := by decide +kernel
theorem dJ9_max_7cf53_2 : decode cJ9_max_7cf53 2 = .ok (.if_icmp .lt 7, 3) := by decide +kernel
theorem dJ9_max_7cf53_5 : decode cJ9_max_7cf53 5 = .ok (.iload_n 0, 1) := by decide +kernel
theorem dJ9_max_7cf53_6 : decode cJ9_max_7cf53 6 = .ok (.goto 4, 3) := by decide +kernel
theorem dJ9_max_7cf53_9 : decode cJ9_max_7cf53 9 = .ok (.iload_n 1, 1) := by decide +kernel
theorem dJ9_max_7cf53_10 : decode cJ9_max_7cf53 10 = .ok (.ireturn, 1) := by decide +kernel
theorem dJ7_fill_53178_0 : decode cJ7_fill_53178 0 = .ok (.iconst 0, 1) := by decide +kernel
theorem dJ7_fill_53178_1 : decode cJ7_fill_53178 1 = .ok (.istore_n 2, 1) := by decide +kernel
theorem dJ7_fill_53178_2 : decode cJ7_fill_53178 2 = .ok (.aload_n 0, 1) := by decide +kernel
theorem dJ7_fill_53178_3 : decode cJ7_fill_53178 3 = .ok (.arraylength, 1) := by decide +kernel
theorem dJ7_fill_53178_4 : decode cJ7_fill_53178 4 = .ok (.istore_n 3, 1) := by decide +kernel
theorem dJ7_fill_53178_5 : decode cJ7_fill_53178 5 = .ok (.iload_n 2, 1) := by decide +kernel
theorem dJ7_fill_53178_6 : decode cJ7_fill_53178 6 = .ok (.iload_n 3, 1) := by decide +kernel
theorem dJ7_fill_53178_7 : decode cJ7_fill_53178 7 = .ok (.if_icmp .ge 13, 3) := by decide +kernel
theorem dJ7_fill_53178_10 : decode cJ7_fill_53178 10 = .ok (.aload_n 0, 1) := by decide +kernel
theorem dJ7_fill_53178_11 : decode cJ7_fill_53178 11 = .ok (.iload_n 2, 1) := by decide +kernel
theorem dJ7_fill_53178_12 : decode cJ7_fill_53178 12 = .ok (.iload_n 1, 1) := by decide +kernel
theorem dJ7_fill_53178_13 : decode cJ7_fill_53178 13 = .ok (.iastore, 1) := by decide +kernel
theorem dJ7_fill_53178_14 : decode cJ7_fill_53178 14 = .ok (.iinc 2 1, 3) := by decide +kernel
theorem dJ7_fill_53178_17 : decode cJ7_fill_53178 17 = .ok (.goto (-12), 3) := by decide +kernel
theorem dJ7_fill_53178_20 : decode cJ7_fill_53178 20 = .ok (.return_, 1) := by decide +kernel
theorem dX0_init_0 : decode cX0_init 0 = .ok (.aload_n 0, 1) := by decide +kernel
theorem dX0_init_1 : decode cX0_init 1 = .ok (.invokespecial 3, 3) := by decide +kernel
theorem dX0_init_4 : decode cX0_init 4 = .ok (.aload_n 0, 1) := by decide +kernel
theorem dX0_init_5 : decode cX0_init 5 = .ok (.bipush 30, 2) := by decide +kernel
theorem dX0_init_7 : decode cX0_init 7 = .ok (.newarray .int, 2) := by decide +kernel
theorem dX0_init_9 : decode cX0_init 9 = .ok (.putfield 9, 3) := by decide +kernel
theorem dX0_init_12 : decode cX0_init 12 = .ok (.aload_n 0, 1) := by decide +kernel
theorem dX0_init_13 : decode cX0_init 13 = .ok (.bipush 30, 2) := by decide +kernel
theorem dX0_init_15 : decode cX0_init 15 = .ok (.newarray .int, 2) := by decide +kernel
theorem dX0_init_17 : decode cX0_init 17 = .ok (.putfield 15, 3) := by decide +kernel
theorem dX0_init_20 : decode cX0_init 20 = .ok (.aload_n 0, 1) := by decide +kernel
theorem dX0_init_21 : decode cX0_init 21 = .ok (.bipush 30, 2) := by decide +kernel
theorem dX0_init_23 : decode cX0_init 23 = .ok (.newarray .int, 2) := by decide +kernel
theorem dX0_init_25 : decode cX0_init 25 = .ok (.putfield 18, 3) := by decide +kernel
theorem dX0_init_28 : decode cX0_init 28 = .ok (.aload_n 0, 1) := by decide +kernel
theorem dX0_init_29 : decode cX0_init 29 = .ok (.bipush 30, 2) := by decide +kernel
theorem dX0_init_31 : decode cX0_init 31 = .ok (.newarray .int, 2) := by decide +kernel
theorem dX0_init_33 : decode cX0_init 33 = .ok (.putfield 21, 3) := by decide +kernel
theorem dX0_init_36 : decode cX0_init 36 = .ok (.aload_n 0, 1) := by decide +kernel
theorem dX0_init_37 : decode cX0_init 37 = .ok (.bipush 30, 2) := by decide +kernel
theorem dX0_init_39 : decode cX0_init 39 = .ok (.newarray .int, 2) := by decide +kernel
theorem dX0_init_41 : decode cX0_init 41 = .ok (.putfield 24, 3) := by decide +kernel
theorem dX0_init_44 : decode cX0_init 44 = .ok (.aload_n 0, 1) := by decide +kernel
theorem dX0_init_45 : decode cX0_init 45 = .ok (.bipush 30, 2) := by decide +kernel
theorem dX0_init_47 : decode cX0_init 47 = .ok (.newarray .int, 2) := by decide +kernel
theorem dX0_init_49 : decode cX0_init 49 = .ok (.putfield 27, 3) := by decide +kernel
theorem dX0_init_52 : decode cX0_init 52 = .ok (.aload_n 0, 1) := by decide +kernel
theorem dX0_init_53 : decode cX0_init 53 = .ok (.bipush 30, 2) := by decide +kernel
theorem dX0_init_55 : decode cX0_init 55 = .ok (.newarray .int, 2) := by decide +kernel
theorem dX0_init_57 : decode cX0_init 57 = .ok (.putfield 30, 3) := by decide +kernel
theorem dX0_init_60 : decode cX0_init 60 = .ok (.return_, 1) := by decide +kernel
set_option maxRecDepth 20000 in
theorem ggX0_clear_J7_fill_53178 : GoodIn wsX0_clear wsJ7_fill_53178 := goodIn_r _ [11] rfl (by decide +kernel)
set_option maxRecDepth 20000 in
theorem gX0_clear_J7_fill_53178 : GoodIn wsX0_clear (va_wsS RX0 33 yJ7_fill_53178 wsJ7_fill_53178) := goodIn_app (goodIn_of _ (by decide +kernel)) ggX0_clear_J7_fill_53178
theorem dX0_clear_0 : decode cX0_clear 0 = .ok (.aload_n 0, 1) := by decide +kernel
theorem dX0_clear_1 : decode cX0_clear 1 = .ok (.getfield 9, 3) := by decide +kernel
theorem dX0_clear_4 : decode cX0_clear 4 = .ok (.iconst 0, 1) := by decide +kernel
theorem dX0_clear_5 : decode cX0_clear 5 = .ok (.invokestatic 33, 3) := by decide +kernel
theorem dX0_clear_8 : decode cX0_clear 8 = .ok (.aload_n 0, 1) := by decide +kernel
theorem dX0_clear_9 : decode cX0_clear 9 = .ok (.getfield 15, 3) := by decide +kernel
theorem dX0_clear_12 : decode cX0_clear 12 = .ok (.iconst (-1), 1) := by decide +kernel
theorem dX0_clear_13 : decode cX0_clear 13 = .ok (.invokestatic 33, 3) := by decide +kernel
theorem dX0_clear_16 : decode cX0_clear 16 = .ok (.aload_n 0, 1) := by decide +kernel
theorem dX0_clear_17 : decode cX0_clear 17 = .ok (.getfield 18, 3) := by decide +kernel
theorem dX0_clear_20 : decode cX0_clear 20 = .ok (.iconst 0, 1) := by decide +kernel
theorem dX0_clear_21 : decode cX0_clear 21 = .ok (.invokestatic 33, 3) := by decide +kernel
theorem dX0_clear_24 : decode cX0_clear 24 = .ok (.aload_n 0, 1) := by decide +kernel
theorem dX0_clear_25 : decode cX0_clear 25 = .ok (.getfield 21, 3) := by decide +kernel
theorem dX0_clear_28 : decode cX0_clear 28 = .ok (.iconst 0, 1) := by decide +kernel
theorem dX0_clear_29 : decode cX0_clear 29 = .ok (.invokestatic 33, 3) := by decide +kernel
theorem dX0_clear_32 : decode cX0_clear 32 = .ok (.aload_n 0, 1) := by decide +kernel
theorem dX0_clear_33 : decode cX0_clear 33 = .ok (.getfield 24, 3) := by decide +kernel
theorem dX0_clear_36 : decode cX0_clear 36 = .ok (.iconst 0, 1) := by decide +kernel
theorem dX0_clear_37 : decode cX0_clear 37 = .ok (.invokestatic 33, 3) := by decide +kernel
theorem dX0_clear_40 : decode cX0_clear 40 = .ok (.aload_n 0, 1) := by decide +kernel
theorem dX0_clear_41 : decode cX0_clear 41 = .ok (.getfield 27, 3) := by decide +kernel
theorem dX0_clear_44 : decode cX0_clear 44 = .ok (.iconst 0, 1) := by decide +kernel
theorem dX0_clear_45 : decode cX0_clear 45 = .ok (.invokestatic 33, 3) := by decide +kernel
theorem dX0_clear_48 : decode cX0_clear 48 = .ok (.aload_n 0, 1) := by decide +kernel
theorem dX0_clear_49 : decode cX0_clear 49 = .ok (.getfield 30, 3) := by decide +kernel
theorem dX0_clear_52 : decode cX0_clear 52 = .ok (.iconst 0, 1) := by decide +kernel
theorem dX0_clear_53 : decode cX0_clear 53 = .ok (.invokestatic 33, 3) := by decide +kernel
theorem dX0_clear_56 : decode cX0_clear 56 = .ok (.return_, 1) := by decide +kernel
set_option maxRecDepth 20000 in
theorem ggX0_isBlocked_J6_bitCount_0f7a4 : GoodIn wsX0_isBlocked wsJ6_bitCount_0f7a4 := goodIn_r _ [5, 6, 7, 8] rfl (by decide +kernel)
set_option maxRecDepth 20000 in
theorem gX0_isBlocked_J6_bitCount_0f7a4 : GoodIn wsX0_isBlocked (va_wsS RX0 39 yJ6_bitCount_0f7a4 wsJ6_bitCount_0f7a4) := goodIn_app (goodIn_of _ (by decide +kernel)) ggX0_isBlocked_J6_bitCount_0f7a4
theorem dX0_isBlocked_0 : decode cX0_isBlocked 0 = .ok (.aload_n 0, 1) := by decide +kernel
theorem dX0_isBlocked_1 : decode cX0_isBlocked 1 = .ok (.getfield 18, 3) := by decide +kernel
theorem dX0_isBlocked_4 : decode cX0_isBlocked 4 = .ok (.iload_n 1, 1) := by decide +kernel
theorem dX0_isBlocked_5 : decode cX0_isBlocked 5 = .ok (.iaload, 1) := by decide +kernel
theorem dX0_isBlocked_6 : decode cX0_isBlocked 6 = .ok (.invokestatic 39, 3) := by decide +kernel
theorem dX0_isBlocked_9 : decode cX0_isBlocked 9 = .ok (.iconst 2, 1) := by decide +kernel
theorem dX0_isBlocked_10 : decode cX0_isBlocked 10 = .ok (.if_icmp .lt 7, 3) := by decide +kernel
theorem dX0_isBlocked_13 : decode cX0_isBlocked 13 = .ok (.iconst 1, 1) := by decide +kernel
theorem dX0_isBlocked_14 : decode cX0_isBlocked 14 = .ok (.goto 4, 3) := by decide +kernel
theorem dX0_isBlocked_17 : decode cX0_isBlocked 17 = .ok (.iconst 0, 1) := by decide +kernel
theorem dX0_isBlocked_18 : decode cX0_isBlocked 18 = .ok (.ireturn, 1) := by decide +kernel
theorem dX0_isRiddenBy_0 : decode cX0_isRiddenBy 0 = .ok (.aload_n 0, 1) := by decide +kernel
theorem dX0_isRiddenBy_1 : decode cX0_isRiddenBy 1 = .ok (.getfield 9, 3) := by decide +kernel
theorem dX0_isRiddenBy_4 : decode cX0_isRiddenBy 4 = .ok (.iload_n 1, 1) := by decide +kernel
theorem dX0_isRiddenBy_5 : decode cX0_isRiddenBy 5 = .ok (.iaload, 1) := by decide +kernel
theorem dX0_isRiddenBy_6 : decode cX0_isRiddenBy 6 = .ok (.iconst 2, 1) := by decide +kernel
theorem dX0_isRiddenBy_7 : decode cX0_isRiddenBy 7 = .ok (.if_icmp .ne 17, 3) := by decide +kernel
theorem dX0_isRiddenBy_10 : decode cX0_isRiddenBy 10 = .ok (.aload_n 0, 1) := by decide +kernel
theorem dX0_isRiddenBy_11 : decode cX0_isRiddenBy 11 = .ok (.getfield 15, 3) := by decide +kernel
theorem dX0_isRiddenBy_14 : decode cX0_isRiddenBy 14 = .ok (.iload_n 1, 1) := by decide +kernel
theorem dX0_isRiddenBy_15 : decode cX0_isRiddenBy 15 = .ok (.iaload, 1) := by decide +kernel
theorem dX0_isRiddenBy_16 : decode cX0_isRiddenBy 16 = .ok (.iload_n 2, 1) := by decide +kernel
theorem dX0_isRiddenBy_17 : decode cX0_isRiddenBy 17 = .ok (.if_icmp .ne 7, 3) := by decide +kernel
theorem dX0_isRiddenBy_20 : decode cX0_isRiddenBy 20 = .ok (.iconst 1, 1) := by decide +kernel
theorem dX0_isRiddenBy_21 : decode cX0_isRiddenBy 21 = .ok (.goto 4, 3) := by decide +kernel
theorem dX0_isRiddenBy_24 : decode cX0_isRiddenBy 24 = .ok (.iconst 0, 1) := by decide +kernel
theorem dX0_isRiddenBy_25 : decode cX0_isRiddenBy 25 = .ok (.ireturn, 1) := by decide +kernel
theorem dX0_addFault_0 : decode cX0_addFault 0 = .ok (.aload_n 0, 1) := by decide +kernel
theorem dX0_addFault_1 : decode cX0_addFault 1 = .ok (.getfield 18, 3) := by decide +kernel
theorem dX0_addFault_4 : decode cX0_addFault 4 = .ok (.iload_n 1, 1) := by decide +kernel
theorem dX0_addFault_5 : decode cX0_addFault 5 = .ok (.aload_n 0, 1) := by decide +kernel
theorem dX0_addFault_6 : decode cX0_addFault 6 = .ok (.getfield 18, 3) := by decide +kernel
theorem dX0_addFault_9 : decode cX0_addFault 9 = .ok (.iload_n 1, 1) := by decide +kernel
theorem dX0_addFault_10 : decode cX0_addFault 10 = .ok (.iaload, 1) := by decide +kernel
theorem dX0_addFault_11 : decode cX0_addFault 11 = .ok (.iconst 1, 1) := by decide +kernel
theorem dX0_addFault_12 : decode cX0_addFault 12 = .ok (.iload_n 2, 1) := by decide +kernel
theorem dX0_addFault_13 : decode cX0_addFault 13 = .ok (.ishl, 1) := by decide +kernel
theorem dX0_addFault_14 : decode cX0_addFault 14 = .ok (.ior, 1) := by decide +kernel
theorem dX0_addFault_15 : decode cX0_addFault 15 = .ok (.iastore, 1) := by decide +kernel
theorem dX0_addFault_16 : decode cX0_addFault 16 = .ok (.return_, 1) := by decide +kernel
theorem dX0_minutesGoingOn_0 : decode cX0_minutesGoingOn 0 = .ok (.aload_n 0, 1) := by decide +kernel
theorem dX0_minutesGoingOn_1 : decode cX0_minutesGoingOn 1 = .ok (.getfield 9, 3) := by decide +kernel
theorem dX0_minutesGoingOn_4 : decode cX0_minutesGoingOn 4 = .ok (.iload_n 1, 1) := by decide +kernel
theorem dX0_minutesGoingOn_5 : decode cX0_minutesGoingOn 5 = .ok (.iaload, 1) := by decide +kernel
theorem dX0_minutesGoingOn_6 : decode cX0_minutesGoingOn 6 = .ok (.iconst 2, 1) := by decide +kernel
theorem dX0_minutesGoingOn_7 : decode cX0_minutesGoingOn 7 = .ok (.if_icmp .ne 14, 3) := by decide +kernel
theorem dX0_minutesGoingOn_10 : decode cX0_minutesGoingOn 10 = .ok (.iload_n 2, 1) := by decide +kernel
theorem dX0_minutesGoingOn_11 : decode cX0_minutesGoingOn 11 = .ok (.aload_n 0, 1) := by decide +kernel
theorem dX0_minutesGoingOn_12 : decode cX0_minutesGoingOn 12 = .ok (.getfield 24, 3) := by decide +kernel
theorem dX0_minutesGoingOn_15 : decode cX0_minutesGoingOn 15 = .ok (.iload_n 1, 1) := by decide +kernel
theorem dX0_minutesGoingOn_16 : decode cX0_minutesGoingOn 16 = .ok (.iaload, 1) := by decide +kernel
theorem dX0_minutesGoingOn_17 : decode cX0_minutesGoingOn 17 = .ok (.isub, 1) := by decide +kernel
theorem dX0_minutesGoingOn_18 : decode cX0_minutesGoingOn 18 = .ok (.goto 4, 3) := by decide +kernel
theorem dX0_minutesGoingOn_21 : decode cX0_minutesGoingOn 21 = .ok (.iconst 0, 1) := by decide +kernel
theorem dX0_minutesGoingOn_22 : decode cX0_minutesGoingOn 22 = .ok (.ireturn, 1) := by decide +kernel
theorem dX0_rideCost_0 : decode cX0_rideCost 0 = .ok (.aload_n 0, 1) := by decide +kernel
theorem dX0_rideCost_1 : decode cX0_rideCost 1 = .ok (.getfield 27, 3) := by decide +kernel
theorem dX0_rideCost_4 : decode cX0_rideCost 4 = .ok (.iload_n 1, 1) := by decide +kernel
theorem dX0_rideCost_5 : decode cX0_rideCost 5 = .ok (.iaload, 1) := by decide +kernel
theorem dX0_rideCost_6 : decode cX0_rideCost 6 = .ok (.iconst 0, 1) := by decide +kernel
theorem dX0_rideCost_7 : decode cX0_rideCost 7 = .ok (.iload_n 2, 1) := by decide +kernel
theorem dX0_rideCost_8 : decode cX0_rideCost 8 = .ok (.bipush 30, 2) := by decide +kernel
theorem dX0_rideCost_10 : decode cX0_rideCost 10 = .ok (.isub, 1) := by decide +kernel
theorem dX0_rideCost_11 : decode cX0_rideCost 11 = .ok (.aload_n 0, 1) := by decide +kernel
theorem dX0_rideCost_12 : decode cX0_rideCost 12 = .ok (.getfield 30, 3) := by decide +kernel
theorem dX0_rideCost_15 : decode cX0_rideCost 15 = .ok (.iload_n 1, 1) := by decide +kernel
theorem dX0_rideCost_16 : decode cX0_rideCost 16 = .ok (.iaload, 1) := by decide +kernel
theorem dX0_rideCost_17 : decode cX0_rideCost 17 = .ok (.isub, 1) := by decide +kernel
theorem dX0_rideCost_18 : decode cX0_rideCost 18 = .ok (.invokestatic 45, 3) := by decide +kernel
theorem dX0_rideCost_21 : decode cX0_rideCost 21 = .ok (.imul, 1) := by decide +kernel
theorem dX0_rideCost_22 : decode cX0_rideCost 22 = .ok (.ireturn, 1) := by decide +kernel
theorem dX1_init_0 : decode cX1_init 0 = .ok (.aload_n 0, 1) := by decide +kernel
theorem dX1_init_1 : decode cX1_init 1 = .ok (.invokespecial 3, 3) := by decide +kernel
theorem dX1_init_4 : decode cX1_init 4 = .ok (.aload_n 0, 1) := by decide +kernel
theorem dX1_init_5 : decode cX1_init 5 = .ok (.bipush 8, 2) := by decide +kernel
theorem dX1_init_7 : decode cX1_init 7 = .ok (.newarray .int, 2) := by decide +kernel
theorem dX1_init_9 : decode cX1_init 9 = .ok (.putfield 9, 3) := by decide +kernel
theorem dX1_init_12 : decode cX1_init 12 = .ok (.aload_n 0, 1) := by decide +kernel
theorem dX1_init_13 : decode cX1_init 13 = .ok (.bipush 8, 2) := by decide +kernel
theorem dX1_init_15 : decode cX1_init 15 = .ok (.newarray .int, 2) := by decide +kernel
theorem dX1_init_17 : decode cX1_init 17 = .ok (.putfield 15, 3) := by decide +kernel
theorem dX1_init_20 : decode cX1_init 20 = .ok (.aload_n 0, 1) := by decide +kernel
theorem dX1_init_21 : decode cX1_init 21 = .ok (.bipush 8, 2) := by decide +kernel
theorem dX1_init_23 : decode cX1_init 23 = .ok (.newarray .int, 2) := by decide +kernel
theorem dX1_init_25 : decode cX1_init 25 = .ok (.putfield 18, 3) := by decide +kernel
theorem dX1_init_28 : decode cX1_init 28 = .ok (.return_, 1) := by decide +kernel
set_option maxRecDepth 20000 in
theorem ggX1_wayBetween_X1_nearestRoot : GoodIn wsX1_wayBetween wsX1_nearestRoot := goodIn_r _ [12, 13, 14, 15, 8] rfl (by decide +kernel)
set_option maxRecDepth 20000 in
theorem gX1_wayBetween_X1_nearestRoot : GoodIn wsX1_wayBetween (va_wsS RX1 27 yX1_nearestRoot wsX1_nearestRoot) := goodIn_app (goodIn_of _ (by decide +kernel)) ggX1_wayBetween_X1_nearestRoot
theorem dX1_wayBetween_0 : decode cX1_wayBetween 0 = .ok (.aload_n 0, 1) := by decide +kernel
theorem dX1_wayBetween_1 : decode cX1_wayBetween 1 = .ok (.getfield 9, 3) := by decide +kernel
theorem dX1_wayBetween_4 : decode cX1_wayBetween 4 = .ok (.iload_n 2, 1) := by decide +kernel
theorem dX1_wayBetween_5 : decode cX1_wayBetween 5 = .ok (.iaload, 1) := by decide +kernel
theorem dX1_wayBetween_6 : decode cX1_wayBetween 6 = .ok (.aload_n 0, 1) := by decide +kernel
theorem dX1_wayBetween_7 : decode cX1_wayBetween 7 = .ok (.getfield 9, 3) := by decide +kernel
theorem dX1_wayBetween_10 : decode cX1_wayBetween 10 = .ok (.iload_n 1, 1) := by decide +kernel
theorem dX1_wayBetween_11 : decode cX1_wayBetween 11 = .ok (.iaload, 1) := by decide +kernel
theorem dX1_wayBetween_12 : decode cX1_wayBetween 12 = .ok (.isub, 1) := by decide +kernel
theorem dX1_wayBetween_13 : decode cX1_wayBetween 13 = .ok (.istore_n 3, 1) := by decide +kernel
theorem dX1_wayBetween_14 : decode cX1_wayBetween 14 = .ok (.aload_n 0, 1) := by decide +kernel
theorem dX1_wayBetween_15 : decode cX1_wayBetween 15 = .ok (.getfield 15, 3) := by decide +kernel
theorem dX1_wayBetween_18 : decode cX1_wayBetween 18 = .ok (.iload_n 2, 1) := by decide +kernel
theorem dX1_wayBetween_19 : decode cX1_wayBetween 19 = .ok (.iaload, 1) := by decide +kernel
theorem dX1_wayBetween_20 : decode cX1_wayBetween 20 = .ok (.aload_n 0, 1) := by decide +kernel
theorem dX1_wayBetween_21 : decode cX1_wayBetween 21 = .ok (.getfield 15, 3) := by decide +kernel
theorem dX1_wayBetween_24 : decode cX1_wayBetween 24 = .ok (.iload_n 1, 1) := by decide +kernel
theorem dX1_wayBetween_25 : decode cX1_wayBetween 25 = .ok (.iaload, 1) := by decide +kernel
theorem dX1_wayBetween_26 : decode cX1_wayBetween 26 = .ok (.isub, 1) := by decide +kernel
theorem dX1_wayBetween_27 : decode cX1_wayBetween 27 = .ok (.istore 4, 2) := by decide +kernel
theorem dX1_wayBetween_29 : decode cX1_wayBetween 29 = .ok (.iconst 0, 1) := by decide +kernel
theorem dX1_wayBetween_30 : decode cX1_wayBetween 30 = .ok (.aload_n 0, 1) := by decide +kernel
theorem dX1_wayBetween_31 : decode cX1_wayBetween 31 = .ok (.getfield 18, 3) := by decide +kernel
theorem dX1_wayBetween_34 : decode cX1_wayBetween 34 = .ok (.iload_n 2, 1) := by decide +kernel
theorem dX1_wayBetween_35 : decode cX1_wayBetween 35 = .ok (.iaload, 1) := by decide +kernel
theorem dX1_wayBetween_36 : decode cX1_wayBetween 36 = .ok (.aload_n 0, 1) := by decide +kernel
theorem dX1_wayBetween_37 : decode cX1_wayBetween 37 = .ok (.getfield 18, 3) := by decide +kernel
theorem dX1_wayBetween_40 : decode cX1_wayBetween 40 = .ok (.iload_n 1, 1) := by decide +kernel
theorem dX1_wayBetween_41 : decode cX1_wayBetween 41 = .ok (.iaload, 1) := by decide +kernel
theorem dX1_wayBetween_42 : decode cX1_wayBetween 42 = .ok (.isub, 1) := by decide +kernel
theorem dX1_wayBetween_43 : decode cX1_wayBetween 43 = .ok (.invokestatic 21, 3) := by decide +kernel
theorem dX1_wayBetween_46 : decode cX1_wayBetween 46 = .ok (.istore 5, 2) := by decide +kernel
theorem dX1_wayBetween_48 : decode cX1_wayBetween 48 = .ok (.iload_n 3, 1) := by decide +kernel
theorem dX1_wayBetween_49 : decode cX1_wayBetween 49 = .ok (.iload_n 3, 1) := by decide +kernel
theorem dX1_wayBetween_50 : decode cX1_wayBetween 50 = .ok (.imul, 1) := by decide +kernel
theorem dX1_wayBetween_51 : decode cX1_wayBetween 51 = .ok (.iload 4, 2) := by decide +kernel
theorem dX1_wayBetween_53 : decode cX1_wayBetween 53 = .ok (.iload 4, 2) := by decide +kernel
theorem dX1_wayBetween_55 : decode cX1_wayBetween 55 = .ok (.imul, 1) := by decide +kernel
theorem dX1_wayBetween_56 : decode cX1_wayBetween 56 = .ok (.iadd, 1) := by decide +kernel
theorem dX1_wayBetween_57 : decode cX1_wayBetween 57 = .ok (.invokestatic 27, 3) := by decide +kernel
theorem dX1_wayBetween_60 : decode cX1_wayBetween 60 = .ok (.ldc2_w 31, 3) := by decide +kernel
theorem dX1_wayBetween_63 : decode cX1_wayBetween 63 = .ok (.iload 5, 2) := by decide +kernel
theorem dX1_wayBetween_65 : decode cX1_wayBetween 65 = .ok (.i2d, 1) := by decide +kernel
theorem dX1_wayBetween_66 : decode cX1_wayBetween 66 = .ok (.dmul, 1) := by decide +kernel
theorem dX1_wayBetween_67 : decode cX1_wayBetween 67 = .ok (.dadd, 1) := by decide +kernel
theorem dX1_wayBetween_68 : decode cX1_wayBetween 68 = .ok (.dreturn, 1) := by decide +kernel
theorem dX1_nearestRoot_0 : decode cX1_nearestRoot 0 = .ok (.iload_n 0, 1) := by decide +kernel
theorem dX1_nearestRoot_1 : decode cX1_nearestRoot 1 = .ok (.ifCond .gt 5, 3) := by decide +kernel
theorem dX1_nearestRoot_4 : decode cX1_nearestRoot 4 = .ok (.dconst 0, 1) := by decide +kernel
theorem dX1_nearestRoot_5 : decode cX1_nearestRoot 5 = .ok (.dreturn, 1) := by decide +kernel
theorem dX1_nearestRoot_6 : decode cX1_nearestRoot 6 = .ok (.lconst 0, 1) := by decide +kernel
theorem dX1_nearestRoot_7 : decode cX1_nearestRoot 7 = .ok (.lstore_n 1, 1) := by decide +kernel
theorem dX1_nearestRoot_8 : decode cX1_nearestRoot 8 = .ok (.lconst 0, 1) := by decide +kernel
theorem dX1_nearestRoot_9 : decode cX1_nearestRoot 9 = .ok (.lstore_n 3, 1) := by decide +kernel
theorem dX1_nearestRoot_10 : decode cX1_nearestRoot 10 = .ok (.dconst 1, 1) := by decide +kernel
theorem dX1_nearestRoot_11 : decode cX1_nearestRoot 11 = .ok (.dstore 5, 2) := by decide +kernel
theorem dX1_nearestRoot_13 : decode cX1_nearestRoot 13 = .ok (.bipush 14, 2) := by decide +kernel
theorem dX1_nearestRoot_15 : decode cX1_nearestRoot 15 = .ok (.istore 7, 2) := by decide +kernel
theorem dX1_nearestRoot_17 : decode cX1_nearestRoot 17 = .ok (.lload_n 1, 1) := by decide +kernel
theorem dX1_nearestRoot_18 : decode cX1_nearestRoot 18 = .ok (.ldc2_w 33, 3) := by decide +kernel
theorem dX1_nearestRoot_21 : decode cX1_nearestRoot 21 = .ok (.lcmp, 1) := by decide +kernel
theorem dX1_nearestRoot_22 : decode cX1_nearestRoot 22 = .ok (.ifCond .ge 87, 3) := by decide +kernel
theorem dX1_nearestRoot_25 : decode cX1_nearestRoot 25 = .ok (.iload 7, 2) := by decide +kernel
theorem dX1_nearestRoot_27 : decode cX1_nearestRoot 27 = .ok (.bipush (-128), 2) := by decide +kernel
theorem dX1_nearestRoot_29 : decode cX1_nearestRoot 29 = .ok (.if_icmp .le 80, 3) := by decide +kernel
theorem dX1_nearestRoot_32 : decode cX1_nearestRoot 32 = .ok (.iload 7, 2) := by decide +kernel
theorem dX1_nearestRoot_34 : decode cX1_nearestRoot 34 = .ok (.ifCond .lt 13, 3) := by decide +kernel
theorem dX1_nearestRoot_37 : decode cX1_nearestRoot 37 = .ok (.iload_n 0, 1) := by decide +kernel
theorem dX1_nearestRoot_38 : decode cX1_nearestRoot 38 = .ok (.iload 7, 2) := by decide +kernel
theorem dX1_nearestRoot_40 : decode cX1_nearestRoot 40 = .ok (.ishr, 1) := by decide +kernel
theorem dX1_nearestRoot_41 : decode cX1_nearestRoot 41 = .ok (.iconst 3, 1) := by decide +kernel
theorem dX1_nearestRoot_42 : decode cX1_nearestRoot 42 = .ok (.iand, 1) := by decide +kernel
theorem dX1_nearestRoot_43 : decode cX1_nearestRoot 43 = .ok (.i2l, 1) := by decide +kernel
theorem dX1_nearestRoot_44 : decode cX1_nearestRoot 44 = .ok (.goto 4, 3) := by decide +kernel
theorem dX1_nearestRoot_47 : decode cX1_nearestRoot 47 = .ok (.lconst 0, 1) := by decide +kernel
theorem dX1_nearestRoot_48 : decode cX1_nearestRoot 48 = .ok (.lstore 8, 2) := by decide +kernel
theorem dX1_nearestRoot_50 : decode cX1_nearestRoot 50 = .ok (.ldc2_w 35, 3) := by decide +kernel
theorem dX1_nearestRoot_53 : decode cX1_nearestRoot 53 = .ok (.lload_n 1, 1) := by decide +kernel
theorem dX1_nearestRoot_54 : decode cX1_nearestRoot 54 = .ok (.lmul, 1) := by decide +kernel
theorem dX1_nearestRoot_55 : decode cX1_nearestRoot 55 = .ok (.lconst 1, 1) := by decide +kernel
theorem dX1_nearestRoot_56 : decode cX1_nearestRoot 56 = .ok (.ladd, 1) := by decide +kernel
theorem dX1_nearestRoot_57 : decode cX1_nearestRoot 57 = .ok (.lstore 10, 2) := by decide +kernel
theorem dX1_nearestRoot_59 : decode cX1_nearestRoot 59 = .ok (.ldc2_w 35, 3) := by decide +kernel
theorem dX1_nearestRoot_62 : decode cX1_nearestRoot 62 = .ok (.lload_n 3, 1) := by decide +kernel
theorem dX1_nearestRoot_63 : decode cX1_nearestRoot 63 = .ok (.lmul, 1) := by decide +kernel
theorem dX1_nearestRoot_64 : decode cX1_nearestRoot 64 = .ok (.lload 8, 2) := by decide +kernel
theorem dX1_nearestRoot_66 : decode cX1_nearestRoot 66 = .ok (.ladd, 1) := by decide +kernel
theorem dX1_nearestRoot_67 : decode cX1_nearestRoot 67 = .ok (.lstore_n 3, 1) := by decide +kernel
theorem dX1_nearestRoot_68 : decode cX1_nearestRoot 68 = .ok (.ldc2_w 37, 3) := by decide +kernel
theorem dX1_nearestRoot_71 : decode cX1_nearestRoot 71 = .ok (.lload_n 1, 1) := by decide +kernel
theorem dX1_nearestRoot_72 : decode cX1_nearestRoot 72 = .ok (.lmul, 1) := by decide +kernel
theorem dX1_nearestRoot_73 : decode cX1_nearestRoot 73 = .ok (.lstore_n 1, 1) := by decide +kernel
theorem dX1_nearestRoot_74 : decode cX1_nearestRoot 74 = .ok (.lload_n 3, 1) := by decide +kernel
theorem dX1_nearestRoot_75 : decode cX1_nearestRoot 75 = .ok (.lload 10, 2) := by decide +kernel
theorem dX1_nearestRoot_77 : decode cX1_nearestRoot 77 = .ok (.lcmp, 1) := by decide +kernel
theorem dX1_nearestRoot_78 : decode cX1_nearestRoot 78 = .ok (.ifCond .lt 12, 3) := by decide +kernel
theorem dX1_nearestRoot_81 : decode cX1_nearestRoot 81 = .ok (.lload_n 3, 1) := by decide +kernel
theorem dX1_nearestRoot_82 : decode cX1_nearestRoot 82 = .ok (.lload 10, 2) := by decide +kernel
theorem dX1_nearestRoot_84 : decode cX1_nearestRoot 84 = .ok (.lsub, 1) := by decide +kernel
theorem dX1_nearestRoot_85 : decode cX1_nearestRoot 85 = .ok (.lstore_n 3, 1) := by decide +kernel
theorem dX1_nearestRoot_86 : decode cX1_nearestRoot 86 = .ok (.lload_n 1, 1) := by decide +kernel
theorem dX1_nearestRoot_87 : decode cX1_nearestRoot 87 = .ok (.lconst 1, 1) := by decide +kernel
theorem dX1_nearestRoot_88 : decode cX1_nearestRoot 88 = .ok (.ladd, 1) := by decide +kernel
theorem dX1_nearestRoot_89 : decode cX1_nearestRoot 89 = .ok (.lstore_n 1, 1) := by decide +kernel
theorem dX1_nearestRoot_90 : decode cX1_nearestRoot 90 = .ok (.iload 7, 2) := by decide +kernel
theorem dX1_nearestRoot_92 : decode cX1_nearestRoot 92 = .ok (.ifCond .ge 11, 3) := by decide +kernel
theorem dX1_nearestRoot_95 : decode cX1_nearestRoot 95 = .ok (.ldc2_w 31, 3) := by decide +kernel
theorem dX1_nearestRoot_98 : decode cX1_nearestRoot 98 = .ok (.dload 5, 2) := by decide +kernel
theorem dX1_nearestRoot_100 : decode cX1_nearestRoot 100 = .ok (.dmul, 1) := by decide +kernel
theorem dX1_nearestRoot_101 : decode cX1_nearestRoot 101 = .ok (.dstore 5, 2) := by decide +kernel
theorem dX1_nearestRoot_103 : decode cX1_nearestRoot 103 = .ok (.iinc 7 (-2), 3) := by decide +kernel
theorem dX1_nearestRoot_106 : decode cX1_nearestRoot 106 = .ok (.goto (-89), 3) := by decide +kernel
theorem dX1_nearestRoot_109 : decode cX1_nearestRoot 109 = .ok (.lload_n 3, 1) := by decide +kernel
theorem dX1_nearestRoot_110 : decode cX1_nearestRoot 110 = .ok (.lload_n 1, 1) := by decide +kernel
theorem dX1_nearestRoot_111 : decode cX1_nearestRoot 111 = .ok (.lcmp, 1) := by decide +kernel
theorem dX1_nearestRoot_112 : decode cX1_nearestRoot 112 = .ok (.ifCond .le 7, 3) := by decide +kernel
theorem dX1_nearestRoot_115 : decode cX1_nearestRoot 115 = .ok (.lload_n 1, 1) := by decide +kernel
theorem dX1_nearestRoot_116 : decode cX1_nearestRoot 116 = .ok (.lconst 1, 1) := by decide +kernel
theorem dX1_nearestRoot_117 : decode cX1_nearestRoot 117 = .ok (.ladd, 1) := by decide +kernel
theorem dX1_nearestRoot_118 : decode cX1_nearestRoot 118 = .ok (.lstore_n 1, 1) := by decide +kernel
theorem dX1_nearestRoot_119 : decode cX1_nearestRoot 119 = .ok (.lload_n 1, 1) := by decide +kernel
theorem dX1_nearestRoot_120 : decode cX1_nearestRoot 120 = .ok (.l2d, 1) := by decide +kernel
theorem dX1_nearestRoot_121 : decode cX1_nearestRoot 121 = .ok (.dload 5, 2) := by decide +kernel
theorem dX1_nearestRoot_123 : decode cX1_nearestRoot 123 = .ok (.ddiv, 1) := by decide +kernel
theorem dX1_nearestRoot_124 : decode cX1_nearestRoot 124 = .ok (.dreturn, 1) := by decide +kernel
theorem dX2_init_0 : decode cX2_init 0 = .ok (.aload_n 0, 1) := by decide +kernel
theorem dX2_init_1 : decode cX2_init 1 = .ok (.invokespecial 3, 3) := by decide +kernel
theorem dX2_init_4 : decode cX2_init 4 = .ok (.aload_n 0, 1) := by decide +kernel
theorem dX2_init_5 : decode cX2_init 5 = .ok (.bipush 10, 2) := by decide +kernel
theorem dX2_init_7 : decode cX2_init 7 = .ok (.newarray .int, 2) := by decide +kernel
theorem dX2_init_9 : decode cX2_init 9 = .ok (.putfield 9, 3) := by decide +kernel
theorem dX2_init_12 : decode cX2_init 12 = .ok (.aload_n 0, 1) := by decide +kernel
theorem dX2_init_13 : decode cX2_init 13 = .ok (.bipush 10, 2) := by decide +kernel
theorem dX2_init_15 : decode cX2_init 15 = .ok (.newarray .int, 2) := by decide +kernel
theorem dX2_init_17 : decode cX2_init 17 = .ok (.putfield 15, 3) := by decide +kernel
theorem dX2_init_20 : decode cX2_init 20 = .ok (.aload_n 0, 1) := by decide +kernel
theorem dX2_init_21 : decode cX2_init 21 = .ok (.bipush 10, 2) := by decide +kernel
theorem dX2_init_23 : decode cX2_init 23 = .ok (.newarray .int, 2) := by decide +kernel
theorem dX2_init_25 : decode cX2_init 25 = .ok (.putfield 18, 3) := by decide +kernel
theorem dX2_init_28 : decode cX2_init 28 = .ok (.aload_n 0, 1) := by decide +kernel
theorem dX2_init_29 : decode cX2_init 29 = .ok (.bipush 10, 2) := by decide +kernel
theorem dX2_init_31 : decode cX2_init 31 = .ok (.newarray .int, 2) := by decide +kernel
theorem dX2_init_33 : decode cX2_init 33 = .ok (.putfield 21, 3) := by decide +kernel
theorem dX2_init_36 : decode cX2_init 36 = .ok (.aload_n 0, 1) := by decide +kernel
theorem dX2_init_37 : decode cX2_init 37 = .ok (.bipush 10, 2) := by decide +kernel
theorem dX2_init_39 : decode cX2_init 39 = .ok (.newarray .int, 2) := by decide +kernel
theorem dX2_init_41 : decode cX2_init 41 = .ok (.putfield 24, 3) := by decide +kernel
theorem dX2_init_44 : decode cX2_init 44 = .ok (.aload_n 0, 1) := by decide +kernel
theorem dX2_init_45 : decode cX2_init 45 = .ok (.bipush 10, 2) := by decide +kernel
theorem dX2_init_47 : decode cX2_init 47 = .ok (.newarray .int, 2) := by decide +kernel
theorem dX2_init_49 : decode cX2_init 49 = .ok (.putfield 27, 3) := by decide +kernel
theorem dX2_init_52 : decode cX2_init 52 = .ok (.return_, 1) := by decide +kernel
set_option maxRecDepth 20000 in
theorem ggX2_clear_J7_fill_53178 : GoodIn wsX2_clear wsJ7_fill_53178 := goodIn_r _ [10] rfl (by decide +kernel)
set_option maxRecDepth 20000 in
theorem gX2_clear_J7_fill_53178 : GoodIn wsX2_clear (va_wsS RX2 30 yJ7_fill_53178 wsJ7_fill_53178) := goodIn_app (goodIn_of _ (by decide +kernel)) ggX2_clear_J7_fill_53178
theorem dX2_clear_0 : decode cX2_clear 0 = .ok (.aload_n 0, 1) := by decide +kernel
theorem dX2_clear_1 : decode cX2_clear 1 = .ok (.getfield 9, 3) := by decide +kernel
theorem dX2_clear_4 : decode cX2_clear 4 = .ok (.iconst 0, 1) := by decide +kernel
theorem dX2_clear_5 : decode cX2_clear 5 = .ok (.invokestatic 30, 3) := by decide +kernel
theorem dX2_clear_8 : decode cX2_clear 8 = .ok (.aload_n 0, 1) := by decide +kernel
theorem dX2_clear_9 : decode cX2_clear 9 = .ok (.getfield 15, 3) := by decide +kernel
theorem dX2_clear_12 : decode cX2_clear 12 = .ok (.iconst 0, 1) := by decide +kernel
theorem dX2_clear_13 : decode cX2_clear 13 = .ok (.invokestatic 30, 3) := by decide +kernel
theorem dX2_clear_16 : decode cX2_clear 16 = .ok (.aload_n 0, 1) := by decide +kernel
theorem dX2_clear_17 : decode cX2_clear 17 = .ok (.getfield 18, 3) := by decide +kernel
theorem dX2_clear_20 : decode cX2_clear 20 = .ok (.iconst 0, 1) := by decide +kernel
theorem dX2_clear_21 : decode cX2_clear 21 = .ok (.invokestatic 30, 3) := by decide +kernel
theorem dX2_clear_24 : decode cX2_clear 24 = .ok (.aload_n 0, 1) := by decide +kernel
theorem dX2_clear_25 : decode cX2_clear 25 = .ok (.getfield 21, 3) := by decide +kernel
theorem dX2_clear_28 : decode cX2_clear 28 = .ok (.iconst 0, 1) := by decide +kernel
theorem dX2_clear_29 : decode cX2_clear 29 = .ok (.invokestatic 30, 3) := by decide +kernel
theorem dX2_clear_32 : decode cX2_clear 32 = .ok (.aload_n 0, 1) := by decide +kernel
theorem dX2_clear_33 : decode cX2_clear 33 = .ok (.getfield 24, 3) := by decide +kernel
theorem dX2_clear_36 : decode cX2_clear 36 = .ok (.iconst (-1), 1) := by decide +kernel
theorem dX2_clear_37 : decode cX2_clear 37 = .ok (.invokestatic 30, 3) := by decide +kernel
theorem dX2_clear_40 : decode cX2_clear 40 = .ok (.aload_n 0, 1) := by decide +kernel
theorem dX2_clear_41 : decode cX2_clear 41 = .ok (.getfield 27, 3) := by decide +kernel
theorem dX2_clear_44 : decode cX2_clear 44 = .ok (.iconst 0, 1) := by decide +kernel
theorem dX2_clear_45 : decode cX2_clear 45 = .ok (.invokestatic 30, 3) := by decide +kernel
theorem dX2_clear_48 : decode cX2_clear 48 = .ok (.return_, 1) := by decide +kernel
theorem dX2_promisedStation_0 : decode cX2_promisedStation 0 = .ok (.iload_n 2, 1) := by decide +kernel
theorem dX2_promisedStation_1 : decode cX2_promisedStation 1 = .ok (.aload_n 0, 1) := by decide +kernel
theorem dX2_promisedStation_2 : decode cX2_promisedStation 2 = .ok (.getfield 27, 3) := by decide +kernel
theorem dX2_promisedStation_5 : decode cX2_promisedStation 5 = .ok (.iload_n 1, 1) := by decide +kernel
theorem dX2_promisedStation_6 : decode cX2_promisedStation 6 = .ok (.iaload, 1) := by decide +kernel
theorem dX2_promisedStation_7 : decode cX2_promisedStation 7 = .ok (.isub, 1) := by decide +kernel
theorem dX2_promisedStation_8 : decode cX2_promisedStation 8 = .ok (.bipush 15, 2) := by decide +kernel
theorem dX2_promisedStation_10 : decode cX2_promisedStation 10 = .ok (.if_icmp .ge 12, 3) := by decide +kernel
theorem dX2_promisedStation_13 : decode cX2_promisedStation 13 = .ok (.aload_n 0, 1) := by decide +kernel
theorem dX2_promisedStation_14 : decode cX2_promisedStation 14 = .ok (.getfield 24, 3) := by decide +kernel
theorem dX2_promisedStation_17 : decode cX2_promisedStation 17 = .ok (.iload_n 1, 1) := by decide +kernel
theorem dX2_promisedStation_18 : decode cX2_promisedStation 18 = .ok (.iaload, 1) := by decide +kernel
theorem dX2_promisedStation_19 : decode cX2_promisedStation 19 = .ok (.goto 4, 3) := by decide +kernel
theorem dX2_promisedStation_22 : decode cX2_promisedStation 22 = .ok (.iconst (-1), 1) := by decide +kernel
theorem dX2_promisedStation_23 : decode cX2_promisedStation 23 = .ok (.ireturn, 1) := by decide +kernel
set_option maxRecDepth 20000 in
theorem ggX2_promisesAt_X2_promisedStation : GoodIn wsX2_promisesAt wsX2_promisedStation := goodIn_r _ [5, 6, 7, 8, 9, 10, 11, 12, 13] rfl (by decide +kernel)
set_option maxRecDepth 20000 in
theorem gX2_promisesAt_X2_promisedStation : GoodIn wsX2_promisesAt (wsV RX2 36 RX2 yX2_promisedStation wsX2_promisedStation) := goodIn_app (goodIn_of _ (by decide +kernel)) ggX2_promisesAt_X2_promisedStation
theorem dX2_promisesAt_0 : decode cX2_promisesAt 0 = .ok (.iconst 0, 1) := by decide +kernel
theorem dX2_promisesAt_1 : decode cX2_promisesAt 1 = .ok (.istore 4, 2) := by decide +kernel
theorem dX2_promisesAt_3 : decode cX2_promisesAt 3 = .ok (.iconst 0, 1) := by decide +kernel
theorem dX2_promisesAt_4 : decode cX2_promisesAt 4 = .ok (.istore 5, 2) := by decide +kernel
theorem dX2_promisesAt_6 : decode cX2_promisesAt 6 = .ok (.iload 5, 2) := by decide +kernel
theorem dX2_promisesAt_8 : decode cX2_promisesAt 8 = .ok (.bipush 10, 2) := by decide +kernel
theorem dX2_promisesAt_10 : decode cX2_promisesAt 10 = .ok (.if_icmp .ge 29, 3) := by decide +kernel
theorem dX2_promisesAt_13 : decode cX2_promisesAt 13 = .ok (.iload 5, 2) := by decide +kernel
theorem dX2_promisesAt_15 : decode cX2_promisesAt 15 = .ok (.iload_n 2, 1) := by decide +kernel
theorem dX2_promisesAt_16 : decode cX2_promisesAt 16 = .ok (.if_icmp .eq 17, 3) := by decide +kernel
theorem dX2_promisesAt_19 : decode cX2_promisesAt 19 = .ok (.aload_n 0, 1) := by decide +kernel
theorem dX2_promisesAt_20 : decode cX2_promisesAt 20 = .ok (.iload 5, 2) := by decide +kernel
theorem dX2_promisesAt_22 : decode cX2_promisesAt 22 = .ok (.iload_n 3, 1) := by decide +kernel
theorem dX2_promisesAt_23 : decode cX2_promisesAt 23 = .ok (.invokevirtual 36, 3) := by decide +kernel
theorem dX2_promisesAt_26 : decode cX2_promisesAt 26 = .ok (.iload_n 1, 1) := by decide +kernel
theorem dX2_promisesAt_27 : decode cX2_promisesAt 27 = .ok (.if_icmp .ne 6, 3) := by decide +kernel
theorem dX2_promisesAt_30 : decode cX2_promisesAt 30 = .ok (.iinc 4 1, 3) := by decide +kernel
theorem dX2_promisesAt_33 : decode cX2_promisesAt 33 = .ok (.iinc 5 1, 3) := by decide +kernel
theorem dX2_promisesAt_36 : decode cX2_promisesAt 36 = .ok (.goto (-30), 3) := by decide +kernel
theorem dX2_promisesAt_39 : decode cX2_promisesAt 39 = .ok (.iload 4, 2) := by decide +kernel
theorem dX2_promisesAt_41 : decode cX2_promisesAt 41 = .ok (.ireturn, 1) := by decide +kernel
theorem dX3_init_0 : decode cX3_init 0 = .ok (.aload_n 0, 1) := by decide +kernel
theorem dX3_init_1 : decode cX3_init 1 = .ok (.invokespecial 3, 3) := by decide +kernel
theorem dX3_init_4 : decode cX3_init 4 = .ok (.aload_n 0, 1) := by decide +kernel
theorem dX3_init_5 : decode cX3_init 5 = .ok (.bipush 8, 2) := by decide +kernel
theorem dX3_init_7 : decode cX3_init 7 = .ok (.newarray .int, 2) := by decide +kernel
theorem dX3_init_9 : decode cX3_init 9 = .ok (.putfield 9, 3) := by decide +kernel
theorem dX3_init_12 : decode cX3_init 12 = .ok (.aload_n 0, 1) := by decide +kernel
theorem dX3_init_13 : decode cX3_init 13 = .ok (.bipush 8, 2) := by decide +kernel
theorem dX3_init_15 : decode cX3_init 15 = .ok (.newarray .int, 2) := by decide +kernel
theorem dX3_init_17 : decode cX3_init 17 = .ok (.putfield 15, 3) := by decide +kernel
theorem dX3_init_20 : decode cX3_init 20 = .ok (.aload_n 0, 1) := by decide +kernel
theorem dX3_init_21 : decode cX3_init 21 = .ok (.bipush 8, 2) := by decide +kernel
theorem dX3_init_23 : decode cX3_init 23 = .ok (.newarray .int, 2) := by decide +kernel
theorem dX3_init_25 : decode cX3_init 25 = .ok (.putfield 18, 3) := by decide +kernel
theorem dX3_init_28 : decode cX3_init 28 = .ok (.aload_n 0, 1) := by decide +kernel
theorem dX3_init_29 : decode cX3_init 29 = .ok (.iconst 0, 1) := by decide +kernel
theorem dX3_init_30 : decode cX3_init 30 = .ok (.putfield 21, 3) := by decide +kernel
theorem dX3_init_33 : decode cX3_init 33 = .ok (.return_, 1) := by decide +kernel
set_option maxRecDepth 20000 in
theorem ggX3_clear_J7_fill_53178 : GoodIn wsX3_clear wsJ7_fill_53178 := goodIn_r _ [8] rfl (by decide +kernel)
set_option maxRecDepth 20000 in
theorem gX3_clear_J7_fill_53178 : GoodIn wsX3_clear (va_wsS RX3 25 yJ7_fill_53178 wsJ7_fill_53178) := goodIn_app (goodIn_of _ (by decide +kernel)) ggX3_clear_J7_fill_53178
theorem dX3_clear_0 : decode cX3_clear 0 = .ok (.aload_n 0, 1) := by decide +kernel
theorem dX3_clear_1 : decode cX3_clear 1 = .ok (.getfield 9, 3) := by decide +kernel
theorem dX3_clear_4 : decode cX3_clear 4 = .ok (.iconst 0, 1) := by decide +kernel
theorem dX3_clear_5 : decode cX3_clear 5 = .ok (.invokestatic 25, 3) := by decide +kernel
theorem dX3_clear_8 : decode cX3_clear 8 = .ok (.aload_n 0, 1) := by decide +kernel
theorem dX3_clear_9 : decode cX3_clear 9 = .ok (.getfield 15, 3) := by decide +kernel
theorem dX3_clear_12 : decode cX3_clear 12 = .ok (.iconst 0, 1) := by decide +kernel
theorem dX3_clear_13 : decode cX3_clear 13 = .ok (.invokestatic 25, 3) := by decide +kernel
theorem dX3_clear_16 : decode cX3_clear 16 = .ok (.aload_n 0, 1) := by decide +kernel
theorem dX3_clear_17 : decode cX3_clear 17 = .ok (.getfield 18, 3) := by decide +kernel
theorem dX3_clear_20 : decode cX3_clear 20 = .ok (.iconst 0, 1) := by decide +kernel
theorem dX3_clear_21 : decode cX3_clear 21 = .ok (.invokestatic 25, 3) := by decide +kernel
theorem dX3_clear_24 : decode cX3_clear 24 = .ok (.aload_n 0, 1) := by decide +kernel
theorem dX3_clear_25 : decode cX3_clear 25 = .ok (.iconst 0, 1) := by decide +kernel
theorem dX3_clear_26 : decode cX3_clear 26 = .ok (.putfield 21, 3) := by decide +kernel
theorem dX3_clear_29 : decode cX3_clear 29 = .ok (.return_, 1) := by decide +kernel
theorem dX3_freePlaces_0 : decode cX3_freePlaces 0 = .ok (.iconst 0, 1) := by decide +kernel
theorem dX3_freePlaces_1 : decode cX3_freePlaces 1 = .ok (.aload_n 0, 1) := by decide +kernel
theorem dX3_freePlaces_2 : decode cX3_freePlaces 2 = .ok (.getfield 9, 3) := by decide +kernel
theorem dX3_freePlaces_5 : decode cX3_freePlaces 5 = .ok (.iload_n 1, 1) := by decide +kernel
theorem dX3_freePlaces_6 : decode cX3_freePlaces 6 = .ok (.iaload, 1) := by decide +kernel
theorem dX3_freePlaces_7 : decode cX3_freePlaces 7 = .ok (.aload_n 0, 1) := by decide +kernel
theorem dX3_freePlaces_8 : decode cX3_freePlaces 8 = .ok (.getfield 15, 3) := by decide +kernel
theorem dX3_freePlaces_11 : decode cX3_freePlaces 11 = .ok (.iload_n 1, 1) := by decide +kernel
theorem dX3_freePlaces_12 : decode cX3_freePlaces 12 = .ok (.iaload, 1) := by decide +kernel
theorem dX3_freePlaces_13 : decode cX3_freePlaces 13 = .ok (.isub, 1) := by decide +kernel
theorem dX3_freePlaces_14 : decode cX3_freePlaces 14 = .ok (.invokestatic 31, 3) := by decide +kernel
theorem dX3_freePlaces_17 : decode cX3_freePlaces 17 = .ok (.ireturn, 1) := by decide +kernel
set_option maxRecDepth 20000 in
theorem ggX3_countEmptyUntil_X3_emptyMinutes : GoodIn wsX3_countEmptyUntil wsX3_emptyMinutes := goodIn_r _ [7, 8, 1, 2, 9, 10, 11, 12] rfl (by decide +kernel)
set_option maxRecDepth 20000 in
theorem gX3_countEmptyUntil_X3_emptyMinutes : GoodIn wsX3_countEmptyUntil (wsV RX3 37 RX3 yX3_emptyMinutes wsX3_emptyMinutes) := goodIn_app (goodIn_of _ (by decide +kernel)) ggX3_countEmptyUntil_X3_emptyMinutes
theorem dX3_countEmptyUntil_0 : decode cX3_countEmptyUntil 0 = .ok (.iconst 0, 1) := by decide +kernel
theorem dX3_countEmptyUntil_1 : decode cX3_countEmptyUntil 1 = .ok (.istore_n 2, 1) := by decide +kernel
theorem dX3_countEmptyUntil_2 : decode cX3_countEmptyUntil 2 = .ok (.iload_n 2, 1) := by decide +kernel
theorem dX3_countEmptyUntil_3 : decode cX3_countEmptyUntil 3 = .ok (.bipush 8, 2) := by decide +kernel
theorem dX3_countEmptyUntil_5 : decode cX3_countEmptyUntil 5 = .ok (.if_icmp .ge 21, 3) := by decide +kernel
theorem dX3_countEmptyUntil_8 : decode cX3_countEmptyUntil 8 = .ok (.aload_n 0, 1) := by decide +kernel
theorem dX3_countEmptyUntil_9 : decode cX3_countEmptyUntil 9 = .ok (.getfield 18, 3) := by decide +kernel
theorem dX3_countEmptyUntil_12 : decode cX3_countEmptyUntil 12 = .ok (.iload_n 2, 1) := by decide +kernel
theorem dX3_countEmptyUntil_13 : decode cX3_countEmptyUntil 13 = .ok (.aload_n 0, 1) := by decide +kernel
theorem dX3_countEmptyUntil_14 : decode cX3_countEmptyUntil 14 = .ok (.iload_n 2, 1) := by decide +kernel
theorem dX3_countEmptyUntil_15 : decode cX3_countEmptyUntil 15 = .ok (.iload_n 1, 1) := by decide +kernel
theorem dX3_countEmptyUntil_16 : decode cX3_countEmptyUntil 16 = .ok (.invokevirtual 37, 3) := by decide +kernel
theorem dX3_countEmptyUntil_19 : decode cX3_countEmptyUntil 19 = .ok (.iastore, 1) := by decide +kernel
theorem dX3_countEmptyUntil_20 : decode cX3_countEmptyUntil 20 = .ok (.iinc 2 1, 3) := by decide +kernel
theorem dX3_countEmptyUntil_23 : decode cX3_countEmptyUntil 23 = .ok (.goto (-21), 3) := by decide +kernel
theorem dX3_countEmptyUntil_26 : decode cX3_countEmptyUntil 26 = .ok (.aload_n 0, 1) := by decide +kernel
theorem dX3_countEmptyUntil_27 : decode cX3_countEmptyUntil 27 = .ok (.iload_n 1, 1) := by decide +kernel
theorem dX3_countEmptyUntil_28 : decode cX3_countEmptyUntil 28 = .ok (.putfield 21, 3) := by decide +kernel
theorem dX3_countEmptyUntil_31 : decode cX3_countEmptyUntil 31 = .ok (.return_, 1) := by decide +kernel
theorem dX3_emptyMinutes_0 : decode cX3_emptyMinutes 0 = .ok (.aload_n 0, 1) := by decide +kernel
theorem dX3_emptyMinutes_1 : decode cX3_emptyMinutes 1 = .ok (.getfield 15, 3) := by decide +kernel
theorem dX3_emptyMinutes_4 : decode cX3_emptyMinutes 4 = .ok (.iload_n 1, 1) := by decide +kernel
theorem dX3_emptyMinutes_5 : decode cX3_emptyMinutes 5 = .ok (.iaload, 1) := by decide +kernel
theorem dX3_emptyMinutes_6 : decode cX3_emptyMinutes 6 = .ok (.ifCond .ne 19, 3) := by decide +kernel
theorem dX3_emptyMinutes_9 : decode cX3_emptyMinutes 9 = .ok (.aload_n 0, 1) := by decide +kernel
theorem dX3_emptyMinutes_10 : decode cX3_emptyMinutes 10 = .ok (.getfield 18, 3) := by decide +kernel
theorem dX3_emptyMinutes_13 : decode cX3_emptyMinutes 13 = .ok (.iload_n 1, 1) := by decide +kernel
theorem dX3_emptyMinutes_14 : decode cX3_emptyMinutes 14 = .ok (.iaload, 1) := by decide +kernel
theorem dX3_emptyMinutes_15 : decode cX3_emptyMinutes 15 = .ok (.iload_n 2, 1) := by decide +kernel
theorem dX3_emptyMinutes_16 : decode cX3_emptyMinutes 16 = .ok (.iadd, 1) := by decide +kernel
theorem dX3_emptyMinutes_17 : decode cX3_emptyMinutes 17 = .ok (.aload_n 0, 1) := by decide +kernel
theorem dX3_emptyMinutes_18 : decode cX3_emptyMinutes 18 = .ok (.getfield 21, 3) := by decide +kernel
theorem dX3_emptyMinutes_21 : decode cX3_emptyMinutes 21 = .ok (.isub, 1) := by decide +kernel
theorem dX3_emptyMinutes_22 : decode cX3_emptyMinutes 22 = .ok (.goto 9, 3) := by decide +kernel
theorem dX3_emptyMinutes_25 : decode cX3_emptyMinutes 25 = .ok (.aload_n 0, 1) := by decide +kernel
theorem dX3_emptyMinutes_26 : decode cX3_emptyMinutes 26 = .ok (.getfield 18, 3) := by decide +kernel
theorem dX3_emptyMinutes_29 : decode cX3_emptyMinutes 29 = .ok (.iload_n 1, 1) := by decide +kernel
theorem dX3_emptyMinutes_30 : decode cX3_emptyMinutes 30 = .ok (.iaload, 1) := by decide +kernel
theorem dX3_emptyMinutes_31 : decode cX3_emptyMinutes 31 = .ok (.ireturn, 1) := by decide +kernel
theorem dX4_init_0 : decode cX4_init 0 = .ok (.aload_n 0, 1) := by decide +kernel
theorem dX4_init_1 : decode cX4_init 1 = .ok (.invokespecial 3, 3) := by decide +kernel
theorem dX4_init_4 : decode cX4_init 4 = .ok (.aload_n 0, 1) := by decide +kernel
theorem dX4_init_5 : decode cX4_init 5 = .ok (.sipush 300, 3) := by decide +kernel
theorem dX4_init_8 : decode cX4_init 8 = .ok (.newarray .int, 2) := by decide +kernel
theorem dX4_init_10 : decode cX4_init 10 = .ok (.putfield 9, 3) := by decide +kernel
theorem dX4_init_13 : decode cX4_init 13 = .ok (.aload_n 0, 1) := by decide +kernel
theorem dX4_init_14 : decode cX4_init 14 = .ok (.sipush 300, 3) := by decide +kernel
theorem dX4_init_17 : decode cX4_init 17 = .ok (.newarray .int, 2) := by decide +kernel
theorem dX4_init_19 : decode cX4_init 19 = .ok (.putfield 15, 3) := by decide +kernel
theorem dX4_init_22 : decode cX4_init 22 = .ok (.aload_n 0, 1) := by decide +kernel
theorem dX4_init_23 : decode cX4_init 23 = .ok (.sipush 300, 3) := by decide +kernel
theorem dX4_init_26 : decode cX4_init 26 = .ok (.newarray .int, 2) := by decide +kernel
theorem dX4_init_28 : decode cX4_init 28 = .ok (.putfield 18, 3) := by decide +kernel
theorem dX4_init_31 : decode cX4_init 31 = .ok (.aload_n 0, 1) := by decide +kernel
theorem dX4_init_32 : decode cX4_init 32 = .ok (.sipush 300, 3) := by decide +kernel
theorem dX4_init_35 : decode cX4_init 35 = .ok (.newarray .int, 2) := by decide +kernel
theorem dX4_init_37 : decode cX4_init 37 = .ok (.putfield 21, 3) := by decide +kernel
theorem dX4_init_40 : decode cX4_init 40 = .ok (.aload_n 0, 1) := by decide +kernel
theorem dX4_init_41 : decode cX4_init 41 = .ok (.iconst 0, 1) := by decide +kernel
theorem dX4_init_42 : decode cX4_init 42 = .ok (.putfield 24, 3) := by decide +kernel
theorem dX4_init_45 : decode cX4_init 45 = .ok (.return_, 1) := by decide +kernel
theorem dX4_isFull_0 : decode cX4_isFull 0 = .ok (.aload_n 0, 1) := by decide +kernel
theorem dX4_isFull_1 : decode cX4_isFull 1 = .ok (.getfield 24, 3) := by decide +kernel
theorem dX4_isFull_4 : decode cX4_isFull 4 = .ok (.sipush 300, 3) := by decide +kernel
theorem dX4_isFull_7 : decode cX4_isFull 7 = .ok (.if_icmp .lt 7, 3) := by decide +kernel
theorem dX4_isFull_10 : decode cX4_isFull 10 = .ok (.iconst 1, 1) := by decide +kernel
theorem dX4_isFull_11 : decode cX4_isFull 11 = .ok (.goto 4, 3) := by decide +kernel
theorem dX4_isFull_14 : decode cX4_isFull 14 = .ok (.iconst 0, 1) := by decide +kernel
theorem dX4_isFull_15 : decode cX4_isFull 15 = .ok (.ireturn, 1) := by decide +kernel
theorem dX4_tells_0 : decode cX4_tells 0 = .ok (.iconst 0, 1) := by decide +kernel
theorem dX4_tells_1 : decode cX4_tells 1 = .ok (.istore 5, 2) := by decide +kernel
theorem dX4_tells_3 : decode cX4_tells 3 = .ok (.iload 5, 2) := by decide +kernel
theorem dX4_tells_5 : decode cX4_tells 5 = .ok (.aload_n 0, 1) := by decide +kernel
theorem dX4_tells_6 : decode cX4_tells 6 = .ok (.getfield 24, 3) := by decide +kernel
theorem dX4_tells_9 : decode cX4_tells 9 = .ok (.if_icmp .ge 56, 3) := by decide +kernel
theorem dX4_tells_12 : decode cX4_tells 12 = .ok (.aload_n 0, 1) := by decide +kernel
theorem dX4_tells_13 : decode cX4_tells 13 = .ok (.getfield 9, 3) := by decide +kernel
theorem dX4_tells_16 : decode cX4_tells 16 = .ok (.iload 5, 2) := by decide +kernel
theorem dX4_tells_18 : decode cX4_tells 18 = .ok (.iaload, 1) := by decide +kernel
theorem dX4_tells_19 : decode cX4_tells 19 = .ok (.iload_n 1, 1) := by decide +kernel
theorem dX4_tells_20 : decode cX4_tells 20 = .ok (.if_icmp .ne 39, 3) := by decide +kernel
theorem dX4_tells_23 : decode cX4_tells 23 = .ok (.aload_n 0, 1) := by decide +kernel
theorem dX4_tells_24 : decode cX4_tells 24 = .ok (.getfield 15, 3) := by decide +kernel
theorem dX4_tells_27 : decode cX4_tells 27 = .ok (.iload 5, 2) := by decide +kernel
theorem dX4_tells_29 : decode cX4_tells 29 = .ok (.iaload, 1) := by decide +kernel
theorem dX4_tells_30 : decode cX4_tells 30 = .ok (.iload_n 2, 1) := by decide +kernel
theorem dX4_tells_31 : decode cX4_tells 31 = .ok (.if_icmp .ne 28, 3) := by decide +kernel
theorem dX4_tells_34 : decode cX4_tells 34 = .ok (.aload_n 0, 1) := by decide +kernel
theorem dX4_tells_35 : decode cX4_tells 35 = .ok (.getfield 18, 3) := by decide +kernel
theorem dX4_tells_38 : decode cX4_tells 38 = .ok (.iload 5, 2) := by decide +kernel
theorem dX4_tells_40 : decode cX4_tells 40 = .ok (.iaload, 1) := by decide +kernel
theorem dX4_tells_41 : decode cX4_tells 41 = .ok (.iload_n 3, 1) := by decide +kernel
theorem dX4_tells_42 : decode cX4_tells 42 = .ok (.if_icmp .ne 17, 3) := by decide +kernel
theorem dX4_tells_45 : decode cX4_tells 45 = .ok (.aload_n 0, 1) := by decide +kernel
theorem dX4_tells_46 : decode cX4_tells 46 = .ok (.getfield 21, 3) := by decide +kernel
theorem dX4_tells_49 : decode cX4_tells 49 = .ok (.iload 5, 2) := by decide +kernel
theorem dX4_tells_51 : decode cX4_tells 51 = .ok (.iaload, 1) := by decide +kernel
theorem dX4_tells_52 : decode cX4_tells 52 = .ok (.iload 4, 2) := by decide +kernel
theorem dX4_tells_54 : decode cX4_tells 54 = .ok (.if_icmp .ne 5, 3) := by decide +kernel
theorem dX4_tells_57 : decode cX4_tells 57 = .ok (.iconst 1, 1) := by decide +kernel
theorem dX4_tells_58 : decode cX4_tells 58 = .ok (.ireturn, 1) := by decide +kernel
theorem dX4_tells_59 : decode cX4_tells 59 = .ok (.iinc 5 1, 3) := by decide +kernel
theorem dX4_tells_62 : decode cX4_tells 62 = .ok (.goto (-59), 3) := by decide +kernel
theorem dX4_tells_65 : decode cX4_tells 65 = .ok (.iconst 0, 1) := by decide +kernel
theorem dX4_tells_66 : decode cX4_tells 66 = .ok (.ireturn, 1) := by decide +kernel
set_option maxRecDepth 20000 in
theorem ggX4_insert_X4_isFull : GoodIn wsX4_insert wsX4_isFull := goodIn_r _ [14, 1, 15, 16, 17, 18, 19] rfl (by decide +kernel)
set_option maxRecDepth 20000 in
theorem gX4_insert_X4_isFull : GoodIn wsX4_insert (wsV RX4 28 RX4 yX4_isFull wsX4_isFull) := goodIn_app (goodIn_of _ (by decide +kernel)) ggX4_insert_X4_isFull
theorem dX4_insert_0 : decode cX4_insert 0 = .ok (.aload_n 0, 1) := by decide +kernel
theorem dX4_insert_1 : decode cX4_insert 1 = .ok (.invokevirtual 28, 3) := by decide +kernel
theorem dX4_insert_4 : decode cX4_insert 4 = .ok (.ifCond .eq 8, 3) := by decide +kernel
theorem dX4_insert_7 : decode cX4_insert 7 = .ok (.aload_n 0, 1) := by decide +kernel
theorem dX4_insert_8 : decode cX4_insert 8 = .ok (.getfield 24, 3) := by decide +kernel
theorem dX4_insert_11 : decode cX4_insert 11 = .ok (.ireturn, 1) := by decide +kernel
theorem dX4_insert_12 : decode cX4_insert 12 = .ok (.aload_n 0, 1) := by decide +kernel
theorem dX4_insert_13 : decode cX4_insert 13 = .ok (.getfield 24, 3) := by decide +kernel
theorem dX4_insert_16 : decode cX4_insert 16 = .ok (.istore 5, 2) := by decide +kernel
theorem dX4_insert_18 : decode cX4_insert 18 = .ok (.iload 5, 2) := by decide +kernel
theorem dX4_insert_20 : decode cX4_insert 20 = .ok (.ifCond .le 23, 3) := by decide +kernel
theorem dX4_insert_23 : decode cX4_insert 23 = .ok (.aload_n 0, 1) := by decide +kernel
theorem dX4_insert_24 : decode cX4_insert 24 = .ok (.getfield 21, 3) := by decide +kernel
theorem dX4_insert_27 : decode cX4_insert 27 = .ok (.iload 5, 2) := by decide +kernel
theorem dX4_insert_29 : decode cX4_insert 29 = .ok (.iconst 1, 1) := by decide +kernel
theorem dX4_insert_30 : decode cX4_insert 30 = .ok (.isub, 1) := by decide +kernel
theorem dX4_insert_31 : decode cX4_insert 31 = .ok (.iaload, 1) := by decide +kernel
theorem dX4_insert_32 : decode cX4_insert 32 = .ok (.iload 4, 2) := by decide +kernel
theorem dX4_insert_34 : decode cX4_insert 34 = .ok (.if_icmp .le 9, 3) := by decide +kernel
theorem dX4_insert_37 : decode cX4_insert 37 = .ok (.iinc 5 (-1), 3) := by decide +kernel
theorem dX4_insert_40 : decode cX4_insert 40 = .ok (.goto (-22), 3) := by decide +kernel
theorem dX4_insert_43 : decode cX4_insert 43 = .ok (.aload_n 0, 1) := by decide +kernel
theorem dX4_insert_44 : decode cX4_insert 44 = .ok (.getfield 24, 3) := by decide +kernel
theorem dX4_insert_47 : decode cX4_insert 47 = .ok (.iload 5, 2) := by decide +kernel
theorem dX4_insert_49 : decode cX4_insert 49 = .ok (.isub, 1) := by decide +kernel
theorem dX4_insert_50 : decode cX4_insert 50 = .ok (.istore 6, 2) := by decide +kernel
theorem dX4_insert_52 : decode cX4_insert 52 = .ok (.aload_n 0, 1) := by decide +kernel
theorem dX4_insert_53 : decode cX4_insert 53 = .ok (.getfield 9, 3) := by decide +kernel
theorem dX4_insert_56 : decode cX4_insert 56 = .ok (.iload 5, 2) := by decide +kernel
theorem dX4_insert_58 : decode cX4_insert 58 = .ok (.aload_n 0, 1) := by decide +kernel
theorem dX4_insert_59 : decode cX4_insert 59 = .ok (.getfield 9, 3) := by decide +kernel
theorem dX4_insert_62 : decode cX4_insert 62 = .ok (.iload 5, 2) := by decide +kernel
theorem dX4_insert_64 : decode cX4_insert 64 = .ok (.iconst 1, 1) := by decide +kernel
theorem dX4_insert_65 : decode cX4_insert 65 = .ok (.iadd, 1) := by decide +kernel
theorem dX4_insert_66 : decode cX4_insert 66 = .ok (.iload 6, 2) := by decide +kernel
theorem dX4_insert_68 : decode cX4_insert 68 = .ok (.invokestatic 32, 3) := by decide +kernel
theorem dX4_insert_71 : decode cX4_insert 71 = .ok (.aload_n 0, 1) := by decide +kernel
theorem dX4_insert_72 : decode cX4_insert 72 = .ok (.getfield 15, 3) := by decide +kernel
theorem dX4_insert_75 : decode cX4_insert 75 = .ok (.iload 5, 2) := by decide +kernel
theorem dX4_insert_77 : decode cX4_insert 77 = .ok (.aload_n 0, 1) := by decide +kernel
theorem dX4_insert_78 : decode cX4_insert 78 = .ok (.getfield 15, 3) := by decide +kernel
theorem dX4_insert_81 : decode cX4_insert 81 = .ok (.iload 5, 2) := by decide +kernel
theorem dX4_insert_83 : decode cX4_insert 83 = .ok (.iconst 1, 1) := by decide +kernel
theorem dX4_insert_84 : decode cX4_insert 84 = .ok (.iadd, 1) := by decide +kernel
theorem dX4_insert_85 : decode cX4_insert 85 = .ok (.iload 6, 2) := by decide +kernel
theorem dX4_insert_87 : decode cX4_insert 87 = .ok (.invokestatic 32, 3) := by decide +kernel
theorem dX4_insert_90 : decode cX4_insert 90 = .ok (.aload_n 0, 1) := by decide +kernel
theorem dX4_insert_91 : decode cX4_insert 91 = .ok (.getfield 18, 3) := by decide +kernel
theorem dX4_insert_94 : decode cX4_insert 94 = .ok (.iload 5, 2) := by decide +kernel
theorem dX4_insert_96 : decode cX4_insert 96 = .ok (.aload_n 0, 1) := by decide +kernel
theorem dX4_insert_97 : decode cX4_insert 97 = .ok (.getfield 18, 3) := by decide +kernel
theorem dX4_insert_100 : decode cX4_insert 100 = .ok (.iload 5, 2) := by decide +kernel
theorem dX4_insert_102 : decode cX4_insert 102 = .ok (.iconst 1, 1) := by decide +kernel
theorem dX4_insert_103 : decode cX4_insert 103 = .ok (.iadd, 1) := by decide +kernel
theorem dX4_insert_104 : decode cX4_insert 104 = .ok (.iload 6, 2) := by decide +kernel
theorem dX4_insert_106 : decode cX4_insert 106 = .ok (.invokestatic 32, 3) := by decide +kernel
theorem dX4_insert_109 : decode cX4_insert 109 = .ok (.aload_n 0, 1) := by decide +kernel
theorem dX4_insert_110 : decode cX4_insert 110 = .ok (.getfield 21, 3) := by decide +kernel
theorem dX4_insert_113 : decode cX4_insert 113 = .ok (.iload 5, 2) := by decide +kernel
theorem dX4_insert_115 : decode cX4_insert 115 = .ok (.aload_n 0, 1) := by decide +kernel
theorem dX4_insert_116 : decode cX4_insert 116 = .ok (.getfield 21, 3) := by decide +kernel
theorem dX4_insert_119 : decode cX4_insert 119 = .ok (.iload 5, 2) := by decide +kernel
theorem dX4_insert_121 : decode cX4_insert 121 = .ok (.iconst 1, 1) := by decide +kernel
theorem dX4_insert_122 : decode cX4_insert 122 = .ok (.iadd, 1) := by decide +kernel
theorem dX4_insert_123 : decode cX4_insert 123 = .ok (.iload 6, 2) := by decide +kernel
theorem dX4_insert_125 : decode cX4_insert 125 = .ok (.invokestatic 32, 3) := by decide +kernel
theorem dX4_insert_128 : decode cX4_insert 128 = .ok (.aload_n 0, 1) := by decide +kernel
theorem dX4_insert_129 : decode cX4_insert 129 = .ok (.getfield 9, 3) := by decide +kernel
theorem dX4_insert_132 : decode cX4_insert 132 = .ok (.iload 5, 2) := by decide +kernel
theorem dX4_insert_134 : decode cX4_insert 134 = .ok (.iload_n 1, 1) := by decide +kernel
theorem dX4_insert_135 : decode cX4_insert 135 = .ok (.iastore, 1) := by decide +kernel
theorem dX4_insert_136 : decode cX4_insert 136 = .ok (.aload_n 0, 1) := by decide +kernel
theorem dX4_insert_137 : decode cX4_insert 137 = .ok (.getfield 15, 3) := by decide +kernel
theorem dX4_insert_140 : decode cX4_insert 140 = .ok (.iload 5, 2) := by decide +kernel
theorem dX4_insert_142 : decode cX4_insert 142 = .ok (.iload_n 2, 1) := by decide +kernel
theorem dX4_insert_143 : decode cX4_insert 143 = .ok (.iastore, 1) := by decide +kernel
theorem dX4_insert_144 : decode cX4_insert 144 = .ok (.aload_n 0, 1) := by decide +kernel
theorem dX4_insert_145 : decode cX4_insert 145 = .ok (.getfield 18, 3) := by decide +kernel
theorem dX4_insert_148 : decode cX4_insert 148 = .ok (.iload 5, 2) := by decide +kernel
theorem dX4_insert_150 : decode cX4_insert 150 = .ok (.iload_n 3, 1) := by decide +kernel
theorem dX4_insert_151 : decode cX4_insert 151 = .ok (.iastore, 1) := by decide +kernel
theorem dX4_insert_152 : decode cX4_insert 152 = .ok (.aload_n 0, 1) := by decide +kernel
theorem dX4_insert_153 : decode cX4_insert 153 = .ok (.getfield 21, 3) := by decide +kernel
theorem dX4_insert_156 : decode cX4_insert 156 = .ok (.iload 5, 2) := by decide +kernel
theorem dX4_insert_158 : decode cX4_insert 158 = .ok (.iload 4, 2) := by decide +kernel
theorem dX4_insert_160 : decode cX4_insert 160 = .ok (.iastore, 1) := by decide +kernel
theorem dX4_insert_161 : decode cX4_insert 161 = .ok (.aload_n 0, 1) := by decide +kernel
theorem dX4_insert_162 : decode cX4_insert 162 = .ok (.dup, 1) := by decide +kernel
theorem dX4_insert_163 : decode cX4_insert 163 = .ok (.getfield 24, 3) := by decide +kernel
theorem dX4_insert_166 : decode cX4_insert 166 = .ok (.iconst 1, 1) := by decide +kernel
theorem dX4_insert_167 : decode cX4_insert 167 = .ok (.iadd, 1) := by decide +kernel
theorem dX4_insert_168 : decode cX4_insert 168 = .ok (.putfield 24, 3) := by decide +kernel
theorem dX4_insert_171 : decode cX4_insert 171 = .ok (.iload 5, 2) := by decide +kernel
theorem dX4_insert_173 : decode cX4_insert 173 = .ok (.ireturn, 1) := by decide +kernel
