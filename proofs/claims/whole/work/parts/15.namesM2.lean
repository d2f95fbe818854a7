theorem dX6_unlock_11 : decode cX6_unlock 11 = .ok (.getfield 43, 3) := by decide +kernel
theorem dX6_unlock_14 : decode cX6_unlock 14 = .ok (.iload_n 1, 1) := by decide +kernel
theorem dX6_unlock_15 : decode cX6_unlock 15 = .ok (.iaload, 1) := by decide +kernel
theorem dX6_unlock_16 : decode cX6_unlock 16 = .ok (.iload_n 2, 1) := by decide +kernel
theorem dX6_unlock_17 : decode cX6_unlock 17 = .ok (.if_icmp .eq 7, 3) := by decide +kernel
theorem dX6_unlock_20 : decode cX6_unlock 20 = .ok (.iconst 1, 1) := by decide +kernel
theorem dX6_unlock_21 : decode cX6_unlock 21 = .ok (.goto 4, 3) := by decide +kernel
theorem dX6_unlock_24 : decode cX6_unlock 24 = .ok (.iconst 0, 1) := by decide +kernel
theorem dX6_unlock_25 : decode cX6_unlock 25 = .ok (.istore 4, 2) := by decide +kernel
theorem dX6_unlock_27 : decode cX6_unlock 27 = .ok (.iload 4, 2) := by decide +kernel
theorem dX6_unlock_29 : decode cX6_unlock 29 = .ok (.ifCond .ne 23, 3) := by decide +kernel
theorem dX6_unlock_32 : decode cX6_unlock 32 = .ok (.aload_n 0, 1) := by decide +kernel
theorem dX6_unlock_33 : decode cX6_unlock 33 = .ok (.getfield 40, 3) := by decide +kernel
theorem dX6_unlock_36 : decode cX6_unlock 36 = .ok (.iload_n 1, 1) := by decide +kernel
theorem dX6_unlock_37 : decode cX6_unlock 37 = .ok (.iaload, 1) := by decide +kernel
theorem dX6_unlock_38 : decode cX6_unlock 38 = .ok (.iconst 1, 1) := by decide +kernel
theorem dX6_unlock_39 : decode cX6_unlock 39 = .ok (.if_icmp .ne 11, 3) := by decide +kernel
theorem dX6_unlock_42 : decode cX6_unlock 42 = .ok (.aload_n 0, 1) := by decide +kernel
theorem dX6_unlock_43 : decode cX6_unlock 43 = .ok (.iload_n 1, 1) := by decide +kernel
theorem dX6_unlock_44 : decode cX6_unlock 44 = .ok (.invokevirtual 138, 3) := by decide +kernel
theorem dX6_unlock_47 : decode cX6_unlock 47 = .ok (.ifCond .eq 5, 3) := by decide +kernel
theorem dX6_unlock_50 : decode cX6_unlock 50 = .ok (.iconst 0, 1) := by decide +kernel
theorem dX6_unlock_51 : decode cX6_unlock 51 = .ok (.ireturn, 1) := by decide +kernel
theorem dX6_unlock_52 : decode cX6_unlock 52 = .ok (.iload 4, 2) := by decide +kernel
theorem dX6_unlock_54 : decode cX6_unlock 54 = .ok (.ifCond .eq 12, 3) := by decide +kernel
theorem dX6_unlock_57 : decode cX6_unlock 57 = .ok (.aload_n 0, 1) := by decide +kernel
theorem dX6_unlock_58 : decode cX6_unlock 58 = .ok (.iload_n 1, 1) := by decide +kernel
theorem dX6_unlock_59 : decode cX6_unlock 59 = .ok (.iload_n 3, 1) := by decide +kernel
theorem dX6_unlock_60 : decode cX6_unlock 60 = .ok (.invokevirtual 141, 3) := by decide +kernel
theorem dX6_unlock_63 : decode cX6_unlock 63 = .ok (.goto 18, 3) := by decide +kernel
theorem dX6_unlock_66 : decode cX6_unlock 66 = .ok (.aload_n 0, 1) := by decide +kernel
theorem dX6_unlock_67 : decode cX6_unlock 67 = .ok (.getfield 34, 3) := by decide +kernel
theorem dX6_unlock_70 : decode cX6_unlock 70 = .ok (.aload_n 0, 1) := by decide +kernel
theorem dX6_unlock_71 : decode cX6_unlock 71 = .ok (.getfield 43, 3) := by decide +kernel
theorem dX6_unlock_74 : decode cX6_unlock 74 = .ok (.iload_n 1, 1) := by decide +kernel
theorem dX6_unlock_75 : decode cX6_unlock 75 = .ok (.iaload, 1) := by decide +kernel
theorem dX6_unlock_76 : decode cX6_unlock 76 = .ok (.dup2, 1) := by decide +kernel
theorem dX6_unlock_77 : decode cX6_unlock 77 = .ok (.iaload, 1) := by decide +kernel
theorem dX6_unlock_78 : decode cX6_unlock 78 = .ok (.iconst 1, 1) := by decide +kernel
theorem dX6_unlock_79 : decode cX6_unlock 79 = .ok (.isub, 1) := by decide +kernel
theorem dX6_unlock_80 : decode cX6_unlock 80 = .ok (.iastore, 1) := by decide +kernel
theorem dX6_unlock_81 : decode cX6_unlock 81 = .ok (.aload_n 0, 1) := by decide +kernel
theorem dX6_unlock_82 : decode cX6_unlock 82 = .ok (.getfield 40, 3) := by decide +kernel
theorem dX6_unlock_85 : decode cX6_unlock 85 = .ok (.iload_n 1, 1) := by decide +kernel
theorem dX6_unlock_86 : decode cX6_unlock 86 = .ok (.iconst 2, 1) := by decide +kernel
theorem dX6_unlock_87 : decode cX6_unlock 87 = .ok (.iastore, 1) := by decide +kernel
theorem dX6_unlock_88 : decode cX6_unlock 88 = .ok (.aload_n 0, 1) := by decide +kernel
theorem dX6_unlock_89 : decode cX6_unlock 89 = .ok (.getfield 43, 3) := by decide +kernel
theorem dX6_unlock_92 : decode cX6_unlock 92 = .ok (.iload_n 1, 1) := by decide +kernel
theorem dX6_unlock_93 : decode cX6_unlock 93 = .ok (.iload_n 2, 1) := by decide +kernel
theorem dX6_unlock_94 : decode cX6_unlock 94 = .ok (.iastore, 1) := by decide +kernel
theorem dX6_unlock_95 : decode cX6_unlock 95 = .ok (.aload_n 0, 1) := by decide +kernel
theorem dX6_unlock_96 : decode cX6_unlock 96 = .ok (.getfield 49, 3) := by decide +kernel
theorem dX6_unlock_99 : decode cX6_unlock 99 = .ok (.iload_n 1, 1) := by decide +kernel
theorem dX6_unlock_100 : decode cX6_unlock 100 = .ok (.iload_n 3, 1) := by decide +kernel
theorem dX6_unlock_101 : decode cX6_unlock 101 = .ok (.iastore, 1) := by decide +kernel
theorem dX6_unlock_102 : decode cX6_unlock 102 = .ok (.aload_n 0, 1) := by decide +kernel
theorem dX6_unlock_103 : decode cX6_unlock 103 = .ok (.getfield 52, 3) := by decide +kernel
theorem dX6_unlock_106 : decode cX6_unlock 106 = .ok (.iload_n 1, 1) := by decide +kernel
theorem dX6_unlock_107 : decode cX6_unlock 107 = .ok (.aload_n 0, 1) := by decide +kernel
theorem dX6_unlock_108 : decode cX6_unlock 108 = .ok (.getfield 129, 3) := by decide +kernel
theorem dX6_unlock_111 : decode cX6_unlock 111 = .ok (.iastore, 1) := by decide +kernel
theorem dX6_unlock_112 : decode cX6_unlock 112 = .ok (.aload_n 0, 1) := by decide +kernel
theorem dX6_unlock_113 : decode cX6_unlock 113 = .ok (.getfield 55, 3) := by decide +kernel
theorem dX6_unlock_116 : decode cX6_unlock 116 = .ok (.iload_n 1, 1) := by decide +kernel
theorem dX6_unlock_117 : decode cX6_unlock 117 = .ok (.iconst 0, 1) := by decide +kernel
theorem dX6_unlock_118 : decode cX6_unlock 118 = .ok (.iastore, 1) := by decide +kernel
theorem dX6_unlock_119 : decode cX6_unlock 119 = .ok (.aload_n 0, 1) := by decide +kernel
theorem dX6_unlock_120 : decode cX6_unlock 120 = .ok (.getfield 61, 3) := by decide +kernel
theorem dX6_unlock_123 : decode cX6_unlock 123 = .ok (.iload_n 2, 1) := by decide +kernel
theorem dX6_unlock_124 : decode cX6_unlock 124 = .ok (.dup2, 1) := by decide +kernel
theorem dX6_unlock_125 : decode cX6_unlock 125 = .ok (.iaload, 1) := by decide +kernel
theorem dX6_unlock_126 : decode cX6_unlock 126 = .ok (.iconst 1, 1) := by decide +kernel
theorem dX6_unlock_127 : decode cX6_unlock 127 = .ok (.iadd, 1) := by decide +kernel
theorem dX6_unlock_128 : decode cX6_unlock 128 = .ok (.iastore, 1) := by decide +kernel
theorem dX6_unlock_129 : decode cX6_unlock 129 = .ok (.iconst 1, 1) := by decide +kernel
theorem dX6_unlock_130 : decode cX6_unlock 130 = .ok (.ireturn, 1) := by decide +kernel
set_option maxRecDepth 20000 in
theorem ggX6_lock_X6_free : GoodIn wsX6_lock wsX6_free := goodIn_r _ [10, 11, 12, 35, 36, 37, 38, 39, 40, 41, 42, 43, 44, 45, 46, 47, 48, 49, 50, 51, 52, 53, 54, 55, 56, 57, 58, 59, 60, 61, 62, 63] rfl (by decide +kernel)
set_option maxRecDepth 20000 in
theorem gX6_lock_X6_free : GoodIn wsX6_lock (wsV RX6 145 RX6 yX6_free wsX6_free) := goodIn_app (goodIn_of _ (by decide +kernel)) ggX6_lock_X6_free
set_option maxRecDepth 20000 in
theorem ggX6_lock_X6_promises : GoodIn wsX6_lock wsX6_promises := goodIn_r _ [16, 17, 18, 19, 9, 20, 3, 21, 35, 36, 37, 38, 39, 40, 41, 42, 43, 44, 45, 46, 47, 48, 49, 50, 51, 52, 53, 54, 55, 56, 57, 58, 59, 60, 61, 62, 63] rfl (by decide +kernel)
set_option maxRecDepth 20000 in
theorem gX6_lock_X6_promises : GoodIn wsX6_lock (wsV RX6 149 RX6 yX6_promises wsX6_promises) := goodIn_app (goodIn_of _ (by decide +kernel)) ggX6_lock_X6_promises
set_option maxRecDepth 20000 in
theorem ggX6_lock_X6_isPromised : GoodIn wsX6_lock wsX6_isPromised := goodIn_r _ [20, 3, 21, 35, 36, 37, 38, 39, 40, 41, 42, 43, 44, 45, 46, 47, 48, 49, 50, 51, 52, 53, 54, 55, 56, 57, 58, 59, 60, 61, 62, 63] rfl (by decide +kernel)
set_option maxRecDepth 20000 in
theorem gX6_lock_X6_isPromised : GoodIn wsX6_lock (wsV RX6 135 RX6 yX6_isPromised wsX6_isPromised) := goodIn_app (goodIn_of _ (by decide +kernel)) ggX6_lock_X6_isPromised
set_option maxRecDepth 20000 in
theorem ggX6_lock_X6_ride : GoodIn wsX6_lock wsX6_ride := goodIn_r _ [25, 2, 26, 4, 27, 28, 29, 30, 35, 36, 37, 38, 39, 40, 41, 42, 43, 44, 45, 46, 47, 48, 49, 50, 51, 52, 53, 54, 55, 56, 57, 58, 59, 60, 61, 62, 63] rfl (by decide +kernel)
set_option maxRecDepth 20000 in
theorem gX6_lock_X6_ride : GoodIn wsX6_lock (wsV RX6 141 RX6 yX6_ride wsX6_ride) := goodIn_app (goodIn_of _ (by decide +kernel)) ggX6_lock_X6_ride
set_option maxRecDepth 20000 in
theorem ggX6_lock_X6_dock : GoodIn wsX6_lock wsX6_dock := goodIn_r _ [34, 1, 2, 12, 35, 36, 37, 38, 39, 40, 41, 42, 43, 44, 45, 46, 47, 48, 49, 50, 51, 52, 53, 54, 55, 56, 57, 58, 59, 60, 61, 62, 63] rfl (by decide +kernel)
set_option maxRecDepth 20000 in
theorem gX6_lock_X6_dock : GoodIn wsX6_lock (wsV RX6 153 RX6 yX6_dock wsX6_dock) := goodIn_app (goodIn_of _ (by decide +kernel)) ggX6_lock_X6_dock
theorem dX6_lock_0 : decode cX6_lock 0 = .ok (.aload_n 0, 1) := by decide +kernel
theorem dX6_lock_1 : decode cX6_lock 1 = .ok (.getfield 40, 3) := by decide +kernel
theorem dX6_lock_4 : decode cX6_lock 4 = .ok (.iload_n 1, 1) := by decide +kernel
theorem dX6_lock_5 : decode cX6_lock 5 = .ok (.iaload, 1) := by decide +kernel
theorem dX6_lock_6 : decode cX6_lock 6 = .ok (.iconst 2, 1) := by decide +kernel
theorem dX6_lock_7 : decode cX6_lock 7 = .ok (.if_icmp .eq 5, 3) := by decide +kernel
theorem dX6_lock_10 : decode cX6_lock 10 = .ok (.iconst 0, 1) := by decide +kernel
theorem dX6_lock_11 : decode cX6_lock 11 = .ok (.ireturn, 1) := by decide +kernel
theorem dX6_lock_12 : decode cX6_lock 12 = .ok (.aload_n 0, 1) := by decide +kernel
theorem dX6_lock_13 : decode cX6_lock 13 = .ok (.getfield 43, 3) := by decide +kernel
theorem dX6_lock_16 : decode cX6_lock 16 = .ok (.iload_n 1, 1) := by decide +kernel
theorem dX6_lock_17 : decode cX6_lock 17 = .ok (.iaload, 1) := by decide +kernel
theorem dX6_lock_18 : decode cX6_lock 18 = .ok (.istore 4, 2) := by decide +kernel
theorem dX6_lock_20 : decode cX6_lock 20 = .ok (.aload_n 0, 1) := by decide +kernel
theorem dX6_lock_21 : decode cX6_lock 21 = .ok (.iload_n 2, 1) := by decide +kernel
theorem dX6_lock_22 : decode cX6_lock 22 = .ok (.invokevirtual 145, 3) := by decide +kernel
theorem dX6_lock_25 : decode cX6_lock 25 = .ok (.aload_n 0, 1) := by decide +kernel
theorem dX6_lock_26 : decode cX6_lock 26 = .ok (.iload_n 2, 1) := by decide +kernel
theorem dX6_lock_27 : decode cX6_lock 27 = .ok (.iload 4, 2) := by decide +kernel
theorem dX6_lock_29 : decode cX6_lock 29 = .ok (.iload_n 3, 1) := by decide +kernel
theorem dX6_lock_30 : decode cX6_lock 30 = .ok (.invokevirtual 149, 3) := by decide +kernel
theorem dX6_lock_33 : decode cX6_lock 33 = .ok (.if_icmp .le 7, 3) := by decide +kernel
theorem dX6_lock_36 : decode cX6_lock 36 = .ok (.iconst 1, 1) := by decide +kernel
theorem dX6_lock_37 : decode cX6_lock 37 = .ok (.goto 4, 3) := by decide +kernel
theorem dX6_lock_40 : decode cX6_lock 40 = .ok (.iconst 0, 1) := by decide +kernel
theorem dX6_lock_41 : decode cX6_lock 41 = .ok (.istore 5, 2) := by decide +kernel
theorem dX6_lock_43 : decode cX6_lock 43 = .ok (.aload_n 0, 1) := by decide +kernel
theorem dX6_lock_44 : decode cX6_lock 44 = .ok (.iload 4, 2) := by decide +kernel
theorem dX6_lock_46 : decode cX6_lock 46 = .ok (.iload_n 2, 1) := by decide +kernel
theorem dX6_lock_47 : decode cX6_lock 47 = .ok (.iload_n 3, 1) := by decide +kernel
theorem dX6_lock_48 : decode cX6_lock 48 = .ok (.invokevirtual 135, 3) := by decide +kernel
theorem dX6_lock_51 : decode cX6_lock 51 = .ok (.istore 6, 2) := by decide +kernel
theorem dX6_lock_53 : decode cX6_lock 53 = .ok (.aload_n 0, 1) := by decide +kernel
theorem dX6_lock_54 : decode cX6_lock 54 = .ok (.getfield 73, 3) := by decide +kernel
theorem dX6_lock_57 : decode cX6_lock 57 = .ok (.iload 4, 2) := by decide +kernel
theorem dX6_lock_59 : decode cX6_lock 59 = .ok (.iload 6, 2) := by decide +kernel
theorem dX6_lock_61 : decode cX6_lock 61 = .ok (.ifCond .eq 7, 3) := by decide +kernel
theorem dX6_lock_64 : decode cX6_lock 64 = .ok (.iconst (-1), 1) := by decide +kernel
theorem dX6_lock_65 : decode cX6_lock 65 = .ok (.goto 10, 3) := by decide +kernel
theorem dX6_lock_68 : decode cX6_lock 68 = .ok (.aload_n 0, 1) := by decide +kernel
theorem dX6_lock_69 : decode cX6_lock 69 = .ok (.getfield 73, 3) := by decide +kernel
theorem dX6_lock_72 : decode cX6_lock 72 = .ok (.iload 4, 2) := by decide +kernel
theorem dX6_lock_74 : decode cX6_lock 74 = .ok (.iaload, 1) := by decide +kernel
theorem dX6_lock_75 : decode cX6_lock 75 = .ok (.iastore, 1) := by decide +kernel
theorem dX6_lock_76 : decode cX6_lock 76 = .ok (.iload 5, 2) := by decide +kernel
theorem dX6_lock_78 : decode cX6_lock 78 = .ok (.ifCond .eq 18, 3) := by decide +kernel
theorem dX6_lock_81 : decode cX6_lock 81 = .ok (.aload_n 0, 1) := by decide +kernel
theorem dX6_lock_82 : decode cX6_lock 82 = .ok (.iload_n 1, 1) := by decide +kernel
theorem dX6_lock_83 : decode cX6_lock 83 = .ok (.iload_n 3, 1) := by decide +kernel
theorem dX6_lock_84 : decode cX6_lock 84 = .ok (.invokevirtual 141, 3) := by decide +kernel
theorem dX6_lock_87 : decode cX6_lock 87 = .ok (.aload_n 0, 1) := by decide +kernel
theorem dX6_lock_88 : decode cX6_lock 88 = .ok (.iload_n 1, 1) := by decide +kernel
theorem dX6_lock_89 : decode cX6_lock 89 = .ok (.iload_n 2, 1) := by decide +kernel
theorem dX6_lock_90 : decode cX6_lock 90 = .ok (.invokevirtual 153, 3) := by decide +kernel
theorem dX6_lock_93 : decode cX6_lock 93 = .ok (.goto 35, 3) := by decide +kernel
theorem dX6_lock_96 : decode cX6_lock 96 = .ok (.aload_n 0, 1) := by decide +kernel
theorem dX6_lock_97 : decode cX6_lock 97 = .ok (.getfield 55, 3) := by decide +kernel
theorem dX6_lock_100 : decode cX6_lock 100 = .ok (.iload_n 1, 1) := by decide +kernel
theorem dX6_lock_101 : decode cX6_lock 101 = .ok (.dup2, 1) := by decide +kernel
theorem dX6_lock_102 : decode cX6_lock 102 = .ok (.iaload, 1) := by decide +kernel
theorem dX6_lock_103 : decode cX6_lock 103 = .ok (.bipush 10, 2) := by decide +kernel
theorem dX6_lock_105 : decode cX6_lock 105 = .ok (.iadd, 1) := by decide +kernel
theorem dX6_lock_106 : decode cX6_lock 106 = .ok (.iastore, 1) := by decide +kernel
theorem dX6_lock_107 : decode cX6_lock 107 = .ok (.aload_n 0, 1) := by decide +kernel
theorem dX6_lock_108 : decode cX6_lock 108 = .ok (.getfield 67, 3) := by decide +kernel
theorem dX6_lock_111 : decode cX6_lock 111 = .ok (.iload 4, 2) := by decide +kernel
theorem dX6_lock_113 : decode cX6_lock 113 = .ok (.dup2, 1) := by decide +kernel
theorem dX6_lock_114 : decode cX6_lock 114 = .ok (.iaload, 1) := by decide +kernel
theorem dX6_lock_115 : decode cX6_lock 115 = .ok (.iload 6, 2) := by decide +kernel
theorem dX6_lock_117 : decode cX6_lock 117 = .ok (.ifCond .eq 8, 3) := by decide +kernel
theorem dX6_lock_120 : decode cX6_lock 120 = .ok (.bipush 100, 2) := by decide +kernel
theorem dX6_lock_122 : decode cX6_lock 122 = .ok (.goto 4, 3) := by decide +kernel
theorem dX6_lock_125 : decode cX6_lock 125 = .ok (.iconst 0, 1) := by decide +kernel
theorem dX6_lock_126 : decode cX6_lock 126 = .ok (.iadd, 1) := by decide +kernel
theorem dX6_lock_127 : decode cX6_lock 127 = .ok (.iastore, 1) := by decide +kernel
theorem dX6_lock_128 : decode cX6_lock 128 = .ok (.iload 5, 2) := by decide +kernel
theorem dX6_lock_130 : decode cX6_lock 130 = .ok (.ireturn, 1) := by decide +kernel
set_option maxRecDepth 20000 in
theorem ggX6_putCycle_X6_free : GoodIn wsX6_putCycle wsX6_free := goodIn_r _ [6, 7, 8, 14, 15, 16, 17, 18, 19, 20, 21, 22, 23, 24, 25, 26, 27, 28, 29, 30, 31, 32, 33, 34, 35, 36, 37, 38, 39, 40, 41, 42] rfl (by decide +kernel)
set_option maxRecDepth 20000 in
theorem gX6_putCycle_X6_free : GoodIn wsX6_putCycle (wsV RX6 145 RX6 yX6_free wsX6_free) := goodIn_app (goodIn_of _ (by decide +kernel)) ggX6_putCycle_X6_free
set_option maxRecDepth 20000 in
theorem ggX6_putCycle_X6_dock : GoodIn wsX6_putCycle wsX6_dock := goodIn_r _ [12, 1, 13, 8, 14, 15, 16, 17, 18, 19, 20, 21, 22, 23, 24, 25, 26, 27, 28, 29, 30, 31, 32, 33, 34, 35, 36, 37, 38, 39, 40, 41, 42] rfl (by decide +kernel)
set_option maxRecDepth 20000 in
theorem gX6_putCycle_X6_dock : GoodIn wsX6_putCycle (wsV RX6 153 RX6 yX6_dock wsX6_dock) := goodIn_app (goodIn_of _ (by decide +kernel)) ggX6_putCycle_X6_dock
theorem dX6_putCycle_0 : decode cX6_putCycle 0 = .ok (.aload_n 0, 1) := by decide +kernel
theorem dX6_putCycle_1 : decode cX6_putCycle 1 = .ok (.getfield 40, 3) := by decide +kernel
theorem dX6_putCycle_4 : decode cX6_putCycle 4 = .ok (.iload_n 1, 1) := by decide +kernel
theorem dX6_putCycle_5 : decode cX6_putCycle 5 = .ok (.iaload, 1) := by decide +kernel
theorem dX6_putCycle_6 : decode cX6_putCycle 6 = .ok (.ifCond .eq 13, 3) := by decide +kernel
theorem dX6_putCycle_9 : decode cX6_putCycle 9 = .ok (.aload_n 0, 1) := by decide +kernel
theorem dX6_putCycle_10 : decode cX6_putCycle 10 = .ok (.getfield 40, 3) := by decide +kernel
theorem dX6_putCycle_13 : decode cX6_putCycle 13 = .ok (.iload_n 1, 1) := by decide +kernel
theorem dX6_putCycle_14 : decode cX6_putCycle 14 = .ok (.iaload, 1) := by decide +kernel
theorem dX6_putCycle_15 : decode cX6_putCycle 15 = .ok (.iconst 3, 1) := by decide +kernel
theorem dX6_putCycle_16 : decode cX6_putCycle 16 = .ok (.if_icmp .ne 15, 3) := by decide +kernel
theorem dX6_putCycle_19 : decode cX6_putCycle 19 = .ok (.aload_n 0, 1) := by decide +kernel
theorem dX6_putCycle_20 : decode cX6_putCycle 20 = .ok (.iload_n 2, 1) := by decide +kernel
theorem dX6_putCycle_21 : decode cX6_putCycle 21 = .ok (.invokevirtual 145, 3) := by decide +kernel
theorem dX6_putCycle_24 : decode cX6_putCycle 24 = .ok (.ifCond .le 7, 3) := by decide +kernel
theorem dX6_putCycle_27 : decode cX6_putCycle 27 = .ok (.iconst 1, 1) := by decide +kernel
theorem dX6_putCycle_28 : decode cX6_putCycle 28 = .ok (.goto 4, 3) := by decide +kernel
theorem dX6_putCycle_31 : decode cX6_putCycle 31 = .ok (.iconst 0, 1) := by decide +kernel
theorem dX6_putCycle_32 : decode cX6_putCycle 32 = .ok (.istore_n 3, 1) := by decide +kernel
theorem dX6_putCycle_33 : decode cX6_putCycle 33 = .ok (.iload_n 3, 1) := by decide +kernel
theorem dX6_putCycle_34 : decode cX6_putCycle 34 = .ok (.ifCond .eq 9, 3) := by decide +kernel
theorem dX6_putCycle_37 : decode cX6_putCycle 37 = .ok (.aload_n 0, 1) := by decide +kernel
theorem dX6_putCycle_38 : decode cX6_putCycle 38 = .ok (.iload_n 1, 1) := by decide +kernel
theorem dX6_putCycle_39 : decode cX6_putCycle 39 = .ok (.iload_n 2, 1) := by decide +kernel
theorem dX6_putCycle_40 : decode cX6_putCycle 40 = .ok (.invokevirtual 153, 3) := by decide +kernel
theorem dX6_putCycle_43 : decode cX6_putCycle 43 = .ok (.iload_n 3, 1) := by decide +kernel
theorem dX6_putCycle_44 : decode cX6_putCycle 44 = .ok (.ireturn, 1) := by decide +kernel
theorem dX6_takeCycle_0 : decode cX6_takeCycle 0 = .ok (.aload_n 0, 1) := by decide +kernel
theorem dX6_takeCycle_1 : decode cX6_takeCycle 1 = .ok (.getfield 40, 3) := by decide +kernel
theorem dX6_takeCycle_4 : decode cX6_takeCycle 4 = .ok (.iload_n 1, 1) := by decide +kernel
theorem dX6_takeCycle_5 : decode cX6_takeCycle 5 = .ok (.iaload, 1) := by decide +kernel
theorem dX6_takeCycle_6 : decode cX6_takeCycle 6 = .ok (.iconst 1, 1) := by decide +kernel
theorem dX6_takeCycle_7 : decode cX6_takeCycle 7 = .ok (.if_icmp .ne 7, 3) := by decide +kernel
theorem dX6_takeCycle_10 : decode cX6_takeCycle 10 = .ok (.iconst 1, 1) := by decide +kernel
theorem dX6_takeCycle_11 : decode cX6_takeCycle 11 = .ok (.goto 4, 3) := by decide +kernel
theorem dX6_takeCycle_14 : decode cX6_takeCycle 14 = .ok (.iconst 0, 1) := by decide +kernel
theorem dX6_takeCycle_15 : decode cX6_takeCycle 15 = .ok (.istore_n 2, 1) := by decide +kernel
theorem dX6_takeCycle_16 : decode cX6_takeCycle 16 = .ok (.iload_n 2, 1) := by decide +kernel
theorem dX6_takeCycle_17 : decode cX6_takeCycle 17 = .ok (.ifCond .eq 32, 3) := by decide +kernel
theorem dX6_takeCycle_20 : decode cX6_takeCycle 20 = .ok (.aload_n 0, 1) := by decide +kernel
theorem dX6_takeCycle_21 : decode cX6_takeCycle 21 = .ok (.getfield 34, 3) := by decide +kernel
theorem dX6_takeCycle_24 : decode cX6_takeCycle 24 = .ok (.aload_n 0, 1) := by decide +kernel
theorem dX6_takeCycle_25 : decode cX6_takeCycle 25 = .ok (.getfield 43, 3) := by decide +kernel
theorem dX6_takeCycle_28 : decode cX6_takeCycle 28 = .ok (.iload_n 1, 1) := by decide +kernel
theorem dX6_takeCycle_29 : decode cX6_takeCycle 29 = .ok (.iaload, 1) := by decide +kernel
theorem dX6_takeCycle_30 : decode cX6_takeCycle 30 = .ok (.dup2, 1) := by decide +kernel
theorem dX6_takeCycle_31 : decode cX6_takeCycle 31 = .ok (.iaload, 1) := by decide +kernel
theorem dX6_takeCycle_32 : decode cX6_takeCycle 32 = .ok (.iconst 1, 1) := by decide +kernel
theorem dX6_takeCycle_33 : decode cX6_takeCycle 33 = .ok (.isub, 1) := by decide +kernel
theorem dX6_takeCycle_34 : decode cX6_takeCycle 34 = .ok (.iastore, 1) := by decide +kernel
theorem dX6_takeCycle_35 : decode cX6_takeCycle 35 = .ok (.aload_n 0, 1) := by decide +kernel
theorem dX6_takeCycle_36 : decode cX6_takeCycle 36 = .ok (.getfield 40, 3) := by decide +kernel
theorem dX6_takeCycle_39 : decode cX6_takeCycle 39 = .ok (.iload_n 1, 1) := by decide +kernel
theorem dX6_takeCycle_40 : decode cX6_takeCycle 40 = .ok (.iconst 3, 1) := by decide +kernel
theorem dX6_takeCycle_41 : decode cX6_takeCycle 41 = .ok (.iastore, 1) := by decide +kernel
theorem dX6_takeCycle_42 : decode cX6_takeCycle 42 = .ok (.aload_n 0, 1) := by decide +kernel
theorem dX6_takeCycle_43 : decode cX6_takeCycle 43 = .ok (.getfield 43, 3) := by decide +kernel
theorem dX6_takeCycle_46 : decode cX6_takeCycle 46 = .ok (.iload_n 1, 1) := by decide +kernel
theorem dX6_takeCycle_47 : decode cX6_takeCycle 47 = .ok (.iconst (-1), 1) := by decide +kernel
theorem dX6_takeCycle_48 : decode cX6_takeCycle 48 = .ok (.iastore, 1) := by decide +kernel
theorem dX6_takeCycle_49 : decode cX6_takeCycle 49 = .ok (.iload_n 2, 1) := by decide +kernel
theorem dX6_takeCycle_50 : decode cX6_takeCycle 50 = .ok (.ireturn, 1) := by decide +kernel
set_option maxRecDepth 20000 in
theorem ggX6_promisePlace_X6_free : GoodIn wsX6_promisePlace wsX6_free := goodIn_r _ [7, 8, 9, 18, 19, 20, 21, 22, 23, 24, 25, 26, 27, 28, 29, 30, 31, 32, 33, 34, 35, 36, 37, 38, 39, 40, 41, 42, 43, 44, 45, 46] rfl (by decide +kernel)
set_option maxRecDepth 20000 in
theorem gX6_promisePlace_X6_free : GoodIn wsX6_promisePlace (wsV RX6 145 RX6 yX6_free wsX6_free) := goodIn_app (goodIn_of _ (by decide +kernel)) ggX6_promisePlace_X6_free
set_option maxRecDepth 20000 in
theorem ggX6_promisePlace_X6_promises : GoodIn wsX6_promisePlace wsX6_promises := goodIn_r _ [13, 14, 15, 16, 6, 17, 1, 2, 18, 19, 20, 21, 22, 23, 24, 25, 26, 27, 28, 29, 30, 31, 32, 33, 34, 35, 36, 37, 38, 39, 40, 41, 42, 43, 44, 45, 46] rfl (by decide +kernel)
set_option maxRecDepth 20000 in
theorem gX6_promisePlace_X6_promises : GoodIn wsX6_promisePlace (wsV RX6 149 RX6 yX6_promises wsX6_promises) := goodIn_app (goodIn_of _ (by decide +kernel)) ggX6_promisePlace_X6_promises
theorem dX6_promisePlace_0 : decode cX6_promisePlace 0 = .ok (.aload_n 0, 1) := by decide +kernel
theorem dX6_promisePlace_1 : decode cX6_promisePlace 1 = .ok (.iload_n 2, 1) := by decide +kernel
theorem dX6_promisePlace_2 : decode cX6_promisePlace 2 = .ok (.invokevirtual 145, 3) := by decide +kernel
theorem dX6_promisePlace_5 : decode cX6_promisePlace 5 = .ok (.aload_n 0, 1) := by decide +kernel
theorem dX6_promisePlace_6 : decode cX6_promisePlace 6 = .ok (.iload_n 2, 1) := by decide +kernel
theorem dX6_promisePlace_7 : decode cX6_promisePlace 7 = .ok (.iconst (-1), 1) := by decide +kernel
theorem dX6_promisePlace_8 : decode cX6_promisePlace 8 = .ok (.iload_n 3, 1) := by decide +kernel
theorem dX6_promisePlace_9 : decode cX6_promisePlace 9 = .ok (.invokevirtual 149, 3) := by decide +kernel
theorem dX6_promisePlace_12 : decode cX6_promisePlace 12 = .ok (.if_icmp .le 7, 3) := by decide +kernel
theorem dX6_promisePlace_15 : decode cX6_promisePlace 15 = .ok (.iconst 1, 1) := by decide +kernel
theorem dX6_promisePlace_16 : decode cX6_promisePlace 16 = .ok (.goto 4, 3) := by decide +kernel
theorem dX6_promisePlace_19 : decode cX6_promisePlace 19 = .ok (.iconst 0, 1) := by decide +kernel
theorem dX6_promisePlace_20 : decode cX6_promisePlace 20 = .ok (.istore 4, 2) := by decide +kernel
theorem dX6_promisePlace_22 : decode cX6_promisePlace 22 = .ok (.iload 4, 2) := by decide +kernel
theorem dX6_promisePlace_24 : decode cX6_promisePlace 24 = .ok (.ifCond .eq 17, 3) := by decide +kernel
theorem dX6_promisePlace_27 : decode cX6_promisePlace 27 = .ok (.aload_n 0, 1) := by decide +kernel
theorem dX6_promisePlace_28 : decode cX6_promisePlace 28 = .ok (.getfield 73, 3) := by decide +kernel
theorem dX6_promisePlace_31 : decode cX6_promisePlace 31 = .ok (.iload_n 1, 1) := by decide +kernel
theorem dX6_promisePlace_32 : decode cX6_promisePlace 32 = .ok (.iload_n 2, 1) := by decide +kernel
theorem dX6_promisePlace_33 : decode cX6_promisePlace 33 = .ok (.iastore, 1) := by decide +kernel
theorem dX6_promisePlace_34 : decode cX6_promisePlace 34 = .ok (.aload_n 0, 1) := by decide +kernel
theorem dX6_promisePlace_35 : decode cX6_promisePlace 35 = .ok (.getfield 76, 3) := by decide +kernel
theorem dX6_promisePlace_38 : decode cX6_promisePlace 38 = .ok (.iload_n 1, 1) := by decide +kernel
theorem dX6_promisePlace_39 : decode cX6_promisePlace 39 = .ok (.iload_n 3, 1) := by decide +kernel
theorem dX6_promisePlace_40 : decode cX6_promisePlace 40 = .ok (.iastore, 1) := by decide +kernel
theorem dX6_promisePlace_41 : decode cX6_promisePlace 41 = .ok (.iload 4, 2) := by decide +kernel
theorem dX6_promisePlace_43 : decode cX6_promisePlace 43 = .ok (.ireturn, 1) := by decide +kernel
set_option maxRecDepth 20000 in
theorem ggX6_does_X6_putCycle : GoodIn wsX6_does wsX6_putCycle := goodIn_r _ [13, 7, 14, 15, 16, 12, 17, 4, 18, 19, 20, 21, 22, 23, 66, 67, 68, 69, 70, 71, 72, 73, 74, 75, 76, 77, 78, 79, 80, 81, 82, 83, 84, 85, 86, 87, 88, 89, 90, 91, 92, 93, 94] rfl (by decide +kernel)
set_option maxRecDepth 20000 in
theorem gX6_does_X6_putCycle : GoodIn wsX6_does (wsV RX6 156 RX6 yX6_putCycle wsX6_putCycle) := goodIn_app (goodIn_of _ (by decide +kernel)) ggX6_does_X6_putCycle
set_option maxRecDepth 20000 in
theorem ggX6_does_X6_takeCycle : GoodIn wsX6_does wsX6_takeCycle := goodIn_r _ [27, 7, 18, 23, 66, 67, 68, 69, 70, 71, 72, 73, 74, 75, 76, 77, 78, 79, 80, 81, 82, 83, 84, 85, 86, 87, 88, 89, 90, 91, 92, 93, 94] rfl (by decide +kernel)
set_option maxRecDepth 20000 in
theorem gX6_does_X6_takeCycle : GoodIn wsX6_does (wsV RX6 160 RX6 yX6_takeCycle wsX6_takeCycle) := goodIn_app (goodIn_of _ (by decide +kernel)) ggX6_does_X6_takeCycle
set_option maxRecDepth 20000 in
theorem ggX6_does_X6_unlock : GoodIn wsX6_does wsX6_unlock := goodIn_r _ [31, 7, 23, 18, 32, 33, 8, 34, 35, 36, 37, 38, 12, 39, 6, 40, 41, 42, 43, 44, 45, 46, 66, 67, 68, 69, 70, 71, 72, 73, 74, 75, 76, 77, 78, 79, 80, 81, 82, 83, 84, 85, 86, 87, 88, 89, 90, 91, 92, 93, 94] rfl (by decide +kernel)
set_option maxRecDepth 20000 in
theorem gX6_does_X6_unlock : GoodIn wsX6_does (wsV RX6 163 RX6 yX6_unlock wsX6_unlock) := goodIn_app (goodIn_of _ (by decide +kernel)) ggX6_does_X6_unlock
set_option maxRecDepth 20000 in
theorem ggX6_does_X6_lock : GoodIn wsX6_does wsX6_lock := goodIn_r _ [50, 7, 23, 51, 34, 52, 14, 15, 16, 12, 17, 4, 18, 53, 54, 55, 56, 57, 58, 59, 60, 61, 40, 41, 42, 43, 32, 44, 45, 46, 33, 19, 20, 21, 22, 66, 67, 68, 69, 70, 71, 72, 73, 74, 75, 76, 77, 78, 79, 80, 81, 82, 83, 84, 85, 86, 87, 88, 89, 90, 91, 92, 93, 94] rfl (by decide +kernel)
set_option maxRecDepth 20000 in
theorem gX6_does_X6_lock : GoodIn wsX6_does (wsV RX6 166 RX6 yX6_lock wsX6_lock) := goodIn_app (goodIn_of _ (by decide +kernel)) ggX6_does_X6_lock
set_option maxRecDepth 20000 in
theorem ggX6_does_X6_promisePlace : GoodIn wsX6_does wsX6_promisePlace := goodIn_r _ [65, 51, 61, 14, 15, 16, 12, 17, 4, 18, 53, 54, 55, 56, 57, 58, 59, 60, 66, 67, 68, 69, 70, 71, 72, 73, 74, 75, 76, 77, 78, 79, 80, 81, 82, 83, 84, 85, 86, 87, 88, 89, 90, 91, 92, 93, 94] rfl (by decide +kernel)
set_option maxRecDepth 20000 in
theorem gX6_does_X6_promisePlace : GoodIn wsX6_does (wsV RX6 169 RX6 yX6_promisePlace wsX6_promisePlace) := goodIn_app (goodIn_of _ (by decide +kernel)) ggX6_does_X6_promisePlace
theorem dX6_does_0 : decode cX6_does 0 = .ok (.aload_n 0, 1) := by decide +kernel
theorem dX6_does_1 : decode cX6_does 1 = .ok (.getfield 22, 3) := by decide +kernel
theorem dX6_does_4 : decode cX6_does 4 = .ok (.iload_n 1, 1) := by decide +kernel
theorem dX6_does_5 : decode cX6_does 5 = .ok (.iaload, 1) := by decide +kernel
theorem dX6_does_6 : decode cX6_does 6 = .ok (.istore_n 2, 1) := by decide +kernel
theorem dX6_does_7 : decode cX6_does 7 = .ok (.aload_n 0, 1) := by decide +kernel
theorem dX6_does_8 : decode cX6_does 8 = .ok (.getfield 25, 3) := by decide +kernel
theorem dX6_does_11 : decode cX6_does 11 = .ok (.iload_n 1, 1) := by decide +kernel
theorem dX6_does_12 : decode cX6_does 12 = .ok (.iaload, 1) := by decide +kernel
theorem dX6_does_13 : decode cX6_does 13 = .ok (.istore_n 3, 1) := by decide +kernel
theorem dX6_does_14 : decode cX6_does 14 = .ok (.aload_n 0, 1) := by decide +kernel
theorem dX6_does_15 : decode cX6_does 15 = .ok (.getfield 19, 3) := by decide +kernel
theorem dX6_does_18 : decode cX6_does 18 = .ok (.iload_n 1, 1) := by decide +kernel
theorem dX6_does_19 : decode cX6_does 19 = .ok (.iaload, 1) := by decide +kernel
theorem dX6_does_20 : decode cX6_does 20 = .ok (.tableswitch 159 0 7 #[48, 57, 64, 70, 83, 96, 110, 152], 48) := by decide +kernel
theorem dX6_does_68 : decode cX6_does 68 = .ok (.aload_n 0, 1) := by decide +kernel
theorem dX6_does_69 : decode cX6_does 69 = .ok (.getfield 31, 3) := by decide +kernel
theorem dX6_does_72 : decode cX6_does 72 = .ok (.iload_n 2, 1) := by decide +kernel
theorem dX6_does_73 : decode cX6_does 73 = .ok (.iload_n 3, 1) := by decide +kernel
theorem dX6_does_74 : decode cX6_does 74 = .ok (.iastore, 1) := by decide +kernel
theorem dX6_does_75 : decode cX6_does 75 = .ok (.iconst 1, 1) := by decide +kernel
theorem dX6_does_76 : decode cX6_does 76 = .ok (.ireturn, 1) := by decide +kernel
theorem dX6_does_77 : decode cX6_does 77 = .ok (.aload_n 0, 1) := by decide +kernel
theorem dX6_does_78 : decode cX6_does 78 = .ok (.iload_n 2, 1) := by decide +kernel
theorem dX6_does_79 : decode cX6_does 79 = .ok (.iload_n 3, 1) := by decide +kernel
theorem dX6_does_80 : decode cX6_does 80 = .ok (.invokevirtual 156, 3) := by decide +kernel
theorem dX6_does_83 : decode cX6_does 83 = .ok (.ireturn, 1) := by decide +kernel
theorem dX6_does_84 : decode cX6_does 84 = .ok (.aload_n 0, 1) := by decide +kernel
theorem dX6_does_85 : decode cX6_does 85 = .ok (.iload_n 2, 1) := by decide +kernel
theorem dX6_does_86 : decode cX6_does 86 = .ok (.invokevirtual 160, 3) := by decide +kernel
theorem dX6_does_89 : decode cX6_does 89 = .ok (.ireturn, 1) := by decide +kernel
theorem dX6_does_90 : decode cX6_does 90 = .ok (.aload_n 0, 1) := by decide +kernel
theorem dX6_does_91 : decode cX6_does 91 = .ok (.iload_n 2, 1) := by decide +kernel
theorem dX6_does_92 : decode cX6_does 92 = .ok (.iload_n 3, 1) := by decide +kernel
theorem dX6_does_93 : decode cX6_does 93 = .ok (.aload_n 0, 1) := by decide +kernel
theorem dX6_does_94 : decode cX6_does 94 = .ok (.getfield 28, 3) := by decide +kernel
theorem dX6_does_97 : decode cX6_does 97 = .ok (.iload_n 1, 1) := by decide +kernel
theorem dX6_does_98 : decode cX6_does 98 = .ok (.iaload, 1) := by decide +kernel
theorem dX6_does_99 : decode cX6_does 99 = .ok (.invokevirtual 163, 3) := by decide +kernel
theorem dX6_does_102 : decode cX6_does 102 = .ok (.ireturn, 1) := by decide +kernel
theorem dX6_does_103 : decode cX6_does 103 = .ok (.aload_n 0, 1) := by decide +kernel
theorem dX6_does_104 : decode cX6_does 104 = .ok (.iload_n 2, 1) := by decide +kernel
theorem dX6_does_105 : decode cX6_does 105 = .ok (.iload_n 3, 1) := by decide +kernel
theorem dX6_does_106 : decode cX6_does 106 = .ok (.aload_n 0, 1) := by decide +kernel
theorem dX6_does_107 : decode cX6_does 107 = .ok (.getfield 28, 3) := by decide +kernel
theorem dX6_does_110 : decode cX6_does 110 = .ok (.iload_n 1, 1) := by decide +kernel
theorem dX6_does_111 : decode cX6_does 111 = .ok (.iaload, 1) := by decide +kernel
theorem dX6_does_112 : decode cX6_does 112 = .ok (.invokevirtual 166, 3) := by decide +kernel
theorem dX6_does_115 : decode cX6_does 115 = .ok (.ireturn, 1) := by decide +kernel
theorem dX6_does_116 : decode cX6_does 116 = .ok (.aload_n 0, 1) := by decide +kernel
theorem dX6_does_117 : decode cX6_does 117 = .ok (.getfield 46, 3) := by decide +kernel
theorem dX6_does_120 : decode cX6_does 120 = .ok (.iload_n 2, 1) := by decide +kernel
theorem dX6_does_121 : decode cX6_does 121 = .ok (.dup2, 1) := by decide +kernel
theorem dX6_does_122 : decode cX6_does 122 = .ok (.iaload, 1) := by decide +kernel
theorem dX6_does_123 : decode cX6_does 123 = .ok (.iconst 1, 1) := by decide +kernel
theorem dX6_does_124 : decode cX6_does 124 = .ok (.iload_n 3, 1) := by decide +kernel
theorem dX6_does_125 : decode cX6_does 125 = .ok (.ishl, 1) := by decide +kernel
theorem dX6_does_126 : decode cX6_does 126 = .ok (.ior, 1) := by decide +kernel
theorem dX6_does_127 : decode cX6_does 127 = .ok (.iastore, 1) := by decide +kernel
theorem dX6_does_128 : decode cX6_does 128 = .ok (.iconst 1, 1) := by decide +kernel
theorem dX6_does_129 : decode cX6_does 129 = .ok (.ireturn, 1) := by decide +kernel
theorem dX6_does_130 : decode cX6_does 130 = .ok (.aload_n 0, 1) := by decide +kernel
theorem dX6_does_131 : decode cX6_does 131 = .ok (.getfield 46, 3) := by decide +kernel
theorem dX6_does_134 : decode cX6_does 134 = .ok (.iload_n 2, 1) := by decide +kernel
theorem dX6_does_135 : decode cX6_does 135 = .ok (.aload_n 0, 1) := by decide +kernel
theorem dX6_does_136 : decode cX6_does 136 = .ok (.getfield 40, 3) := by decide +kernel
theorem dX6_does_139 : decode cX6_does 139 = .ok (.iload_n 2, 1) := by decide +kernel
theorem dX6_does_140 : decode cX6_does 140 = .ok (.iaload, 1) := by decide +kernel
theorem dX6_does_141 : decode cX6_does 141 = .ok (.iconst 2, 1) := by decide +kernel
theorem dX6_does_142 : decode cX6_does 142 = .ok (.if_icmp .ne 12, 3) := by decide +kernel
theorem dX6_does_145 : decode cX6_does 145 = .ok (.aload_n 0, 1) := by decide +kernel
theorem dX6_does_146 : decode cX6_does 146 = .ok (.getfield 46, 3) := by decide +kernel
theorem dX6_does_149 : decode cX6_does 149 = .ok (.iload_n 2, 1) := by decide +kernel
theorem dX6_does_150 : decode cX6_does 150 = .ok (.iaload, 1) := by decide +kernel
theorem dX6_does_151 : decode cX6_does 151 = .ok (.goto 4, 3) := by decide +kernel
theorem dX6_does_154 : decode cX6_does 154 = .ok (.iconst 0, 1) := by decide +kernel
theorem dX6_does_155 : decode cX6_does 155 = .ok (.iastore, 1) := by decide +kernel
theorem dX6_does_156 : decode cX6_does 156 = .ok (.aload_n 0, 1) := by decide +kernel
theorem dX6_does_157 : decode cX6_does 157 = .ok (.getfield 40, 3) := by decide +kernel
theorem dX6_does_160 : decode cX6_does 160 = .ok (.iload_n 2, 1) := by decide +kernel
theorem dX6_does_161 : decode cX6_does 161 = .ok (.iaload, 1) := by decide +kernel
theorem dX6_does_162 : decode cX6_does 162 = .ok (.iconst 2, 1) := by decide +kernel
theorem dX6_does_163 : decode cX6_does 163 = .ok (.if_icmp .eq 7, 3) := by decide +kernel
theorem dX6_does_166 : decode cX6_does 166 = .ok (.iconst 1, 1) := by decide +kernel
theorem dX6_does_167 : decode cX6_does 167 = .ok (.goto 4, 3) := by decide +kernel
theorem dX6_does_170 : decode cX6_does 170 = .ok (.iconst 0, 1) := by decide +kernel
theorem dX6_does_171 : decode cX6_does 171 = .ok (.ireturn, 1) := by decide +kernel
theorem dX6_does_172 : decode cX6_does 172 = .ok (.aload_n 0, 1) := by decide +kernel
theorem dX6_does_173 : decode cX6_does 173 = .ok (.iload_n 2, 1) := by decide +kernel
theorem dX6_does_174 : decode cX6_does 174 = .ok (.putfield 129, 3) := by decide +kernel
theorem dX6_does_177 : decode cX6_does 177 = .ok (.iconst 1, 1) := by decide +kernel
theorem dX6_does_178 : decode cX6_does 178 = .ok (.ireturn, 1) := by decide +kernel
theorem dX6_does_179 : decode cX6_does 179 = .ok (.aload_n 0, 1) := by decide +kernel
theorem dX6_does_180 : decode cX6_does 180 = .ok (.iload_n 2, 1) := by decide +kernel
theorem dX6_does_181 : decode cX6_does 181 = .ok (.iload_n 3, 1) := by decide +kernel
theorem dX6_does_182 : decode cX6_does 182 = .ok (.aload_n 0, 1) := by decide +kernel
theorem dX6_does_183 : decode cX6_does 183 = .ok (.getfield 28, 3) := by decide +kernel
theorem dX6_does_186 : decode cX6_does 186 = .ok (.iload_n 1, 1) := by decide +kernel
theorem dX6_does_187 : decode cX6_does 187 = .ok (.iaload, 1) := by decide +kernel
theorem dX6_does_188 : decode cX6_does 188 = .ok (.invokevirtual 169, 3) := by decide +kernel
theorem dX6_does_191 : decode cX6_does 191 = .ok (.ireturn, 1) := by decide +kernel
theorem dX6_stand_0 : decode cX6_stand 0 = .ok (.iconst 0, 1) := by decide +kernel
theorem dX6_stand_1 : decode cX6_stand 1 = .ok (.istore_n 3, 1) := by decide +kernel
theorem dX6_stand_2 : decode cX6_stand 2 = .ok (.iload_n 3, 1) := by decide +kernel
theorem dX6_stand_3 : decode cX6_stand 3 = .ok (.bipush 8, 2) := by decide +kernel
theorem dX6_stand_5 : decode cX6_stand 5 = .ok (.if_icmp .ge 34, 3) := by decide +kernel
theorem dX6_stand_8 : decode cX6_stand 8 = .ok (.aload_n 0, 1) := by decide +kernel
theorem dX6_stand_9 : decode cX6_stand 9 = .ok (.getfield 37, 3) := by decide +kernel
theorem dX6_stand_12 : decode cX6_stand 12 = .ok (.iload_n 3, 1) := by decide +kernel
theorem dX6_stand_13 : decode cX6_stand 13 = .ok (.dup2, 1) := by decide +kernel
theorem dX6_stand_14 : decode cX6_stand 14 = .ok (.iaload, 1) := by decide +kernel
theorem dX6_stand_15 : decode cX6_stand 15 = .ok (.aload_n 0, 1) := by decide +kernel
theorem dX6_stand_16 : decode cX6_stand 16 = .ok (.getfield 34, 3) := by decide +kernel
theorem dX6_stand_19 : decode cX6_stand 19 = .ok (.iload_n 3, 1) := by decide +kernel
theorem dX6_stand_20 : decode cX6_stand 20 = .ok (.iaload, 1) := by decide +kernel
theorem dX6_stand_21 : decode cX6_stand 21 = .ok (.ifCond .ne 9, 3) := by decide +kernel
theorem dX6_stand_24 : decode cX6_stand 24 = .ok (.iload_n 2, 1) := by decide +kernel
theorem dX6_stand_25 : decode cX6_stand 25 = .ok (.iload_n 1, 1) := by decide +kernel
theorem dX6_stand_26 : decode cX6_stand 26 = .ok (.isub, 1) := by decide +kernel
theorem dX6_stand_27 : decode cX6_stand 27 = .ok (.goto 4, 3) := by decide +kernel
theorem dX6_stand_30 : decode cX6_stand 30 = .ok (.iconst 0, 1) := by decide +kernel
theorem dX6_stand_31 : decode cX6_stand 31 = .ok (.iadd, 1) := by decide +kernel
theorem dX6_stand_32 : decode cX6_stand 32 = .ok (.iastore, 1) := by decide +kernel
theorem dX6_stand_33 : decode cX6_stand 33 = .ok (.iinc 3 1, 3) := by decide +kernel
theorem dX6_stand_36 : decode cX6_stand 36 = .ok (.goto (-34), 3) := by decide +kernel
theorem dX6_stand_39 : decode cX6_stand 39 = .ok (.return_, 1) := by decide +kernel
set_option maxRecDepth 20000 in
theorem ggX6_goThrough_X6_begin : GoodIn wsX6_goThrough wsX6_begin := goodIn_r _ [11, 12, 13, 14, 6, 15, 16, 17, 18, 19, 20, 21, 22, 23, 4, 83, 84, 85, 86, 87, 88, 89, 90, 91, 92, 93, 94, 95, 96, 97, 98, 99, 100, 101, 102, 103, 104, 105, 106, 107, 108, 109, 110, 111] rfl (by decide +kernel)
set_option maxRecDepth 20000 in
theorem gX6_goThrough_X6_begin : GoodIn wsX6_goThrough (wsV RX6 172 RX6 yX6_begin wsX6_begin) := goodIn_app (goodIn_of _ (by decide +kernel)) ggX6_goThrough_X6_begin
set_option maxRecDepth 20000 in
theorem ggX6_goThrough_X6_stand : GoodIn wsX6_goThrough wsX6_stand := goodIn_r _ [27, 14, 13, 83, 84, 85, 86, 87, 88, 89, 90, 91, 92, 93, 94, 95, 96, 97, 98, 99, 100, 101, 102, 103, 104, 105, 106, 107, 108, 109, 110, 111] rfl (by decide +kernel)
set_option maxRecDepth 20000 in
theorem gX6_goThrough_X6_stand : GoodIn wsX6_goThrough (wsV RX6 175 RX6 yX6_stand wsX6_stand) := goodIn_app (goodIn_of _ (by decide +kernel)) ggX6_goThrough_X6_stand
set_option maxRecDepth 20000 in
theorem ggX6_goThrough_X6_does : GoodIn wsX6_goThrough wsX6_does := goodIn_r _ [31, 32, 33, 34, 12, 3, 16, 6, 23, 35, 36, 37, 10, 38, 39, 40, 41, 42, 13, 43, 44, 45, 46, 15, 47, 48, 49, 50, 51, 52, 53, 54, 55, 56, 57, 18, 58, 59, 60, 61, 62, 63, 64, 65, 17, 19, 21, 66, 67, 68, 69, 22, 20, 70, 71, 72, 73, 74, 75, 76, 77, 78, 79, 80, 81, 82, 83, 84, 85, 86, 87, 88, 89, 90, 91, 92, 93, 94, 95, 96, 97, 98, 99, 100, 101, 102, 103, 104, 105, 106, 107, 108, 109, 110, 111] rfl (by decide +kernel)
set_option maxRecDepth 20000 in
theorem gX6_goThrough_X6_does : GoodIn wsX6_goThrough (wsV RX6 178 RX6 yX6_does wsX6_does) := goodIn_app (goodIn_of _ (by decide +kernel)) ggX6_goThrough_X6_does
set_option maxRecDepth 20000 in
theorem ggX6_goThrough_X6_ride : GoodIn wsX6_goThrough wsX6_ride := goodIn_r _ [65, 15, 55, 57, 17, 19, 21, 56, 83, 84, 85, 86, 87, 88, 89, 90, 91, 92, 93, 94, 95, 96, 97, 98, 99, 100, 101, 102, 103, 104, 105, 106, 107, 108, 109, 110, 111] rfl (by decide +kernel)
set_option maxRecDepth 20000 in
theorem gX6_goThrough_X6_ride : GoodIn wsX6_goThrough (wsV RX6 141 RX6 yX6_ride wsX6_ride) := goodIn_app (goodIn_of _ (by decide +kernel)) ggX6_goThrough_X6_ride
theorem dX6_goThrough_0 : decode cX6_goThrough 0 = .ok (.aload_n 0, 1) := by decide +kernel
theorem dX6_goThrough_1 : decode cX6_goThrough 1 = .ok (.invokevirtual 172, 3) := by decide +kernel
theorem dX6_goThrough_4 : decode cX6_goThrough 4 = .ok (.iconst 0, 1) := by decide +kernel
theorem dX6_goThrough_5 : decode cX6_goThrough 5 = .ok (.istore_n 1, 1) := by decide +kernel
theorem dX6_goThrough_6 : decode cX6_goThrough 6 = .ok (.aload_n 0, 1) := by decide +kernel
theorem dX6_goThrough_7 : decode cX6_goThrough 7 = .ok (.getfield 104, 3) := by decide +kernel
theorem dX6_goThrough_10 : decode cX6_goThrough 10 = .ok (.istore_n 2, 1) := by decide +kernel
theorem dX6_goThrough_11 : decode cX6_goThrough 11 = .ok (.iconst 0, 1) := by decide +kernel
theorem dX6_goThrough_12 : decode cX6_goThrough 12 = .ok (.istore_n 3, 1) := by decide +kernel
theorem dX6_goThrough_13 : decode cX6_goThrough 13 = .ok (.iload_n 3, 1) := by decide +kernel
theorem dX6_goThrough_14 : decode cX6_goThrough 14 = .ok (.aload_n 0, 1) := by decide +kernel
theorem dX6_goThrough_15 : decode cX6_goThrough 15 = .ok (.getfield 97, 3) := by decide +kernel
theorem dX6_goThrough_18 : decode cX6_goThrough 18 = .ok (.if_icmp .ge 62, 3) := by decide +kernel
theorem dX6_goThrough_21 : decode cX6_goThrough 21 = .ok (.aload_n 0, 1) := by decide +kernel
theorem dX6_goThrough_22 : decode cX6_goThrough 22 = .ok (.iload_n 1, 1) := by decide +kernel
theorem dX6_goThrough_23 : decode cX6_goThrough 23 = .ok (.aload_n 0, 1) := by decide +kernel
theorem dX6_goThrough_24 : decode cX6_goThrough 24 = .ok (.getfield 28, 3) := by decide +kernel
theorem dX6_goThrough_27 : decode cX6_goThrough 27 = .ok (.iload_n 3, 1) := by decide +kernel
theorem dX6_goThrough_28 : decode cX6_goThrough 28 = .ok (.iaload, 1) := by decide +kernel
theorem dX6_goThrough_29 : decode cX6_goThrough 29 = .ok (.invokevirtual 175, 3) := by decide +kernel
theorem dX6_goThrough_32 : decode cX6_goThrough 32 = .ok (.aload_n 0, 1) := by decide +kernel
theorem dX6_goThrough_33 : decode cX6_goThrough 33 = .ok (.getfield 28, 3) := by decide +kernel
theorem dX6_goThrough_36 : decode cX6_goThrough 36 = .ok (.iload_n 3, 1) := by decide +kernel
theorem dX6_goThrough_37 : decode cX6_goThrough 37 = .ok (.iaload, 1) := by decide +kernel
theorem dX6_goThrough_38 : decode cX6_goThrough 38 = .ok (.istore_n 1, 1) := by decide +kernel
theorem dX6_goThrough_39 : decode cX6_goThrough 39 = .ok (.aload_n 0, 1) := by decide +kernel
theorem dX6_goThrough_40 : decode cX6_goThrough 40 = .ok (.iload_n 3, 1) := by decide +kernel
theorem dX6_goThrough_41 : decode cX6_goThrough 41 = .ok (.invokevirtual 178, 3) := by decide +kernel
theorem dX6_goThrough_44 : decode cX6_goThrough 44 = .ok (.ifCond .ne 30, 3) := by decide +kernel
theorem dX6_goThrough_47 : decode cX6_goThrough 47 = .ok (.aload_n 0, 1) := by decide +kernel
theorem dX6_goThrough_48 : decode cX6_goThrough 48 = .ok (.dup, 1) := by decide +kernel
theorem dX6_goThrough_49 : decode cX6_goThrough 49 = .ok (.getfield 132, 3) := by decide +kernel
theorem dX6_goThrough_52 : decode cX6_goThrough 52 = .ok (.iconst 1, 1) := by decide +kernel
theorem dX6_goThrough_53 : decode cX6_goThrough 53 = .ok (.iadd, 1) := by decide +kernel
theorem dX6_goThrough_54 : decode cX6_goThrough 54 = .ok (.putfield 132, 3) := by decide +kernel
theorem dX6_goThrough_57 : decode cX6_goThrough 57 = .ok (.aload_n 0, 1) := by decide +kernel
theorem dX6_goThrough_58 : decode cX6_goThrough 58 = .ok (.iload_n 3, 1) := by decide +kernel
theorem dX6_goThrough_59 : decode cX6_goThrough 59 = .ok (.iload_n 2, 1) := by decide +kernel
theorem dX6_goThrough_60 : decode cX6_goThrough 60 = .ok (.if_icmp .ne 7, 3) := by decide +kernel
theorem dX6_goThrough_63 : decode cX6_goThrough 63 = .ok (.iconst (-1), 1) := by decide +kernel
theorem dX6_goThrough_64 : decode cX6_goThrough 64 = .ok (.goto 7, 3) := by decide +kernel
theorem dX6_goThrough_67 : decode cX6_goThrough 67 = .ok (.aload_n 0, 1) := by decide +kernel
theorem dX6_goThrough_68 : decode cX6_goThrough 68 = .ok (.getfield 104, 3) := by decide +kernel
theorem dX6_goThrough_71 : decode cX6_goThrough 71 = .ok (.putfield 104, 3) := by decide +kernel
theorem dX6_goThrough_74 : decode cX6_goThrough 74 = .ok (.iinc 3 1, 3) := by decide +kernel
theorem dX6_goThrough_77 : decode cX6_goThrough 77 = .ok (.goto (-64), 3) := by decide +kernel
theorem dX6_goThrough_80 : decode cX6_goThrough 80 = .ok (.aload_n 0, 1) := by decide +kernel
theorem dX6_goThrough_81 : decode cX6_goThrough 81 = .ok (.iload_n 1, 1) := by decide +kernel
theorem dX6_goThrough_82 : decode cX6_goThrough 82 = .ok (.aload_n 0, 1) := by decide +kernel
theorem dX6_goThrough_83 : decode cX6_goThrough 83 = .ok (.getfield 94, 3) := by decide +kernel
theorem dX6_goThrough_86 : decode cX6_goThrough 86 = .ok (.invokevirtual 175, 3) := by decide +kernel
theorem dX6_goThrough_89 : decode cX6_goThrough 89 = .ok (.iconst 0, 1) := by decide +kernel
theorem dX6_goThrough_90 : decode cX6_goThrough 90 = .ok (.istore_n 3, 1) := by decide +kernel
theorem dX6_goThrough_91 : decode cX6_goThrough 91 = .ok (.iload_n 3, 1) := by decide +kernel
theorem dX6_goThrough_92 : decode cX6_goThrough 92 = .ok (.bipush 30, 2) := by decide +kernel
theorem dX6_goThrough_94 : decode cX6_goThrough 94 = .ok (.if_icmp .ge 28, 3) := by decide +kernel
theorem dX6_goThrough_97 : decode cX6_goThrough 97 = .ok (.aload_n 0, 1) := by decide +kernel
theorem dX6_goThrough_98 : decode cX6_goThrough 98 = .ok (.getfield 40, 3) := by decide +kernel
theorem dX6_goThrough_101 : decode cX6_goThrough 101 = .ok (.iload_n 3, 1) := by decide +kernel
theorem dX6_goThrough_102 : decode cX6_goThrough 102 = .ok (.iaload, 1) := by decide +kernel
theorem dX6_goThrough_103 : decode cX6_goThrough 103 = .ok (.iconst 2, 1) := by decide +kernel
theorem dX6_goThrough_104 : decode cX6_goThrough 104 = .ok (.if_icmp .ne 12, 3) := by decide +kernel
theorem dX6_goThrough_107 : decode cX6_goThrough 107 = .ok (.aload_n 0, 1) := by decide +kernel
theorem dX6_goThrough_108 : decode cX6_goThrough 108 = .ok (.iload_n 3, 1) := by decide +kernel
theorem dX6_goThrough_109 : decode cX6_goThrough 109 = .ok (.aload_n 0, 1) := by decide +kernel
theorem dX6_goThrough_110 : decode cX6_goThrough 110 = .ok (.getfield 94, 3) := by decide +kernel
theorem dX6_goThrough_113 : decode cX6_goThrough 113 = .ok (.invokevirtual 141, 3) := by decide +kernel
theorem dX6_goThrough_116 : decode cX6_goThrough 116 = .ok (.iinc 3 1, 3) := by decide +kernel
theorem dX6_goThrough_119 : decode cX6_goThrough 119 = .ok (.goto (-28), 3) := by decide +kernel
theorem dX6_goThrough_122 : decode cX6_goThrough 122 = .ok (.return_, 1) := by decide +kernel
set_option maxRecDepth 20000 in
theorem ggX6_cycle_X6_isCycle : GoodIn wsX6_cycle wsX6_isCycle := goodIn_r _ [7, 8, 9, 6, 10] rfl (by decide +kernel)
set_option maxRecDepth 20000 in
theorem gX6_cycle_X6_isCycle : GoodIn wsX6_cycle (va_wsS RX6 110 yX6_isCycle wsX6_isCycle) := goodIn_app (goodIn_of _ (by decide +kernel)) ggX6_cycle_X6_isCycle
set_option maxRecDepth 20000 in
theorem ggX6_cycle_X6_in : GoodIn wsX6_cycle wsX6_in := goodIn_r _ [10] rfl (by decide +kernel)
set_option maxRecDepth 20000 in
theorem gX6_cycle_X6_in : GoodIn wsX6_cycle (va_wsS RX6 83 yX6_in wsX6_in) := goodIn_app (goodIn_of _ (by decide +kernel)) ggX6_cycle_X6_in
set_option maxRecDepth 20000 in
theorem ggX6_cycle_X6_goesWell : GoodIn wsX6_cycle wsX6_goesWell := goodIn_r _ [14, 15, 98, 99, 100, 101, 102, 103, 104, 105, 106, 107, 108, 109, 110, 111, 112, 113, 114, 115, 116, 117, 118, 119, 120, 121, 122, 123, 124, 125, 126] rfl (by decide +kernel)
set_option maxRecDepth 20000 in
theorem gX6_cycle_X6_goesWell : GoodIn wsX6_cycle (wsV RX6 91 RX6 yX6_goesWell wsX6_goesWell) := goodIn_app (goodIn_of _ (by decide +kernel)) ggX6_cycle_X6_goesWell
set_option maxRecDepth 20000 in
theorem ggX6_cycle_X6_goThrough : GoodIn wsX6_cycle wsX6_goThrough := goodIn_r _ [19, 20, 21, 22, 23, 24, 1, 25, 26, 27, 6, 28, 29, 30, 31, 2, 32, 3, 33, 34, 35, 36, 37, 38, 39, 40, 41, 42, 43, 44, 45, 46, 47, 48, 49, 50, 51, 52, 53, 54, 55, 56, 57, 58, 59, 60, 61, 62, 63, 64, 65, 66, 67, 68, 69, 70, 71, 72, 73, 74, 75, 76, 77, 78, 79, 80, 81, 82, 83, 84, 85, 86, 87, 88, 89, 90, 91, 92, 93, 94, 95, 96, 97, 98, 99, 100, 101, 102, 103, 104, 105, 106, 107, 108, 109, 110, 111, 112, 113, 114, 115, 116, 117, 118, 119, 120, 121, 122, 123, 124, 125, 126] rfl (by decide +kernel)
set_option maxRecDepth 20000 in
theorem gX6_cycle_X6_goThrough : GoodIn wsX6_cycle (wsV RX6 107 RX6 yX6_goThrough wsX6_goThrough) := goodIn_app (goodIn_of _ (by decide +kernel)) ggX6_cycle_X6_goThrough
set_option maxRecDepth 20000 in
theorem ggX6_cycle_X6_isBlocked : GoodIn wsX6_cycle wsX6_isBlocked := goodIn_r _ [76, 32, 98, 99, 100, 101, 102, 103, 104, 105, 106, 107, 108, 109, 110, 111, 112, 113, 114, 115, 116, 117, 118, 119, 120, 121, 122, 123, 124, 125, 126] rfl (by decide +kernel)
set_option maxRecDepth 20000 in
theorem gX6_cycle_X6_isBlocked : GoodIn wsX6_cycle (wsV RX6 138 RX6 yX6_isBlocked wsX6_isBlocked) := goodIn_app (goodIn_of _ (by decide +kernel)) ggX6_cycle_X6_isBlocked
theorem dX6_cycle_0 : decode cX6_cycle 0 = .ok (.iload_n 1, 1) := by decide +kernel
theorem dX6_cycle_1 : decode cX6_cycle 1 = .ok (.invokestatic 110, 3) := by decide +kernel
theorem dX6_cycle_4 : decode cX6_cycle 4 = .ok (.istore_n 3, 1) := by decide +kernel
theorem dX6_cycle_5 : decode cX6_cycle 5 = .ok (.aload_n 0, 1) := by decide +kernel
theorem dX6_cycle_6 : decode cX6_cycle 6 = .ok (.iload_n 3, 1) := by decide +kernel
theorem dX6_cycle_7 : decode cX6_cycle 7 = .ok (.ifCond .ne 7, 3) := by decide +kernel
theorem dX6_cycle_10 : decode cX6_cycle 10 = .ok (.iconst 1, 1) := by decide +kernel
theorem dX6_cycle_11 : decode cX6_cycle 11 = .ok (.goto 17, 3) := by decide +kernel
theorem dX6_cycle_14 : decode cX6_cycle 14 = .ok (.iload_n 2, 1) := by decide +kernel
theorem dX6_cycle_15 : decode cX6_cycle 15 = .ok (.iconst 0, 1) := by decide +kernel
theorem dX6_cycle_16 : decode cX6_cycle 16 = .ok (.iconst 3, 1) := by decide +kernel
theorem dX6_cycle_17 : decode cX6_cycle 17 = .ok (.invokestatic 83, 3) := by decide +kernel
theorem dX6_cycle_20 : decode cX6_cycle 20 = .ok (.ifCond .eq 7, 3) := by decide +kernel
theorem dX6_cycle_23 : decode cX6_cycle 23 = .ok (.iconst 0, 1) := by decide +kernel
theorem dX6_cycle_24 : decode cX6_cycle 24 = .ok (.goto 4, 3) := by decide +kernel
theorem dX6_cycle_27 : decode cX6_cycle 27 = .ok (.iconst 2, 1) := by decide +kernel
theorem dX6_cycle_28 : decode cX6_cycle 28 = .ok (.invokevirtual 91, 3) := by decide +kernel
theorem dX6_cycle_31 : decode cX6_cycle 31 = .ok (.ifCond .ne 5, 3) := by decide +kernel
theorem dX6_cycle_34 : decode cX6_cycle 34 = .ok (.iconst 0, 1) := by decide +kernel
theorem dX6_cycle_35 : decode cX6_cycle 35 = .ok (.ireturn, 1) := by decide +kernel
theorem dX6_cycle_36 : decode cX6_cycle 36 = .ok (.aload_n 0, 1) := by decide +kernel
theorem dX6_cycle_37 : decode cX6_cycle 37 = .ok (.invokevirtual 107, 3) := by decide +kernel
theorem dX6_cycle_40 : decode cX6_cycle 40 = .ok (.iload_n 2, 1) := by decide +kernel
theorem dX6_cycle_41 : decode cX6_cycle 41 = .ok (.ifCond .ne 12, 3) := by decide +kernel
theorem dX6_cycle_44 : decode cX6_cycle 44 = .ok (.aload_n 0, 1) := by decide +kernel
theorem dX6_cycle_45 : decode cX6_cycle 45 = .ok (.getfield 40, 3) := by decide +kernel
theorem dX6_cycle_48 : decode cX6_cycle 48 = .ok (.iload_n 1, 1) := by decide +kernel
theorem dX6_cycle_49 : decode cX6_cycle 49 = .ok (.iaload, 1) := by decide +kernel
theorem dX6_cycle_50 : decode cX6_cycle 50 = .ok (.goto 44, 3) := by decide +kernel
theorem dX6_cycle_53 : decode cX6_cycle 53 = .ok (.iload_n 2, 1) := by decide +kernel
theorem dX6_cycle_54 : decode cX6_cycle 54 = .ok (.iconst 1, 1) := by decide +kernel
theorem dX6_cycle_55 : decode cX6_cycle 55 = .ok (.if_icmp .ne 12, 3) := by decide +kernel
theorem dX6_cycle_58 : decode cX6_cycle 58 = .ok (.aload_n 0, 1) := by decide +kernel
theorem dX6_cycle_59 : decode cX6_cycle 59 = .ok (.getfield 43, 3) := by decide +kernel
theorem dX6_cycle_62 : decode cX6_cycle 62 = .ok (.iload_n 1, 1) := by decide +kernel
theorem dX6_cycle_63 : decode cX6_cycle 63 = .ok (.iaload, 1) := by decide +kernel
theorem dX6_cycle_64 : decode cX6_cycle 64 = .ok (.goto 30, 3) := by decide +kernel
theorem dX6_cycle_67 : decode cX6_cycle 67 = .ok (.iload_n 2, 1) := by decide +kernel
theorem dX6_cycle_68 : decode cX6_cycle 68 = .ok (.iconst 2, 1) := by decide +kernel
theorem dX6_cycle_69 : decode cX6_cycle 69 = .ok (.if_icmp .ne 19, 3) := by decide +kernel
theorem dX6_cycle_72 : decode cX6_cycle 72 = .ok (.aload_n 0, 1) := by decide +kernel
theorem dX6_cycle_73 : decode cX6_cycle 73 = .ok (.iload_n 1, 1) := by decide +kernel
theorem dX6_cycle_74 : decode cX6_cycle 74 = .ok (.invokevirtual 138, 3) := by decide +kernel
theorem dX6_cycle_77 : decode cX6_cycle 77 = .ok (.ifCond .eq 7, 3) := by decide +kernel
theorem dX6_cycle_80 : decode cX6_cycle 80 = .ok (.iconst 1, 1) := by decide +kernel
theorem dX6_cycle_81 : decode cX6_cycle 81 = .ok (.goto 13, 3) := by decide +kernel
theorem dX6_cycle_84 : decode cX6_cycle 84 = .ok (.iconst 0, 1) := by decide +kernel
theorem dX6_cycle_85 : decode cX6_cycle 85 = .ok (.goto 9, 3) := by decide +kernel
theorem dX6_cycle_88 : decode cX6_cycle 88 = .ok (.aload_n 0, 1) := by decide +kernel
theorem dX6_cycle_89 : decode cX6_cycle 89 = .ok (.getfield 58, 3) := by decide +kernel
theorem dX6_cycle_92 : decode cX6_cycle 92 = .ok (.iload_n 1, 1) := by decide +kernel
theorem dX6_cycle_93 : decode cX6_cycle 93 = .ok (.iaload, 1) := by decide +kernel
theorem dX6_cycle_94 : decode cX6_cycle 94 = .ok (.ireturn, 1) := by decide +kernel
set_option maxRecDepth 20000 in
theorem ggX6_station_X6_isStation : GoodIn wsX6_station wsX6_isStation := goodIn_r _ [8, 9, 10, 7, 11] rfl (by decide +kernel)
set_option maxRecDepth 20000 in
theorem gX6_station_X6_isStation : GoodIn wsX6_station (va_wsS RX6 87 yX6_isStation wsX6_isStation) := goodIn_app (goodIn_of _ (by decide +kernel)) ggX6_station_X6_isStation
set_option maxRecDepth 20000 in
theorem ggX6_station_X6_in : GoodIn wsX6_station wsX6_in := goodIn_r _ [11] rfl (by decide +kernel)
set_option maxRecDepth 20000 in
theorem gX6_station_X6_in : GoodIn wsX6_station (va_wsS RX6 83 yX6_in wsX6_in) := goodIn_app (goodIn_of _ (by decide +kernel)) ggX6_station_X6_in
set_option maxRecDepth 20000 in
theorem ggX6_station_X6_goesWell : GoodIn wsX6_station wsX6_goesWell := goodIn_r _ [15, 16, 98, 99, 100, 101, 102, 103, 104, 105, 106, 107, 108, 109, 110, 111, 112, 113, 114, 115, 116, 117, 118, 119, 120, 121, 122, 123, 124, 125, 126] rfl (by decide +kernel)
set_option maxRecDepth 20000 in
theorem gX6_station_X6_goesWell : GoodIn wsX6_station (wsV RX6 91 RX6 yX6_goesWell wsX6_goesWell) := goodIn_app (goodIn_of _ (by decide +kernel)) ggX6_station_X6_goesWell
set_option maxRecDepth 20000 in
theorem ggX6_station_X6_goThrough : GoodIn wsX6_station wsX6_goThrough := goodIn_r _ [20, 21, 22, 23, 24, 3, 25, 26, 27, 28, 7, 29, 1, 2, 4, 30, 31, 32, 33, 34, 35, 36, 37, 38, 39, 40, 41, 42, 43, 44, 45, 46, 47, 48, 49, 50, 51, 52, 53, 54, 55, 56, 57, 58, 59, 60, 61, 62, 63, 64, 65, 66, 67, 68, 69, 70, 71, 72, 73, 74, 75, 76, 77, 78, 79, 80, 81, 82, 83, 84, 85, 86, 87, 88, 89, 90, 91, 92, 93, 94, 95, 96, 97, 98, 99, 100, 101, 102, 103, 104, 105, 106, 107, 108, 109, 110, 111, 112, 113, 114, 115, 116, 117, 118, 119, 120, 121, 122, 123, 124, 125, 126] rfl (by decide +kernel)
set_option maxRecDepth 20000 in
theorem gX6_station_X6_goThrough : GoodIn wsX6_station (wsV RX6 107 RX6 yX6_goThrough wsX6_goThrough) := goodIn_app (goodIn_of _ (by decide +kernel)) ggX6_station_X6_goThrough
set_option maxRecDepth 20000 in
theorem ggX6_station_X6_free : GoodIn wsX6_station wsX6_free := goodIn_r _ [57, 1, 2, 98, 99, 100, 101, 102, 103, 104, 105, 106, 107, 108, 109, 110, 111, 112, 113, 114, 115, 116, 117, 118, 119, 120, 121, 122, 123, 124, 125, 126] rfl (by decide +kernel)
set_option maxRecDepth 20000 in
theorem gX6_station_X6_free : GoodIn wsX6_station (wsV RX6 145 RX6 yX6_free wsX6_free) := goodIn_app (goodIn_of _ (by decide +kernel)) ggX6_station_X6_free
set_option maxRecDepth 20000 in
theorem ggX6_station_X6_promises : GoodIn wsX6_station wsX6_promises := goodIn_r _ [88, 89, 90, 91, 7, 92, 37, 93, 98, 99, 100, 101, 102, 103, 104, 105, 106, 107, 108, 109, 110, 111, 112, 113, 114, 115, 116, 117, 118, 119, 120, 121, 122, 123, 124, 125, 126] rfl (by decide +kernel)
set_option maxRecDepth 20000 in
theorem gX6_station_X6_promises : GoodIn wsX6_station (wsV RX6 149 RX6 yX6_promises wsX6_promises) := goodIn_app (goodIn_of _ (by decide +kernel)) ggX6_station_X6_promises
theorem dX6_station_0 : decode cX6_station 0 = .ok (.iload_n 1, 1) := by decide +kernel
theorem dX6_station_1 : decode cX6_station 1 = .ok (.invokestatic 87, 3) := by decide +kernel
theorem dX6_station_4 : decode cX6_station 4 = .ok (.istore_n 3, 1) := by decide +kernel
theorem dX6_station_5 : decode cX6_station 5 = .ok (.aload_n 0, 1) := by decide +kernel
theorem dX6_station_6 : decode cX6_station 6 = .ok (.iload_n 3, 1) := by decide +kernel
theorem dX6_station_7 : decode cX6_station 7 = .ok (.ifCond .ne 7, 3) := by decide +kernel
theorem dX6_station_10 : decode cX6_station 10 = .ok (.iconst 1, 1) := by decide +kernel
theorem dX6_station_11 : decode cX6_station 11 = .ok (.goto 17, 3) := by decide +kernel
theorem dX6_station_14 : decode cX6_station 14 = .ok (.iload_n 2, 1) := by decide +kernel
theorem dX6_station_15 : decode cX6_station 15 = .ok (.iconst 0, 1) := by decide +kernel
theorem dX6_station_16 : decode cX6_station 16 = .ok (.iconst 4, 1) := by decide +kernel
theorem dX6_station_17 : decode cX6_station 17 = .ok (.invokestatic 83, 3) := by decide +kernel
theorem dX6_station_20 : decode cX6_station 20 = .ok (.ifCond .eq 7, 3) := by decide +kernel
theorem dX6_station_23 : decode cX6_station 23 = .ok (.iconst 0, 1) := by decide +kernel
theorem dX6_station_24 : decode cX6_station 24 = .ok (.goto 4, 3) := by decide +kernel
theorem dX6_station_27 : decode cX6_station 27 = .ok (.iconst 2, 1) := by decide +kernel
theorem dX6_station_28 : decode cX6_station 28 = .ok (.invokevirtual 91, 3) := by decide +kernel
theorem dX6_station_31 : decode cX6_station 31 = .ok (.ifCond .ne 5, 3) := by decide +kernel
theorem dX6_station_34 : decode cX6_station 34 = .ok (.iconst 0, 1) := by decide +kernel
theorem dX6_station_35 : decode cX6_station 35 = .ok (.ireturn, 1) := by decide +kernel
theorem dX6_station_36 : decode cX6_station 36 = .ok (.aload_n 0, 1) := by decide +kernel
theorem dX6_station_37 : decode cX6_station 37 = .ok (.invokevirtual 107, 3) := by decide +kernel
theorem dX6_station_40 : decode cX6_station 40 = .ok (.iload_n 2, 1) := by decide +kernel
theorem dX6_station_41 : decode cX6_station 41 = .ok (.ifCond .ne 12, 3) := by decide +kernel
theorem dX6_station_44 : decode cX6_station 44 = .ok (.aload_n 0, 1) := by decide +kernel
theorem dX6_station_45 : decode cX6_station 45 = .ok (.getfield 31, 3) := by decide +kernel
theorem dX6_station_48 : decode cX6_station 48 = .ok (.iload_n 1, 1) := by decide +kernel
theorem dX6_station_49 : decode cX6_station 49 = .ok (.iaload, 1) := by decide +kernel
theorem dX6_station_50 : decode cX6_station 50 = .ok (.goto 54, 3) := by decide +kernel
theorem dX6_station_53 : decode cX6_station 53 = .ok (.iload_n 2, 1) := by decide +kernel
theorem dX6_station_54 : decode cX6_station 54 = .ok (.iconst 1, 1) := by decide +kernel
theorem dX6_station_55 : decode cX6_station 55 = .ok (.if_icmp .ne 12, 3) := by decide +kernel
theorem dX6_station_58 : decode cX6_station 58 = .ok (.aload_n 0, 1) := by decide +kernel
theorem dX6_station_59 : decode cX6_station 59 = .ok (.getfield 34, 3) := by decide +kernel
theorem dX6_station_62 : decode cX6_station 62 = .ok (.iload_n 1, 1) := by decide +kernel
theorem dX6_station_63 : decode cX6_station 63 = .ok (.iaload, 1) := by decide +kernel
theorem dX6_station_64 : decode cX6_station 64 = .ok (.goto 40, 3) := by decide +kernel
theorem dX6_station_67 : decode cX6_station 67 = .ok (.iload_n 2, 1) := by decide +kernel
theorem dX6_station_68 : decode cX6_station 68 = .ok (.iconst 2, 1) := by decide +kernel
theorem dX6_station_69 : decode cX6_station 69 = .ok (.if_icmp .ne 11, 3) := by decide +kernel
theorem dX6_station_72 : decode cX6_station 72 = .ok (.aload_n 0, 1) := by decide +kernel
theorem dX6_station_73 : decode cX6_station 73 = .ok (.iload_n 1, 1) := by decide +kernel
theorem dX6_station_74 : decode cX6_station 74 = .ok (.invokevirtual 145, 3) := by decide +kernel
theorem dX6_station_77 : decode cX6_station 77 = .ok (.goto 27, 3) := by decide +kernel
theorem dX6_station_80 : decode cX6_station 80 = .ok (.iload_n 2, 1) := by decide +kernel
theorem dX6_station_81 : decode cX6_station 81 = .ok (.iconst 3, 1) := by decide +kernel
theorem dX6_station_82 : decode cX6_station 82 = .ok (.if_icmp .ne 16, 3) := by decide +kernel
theorem dX6_station_85 : decode cX6_station 85 = .ok (.aload_n 0, 1) := by decide +kernel
theorem dX6_station_86 : decode cX6_station 86 = .ok (.iload_n 1, 1) := by decide +kernel
theorem dX6_station_87 : decode cX6_station 87 = .ok (.iconst (-1), 1) := by decide +kernel
theorem dX6_station_88 : decode cX6_station 88 = .ok (.aload_n 0, 1) := by decide +kernel
theorem dX6_station_89 : decode cX6_station 89 = .ok (.getfield 94, 3) := by decide +kernel
theorem dX6_station_92 : decode cX6_station 92 = .ok (.invokevirtual 149, 3) := by decide +kernel
theorem dX6_station_95 : decode cX6_station 95 = .ok (.goto 9, 3) := by decide +kernel
theorem dX6_station_98 : decode cX6_station 98 = .ok (.aload_n 0, 1) := by decide +kernel
theorem dX6_station_99 : decode cX6_station 99 = .ok (.getfield 37, 3) := by decide +kernel
theorem dX6_station_102 : decode cX6_station 102 = .ok (.iload_n 1, 1) := by decide +kernel
theorem dX6_station_103 : decode cX6_station 103 = .ok (.iaload, 1) := by decide +kernel
theorem dX6_station_104 : decode cX6_station 104 = .ok (.ireturn, 1) := by decide +kernel
set_option maxRecDepth 20000 in
theorem ggX6_rider_X6_isRider : GoodIn wsX6_rider wsX6_isRider := goodIn_r _ [11, 12, 13, 10, 14] rfl (by decide +kernel)
set_option maxRecDepth 20000 in
theorem gX6_rider_X6_isRider : GoodIn wsX6_rider (va_wsS RX6 120 yX6_isRider wsX6_isRider) := goodIn_app (goodIn_of _ (by decide +kernel)) ggX6_rider_X6_isRider
set_option maxRecDepth 20000 in
theorem ggX6_rider_X6_in : GoodIn wsX6_rider wsX6_in := goodIn_r _ [14] rfl (by decide +kernel)
set_option maxRecDepth 20000 in
theorem gX6_rider_X6_in : GoodIn wsX6_rider (va_wsS RX6 83 yX6_in wsX6_in) := goodIn_app (goodIn_of _ (by decide +kernel)) ggX6_rider_X6_in
set_option maxRecDepth 20000 in
theorem ggX6_rider_X6_goesWell : GoodIn wsX6_rider wsX6_goesWell := goodIn_r _ [18, 19, 98, 99, 100, 101, 102, 103, 104, 105, 106, 107, 108, 109, 110, 111, 112, 113, 114, 115, 116, 117, 118, 119, 120, 121, 122, 123, 124, 125, 126] rfl (by decide +kernel)
set_option maxRecDepth 20000 in
theorem gX6_rider_X6_goesWell : GoodIn wsX6_rider (wsV RX6 91 RX6 yX6_goesWell wsX6_goesWell) := goodIn_app (goodIn_of _ (by decide +kernel)) ggX6_rider_X6_goesWell
set_option maxRecDepth 20000 in
theorem ggX6_rider_X6_goThrough : GoodIn wsX6_rider wsX6_goThrough := goodIn_r _ [23, 24, 25, 26, 27, 2, 28, 29, 30, 31, 10, 32, 33, 34, 35, 36, 37, 38, 4, 5, 6, 7, 1, 39, 40, 41, 42, 43, 44, 45, 46, 47, 48, 49, 50, 51, 52, 53, 54, 55, 56, 57, 58, 59, 60, 61, 62, 63, 64, 65, 66, 67, 68, 69, 70, 71, 72, 73, 74, 75, 76, 77, 78, 79, 80, 81, 82, 83, 84, 85, 86, 87, 88, 89, 90, 91, 92, 93, 3, 94, 95, 96, 97, 98, 99, 100, 101, 102, 103, 104, 105, 106, 107, 108, 109, 110, 111, 112, 113, 114, 115, 116, 117, 118, 119, 120, 121, 122, 123, 124, 125, 126] rfl (by decide +kernel)
set_option maxRecDepth 20000 in
theorem gX6_rider_X6_goThrough : GoodIn wsX6_rider (wsV RX6 107 RX6 yX6_goThrough wsX6_goThrough) := goodIn_app (goodIn_of _ (by decide +kernel)) ggX6_rider_X6_goThrough
theorem dX6_rider_0 : decode cX6_rider 0 = .ok (.iload_n 1, 1) := by decide +kernel
theorem dX6_rider_1 : decode cX6_rider 1 = .ok (.invokestatic 120, 3) := by decide +kernel
theorem dX6_rider_4 : decode cX6_rider 4 = .ok (.istore_n 3, 1) := by decide +kernel
theorem dX6_rider_5 : decode cX6_rider 5 = .ok (.aload_n 0, 1) := by decide +kernel
theorem dX6_rider_6 : decode cX6_rider 6 = .ok (.iload_n 3, 1) := by decide +kernel
theorem dX6_rider_7 : decode cX6_rider 7 = .ok (.ifCond .ne 7, 3) := by decide +kernel
theorem dX6_rider_10 : decode cX6_rider 10 = .ok (.iconst 1, 1) := by decide +kernel
theorem dX6_rider_11 : decode cX6_rider 11 = .ok (.goto 17, 3) := by decide +kernel
theorem dX6_rider_14 : decode cX6_rider 14 = .ok (.iload_n 2, 1) := by decide +kernel
theorem dX6_rider_15 : decode cX6_rider 15 = .ok (.iconst 0, 1) := by decide +kernel
theorem dX6_rider_16 : decode cX6_rider 16 = .ok (.iconst 4, 1) := by decide +kernel
theorem dX6_rider_17 : decode cX6_rider 17 = .ok (.invokestatic 83, 3) := by decide +kernel
theorem dX6_rider_20 : decode cX6_rider 20 = .ok (.ifCond .eq 7, 3) := by decide +kernel
theorem dX6_rider_23 : decode cX6_rider 23 = .ok (.iconst 0, 1) := by decide +kernel
theorem dX6_rider_24 : decode cX6_rider 24 = .ok (.goto 4, 3) := by decide +kernel
theorem dX6_rider_27 : decode cX6_rider 27 = .ok (.iconst 2, 1) := by decide +kernel
theorem dX6_rider_28 : decode cX6_rider 28 = .ok (.invokevirtual 91, 3) := by decide +kernel
theorem dX6_rider_31 : decode cX6_rider 31 = .ok (.ifCond .ne 5, 3) := by decide +kernel
theorem dX6_rider_34 : decode cX6_rider 34 = .ok (.iconst 0, 1) := by decide +kernel
theorem dX6_rider_35 : decode cX6_rider 35 = .ok (.ireturn, 1) := by decide +kernel
theorem dX6_rider_36 : decode cX6_rider 36 = .ok (.aload_n 0, 1) := by decide +kernel
theorem dX6_rider_37 : decode cX6_rider 37 = .ok (.invokevirtual 107, 3) := by decide +kernel
theorem dX6_rider_40 : decode cX6_rider 40 = .ok (.aload_n 0, 1) := by decide +kernel
theorem dX6_rider_41 : decode cX6_rider 41 = .ok (.getfield 73, 3) := by decide +kernel
theorem dX6_rider_44 : decode cX6_rider 44 = .ok (.iload_n 1, 1) := by decide +kernel
theorem dX6_rider_45 : decode cX6_rider 45 = .ok (.iaload, 1) := by decide +kernel
theorem dX6_rider_46 : decode cX6_rider 46 = .ok (.iconst (-1), 1) := by decide +kernel
theorem dX6_rider_47 : decode cX6_rider 47 = .ok (.if_icmp .eq 28, 3) := by decide +kernel
theorem dX6_rider_50 : decode cX6_rider 50 = .ok (.aload_n 0, 1) := by decide +kernel
theorem dX6_rider_51 : decode cX6_rider 51 = .ok (.getfield 94, 3) := by decide +kernel
theorem dX6_rider_54 : decode cX6_rider 54 = .ok (.aload_n 0, 1) := by decide +kernel
theorem dX6_rider_55 : decode cX6_rider 55 = .ok (.getfield 76, 3) := by decide +kernel
theorem dX6_rider_58 : decode cX6_rider 58 = .ok (.iload_n 1, 1) := by decide +kernel
theorem dX6_rider_59 : decode cX6_rider 59 = .ok (.iaload, 1) := by decide +kernel
theorem dX6_rider_60 : decode cX6_rider 60 = .ok (.isub, 1) := by decide +kernel
theorem dX6_rider_61 : decode cX6_rider 61 = .ok (.bipush 15, 2) := by decide +kernel
theorem dX6_rider_63 : decode cX6_rider 63 = .ok (.if_icmp .ge 12, 3) := by decide +kernel
theorem dX6_rider_66 : decode cX6_rider 66 = .ok (.aload_n 0, 1) := by decide +kernel
theorem dX6_rider_67 : decode cX6_rider 67 = .ok (.getfield 73, 3) := by decide +kernel
theorem dX6_rider_70 : decode cX6_rider 70 = .ok (.iload_n 1, 1) := by decide +kernel
theorem dX6_rider_71 : decode cX6_rider 71 = .ok (.iaload, 1) := by decide +kernel
theorem dX6_rider_72 : decode cX6_rider 72 = .ok (.goto 4, 3) := by decide +kernel
theorem dX6_rider_75 : decode cX6_rider 75 = .ok (.iconst (-1), 1) := by decide +kernel
theorem dX6_rider_76 : decode cX6_rider 76 = .ok (.istore 4, 2) := by decide +kernel
theorem dX6_rider_78 : decode cX6_rider 78 = .ok (.iload_n 2, 1) := by decide +kernel
theorem dX6_rider_79 : decode cX6_rider 79 = .ok (.ifCond .ne 12, 3) := by decide +kernel
theorem dX6_rider_82 : decode cX6_rider 82 = .ok (.aload_n 0, 1) := by decide +kernel
theorem dX6_rider_83 : decode cX6_rider 83 = .ok (.getfield 61, 3) := by decide +kernel
theorem dX6_rider_86 : decode cX6_rider 86 = .ok (.iload_n 1, 1) := by decide +kernel
theorem dX6_rider_87 : decode cX6_rider 87 = .ok (.iaload, 1) := by decide +kernel
theorem dX6_rider_88 : decode cX6_rider 88 = .ok (.goto 54, 3) := by decide +kernel
theorem dX6_rider_91 : decode cX6_rider 91 = .ok (.iload_n 2, 1) := by decide +kernel
theorem dX6_rider_92 : decode cX6_rider 92 = .ok (.iconst 1, 1) := by decide +kernel
theorem dX6_rider_93 : decode cX6_rider 93 = .ok (.if_icmp .ne 12, 3) := by decide +kernel
theorem dX6_rider_96 : decode cX6_rider 96 = .ok (.aload_n 0, 1) := by decide +kernel
theorem dX6_rider_97 : decode cX6_rider 97 = .ok (.getfield 64, 3) := by decide +kernel
theorem dX6_rider_100 : decode cX6_rider 100 = .ok (.iload_n 1, 1) := by decide +kernel
theorem dX6_rider_101 : decode cX6_rider 101 = .ok (.iaload, 1) := by decide +kernel
theorem dX6_rider_102 : decode cX6_rider 102 = .ok (.goto 40, 3) := by decide +kernel
theorem dX6_rider_105 : decode cX6_rider 105 = .ok (.iload_n 2, 1) := by decide +kernel
theorem dX6_rider_106 : decode cX6_rider 106 = .ok (.iconst 2, 1) := by decide +kernel
theorem dX6_rider_107 : decode cX6_rider 107 = .ok (.if_icmp .ne 12, 3) := by decide +kernel
theorem dX6_rider_110 : decode cX6_rider 110 = .ok (.aload_n 0, 1) := by decide +kernel
theorem dX6_rider_111 : decode cX6_rider 111 = .ok (.getfield 67, 3) := by decide +kernel
theorem dX6_rider_114 : decode cX6_rider 114 = .ok (.iload_n 1, 1) := by decide +kernel
theorem dX6_rider_115 : decode cX6_rider 115 = .ok (.iaload, 1) := by decide +kernel
theorem dX6_rider_116 : decode cX6_rider 116 = .ok (.goto 26, 3) := by decide +kernel
theorem dX6_rider_119 : decode cX6_rider 119 = .ok (.iload_n 2, 1) := by decide +kernel
theorem dX6_rider_120 : decode cX6_rider 120 = .ok (.iconst 3, 1) := by decide +kernel
theorem dX6_rider_121 : decode cX6_rider 121 = .ok (.if_icmp .ne 19, 3) := by decide +kernel
theorem dX6_rider_124 : decode cX6_rider 124 = .ok (.aload_n 0, 1) := by decide +kernel
theorem dX6_rider_125 : decode cX6_rider 125 = .ok (.getfield 70, 3) := by decide +kernel
theorem dX6_rider_128 : decode cX6_rider 128 = .ok (.iload_n 1, 1) := by decide +kernel
theorem dX6_rider_129 : decode cX6_rider 129 = .ok (.iaload, 1) := by decide +kernel
theorem dX6_rider_130 : decode cX6_rider 130 = .ok (.aload_n 0, 1) := by decide +kernel
theorem dX6_rider_131 : decode cX6_rider 131 = .ok (.getfield 67, 3) := by decide +kernel
theorem dX6_rider_134 : decode cX6_rider 134 = .ok (.iload_n 1, 1) := by decide +kernel
theorem dX6_rider_135 : decode cX6_rider 135 = .ok (.iaload, 1) := by decide +kernel
theorem dX6_rider_136 : decode cX6_rider 136 = .ok (.isub, 1) := by decide +kernel
theorem dX6_rider_137 : decode cX6_rider 137 = .ok (.goto 5, 3) := by decide +kernel
theorem dX6_rider_140 : decode cX6_rider 140 = .ok (.iload 4, 2) := by decide +kernel
theorem dX6_rider_142 : decode cX6_rider 142 = .ok (.ireturn, 1) := by decide +kernel
set_option maxRecDepth 20000 in
theorem ggX6_odd_X6_goThrough : GoodIn wsX6_odd wsX6_goThrough := goodIn_r _ [7, 8, 9, 10, 2, 11, 12, 13, 14, 15, 6, 16, 17, 18, 19, 20, 21, 22, 23, 24, 25, 26, 27, 28, 29, 30, 31, 32, 33, 34, 35, 36, 37, 38, 39, 40, 41, 42, 43, 44, 45, 46, 47, 48, 49, 50, 51, 52, 53, 54, 55, 56, 57, 58, 59, 60, 61, 62, 63, 64, 65, 66, 67, 68, 69, 70, 71, 72, 73, 74, 75, 76, 77, 78, 79, 80, 81, 82, 83, 84, 85, 86, 87, 88, 89, 90, 91, 92, 93, 94, 95, 96, 97, 98, 99, 100, 101, 102, 103, 104, 105, 106, 107, 108, 109, 110, 111, 112, 113, 114, 115, 116] rfl (by decide +kernel)
set_option maxRecDepth 20000 in
theorem gX6_odd_X6_goThrough : GoodIn wsX6_odd (wsV RX6 107 RX6 yX6_goThrough wsX6_goThrough) := goodIn_app (goodIn_of _ (by decide +kernel)) ggX6_odd_X6_goThrough
theorem dX6_odd_0 : decode cX6_odd 0 = .ok (.aload_n 0, 1) := by decide +kernel
theorem dX6_odd_1 : decode cX6_odd 1 = .ok (.iconst 0, 1) := by decide +kernel
theorem dX6_odd_2 : decode cX6_odd 2 = .ok (.putfield 79, 3) := by decide +kernel
theorem dX6_odd_5 : decode cX6_odd 5 = .ok (.aload_n 0, 1) := by decide +kernel
theorem dX6_odd_6 : decode cX6_odd 6 = .ok (.invokevirtual 107, 3) := by decide +kernel
theorem dX6_odd_9 : decode cX6_odd 9 = .ok (.aload_n 0, 1) := by decide +kernel
theorem dX6_odd_10 : decode cX6_odd 10 = .ok (.getfield 132, 3) := by decide +kernel
theorem dX6_odd_13 : decode cX6_odd 13 = .ok (.ireturn, 1) := by decide +kernel
theorem dX6_agrees_0 : decode cX6_agrees 0 = .ok (.aload_n 0, 1) := by decide +kernel
theorem dX6_agrees_1 : decode cX6_agrees 1 = .ok (.iconst 0, 1) := by decide +kernel
theorem dX6_agrees_2 : decode cX6_agrees 2 = .ok (.putfield 79, 3) := by decide +kernel
theorem dX6_agrees_5 : decode cX6_agrees 5 = .ok (.iconst 1, 1) := by decide +kernel
theorem dX6_agrees_6 : decode cX6_agrees 6 = .ok (.ireturn, 1) := by decide +kernel
theorem dX6_isSquareBelow_0 : decode cX6_isSquareBelow 0 = .ok (.ldc2_w 181, 3) := by decide +kernel
theorem dX6_isSquareBelow_3 : decode cX6_isSquareBelow 3 = .ok (.lstore 5, 2) := by decide +kernel
theorem dX6_isSquareBelow_5 : decode cX6_isSquareBelow 5 = .ok (.lload_n 0, 1) := by decide +kernel
theorem dX6_isSquareBelow_6 : decode cX6_isSquareBelow 6 = .ok (.bipush 27, 2) := by decide +kernel
theorem dX6_isSquareBelow_8 : decode cX6_isSquareBelow 8 = .ok (.lshr, 1) := by decide +kernel
theorem dX6_isSquareBelow_9 : decode cX6_isSquareBelow 9 = .ok (.lstore 7, 2) := by decide +kernel
theorem dX6_isSquareBelow_11 : decode cX6_isSquareBelow 11 = .ok (.lload_n 0, 1) := by decide +kernel
theorem dX6_isSquareBelow_12 : decode cX6_isSquareBelow 12 = .ok (.lload 5, 2) := by decide +kernel
theorem dX6_isSquareBelow_14 : decode cX6_isSquareBelow 14 = .ok (.land, 1) := by decide +kernel
theorem dX6_isSquareBelow_15 : decode cX6_isSquareBelow 15 = .ok (.lstore 9, 2) := by decide +kernel
theorem dX6_isSquareBelow_17 : decode cX6_isSquareBelow 17 = .ok (.ldc2_w 183, 3) := by decide +kernel
theorem dX6_isSquareBelow_20 : decode cX6_isSquareBelow 20 = .ok (.lload 7, 2) := by decide +kernel
theorem dX6_isSquareBelow_22 : decode cX6_isSquareBelow 22 = .ok (.lmul, 1) := by decide +kernel
theorem dX6_isSquareBelow_23 : decode cX6_isSquareBelow 23 = .ok (.lload 9, 2) := by decide +kernel
theorem dX6_isSquareBelow_25 : decode cX6_isSquareBelow 25 = .ok (.lmul, 1) := by decide +kernel
theorem dX6_isSquareBelow_26 : decode cX6_isSquareBelow 26 = .ok (.lstore 11, 2) := by decide +kernel
theorem dX6_isSquareBelow_28 : decode cX6_isSquareBelow 28 = .ok (.lload 11, 2) := by decide +kernel
theorem dX6_isSquareBelow_30 : decode cX6_isSquareBelow 30 = .ok (.lload 5, 2) := by decide +kernel
theorem dX6_isSquareBelow_32 : decode cX6_isSquareBelow 32 = .ok (.land, 1) := by decide +kernel
theorem dX6_isSquareBelow_33 : decode cX6_isSquareBelow 33 = .ok (.bipush 27, 2) := by decide +kernel
theorem dX6_isSquareBelow_35 : decode cX6_isSquareBelow 35 = .ok (.lshl, 1) := by decide +kernel
theorem dX6_isSquareBelow_36 : decode cX6_isSquareBelow 36 = .ok (.lload 9, 2) := by decide +kernel
theorem dX6_isSquareBelow_38 : decode cX6_isSquareBelow 38 = .ok (.lload 9, 2) := by decide +kernel
theorem dX6_isSquareBelow_40 : decode cX6_isSquareBelow 40 = .ok (.lmul, 1) := by decide +kernel
theorem dX6_isSquareBelow_41 : decode cX6_isSquareBelow 41 = .ok (.ladd, 1) := by decide +kernel
theorem dX6_isSquareBelow_42 : decode cX6_isSquareBelow 42 = .ok (.lstore 13, 2) := by decide +kernel
theorem dX6_isSquareBelow_44 : decode cX6_isSquareBelow 44 = .ok (.lload 7, 2) := by decide +kernel
theorem dX6_isSquareBelow_46 : decode cX6_isSquareBelow 46 = .ok (.lload 7, 2) := by decide +kernel
theorem dX6_isSquareBelow_48 : decode cX6_isSquareBelow 48 = .ok (.lmul, 1) := by decide +kernel
theorem dX6_isSquareBelow_49 : decode cX6_isSquareBelow 49 = .ok (.lload 11, 2) := by decide +kernel
theorem dX6_isSquareBelow_51 : decode cX6_isSquareBelow 51 = .ok (.bipush 27, 2) := by decide +kernel
theorem dX6_isSquareBelow_53 : decode cX6_isSquareBelow 53 = .ok (.lshr, 1) := by decide +kernel
theorem dX6_isSquareBelow_54 : decode cX6_isSquareBelow 54 = .ok (.ladd, 1) := by decide +kernel
theorem dX6_isSquareBelow_55 : decode cX6_isSquareBelow 55 = .ok (.lload 13, 2) := by decide +kernel
theorem dX6_isSquareBelow_57 : decode cX6_isSquareBelow 57 = .ok (.bipush 54, 2) := by decide +kernel
theorem dX6_isSquareBelow_59 : decode cX6_isSquareBelow 59 = .ok (.lshr, 1) := by decide +kernel
theorem dX6_isSquareBelow_60 : decode cX6_isSquareBelow 60 = .ok (.ladd, 1) := by decide +kernel
theorem dX6_isSquareBelow_61 : decode cX6_isSquareBelow 61 = .ok (.lstore 15, 2) := by decide +kernel
theorem dX6_isSquareBelow_63 : decode cX6_isSquareBelow 63 = .ok (.lload 13, 2) := by decide +kernel
theorem dX6_isSquareBelow_65 : decode cX6_isSquareBelow 65 = .ok (.ldc2_w 185, 3) := by decide +kernel
theorem dX6_isSquareBelow_68 : decode cX6_isSquareBelow 68 = .ok (.land, 1) := by decide +kernel
theorem dX6_isSquareBelow_69 : decode cX6_isSquareBelow 69 = .ok (.lstore 13, 2) := by decide +kernel
theorem dX6_isSquareBelow_71 : decode cX6_isSquareBelow 71 = .ok (.lload_n 2, 1) := by decide +kernel
theorem dX6_isSquareBelow_72 : decode cX6_isSquareBelow 72 = .ok (.iload 4, 2) := by decide +kernel
theorem dX6_isSquareBelow_74 : decode cX6_isSquareBelow 74 = .ok (.lshl, 1) := by decide +kernel
theorem dX6_isSquareBelow_75 : decode cX6_isSquareBelow 75 = .ok (.lstore 17, 2) := by decide +kernel
theorem dX6_isSquareBelow_77 : decode cX6_isSquareBelow 77 = .ok (.lload 15, 2) := by decide +kernel
theorem dX6_isSquareBelow_79 : decode cX6_isSquareBelow 79 = .ok (.lload 17, 2) := by decide +kernel
theorem dX6_isSquareBelow_81 : decode cX6_isSquareBelow 81 = .ok (.lcmp, 1) := by decide +kernel
theorem dX6_isSquareBelow_82 : decode cX6_isSquareBelow 82 = .ok (.ifCond .lt 18, 3) := by decide +kernel
theorem dX6_isSquareBelow_85 : decode cX6_isSquareBelow 85 = .ok (.lload 15, 2) := by decide +kernel
theorem dX6_isSquareBelow_87 : decode cX6_isSquareBelow 87 = .ok (.lload 17, 2) := by decide +kernel
theorem dX6_isSquareBelow_89 : decode cX6_isSquareBelow 89 = .ok (.lcmp, 1) := by decide +kernel
theorem dX6_isSquareBelow_90 : decode cX6_isSquareBelow 90 = .ok (.ifCond .ne 14, 3) := by decide +kernel
theorem dX6_isSquareBelow_93 : decode cX6_isSquareBelow 93 = .ok (.lload 13, 2) := by decide +kernel
theorem dX6_isSquareBelow_95 : decode cX6_isSquareBelow 95 = .ok (.lconst 0, 1) := by decide +kernel
theorem dX6_isSquareBelow_96 : decode cX6_isSquareBelow 96 = .ok (.lcmp, 1) := by decide +kernel
theorem dX6_isSquareBelow_97 : decode cX6_isSquareBelow 97 = .ok (.ifCond .ne 7, 3) := by decide +kernel
theorem dX6_isSquareBelow_100 : decode cX6_isSquareBelow 100 = .ok (.iconst 1, 1) := by decide +kernel
theorem dX6_isSquareBelow_101 : decode cX6_isSquareBelow 101 = .ok (.goto 4, 3) := by decide +kernel
theorem dX6_isSquareBelow_104 : decode cX6_isSquareBelow 104 = .ok (.iconst 0, 1) := by decide +kernel
theorem dX6_isSquareBelow_105 : decode cX6_isSquareBelow 105 = .ok (.ireturn, 1) := by decide +kernel
set_option maxRecDepth 20000 in
theorem ggX6_root_X6_isSquareBelow : GoodIn wsX6_root wsX6_isSquareBelow := goodIn_r _ [5, 6, 1, 7] rfl (by decide +kernel)
set_option maxRecDepth 20000 in
theorem gX6_root_X6_isSquareBelow : GoodIn wsX6_root (va_wsS RX6 187 yX6_isSquareBelow wsX6_isSquareBelow) := goodIn_app (goodIn_of _ (by decide +kernel)) ggX6_root_X6_isSquareBelow
theorem dX6_root_0 : decode cX6_root 0 = .ok (.iload_n 0, 1) := by decide +kernel
theorem dX6_root_1 : decode cX6_root 1 = .ok (.ifCond .ne 5, 3) := by decide +kernel
theorem dX6_root_4 : decode cX6_root 4 = .ok (.dconst 0, 1) := by decide +kernel
theorem dX6_root_5 : decode cX6_root 5 = .ok (.dreturn, 1) := by decide +kernel
theorem dX6_root_6 : decode cX6_root 6 = .ok (.iconst 0, 1) := by decide +kernel
theorem dX6_root_7 : decode cX6_root 7 = .ok (.istore_n 1, 1) := by decide +kernel
theorem dX6_root_8 : decode cX6_root 8 = .ok (.iload_n 0, 1) := by decide +kernel
theorem dX6_root_9 : decode cX6_root 9 = .ok (.iconst 2, 1) := by decide +kernel
theorem dX6_root_10 : decode cX6_root 10 = .ok (.iload_n 1, 1) := by decide +kernel
theorem dX6_root_11 : decode cX6_root 11 = .ok (.imul, 1) := by decide +kernel
theorem dX6_root_12 : decode cX6_root 12 = .ok (.iconst 2, 1) := by decide +kernel
theorem dX6_root_13 : decode cX6_root 13 = .ok (.iadd, 1) := by decide +kernel
theorem dX6_root_14 : decode cX6_root 14 = .ok (.ishr, 1) := by decide +kernel
theorem dX6_root_15 : decode cX6_root 15 = .ok (.ifCond .le 9, 3) := by decide +kernel
theorem dX6_root_18 : decode cX6_root 18 = .ok (.iinc 1 1, 3) := by decide +kernel
theorem dX6_root_21 : decode cX6_root 21 = .ok (.goto (-13), 3) := by decide +kernel
theorem dX6_root_24 : decode cX6_root 24 = .ok (.bipush 52, 2) := by decide +kernel
theorem dX6_root_26 : decode cX6_root 26 = .ok (.iload_n 1, 1) := by decide +kernel
theorem dX6_root_27 : decode cX6_root 27 = .ok (.isub, 1) := by decide +kernel
theorem dX6_root_28 : decode cX6_root 28 = .ok (.istore_n 2, 1) := by decide +kernel
theorem dX6_root_29 : decode cX6_root 29 = .ok (.lconst 0, 1) := by decide +kernel
theorem dX6_root_30 : decode cX6_root 30 = .ok (.lstore_n 3, 1) := by decide +kernel
theorem dX6_root_31 : decode cX6_root 31 = .ok (.bipush 52, 2) := by decide +kernel
theorem dX6_root_33 : decode cX6_root 33 = .ok (.istore 5, 2) := by decide +kernel
theorem dX6_root_35 : decode cX6_root 35 = .ok (.iload 5, 2) := by decide +kernel
theorem dX6_root_37 : decode cX6_root 37 = .ok (.ifCond .lt 40, 3) := by decide +kernel
theorem dX6_root_40 : decode cX6_root 40 = .ok (.lload_n 3, 1) := by decide +kernel
theorem dX6_root_41 : decode cX6_root 41 = .ok (.lconst 1, 1) := by decide +kernel
theorem dX6_root_42 : decode cX6_root 42 = .ok (.iload 5, 2) := by decide +kernel
theorem dX6_root_44 : decode cX6_root 44 = .ok (.lshl, 1) := by decide +kernel
theorem dX6_root_45 : decode cX6_root 45 = .ok (.lor, 1) := by decide +kernel
theorem dX6_root_46 : decode cX6_root 46 = .ok (.lstore 6, 2) := by decide +kernel
theorem dX6_root_48 : decode cX6_root 48 = .ok (.lload 6, 2) := by decide +kernel
theorem dX6_root_50 : decode cX6_root 50 = .ok (.iload_n 0, 1) := by decide +kernel
theorem dX6_root_51 : decode cX6_root 51 = .ok (.i2l, 1) := by decide +kernel
theorem dX6_root_52 : decode cX6_root 52 = .ok (.iconst 2, 1) := by decide +kernel
theorem dX6_root_53 : decode cX6_root 53 = .ok (.iload_n 2, 1) := by decide +kernel
theorem dX6_root_54 : decode cX6_root 54 = .ok (.imul, 1) := by decide +kernel
theorem dX6_root_55 : decode cX6_root 55 = .ok (.bipush 54, 2) := by decide +kernel
theorem dX6_root_57 : decode cX6_root 57 = .ok (.isub, 1) := by decide +kernel
theorem dX6_root_58 : decode cX6_root 58 = .ok (.invokestatic 187, 3) := by decide +kernel
theorem dX6_root_61 : decode cX6_root 61 = .ok (.ifCond .eq 8, 3) := by decide +kernel
theorem dX6_root_64 : decode cX6_root 64 = .ok (.lload 6, 2) := by decide +kernel
theorem dX6_root_66 : decode cX6_root 66 = .ok (.goto 4, 3) := by decide +kernel
theorem dX6_root_69 : decode cX6_root 69 = .ok (.lload_n 3, 1) := by decide +kernel
theorem dX6_root_70 : decode cX6_root 70 = .ok (.lstore_n 3, 1) := by decide +kernel
theorem dX6_root_71 : decode cX6_root 71 = .ok (.iinc 5 (-1), 3) := by decide +kernel
theorem dX6_root_74 : decode cX6_root 74 = .ok (.goto (-39), 3) := by decide +kernel
theorem dX6_root_77 : decode cX6_root 77 = .ok (.lload_n 3, 1) := by decide +kernel
theorem dX6_root_78 : decode cX6_root 78 = .ok (.ldc2_w 183, 3) := by decide +kernel
theorem dX6_root_81 : decode cX6_root 81 = .ok (.lload_n 3, 1) := by decide +kernel
theorem dX6_root_82 : decode cX6_root 82 = .ok (.lmul, 1) := by decide +kernel
theorem dX6_root_83 : decode cX6_root 83 = .ok (.lconst 1, 1) := by decide +kernel
theorem dX6_root_84 : decode cX6_root 84 = .ok (.ladd, 1) := by decide +kernel
theorem dX6_root_85 : decode cX6_root 85 = .ok (.iload_n 0, 1) := by decide +kernel
theorem dX6_root_86 : decode cX6_root 86 = .ok (.i2l, 1) := by decide +kernel
theorem dX6_root_87 : decode cX6_root 87 = .ok (.iconst 2, 1) := by decide +kernel
theorem dX6_root_88 : decode cX6_root 88 = .ok (.iload_n 2, 1) := by decide +kernel
theorem dX6_root_89 : decode cX6_root 89 = .ok (.imul, 1) := by decide +kernel
theorem dX6_root_90 : decode cX6_root 90 = .ok (.bipush 52, 2) := by decide +kernel
theorem dX6_root_92 : decode cX6_root 92 = .ok (.isub, 1) := by decide +kernel
theorem dX6_root_93 : decode cX6_root 93 = .ok (.invokestatic 187, 3) := by decide +kernel
theorem dX6_root_96 : decode cX6_root 96 = .ok (.ifCond .eq 7, 3) := by decide +kernel
theorem dX6_root_99 : decode cX6_root 99 = .ok (.lconst 1, 1) := by decide +kernel
theorem dX6_root_100 : decode cX6_root 100 = .ok (.goto 4, 3) := by decide +kernel
theorem dX6_root_103 : decode cX6_root 103 = .ok (.lconst 0, 1) := by decide +kernel
theorem dX6_root_104 : decode cX6_root 104 = .ok (.ladd, 1) := by decide +kernel
theorem dX6_root_105 : decode cX6_root 105 = .ok (.lstore_n 3, 1) := by decide +kernel
theorem dX6_root_106 : decode cX6_root 106 = .ok (.lload_n 3, 1) := by decide +kernel
theorem dX6_root_107 : decode cX6_root 107 = .ok (.l2d, 1) := by decide +kernel
theorem dX6_root_108 : decode cX6_root 108 = .ok (.dconst 1, 1) := by decide +kernel
theorem dX6_root_109 : decode cX6_root 109 = .ok (.dmul, 1) := by decide +kernel
theorem dX6_root_110 : decode cX6_root 110 = .ok (.lconst 1, 1) := by decide +kernel
theorem dX6_root_111 : decode cX6_root 111 = .ok (.iload_n 2, 1) := by decide +kernel
theorem dX6_root_112 : decode cX6_root 112 = .ok (.lshl, 1) := by decide +kernel
theorem dX6_root_113 : decode cX6_root 113 = .ok (.l2d, 1) := by decide +kernel
theorem dX6_root_114 : decode cX6_root 114 = .ok (.ddiv, 1) := by decide +kernel
theorem dX6_root_115 : decode cX6_root 115 = .ok (.dreturn, 1) := by decide +kernel
set_option maxRecDepth 20000 in
theorem ggX6_wayOf_X6_root : GoodIn wsX6_wayOf wsX6_root := goodIn_r _ [8, 9, 10, 11, 7, 12, 13, 14] rfl (by decide +kernel)
set_option maxRecDepth 20000 in
theorem gX6_wayOf_X6_root : GoodIn wsX6_wayOf (va_wsS RX6 191 yX6_root wsX6_root) := goodIn_app (goodIn_of _ (by decide +kernel)) ggX6_wayOf_X6_root
theorem dX6_wayOf_0 : decode cX6_wayOf 0 = .ok (.aload_n 0, 1) := by decide +kernel
theorem dX6_wayOf_1 : decode cX6_wayOf 1 = .ok (.getfield 7, 3) := by decide +kernel
theorem dX6_wayOf_4 : decode cX6_wayOf 4 = .ok (.iload_n 1, 1) := by decide +kernel
theorem dX6_wayOf_5 : decode cX6_wayOf 5 = .ok (.iaload, 1) := by decide +kernel
theorem dX6_wayOf_6 : decode cX6_wayOf 6 = .ok (.aload_n 0, 1) := by decide +kernel
theorem dX6_wayOf_7 : decode cX6_wayOf 7 = .ok (.getfield 7, 3) := by decide +kernel
theorem dX6_wayOf_10 : decode cX6_wayOf 10 = .ok (.iload_n 2, 1) := by decide +kernel
theorem dX6_wayOf_11 : decode cX6_wayOf 11 = .ok (.iaload, 1) := by decide +kernel
theorem dX6_wayOf_12 : decode cX6_wayOf 12 = .ok (.isub, 1) := by decide +kernel
theorem dX6_wayOf_13 : decode cX6_wayOf 13 = .ok (.istore_n 3, 1) := by decide +kernel
theorem dX6_wayOf_14 : decode cX6_wayOf 14 = .ok (.aload_n 0, 1) := by decide +kernel
theorem dX6_wayOf_15 : decode cX6_wayOf 15 = .ok (.getfield 13, 3) := by decide +kernel
theorem dX6_wayOf_18 : decode cX6_wayOf 18 = .ok (.iload_n 1, 1) := by decide +kernel
theorem dX6_wayOf_19 : decode cX6_wayOf 19 = .ok (.iaload, 1) := by decide +kernel
theorem dX6_wayOf_20 : decode cX6_wayOf 20 = .ok (.aload_n 0, 1) := by decide +kernel
theorem dX6_wayOf_21 : decode cX6_wayOf 21 = .ok (.getfield 13, 3) := by decide +kernel
theorem dX6_wayOf_24 : decode cX6_wayOf 24 = .ok (.iload_n 2, 1) := by decide +kernel
theorem dX6_wayOf_25 : decode cX6_wayOf 25 = .ok (.iaload, 1) := by decide +kernel
theorem dX6_wayOf_26 : decode cX6_wayOf 26 = .ok (.isub, 1) := by decide +kernel
theorem dX6_wayOf_27 : decode cX6_wayOf 27 = .ok (.istore 4, 2) := by decide +kernel
theorem dX6_wayOf_29 : decode cX6_wayOf 29 = .ok (.aload_n 0, 1) := by decide +kernel
theorem dX6_wayOf_30 : decode cX6_wayOf 30 = .ok (.getfield 16, 3) := by decide +kernel
theorem dX6_wayOf_33 : decode cX6_wayOf 33 = .ok (.iload_n 2, 1) := by decide +kernel
theorem dX6_wayOf_34 : decode cX6_wayOf 34 = .ok (.iaload, 1) := by decide +kernel
theorem dX6_wayOf_35 : decode cX6_wayOf 35 = .ok (.aload_n 0, 1) := by decide +kernel
theorem dX6_wayOf_36 : decode cX6_wayOf 36 = .ok (.getfield 16, 3) := by decide +kernel
theorem dX6_wayOf_39 : decode cX6_wayOf 39 = .ok (.iload_n 1, 1) := by decide +kernel
theorem dX6_wayOf_40 : decode cX6_wayOf 40 = .ok (.iaload, 1) := by decide +kernel
theorem dX6_wayOf_41 : decode cX6_wayOf 41 = .ok (.if_icmp .le 19, 3) := by decide +kernel
theorem dX6_wayOf_44 : decode cX6_wayOf 44 = .ok (.aload_n 0, 1) := by decide +kernel
theorem dX6_wayOf_45 : decode cX6_wayOf 45 = .ok (.getfield 16, 3) := by decide +kernel
theorem dX6_wayOf_48 : decode cX6_wayOf 48 = .ok (.iload_n 2, 1) := by decide +kernel
theorem dX6_wayOf_49 : decode cX6_wayOf 49 = .ok (.iaload, 1) := by decide +kernel
theorem dX6_wayOf_50 : decode cX6_wayOf 50 = .ok (.aload_n 0, 1) := by decide +kernel
theorem dX6_wayOf_51 : decode cX6_wayOf 51 = .ok (.getfield 16, 3) := by decide +kernel
theorem dX6_wayOf_54 : decode cX6_wayOf 54 = .ok (.iload_n 1, 1) := by decide +kernel
theorem dX6_wayOf_55 : decode cX6_wayOf 55 = .ok (.iaload, 1) := by decide +kernel
theorem dX6_wayOf_56 : decode cX6_wayOf 56 = .ok (.isub, 1) := by decide +kernel
theorem dX6_wayOf_57 : decode cX6_wayOf 57 = .ok (.goto 4, 3) := by decide +kernel
theorem dX6_wayOf_60 : decode cX6_wayOf 60 = .ok (.iconst 0, 1) := by decide +kernel
theorem dX6_wayOf_61 : decode cX6_wayOf 61 = .ok (.istore 5, 2) := by decide +kernel
theorem dX6_wayOf_63 : decode cX6_wayOf 63 = .ok (.iload_n 3, 1) := by decide +kernel
theorem dX6_wayOf_64 : decode cX6_wayOf 64 = .ok (.iload_n 3, 1) := by decide +kernel
theorem dX6_wayOf_65 : decode cX6_wayOf 65 = .ok (.imul, 1) := by decide +kernel
theorem dX6_wayOf_66 : decode cX6_wayOf 66 = .ok (.iload 4, 2) := by decide +kernel
theorem dX6_wayOf_68 : decode cX6_wayOf 68 = .ok (.iload 4, 2) := by decide +kernel
theorem dX6_wayOf_70 : decode cX6_wayOf 70 = .ok (.imul, 1) := by decide +kernel
theorem dX6_wayOf_71 : decode cX6_wayOf 71 = .ok (.iadd, 1) := by decide +kernel
theorem dX6_wayOf_72 : decode cX6_wayOf 72 = .ok (.invokestatic 191, 3) := by decide +kernel
theorem dX6_wayOf_75 : decode cX6_wayOf 75 = .ok (.ldc2_w 195, 3) := by decide +kernel
theorem dX6_wayOf_78 : decode cX6_wayOf 78 = .ok (.iload 5, 2) := by decide +kernel
theorem dX6_wayOf_80 : decode cX6_wayOf 80 = .ok (.i2d, 1) := by decide +kernel
theorem dX6_wayOf_81 : decode cX6_wayOf 81 = .ok (.dmul, 1) := by decide +kernel
theorem dX6_wayOf_82 : decode cX6_wayOf 82 = .ok (.dadd, 1) := by decide +kernel
theorem dX6_wayOf_83 : decode cX6_wayOf 83 = .ok (.dreturn, 1) := by decide +kernel
set_option maxRecDepth 20000 in
theorem ggX6_nearest_X6_isStation : GoodIn wsX6_nearest wsX6_isStation := goodIn_r _ [4, 5, 6, 3, 7] rfl (by decide +kernel)
set_option maxRecDepth 20000 in
theorem gX6_nearest_X6_isStation : GoodIn wsX6_nearest (va_wsS RX6 87 yX6_isStation wsX6_isStation) := goodIn_app (goodIn_of _ (by decide +kernel)) ggX6_nearest_X6_isStation
set_option maxRecDepth 20000 in
theorem ggX6_nearest_X6_goesWell : GoodIn wsX6_nearest wsX6_goesWell := goodIn_r _ [11, 12, 115, 116, 117, 118, 119, 120, 121, 122, 123, 124, 125, 126, 127, 128, 129, 130, 131, 132, 133, 134, 135, 136, 137, 138, 139, 140, 141, 142, 143] rfl (by decide +kernel)
set_option maxRecDepth 20000 in
theorem gX6_nearest_X6_goesWell : GoodIn wsX6_nearest (wsV RX6 91 RX6 yX6_goesWell wsX6_goesWell) := goodIn_app (goodIn_of _ (by decide +kernel)) ggX6_nearest_X6_goesWell
set_option maxRecDepth 20000 in
theorem ggX6_nearest_X6_goThrough : GoodIn wsX6_nearest wsX6_goThrough := goodIn_r _ [16, 17, 18, 19, 20, 21, 22, 23, 24, 25, 3, 26, 27, 28, 29, 30, 31, 32, 33, 34, 35, 36, 37, 38, 39, 40, 41, 42, 43, 44, 45, 46, 47, 48, 49, 50, 51, 52, 53, 54, 55, 56, 57, 58, 59, 60, 61, 62, 63, 64, 65, 66, 67, 68, 69, 70, 71, 72, 73, 74, 75, 76, 77, 78, 79, 80, 81, 82, 83, 84, 85, 86, 87, 88, 89, 90, 91, 92, 93, 94, 95, 96, 97, 115, 116, 117, 118, 119, 120, 121, 122, 123, 124, 125, 126, 127, 128, 129, 130, 131, 132, 133, 134, 135, 136, 137, 138, 139, 140, 141, 142, 143] rfl (by decide +kernel)
set_option maxRecDepth 20000 in
theorem gX6_nearest_X6_goThrough : GoodIn wsX6_nearest (wsV RX6 107 RX6 yX6_goThrough wsX6_goThrough) := goodIn_app (goodIn_of _ (by decide +kernel)) ggX6_nearest_X6_goThrough
set_option maxRecDepth 20000 in
theorem ggX6_nearest_X6_free : GoodIn wsX6_nearest wsX6_free := goodIn_r _ [57, 27, 28, 115, 116, 117, 118, 119, 120, 121, 122, 123, 124, 125, 126, 127, 128, 129, 130, 131, 132, 133, 134, 135, 136, 137, 138, 139, 140, 141, 142, 143] rfl (by decide +kernel)
set_option maxRecDepth 20000 in
theorem gX6_nearest_X6_free : GoodIn wsX6_nearest (wsV RX6 145 RX6 yX6_free wsX6_free) := goodIn_app (goodIn_of _ (by decide +kernel)) ggX6_nearest_X6_free
set_option maxRecDepth 20000 in
theorem ggX6_nearest_X6_wayOf : GoodIn wsX6_nearest wsX6_wayOf := goodIn_r _ [101, 102, 103, 104, 105, 106, 107, 3, 108, 109, 110, 111, 112, 113, 114, 115, 116, 117, 118, 119, 120, 121, 122, 123, 124, 125, 126, 127, 128, 129, 130, 131, 132, 133, 134, 135, 136, 137, 138, 139, 140, 141, 142, 143] rfl (by decide +kernel)
set_option maxRecDepth 20000 in
theorem gX6_nearest_X6_wayOf : GoodIn wsX6_nearest (wsV RX6 197 RX6 yX6_wayOf wsX6_wayOf) := goodIn_app (goodIn_of _ (by decide +kernel)) ggX6_nearest_X6_wayOf
theorem dX6_nearest_0 : decode cX6_nearest 0 = .ok (.aload_n 0, 1) := by decide +kernel
theorem dX6_nearest_1 : decode cX6_nearest 1 = .ok (.iload_n 1, 1) := by decide +kernel
theorem dX6_nearest_2 : decode cX6_nearest 2 = .ok (.invokestatic 87, 3) := by decide +kernel
theorem dX6_nearest_5 : decode cX6_nearest 5 = .ok (.ifCond .eq 7, 3) := by decide +kernel
theorem dX6_nearest_8 : decode cX6_nearest 8 = .ok (.iconst 0, 1) := by decide +kernel
theorem dX6_nearest_9 : decode cX6_nearest 9 = .ok (.goto 4, 3) := by decide +kernel
theorem dX6_nearest_12 : decode cX6_nearest 12 = .ok (.iconst 1, 1) := by decide +kernel
theorem dX6_nearest_13 : decode cX6_nearest 13 = .ok (.invokevirtual 91, 3) := by decide +kernel
theorem dX6_nearest_16 : decode cX6_nearest 16 = .ok (.ifCond .ne 5, 3) := by decide +kernel
theorem dX6_nearest_19 : decode cX6_nearest 19 = .ok (.iconst 0, 1) := by decide +kernel
theorem dX6_nearest_20 : decode cX6_nearest 20 = .ok (.ireturn, 1) := by decide +kernel
theorem dX6_nearest_21 : decode cX6_nearest 21 = .ok (.aload_n 0, 1) := by decide +kernel
theorem dX6_nearest_22 : decode cX6_nearest 22 = .ok (.invokevirtual 107, 3) := by decide +kernel
theorem dX6_nearest_25 : decode cX6_nearest 25 = .ok (.iconst (-1), 1) := by decide +kernel
theorem dX6_nearest_26 : decode cX6_nearest 26 = .ok (.istore_n 2, 1) := by decide +kernel
theorem dX6_nearest_27 : decode cX6_nearest 27 = .ok (.iconst 0, 1) := by decide +kernel
theorem dX6_nearest_28 : decode cX6_nearest 28 = .ok (.istore_n 3, 1) := by decide +kernel
theorem dX6_nearest_29 : decode cX6_nearest 29 = .ok (.iload_n 3, 1) := by decide +kernel
theorem dX6_nearest_30 : decode cX6_nearest 30 = .ok (.bipush 8, 2) := by decide +kernel
theorem dX6_nearest_32 : decode cX6_nearest 32 = .ok (.if_icmp .ge 61, 3) := by decide +kernel
theorem dX6_nearest_35 : decode cX6_nearest 35 = .ok (.iload_n 3, 1) := by decide +kernel
theorem dX6_nearest_36 : decode cX6_nearest 36 = .ok (.iload_n 1, 1) := by decide +kernel
theorem dX6_nearest_37 : decode cX6_nearest 37 = .ok (.if_icmp .eq 15, 3) := by decide +kernel
theorem dX6_nearest_40 : decode cX6_nearest 40 = .ok (.aload_n 0, 1) := by decide +kernel
theorem dX6_nearest_41 : decode cX6_nearest 41 = .ok (.iload_n 3, 1) := by decide +kernel
theorem dX6_nearest_42 : decode cX6_nearest 42 = .ok (.invokevirtual 145, 3) := by decide +kernel
theorem dX6_nearest_45 : decode cX6_nearest 45 = .ok (.ifCond .le 7, 3) := by decide +kernel
theorem dX6_nearest_48 : decode cX6_nearest 48 = .ok (.iconst 1, 1) := by decide +kernel
theorem dX6_nearest_49 : decode cX6_nearest 49 = .ok (.goto 4, 3) := by decide +kernel
theorem dX6_nearest_52 : decode cX6_nearest 52 = .ok (.iconst 0, 1) := by decide +kernel
theorem dX6_nearest_53 : decode cX6_nearest 53 = .ok (.istore 4, 2) := by decide +kernel
theorem dX6_nearest_55 : decode cX6_nearest 55 = .ok (.iload 4, 2) := by decide +kernel
theorem dX6_nearest_57 : decode cX6_nearest 57 = .ok (.ifCond .eq 28, 3) := by decide +kernel
theorem dX6_nearest_60 : decode cX6_nearest 60 = .ok (.iload_n 2, 1) := by decide +kernel
theorem dX6_nearest_61 : decode cX6_nearest 61 = .ok (.iconst (-1), 1) := by decide +kernel
theorem dX6_nearest_62 : decode cX6_nearest 62 = .ok (.if_icmp .eq 19, 3) := by decide +kernel
theorem dX6_nearest_65 : decode cX6_nearest 65 = .ok (.aload_n 0, 1) := by decide +kernel
theorem dX6_nearest_66 : decode cX6_nearest 66 = .ok (.iload_n 1, 1) := by decide +kernel
theorem dX6_nearest_67 : decode cX6_nearest 67 = .ok (.iload_n 3, 1) := by decide +kernel
theorem dX6_nearest_68 : decode cX6_nearest 68 = .ok (.invokevirtual 197, 3) := by decide +kernel
theorem dX6_nearest_71 : decode cX6_nearest 71 = .ok (.aload_n 0, 1) := by decide +kernel
theorem dX6_nearest_72 : decode cX6_nearest 72 = .ok (.iload_n 1, 1) := by decide +kernel
theorem dX6_nearest_73 : decode cX6_nearest 73 = .ok (.iload_n 2, 1) := by decide +kernel
theorem dX6_nearest_74 : decode cX6_nearest 74 = .ok (.invokevirtual 197, 3) := by decide +kernel
theorem dX6_nearest_77 : decode cX6_nearest 77 = .ok (.dcmp .g, 1) := by decide +kernel
theorem dX6_nearest_78 : decode cX6_nearest 78 = .ok (.ifCond .ge 7, 3) := by decide +kernel
theorem dX6_nearest_81 : decode cX6_nearest 81 = .ok (.iload_n 3, 1) := by decide +kernel
theorem dX6_nearest_82 : decode cX6_nearest 82 = .ok (.goto 4, 3) := by decide +kernel
theorem dX6_nearest_85 : decode cX6_nearest 85 = .ok (.iload_n 2, 1) := by decide +kernel
theorem dX6_nearest_86 : decode cX6_nearest 86 = .ok (.istore_n 2, 1) := by decide +kernel
theorem dX6_nearest_87 : decode cX6_nearest 87 = .ok (.iinc 3 1, 3) := by decide +kernel
theorem dX6_nearest_90 : decode cX6_nearest 90 = .ok (.goto (-61), 3) := by decide +kernel
theorem dX6_nearest_93 : decode cX6_nearest 93 = .ok (.iload_n 2, 1) := by decide +kernel
theorem dX6_nearest_94 : decode cX6_nearest 94 = .ok (.ireturn, 1) := by decide +kernel
set_option maxRecDepth 20000 in
theorem ggX6_way_X6_isStation : GoodIn wsX6_way wsX6_isStation := goodIn_r _ [5, 6, 7, 4, 8] rfl (by decide +kernel)
set_option maxRecDepth 20000 in
theorem gX6_way_X6_isStation : GoodIn wsX6_way (va_wsS RX6 87 yX6_isStation wsX6_isStation) := goodIn_app (goodIn_of _ (by decide +kernel)) ggX6_way_X6_isStation
set_option maxRecDepth 20000 in
theorem ggX6_way_X6_goesWell : GoodIn wsX6_way wsX6_goesWell := goodIn_r _ [12, 13, 31, 32, 33, 34, 35, 36, 37, 38, 39, 40, 41, 42, 43, 44, 45, 46, 47, 48, 49, 50, 51, 52, 53, 54, 55, 56, 57, 58, 59] rfl (by decide +kernel)
set_option maxRecDepth 20000 in
theorem gX6_way_X6_goesWell : GoodIn wsX6_way (wsV RX6 91 RX6 yX6_goesWell wsX6_goesWell) := goodIn_app (goodIn_of _ (by decide +kernel)) ggX6_way_X6_goesWell
set_option maxRecDepth 20000 in
theorem ggX6_way_X6_wayOf : GoodIn wsX6_way wsX6_wayOf := goodIn_r _ [17, 18, 19, 20, 21, 22, 23, 4, 24, 25, 26, 27, 28, 29, 30, 31, 32, 33, 34, 35, 36, 37, 38, 39, 40, 41, 42, 43, 44, 45, 46, 47, 48, 49, 50, 51, 52, 53, 54, 55, 56, 57, 58, 59] rfl (by decide +kernel)
set_option maxRecDepth 20000 in
theorem gX6_way_X6_wayOf : GoodIn wsX6_way (wsV RX6 197 RX6 yX6_wayOf wsX6_wayOf) := goodIn_app (goodIn_of _ (by decide +kernel)) ggX6_way_X6_wayOf
theorem dX6_way_0 : decode cX6_way 0 = .ok (.aload_n 0, 1) := by decide +kernel
theorem dX6_way_1 : decode cX6_way 1 = .ok (.iload_n 1, 1) := by decide +kernel
theorem dX6_way_2 : decode cX6_way 2 = .ok (.invokestatic 87, 3) := by decide +kernel
theorem dX6_way_5 : decode cX6_way 5 = .ok (.ifCond .eq 14, 3) := by decide +kernel
theorem dX6_way_8 : decode cX6_way 8 = .ok (.iload_n 2, 1) := by decide +kernel
theorem dX6_way_9 : decode cX6_way 9 = .ok (.invokestatic 87, 3) := by decide +kernel
theorem dX6_way_12 : decode cX6_way 12 = .ok (.ifCond .eq 7, 3) := by decide +kernel
theorem dX6_way_15 : decode cX6_way 15 = .ok (.iconst 0, 1) := by decide +kernel
theorem dX6_way_16 : decode cX6_way 16 = .ok (.goto 4, 3) := by decide +kernel
theorem dX6_way_19 : decode cX6_way 19 = .ok (.iconst 1, 1) := by decide +kernel
theorem dX6_way_20 : decode cX6_way 20 = .ok (.invokevirtual 91, 3) := by decide +kernel
theorem dX6_way_23 : decode cX6_way 23 = .ok (.ifCond .eq 17, 3) := by decide +kernel
theorem dX6_way_26 : decode cX6_way 26 = .ok (.ldc2_w 201, 3) := by decide +kernel
theorem dX6_way_29 : decode cX6_way 29 = .ok (.aload_n 0, 1) := by decide +kernel
theorem dX6_way_30 : decode cX6_way 30 = .ok (.iload_n 1, 1) := by decide +kernel
theorem dX6_way_31 : decode cX6_way 31 = .ok (.iload_n 2, 1) := by decide +kernel
theorem dX6_way_32 : decode cX6_way 32 = .ok (.invokevirtual 197, 3) := by decide +kernel
theorem dX6_way_35 : decode cX6_way 35 = .ok (.dmul, 1) := by decide +kernel
theorem dX6_way_36 : decode cX6_way 36 = .ok (.d2i, 1) := by decide +kernel
theorem dX6_way_37 : decode cX6_way 37 = .ok (.goto 4, 3) := by decide +kernel
theorem dX6_way_40 : decode cX6_way 40 = .ok (.iconst 0, 1) := by decide +kernel
theorem dX6_way_41 : decode cX6_way 41 = .ok (.ireturn, 1) := by decide +kernel
set_option maxRecDepth 20000 in
theorem ggX6_plan_X6_goThrough : GoodIn wsX6_plan wsX6_goThrough := goodIn_r _ [8, 9, 10, 11, 12, 13, 14, 15, 16, 17, 7, 18, 3, 2, 19, 20, 21, 22, 23, 24, 25, 26, 27, 28, 29, 30, 31, 32, 33, 34, 35, 36, 37, 38, 39, 40, 41, 42, 43, 44, 45, 46, 47, 48, 49, 50, 51, 52, 53, 54, 55, 56, 57, 58, 59, 60, 61, 62, 63, 64, 65, 66, 67, 68, 69, 70, 71, 72, 73, 74, 75, 76, 77, 78, 79, 80, 81, 82, 83, 84, 85, 86, 87, 88, 89, 90, 91, 92, 93, 94, 95, 96, 97, 98, 99, 100, 101, 102, 103, 104, 105, 106, 107, 108, 109, 110, 111, 112, 113, 114, 115, 116] rfl (by decide +kernel)
set_option maxRecDepth 20000 in
theorem gX6_plan_X6_goThrough : GoodIn wsX6_plan (wsV RX6 107 RX6 yX6_goThrough wsX6_goThrough) := goodIn_app (goodIn_of _ (by decide +kernel)) ggX6_plan_X6_goThrough
theorem dX6_plan_0 : decode cX6_plan 0 = .ok (.aload_n 0, 1) := by decide +kernel
theorem dX6_plan_1 : decode cX6_plan 1 = .ok (.iconst 0, 1) := by decide +kernel
theorem dX6_plan_2 : decode cX6_plan 2 = .ok (.putfield 79, 3) := by decide +kernel
theorem dX6_plan_5 : decode cX6_plan 5 = .ok (.aload_n 0, 1) := by decide +kernel
theorem dX6_plan_6 : decode cX6_plan 6 = .ok (.invokevirtual 107, 3) := by decide +kernel
theorem dX6_plan_9 : decode cX6_plan 9 = .ok (.iconst (-1), 1) := by decide +kernel
theorem dX6_plan_10 : decode cX6_plan 10 = .ok (.istore_n 1, 1) := by decide +kernel
theorem dX6_plan_11 : decode cX6_plan 11 = .ok (.iconst (-1), 1) := by decide +kernel
theorem dX6_plan_12 : decode cX6_plan 12 = .ok (.istore_n 2, 1) := by decide +kernel
theorem dX6_plan_13 : decode cX6_plan 13 = .ok (.iconst 0, 1) := by decide +kernel
theorem dX6_plan_14 : decode cX6_plan 14 = .ok (.istore_n 3, 1) := by decide +kernel
theorem dX6_plan_15 : decode cX6_plan 15 = .ok (.iconst 0, 1) := by decide +kernel
theorem dX6_plan_16 : decode cX6_plan 16 = .ok (.istore 4, 2) := by decide +kernel
theorem dX6_plan_18 : decode cX6_plan 18 = .ok (.iconst 0, 1) := by decide +kernel
theorem dX6_plan_19 : decode cX6_plan 19 = .ok (.istore 5, 2) := by decide +kernel
theorem dX6_plan_21 : decode cX6_plan 21 = .ok (.iload 5, 2) := by decide +kernel
theorem dX6_plan_23 : decode cX6_plan 23 = .ok (.bipush 8, 2) := by decide +kernel
theorem dX6_plan_25 : decode cX6_plan 25 = .ok (.if_icmp .ge 56, 3) := by decide +kernel
theorem dX6_plan_28 : decode cX6_plan 28 = .ok (.aload_n 0, 1) := by decide +kernel
theorem dX6_plan_29 : decode cX6_plan 29 = .ok (.getfield 34, 3) := by decide +kernel
theorem dX6_plan_32 : decode cX6_plan 32 = .ok (.iload 5, 2) := by decide +kernel
theorem dX6_plan_34 : decode cX6_plan 34 = .ok (.iaload, 1) := by decide +kernel
theorem dX6_plan_35 : decode cX6_plan 35 = .ok (.aload_n 0, 1) := by decide +kernel
theorem dX6_plan_36 : decode cX6_plan 36 = .ok (.getfield 31, 3) := by decide +kernel
theorem dX6_plan_39 : decode cX6_plan 39 = .ok (.iload 5, 2) := by decide +kernel
theorem dX6_plan_41 : decode cX6_plan 41 = .ok (.iaload, 1) := by decide +kernel
theorem dX6_plan_42 : decode cX6_plan 42 = .ok (.iconst 2, 1) := by decide +kernel
theorem dX6_plan_43 : decode cX6_plan 43 = .ok (.idiv, 1) := by decide +kernel
theorem dX6_plan_44 : decode cX6_plan 44 = .ok (.isub, 1) := by decide +kernel
theorem dX6_plan_45 : decode cX6_plan 45 = .ok (.istore 6, 2) := by decide +kernel
theorem dX6_plan_47 : decode cX6_plan 47 = .ok (.iload 6, 2) := by decide +kernel
theorem dX6_plan_49 : decode cX6_plan 49 = .ok (.iload_n 3, 1) := by decide +kernel
theorem dX6_plan_50 : decode cX6_plan 50 = .ok (.if_icmp .le 9, 3) := by decide +kernel
theorem dX6_plan_53 : decode cX6_plan 53 = .ok (.iload 6, 2) := by decide +kernel
theorem dX6_plan_55 : decode cX6_plan 55 = .ok (.istore_n 3, 1) := by decide +kernel
theorem dX6_plan_56 : decode cX6_plan 56 = .ok (.iload 5, 2) := by decide +kernel
theorem dX6_plan_58 : decode cX6_plan 58 = .ok (.istore_n 1, 1) := by decide +kernel
theorem dX6_plan_59 : decode cX6_plan 59 = .ok (.iload 6, 2) := by decide +kernel
theorem dX6_plan_61 : decode cX6_plan 61 = .ok (.ineg, 1) := by decide +kernel
theorem dX6_plan_62 : decode cX6_plan 62 = .ok (.iload 4, 2) := by decide +kernel
theorem dX6_plan_64 : decode cX6_plan 64 = .ok (.if_icmp .le 11, 3) := by decide +kernel
theorem dX6_plan_67 : decode cX6_plan 67 = .ok (.iload 6, 2) := by decide +kernel
theorem dX6_plan_69 : decode cX6_plan 69 = .ok (.ineg, 1) := by decide +kernel
theorem dX6_plan_70 : decode cX6_plan 70 = .ok (.istore 4, 2) := by decide +kernel
theorem dX6_plan_72 : decode cX6_plan 72 = .ok (.iload 5, 2) := by decide +kernel
theorem dX6_plan_74 : decode cX6_plan 74 = .ok (.istore_n 2, 1) := by decide +kernel
theorem dX6_plan_75 : decode cX6_plan 75 = .ok (.iinc 5 1, 3) := by decide +kernel
theorem dX6_plan_78 : decode cX6_plan 78 = .ok (.goto (-57), 3) := by decide +kernel
theorem dX6_plan_81 : decode cX6_plan 81 = .ok (.iload_n 1, 1) := by decide +kernel
theorem dX6_plan_82 : decode cX6_plan 82 = .ok (.iconst (-1), 1) := by decide +kernel
theorem dX6_plan_83 : decode cX6_plan 83 = .ok (.if_icmp .eq 8, 3) := by decide +kernel
theorem dX6_plan_86 : decode cX6_plan 86 = .ok (.iload_n 2, 1) := by decide +kernel
theorem dX6_plan_87 : decode cX6_plan 87 = .ok (.iconst (-1), 1) := by decide +kernel
theorem dX6_plan_88 : decode cX6_plan 88 = .ok (.if_icmp .ne 7, 3) := by decide +kernel
theorem dX6_plan_91 : decode cX6_plan 91 = .ok (.iconst (-1), 1) := by decide +kernel
theorem dX6_plan_92 : decode cX6_plan 92 = .ok (.goto 9, 3) := by decide +kernel
theorem dX6_plan_95 : decode cX6_plan 95 = .ok (.bipush 10, 2) := by decide +kernel
theorem dX6_plan_97 : decode cX6_plan 97 = .ok (.iload_n 1, 1) := by decide +kernel
theorem dX6_plan_98 : decode cX6_plan 98 = .ok (.imul, 1) := by decide +kernel
theorem dX6_plan_99 : decode cX6_plan 99 = .ok (.iload_n 2, 1) := by decide +kernel
theorem dX6_plan_100 : decode cX6_plan 100 = .ok (.iadd, 1) := by decide +kernel
theorem dX6_plan_101 : decode cX6_plan 101 = .ok (.ireturn, 1) := by decide +kernel
