theorem dX4_bestOfOurs_14 : decode cX4_bestOfOurs 14 = .ok (.invokevirtual 120, 3) := by decide +kernel
theorem dX4_bestOfOurs_17 : decode cX4_bestOfOurs 17 = .ok (.iconst 0, 1) := by decide +kernel
theorem dX4_bestOfOurs_18 : decode cX4_bestOfOurs 18 = .ok (.istore_n 3, 1) := by decide +kernel
theorem dX4_bestOfOurs_19 : decode cX4_bestOfOurs 19 = .ok (.iconst 0, 1) := by decide +kernel
theorem dX4_bestOfOurs_20 : decode cX4_bestOfOurs 20 = .ok (.istore 4, 2) := by decide +kernel
theorem dX4_bestOfOurs_22 : decode cX4_bestOfOurs 22 = .ok (.iload 4, 2) := by decide +kernel
theorem dX4_bestOfOurs_24 : decode cX4_bestOfOurs 24 = .ok (.aload_n 0, 1) := by decide +kernel
theorem dX4_bestOfOurs_25 : decode cX4_bestOfOurs 25 = .ok (.getfield 10, 3) := by decide +kernel
theorem dX4_bestOfOurs_28 : decode cX4_bestOfOurs 28 = .ok (.getfield 69, 3) := by decide +kernel
theorem dX4_bestOfOurs_31 : decode cX4_bestOfOurs 31 = .ok (.invokevirtual 73, 3) := by decide +kernel
theorem dX4_bestOfOurs_34 : decode cX4_bestOfOurs 34 = .ok (.if_icmp .ge 53, 3) := by decide +kernel
theorem dX4_bestOfOurs_37 : decode cX4_bestOfOurs 37 = .ok (.aload_n 0, 1) := by decide +kernel
theorem dX4_bestOfOurs_38 : decode cX4_bestOfOurs 38 = .ok (.getfield 10, 3) := by decide +kernel
theorem dX4_bestOfOurs_41 : decode cX4_bestOfOurs 41 = .ok (.getfield 69, 3) := by decide +kernel
theorem dX4_bestOfOurs_44 : decode cX4_bestOfOurs 44 = .ok (.iload 4, 2) := by decide +kernel
theorem dX4_bestOfOurs_46 : decode cX4_bestOfOurs 46 = .ok (.iconst 0, 1) := by decide +kernel
theorem dX4_bestOfOurs_47 : decode cX4_bestOfOurs 47 = .ok (.invokevirtual 97, 3) := by decide +kernel
theorem dX4_bestOfOurs_50 : decode cX4_bestOfOurs 50 = .ok (.ifCond .ne 31, 3) := by decide +kernel
theorem dX4_bestOfOurs_53 : decode cX4_bestOfOurs 53 = .ok (.aload_n 0, 1) := by decide +kernel
theorem dX4_bestOfOurs_54 : decode cX4_bestOfOurs 54 = .ok (.getfield 44, 3) := by decide +kernel
theorem dX4_bestOfOurs_57 : decode cX4_bestOfOurs 57 = .ok (.iload 4, 2) := by decide +kernel
theorem dX4_bestOfOurs_59 : decode cX4_bestOfOurs 59 = .ok (.iload_n 1, 1) := by decide +kernel
theorem dX4_bestOfOurs_60 : decode cX4_bestOfOurs 60 = .ok (.iload_n 2, 1) := by decide +kernel
theorem dX4_bestOfOurs_61 : decode cX4_bestOfOurs 61 = .ok (.aload_n 0, 1) := by decide +kernel
theorem dX4_bestOfOurs_62 : decode cX4_bestOfOurs 62 = .ok (.getfield 10, 3) := by decide +kernel
theorem dX4_bestOfOurs_65 : decode cX4_bestOfOurs 65 = .ok (.iconst 1, 1) := by decide +kernel
theorem dX4_bestOfOurs_66 : decode cX4_bestOfOurs 66 = .ok (.invokevirtual 107, 3) := by decide +kernel
theorem dX4_bestOfOurs_69 : decode cX4_bestOfOurs 69 = .ok (.invokevirtual 211, 3) := by decide +kernel
theorem dX4_bestOfOurs_72 : decode cX4_bestOfOurs 72 = .ok (.istore 5, 2) := by decide +kernel
theorem dX4_bestOfOurs_74 : decode cX4_bestOfOurs 74 = .ok (.iload_n 3, 1) := by decide +kernel
theorem dX4_bestOfOurs_75 : decode cX4_bestOfOurs 75 = .ok (.iload 5, 2) := by decide +kernel
theorem dX4_bestOfOurs_77 : decode cX4_bestOfOurs 77 = .ok (.invokestatic 215, 3) := by decide +kernel
theorem dX4_bestOfOurs_80 : decode cX4_bestOfOurs 80 = .ok (.istore_n 3, 1) := by decide +kernel
theorem dX4_bestOfOurs_81 : decode cX4_bestOfOurs 81 = .ok (.iinc 4 1, 3) := by decide +kernel
theorem dX4_bestOfOurs_84 : decode cX4_bestOfOurs 84 = .ok (.goto (-62), 3) := by decide +kernel
theorem dX4_bestOfOurs_87 : decode cX4_bestOfOurs 87 = .ok (.iload_n 3, 1) := by decide +kernel
theorem dX4_bestOfOurs_88 : decode cX4_bestOfOurs 88 = .ok (.ireturn, 1) := by decide +kernel
set_option maxRecDepth 20000 in
theorem ggX4_mayFoul_X0_told : GoodIn wsX4_mayFoul wsX0_told := goodIn_r _ [7, 8, 35, 36] (by decide +kernel) (by decide +kernel)
set_option maxRecDepth 20000 in
theorem gX4_mayFoul_X0_told : GoodIn wsX4_mayFoul (wsV RX4 107 RX0 yX0_told wsX0_told) := goodIn_app (goodIn_of _ (by decide +kernel)) ggX4_mayFoul_X0_told
set_option maxRecDepth 20000 in
theorem ggX4_mayFoul_X4_isOverNow : GoodIn wsX4_mayFoul wsX4_isOverNow := goodIn_r _ [13, 14, 1, 3, 4, 5, 6, 7, 8, 15, 16, 17, 18, 19, 20, 21, 22, 23, 24, 25, 26, 27, 28, 29, 30, 31, 32, 33, 34, 35, 36, 37, 38, 39, 40, 41, 42, 43, 44, 45, 46, 47] (by decide +kernel) (by decide +kernel)
set_option maxRecDepth 20000 in
theorem gX4_mayFoul_X4_isOverNow : GoodIn wsX4_mayFoul (wsV RX4 137 RX4 yX4_isOverNow wsX4_isOverNow) := goodIn_app (goodIn_of _ (by decide +kernel)) ggX4_mayFoul_X4_isOverNow
theorem dX4_mayFoul_0 : decode cX4_mayFoul 0 = .ok (.aload_n 0, 1) := by decide +kernel
theorem dX4_mayFoul_1 : decode cX4_mayFoul 1 = .ok (.getfield 10, 3) := by decide +kernel
theorem dX4_mayFoul_4 : decode cX4_mayFoul 4 = .ok (.iconst 2, 1) := by decide +kernel
theorem dX4_mayFoul_5 : decode cX4_mayFoul 5 = .ok (.invokevirtual 107, 3) := by decide +kernel
theorem dX4_mayFoul_8 : decode cX4_mayFoul 8 = .ok (.iconst 1, 1) := by decide +kernel
theorem dX4_mayFoul_9 : decode cX4_mayFoul 9 = .ok (.if_icmp .ne 30, 3) := by decide +kernel
theorem dX4_mayFoul_12 : decode cX4_mayFoul 12 = .ok (.aload_n 0, 1) := by decide +kernel
theorem dX4_mayFoul_13 : decode cX4_mayFoul 13 = .ok (.invokevirtual 137, 3) := by decide +kernel
theorem dX4_mayFoul_16 : decode cX4_mayFoul 16 = .ok (.ifCond .ne 23, 3) := by decide +kernel
theorem dX4_mayFoul_19 : decode cX4_mayFoul 19 = .ok (.aload_n 0, 1) := by decide +kernel
theorem dX4_mayFoul_20 : decode cX4_mayFoul 20 = .ok (.getfield 10, 3) := by decide +kernel
theorem dX4_mayFoul_23 : decode cX4_mayFoul 23 = .ok (.iconst 3, 1) := by decide +kernel
theorem dX4_mayFoul_24 : decode cX4_mayFoul 24 = .ok (.invokevirtual 107, 3) := by decide +kernel
theorem dX4_mayFoul_27 : decode cX4_mayFoul 27 = .ok (.getstatic 104, 3) := by decide +kernel
theorem dX4_mayFoul_30 : decode cX4_mayFoul 30 = .ok (.iconst 3, 1) := by decide +kernel
theorem dX4_mayFoul_31 : decode cX4_mayFoul 31 = .ok (.iaload, 1) := by decide +kernel
theorem dX4_mayFoul_32 : decode cX4_mayFoul 32 = .ok (.if_icmp .ge 7, 3) := by decide +kernel
theorem dX4_mayFoul_35 : decode cX4_mayFoul 35 = .ok (.iconst 1, 1) := by decide +kernel
theorem dX4_mayFoul_36 : decode cX4_mayFoul 36 = .ok (.goto 4, 3) := by decide +kernel
theorem dX4_mayFoul_39 : decode cX4_mayFoul 39 = .ok (.iconst 0, 1) := by decide +kernel
theorem dX4_mayFoul_40 : decode cX4_mayFoul 40 = .ok (.ireturn, 1) := by decide +kernel
set_option maxRecDepth 20000 in
theorem ggX4_valueOfTwoFree_X0_told : GoodIn wsX4_valueOfTwoFree wsX0_told := goodIn_r _ [7, 8, 134, 135] (by decide +kernel) (by decide +kernel)
set_option maxRecDepth 20000 in
theorem gX4_valueOfTwoFree_X0_told : GoodIn wsX4_valueOfTwoFree (wsV RX4 107 RX0 yX0_told wsX0_told) := goodIn_app (goodIn_of _ (by decide +kernel)) ggX4_valueOfTwoFree_X0_told
set_option maxRecDepth 20000 in
theorem ggX4_valueOfTwoFree_X1_solveTo : GoodIn wsX4_valueOfTwoFree wsX1_solveTo := goodIn_r _ [13, 14, 15, 16, 17, 18, 19, 20, 21, 12, 22, 23, 24, 25, 26, 27, 28, 29, 30, 31, 32, 33, 34, 35, 36, 37, 38, 39, 40, 41, 42, 43, 44, 45, 46, 47, 48, 49, 50, 51, 52, 53, 54, 55, 56, 57, 58, 59, 60, 61, 62, 63, 64, 65, 66, 67, 68, 69, 70, 71, 72, 73, 74, 75, 76, 77, 78, 79, 80, 81, 82, 83, 84, 85, 86, 87, 88, 89, 90, 91, 92, 93, 94, 95, 96, 97, 98, 99, 100, 101, 102, 103, 104, 105, 106, 107, 108, 109, 110, 111, 112, 113, 114, 115, 116, 117, 118, 136, 137, 138, 139, 140, 141, 142, 143, 144, 145, 146, 147, 148] (by decide +kernel) (by decide +kernel)
set_option maxRecDepth 20000 in
theorem gX4_valueOfTwoFree_X1_solveTo : GoodIn wsX4_valueOfTwoFree (wsV RX4 120 RX1 yX1_solveTo wsX1_solveTo) := goodIn_app (goodIn_of _ (by decide +kernel)) ggX4_valueOfTwoFree_X1_solveTo
set_option maxRecDepth 20000 in
theorem ggX4_valueOfTwoFree_X3_tenths : GoodIn wsX4_valueOfTwoFree wsX3_tenths := goodIn_r _ [33, 34, 15, 16, 17, 35, 36, 37, 38, 39, 40, 32, 41, 42, 147, 148] (by decide +kernel) (by decide +kernel)
set_option maxRecDepth 20000 in
theorem gX4_valueOfTwoFree_X3_tenths : GoodIn wsX4_valueOfTwoFree (wsV RX4 100 RX3 yX3_tenths wsX3_tenths) := goodIn_app (goodIn_of _ (by decide +kernel)) ggX4_valueOfTwoFree_X3_tenths
set_option maxRecDepth 20000 in
theorem ggX4_valueOfTwoFree_X3_fact : GoodIn wsX4_valueOfTwoFree wsX3_fact := goodIn_r _ [41, 42, 147, 148] (by decide +kernel) (by decide +kernel)
set_option maxRecDepth 20000 in
theorem gX4_valueOfTwoFree_X3_fact : GoodIn wsX4_valueOfTwoFree (wsV RX4 97 RX3 yX3_fact wsX3_fact) := goodIn_app (goodIn_of _ (by decide +kernel)) ggX4_valueOfTwoFree_X3_fact
set_option maxRecDepth 20000 in
theorem ggX4_valueOfTwoFree_X4_heldLead : GoodIn wsX4_valueOfTwoFree wsX4_heldLead := goodIn_r _ [92] (by decide +kernel) (by decide +kernel)
set_option maxRecDepth 20000 in
theorem gX4_valueOfTwoFree_X4_heldLead : GoodIn wsX4_valueOfTwoFree (va_wsS RX4 134 yX4_heldLead wsX4_heldLead) := goodIn_app (goodIn_of _ (by decide +kernel)) ggX4_valueOfTwoFree_X4_heldLead
set_option maxRecDepth 20000 in
theorem ggX4_valueOfTwoFree_X1_valueAt : GoodIn wsX4_valueOfTwoFree wsX1_valueAt := goodIn_r _ [100, 77, 55, 56, 12, 57, 136, 137, 138, 139, 140, 141, 142, 143, 144, 145, 146] (by decide +kernel) (by decide +kernel)
set_option maxRecDepth 20000 in
theorem gX4_valueOfTwoFree_X1_valueAt : GoodIn wsX4_valueOfTwoFree (wsV RX4 124 RX1 yX1_valueAt wsX1_valueAt) := goodIn_app (goodIn_of _ (by decide +kernel)) ggX4_valueOfTwoFree_X1_valueAt
set_option maxRecDepth 20000 in
theorem ggX4_valueOfTwoFree_X4_mix : GoodIn wsX4_valueOfTwoFree wsX4_mix := goodIn_r _ [107, 108] (by decide +kernel) (by decide +kernel)
set_option maxRecDepth 20000 in
theorem gX4_valueOfTwoFree_X4_mix : GoodIn wsX4_valueOfTwoFree (va_wsS RX4 218 yX4_mix wsX4_mix) := goodIn_app (goodIn_of _ (by decide +kernel)) ggX4_valueOfTwoFree_X4_mix
theorem dX4_valueOfTwoFree_0 : decode cX4_valueOfTwoFree 0 = .ok (.aload_n 0, 1) := by decide +kernel
theorem dX4_valueOfTwoFree_1 : decode cX4_valueOfTwoFree 1 = .ok (.getfield 44, 3) := by decide +kernel
theorem dX4_valueOfTwoFree_4 : decode cX4_valueOfTwoFree 4 = .ok (.aload_n 0, 1) := by decide +kernel
theorem dX4_valueOfTwoFree_5 : decode cX4_valueOfTwoFree 5 = .ok (.getfield 10, 3) := by decide +kernel
theorem dX4_valueOfTwoFree_8 : decode cX4_valueOfTwoFree 8 = .ok (.iconst 0, 1) := by decide +kernel
theorem dX4_valueOfTwoFree_9 : decode cX4_valueOfTwoFree 9 = .ok (.invokevirtual 107, 3) := by decide +kernel
theorem dX4_valueOfTwoFree_12 : decode cX4_valueOfTwoFree 12 = .ok (.invokevirtual 120, 3) := by decide +kernel
theorem dX4_valueOfTwoFree_15 : decode cX4_valueOfTwoFree 15 = .ok (.aload_n 0, 1) := by decide +kernel
theorem dX4_valueOfTwoFree_16 : decode cX4_valueOfTwoFree 16 = .ok (.getfield 10, 3) := by decide +kernel
theorem dX4_valueOfTwoFree_19 : decode cX4_valueOfTwoFree 19 = .ok (.getfield 69, 3) := by decide +kernel
theorem dX4_valueOfTwoFree_22 : decode cX4_valueOfTwoFree 22 = .ok (.iload_n 1, 1) := by decide +kernel
theorem dX4_valueOfTwoFree_23 : decode cX4_valueOfTwoFree 23 = .ok (.iconst 2, 1) := by decide +kernel
theorem dX4_valueOfTwoFree_24 : decode cX4_valueOfTwoFree 24 = .ok (.aload_n 0, 1) := by decide +kernel
theorem dX4_valueOfTwoFree_25 : decode cX4_valueOfTwoFree 25 = .ok (.getfield 10, 3) := by decide +kernel
theorem dX4_valueOfTwoFree_28 : decode cX4_valueOfTwoFree 28 = .ok (.iconst 0, 1) := by decide +kernel
theorem dX4_valueOfTwoFree_29 : decode cX4_valueOfTwoFree 29 = .ok (.invokevirtual 107, 3) := by decide +kernel
theorem dX4_valueOfTwoFree_32 : decode cX4_valueOfTwoFree 32 = .ok (.invokevirtual 100, 3) := by decide +kernel
theorem dX4_valueOfTwoFree_35 : decode cX4_valueOfTwoFree 35 = .ok (.istore 4, 2) := by decide +kernel
theorem dX4_valueOfTwoFree_37 : decode cX4_valueOfTwoFree 37 = .ok (.aload_n 0, 1) := by decide +kernel
theorem dX4_valueOfTwoFree_38 : decode cX4_valueOfTwoFree 38 = .ok (.getfield 10, 3) := by decide +kernel
theorem dX4_valueOfTwoFree_41 : decode cX4_valueOfTwoFree 41 = .ok (.getfield 69, 3) := by decide +kernel
theorem dX4_valueOfTwoFree_44 : decode cX4_valueOfTwoFree 44 = .ok (.iload_n 1, 1) := by decide +kernel
theorem dX4_valueOfTwoFree_45 : decode cX4_valueOfTwoFree 45 = .ok (.iconst 0, 1) := by decide +kernel
theorem dX4_valueOfTwoFree_46 : decode cX4_valueOfTwoFree 46 = .ok (.invokevirtual 97, 3) := by decide +kernel
theorem dX4_valueOfTwoFree_49 : decode cX4_valueOfTwoFree 49 = .ok (.ifCond .ne 7, 3) := by decide +kernel
theorem dX4_valueOfTwoFree_52 : decode cX4_valueOfTwoFree 52 = .ok (.iconst 1, 1) := by decide +kernel
theorem dX4_valueOfTwoFree_53 : decode cX4_valueOfTwoFree 53 = .ok (.goto 4, 3) := by decide +kernel
theorem dX4_valueOfTwoFree_56 : decode cX4_valueOfTwoFree 56 = .ok (.iconst (-1), 1) := by decide +kernel
theorem dX4_valueOfTwoFree_57 : decode cX4_valueOfTwoFree 57 = .ok (.istore 5, 2) := by decide +kernel
theorem dX4_valueOfTwoFree_59 : decode cX4_valueOfTwoFree 59 = .ok (.aload_n 0, 1) := by decide +kernel
theorem dX4_valueOfTwoFree_60 : decode cX4_valueOfTwoFree 60 = .ok (.getfield 10, 3) := by decide +kernel
theorem dX4_valueOfTwoFree_63 : decode cX4_valueOfTwoFree 63 = .ok (.iconst 1, 1) := by decide +kernel
theorem dX4_valueOfTwoFree_64 : decode cX4_valueOfTwoFree 64 = .ok (.invokevirtual 107, 3) := by decide +kernel
theorem dX4_valueOfTwoFree_67 : decode cX4_valueOfTwoFree 67 = .ok (.istore 6, 2) := by decide +kernel
theorem dX4_valueOfTwoFree_69 : decode cX4_valueOfTwoFree 69 = .ok (.iload 6, 2) := by decide +kernel
theorem dX4_valueOfTwoFree_71 : decode cX4_valueOfTwoFree 71 = .ok (.iload 5, 2) := by decide +kernel
theorem dX4_valueOfTwoFree_73 : decode cX4_valueOfTwoFree 73 = .ok (.iadd, 1) := by decide +kernel
theorem dX4_valueOfTwoFree_74 : decode cX4_valueOfTwoFree 74 = .ok (.invokestatic 134, 3) := by decide +kernel
theorem dX4_valueOfTwoFree_77 : decode cX4_valueOfTwoFree 77 = .ok (.istore 7, 2) := by decide +kernel
theorem dX4_valueOfTwoFree_79 : decode cX4_valueOfTwoFree 79 = .ok (.iload 7, 2) := by decide +kernel
theorem dX4_valueOfTwoFree_81 : decode cX4_valueOfTwoFree 81 = .ok (.iload 5, 2) := by decide +kernel
theorem dX4_valueOfTwoFree_83 : decode cX4_valueOfTwoFree 83 = .ok (.iadd, 1) := by decide +kernel
theorem dX4_valueOfTwoFree_84 : decode cX4_valueOfTwoFree 84 = .ok (.invokestatic 134, 3) := by decide +kernel
theorem dX4_valueOfTwoFree_87 : decode cX4_valueOfTwoFree 87 = .ok (.istore 8, 2) := by decide +kernel
theorem dX4_valueOfTwoFree_89 : decode cX4_valueOfTwoFree 89 = .ok (.aload_n 0, 1) := by decide +kernel
theorem dX4_valueOfTwoFree_90 : decode cX4_valueOfTwoFree 90 = .ok (.getfield 44, 3) := by decide +kernel
theorem dX4_valueOfTwoFree_93 : decode cX4_valueOfTwoFree 93 = .ok (.iload_n 2, 1) := by decide +kernel
theorem dX4_valueOfTwoFree_94 : decode cX4_valueOfTwoFree 94 = .ok (.iload 6, 2) := by decide +kernel
theorem dX4_valueOfTwoFree_96 : decode cX4_valueOfTwoFree 96 = .ok (.iload_n 3, 1) := by decide +kernel
theorem dX4_valueOfTwoFree_97 : decode cX4_valueOfTwoFree 97 = .ok (.invokevirtual 124, 3) := by decide +kernel
theorem dX4_valueOfTwoFree_100 : decode cX4_valueOfTwoFree 100 = .ok (.istore 9, 2) := by decide +kernel
theorem dX4_valueOfTwoFree_102 : decode cX4_valueOfTwoFree 102 = .ok (.aload_n 0, 1) := by decide +kernel
theorem dX4_valueOfTwoFree_103 : decode cX4_valueOfTwoFree 103 = .ok (.getfield 44, 3) := by decide +kernel
theorem dX4_valueOfTwoFree_106 : decode cX4_valueOfTwoFree 106 = .ok (.iload_n 2, 1) := by decide +kernel
theorem dX4_valueOfTwoFree_107 : decode cX4_valueOfTwoFree 107 = .ok (.iload 7, 2) := by decide +kernel
theorem dX4_valueOfTwoFree_109 : decode cX4_valueOfTwoFree 109 = .ok (.iload_n 3, 1) := by decide +kernel
theorem dX4_valueOfTwoFree_110 : decode cX4_valueOfTwoFree 110 = .ok (.invokevirtual 124, 3) := by decide +kernel
theorem dX4_valueOfTwoFree_113 : decode cX4_valueOfTwoFree 113 = .ok (.istore 10, 2) := by decide +kernel
theorem dX4_valueOfTwoFree_115 : decode cX4_valueOfTwoFree 115 = .ok (.aload_n 0, 1) := by decide +kernel
theorem dX4_valueOfTwoFree_116 : decode cX4_valueOfTwoFree 116 = .ok (.getfield 44, 3) := by decide +kernel
theorem dX4_valueOfTwoFree_119 : decode cX4_valueOfTwoFree 119 = .ok (.iload_n 2, 1) := by decide +kernel
theorem dX4_valueOfTwoFree_120 : decode cX4_valueOfTwoFree 120 = .ok (.iload 8, 2) := by decide +kernel
theorem dX4_valueOfTwoFree_122 : decode cX4_valueOfTwoFree 122 = .ok (.iload_n 3, 1) := by decide +kernel
theorem dX4_valueOfTwoFree_123 : decode cX4_valueOfTwoFree 123 = .ok (.invokevirtual 124, 3) := by decide +kernel
theorem dX4_valueOfTwoFree_126 : decode cX4_valueOfTwoFree 126 = .ok (.istore 11, 2) := by decide +kernel
theorem dX4_valueOfTwoFree_128 : decode cX4_valueOfTwoFree 128 = .ok (.iload 4, 2) := by decide +kernel
theorem dX4_valueOfTwoFree_130 : decode cX4_valueOfTwoFree 130 = .ok (.iload 4, 2) := by decide +kernel
theorem dX4_valueOfTwoFree_132 : decode cX4_valueOfTwoFree 132 = .ok (.iload 11, 2) := by decide +kernel
theorem dX4_valueOfTwoFree_134 : decode cX4_valueOfTwoFree 134 = .ok (.iload 10, 2) := by decide +kernel
theorem dX4_valueOfTwoFree_136 : decode cX4_valueOfTwoFree 136 = .ok (.invokestatic 218, 3) := by decide +kernel
theorem dX4_valueOfTwoFree_139 : decode cX4_valueOfTwoFree 139 = .ok (.iload 4, 2) := by decide +kernel
theorem dX4_valueOfTwoFree_141 : decode cX4_valueOfTwoFree 141 = .ok (.iload 10, 2) := by decide +kernel
theorem dX4_valueOfTwoFree_143 : decode cX4_valueOfTwoFree 143 = .ok (.iload 9, 2) := by decide +kernel
theorem dX4_valueOfTwoFree_145 : decode cX4_valueOfTwoFree 145 = .ok (.invokestatic 218, 3) := by decide +kernel
theorem dX4_valueOfTwoFree_148 : decode cX4_valueOfTwoFree 148 = .ok (.invokestatic 218, 3) := by decide +kernel
theorem dX4_valueOfTwoFree_151 : decode cX4_valueOfTwoFree 151 = .ok (.ireturn, 1) := by decide +kernel
set_option maxRecDepth 20000 in
theorem ggX4_placeThatCanNotBe_X0_told : GoodIn wsX4_placeThatCanNotBe wsX0_told := goodIn_r _ [13, 14, 54, 55] (by decide +kernel) (by decide +kernel)
set_option maxRecDepth 20000 in
theorem gX4_placeThatCanNotBe_X0_told : GoodIn wsX4_placeThatCanNotBe (wsV RX4 107 RX0 yX0_told wsX0_told) := goodIn_app (goodIn_of _ (by decide +kernel)) ggX4_placeThatCanNotBe_X0_told
set_option maxRecDepth 20000 in
theorem ggX4_placeThatCanNotBe_X4_hasBall : GoodIn wsX4_placeThatCanNotBe wsX4_hasBall := goodIn_r _ [19, 1, 20, 21, 22, 23, 24, 25, 26, 27, 28, 29, 30, 44, 45, 46, 47, 48, 49, 50, 51, 52, 53, 54, 55, 56, 57] (by decide +kernel) (by decide +kernel)
set_option maxRecDepth 20000 in
theorem gX4_placeThatCanNotBe_X4_hasBall : GoodIn wsX4_placeThatCanNotBe (wsV RX4 221 RX4 yX4_hasBall wsX4_hasBall) := goodIn_app (goodIn_of _ (by decide +kernel)) ggX4_placeThatCanNotBe_X4_hasBall
set_option maxRecDepth 20000 in
theorem ggX4_placeThatCanNotBe_X1_isOver : GoodIn wsX4_placeThatCanNotBe wsX1_isOver := goodIn_r _ [35, 36, 37, 38, 7, 39, 58, 59, 60, 61, 62, 63, 64, 65, 66, 67, 68] (by decide +kernel) (by decide +kernel)
set_option maxRecDepth 20000 in
theorem gX4_placeThatCanNotBe_X1_isOver : GoodIn wsX4_placeThatCanNotBe (wsV RX4 207 RX1 yX1_isOver wsX1_isOver) := goodIn_app (goodIn_of _ (by decide +kernel)) ggX4_placeThatCanNotBe_X1_isOver
set_option maxRecDepth 20000 in
theorem ggX4_placeThatCanNotBe_X4_takes : GoodIn wsX4_placeThatCanNotBe wsX4_takes := goodIn_r _ [42, 43] (by decide +kernel) (by decide +kernel)
set_option maxRecDepth 20000 in
theorem gX4_placeThatCanNotBe_X4_takes : GoodIn wsX4_placeThatCanNotBe (va_wsS RX4 186 yX4_takes wsX4_takes) := goodIn_app (goodIn_of _ (by decide +kernel)) ggX4_placeThatCanNotBe_X4_takes
theorem dX4_placeThatCanNotBe_0 : decode cX4_placeThatCanNotBe 0 = .ok (.aload_n 0, 1) := by decide +kernel
theorem dX4_placeThatCanNotBe_1 : decode cX4_placeThatCanNotBe 1 = .ok (.getfield 10, 3) := by decide +kernel
theorem dX4_placeThatCanNotBe_4 : decode cX4_placeThatCanNotBe 4 = .ok (.iconst 0, 1) := by decide +kernel
theorem dX4_placeThatCanNotBe_5 : decode cX4_placeThatCanNotBe 5 = .ok (.invokevirtual 107, 3) := by decide +kernel
theorem dX4_placeThatCanNotBe_8 : decode cX4_placeThatCanNotBe 8 = .ok (.istore_n 1, 1) := by decide +kernel
theorem dX4_placeThatCanNotBe_9 : decode cX4_placeThatCanNotBe 9 = .ok (.aload_n 0, 1) := by decide +kernel
theorem dX4_placeThatCanNotBe_10 : decode cX4_placeThatCanNotBe 10 = .ok (.getfield 10, 3) := by decide +kernel
theorem dX4_placeThatCanNotBe_13 : decode cX4_placeThatCanNotBe 13 = .ok (.iconst 2, 1) := by decide +kernel
theorem dX4_placeThatCanNotBe_14 : decode cX4_placeThatCanNotBe 14 = .ok (.invokevirtual 107, 3) := by decide +kernel
theorem dX4_placeThatCanNotBe_17 : decode cX4_placeThatCanNotBe 17 = .ok (.istore_n 2, 1) := by decide +kernel
theorem dX4_placeThatCanNotBe_18 : decode cX4_placeThatCanNotBe 18 = .ok (.iconst 0, 1) := by decide +kernel
theorem dX4_placeThatCanNotBe_19 : decode cX4_placeThatCanNotBe 19 = .ok (.istore_n 3, 1) := by decide +kernel
theorem dX4_placeThatCanNotBe_20 : decode cX4_placeThatCanNotBe 20 = .ok (.iload_n 3, 1) := by decide +kernel
theorem dX4_placeThatCanNotBe_21 : decode cX4_placeThatCanNotBe 21 = .ok (.aload_n 0, 1) := by decide +kernel
theorem dX4_placeThatCanNotBe_22 : decode cX4_placeThatCanNotBe 22 = .ok (.getfield 34, 3) := by decide +kernel
theorem dX4_placeThatCanNotBe_25 : decode cX4_placeThatCanNotBe 25 = .ok (.if_icmp .ge 140, 3) := by decide +kernel
theorem dX4_placeThatCanNotBe_28 : decode cX4_placeThatCanNotBe 28 = .ok (.iload_n 3, 1) := by decide +kernel
theorem dX4_placeThatCanNotBe_29 : decode cX4_placeThatCanNotBe 29 = .ok (.aload_n 0, 1) := by decide +kernel
theorem dX4_placeThatCanNotBe_30 : decode cX4_placeThatCanNotBe 30 = .ok (.getfield 30, 3) := by decide +kernel
theorem dX4_placeThatCanNotBe_33 : decode cX4_placeThatCanNotBe 33 = .ok (.arraylength, 1) := by decide +kernel
theorem dX4_placeThatCanNotBe_34 : decode cX4_placeThatCanNotBe 34 = .ok (.if_icmp .ge 131, 3) := by decide +kernel
theorem dX4_placeThatCanNotBe_37 : decode cX4_placeThatCanNotBe 37 = .ok (.iload_n 3, 1) := by decide +kernel
theorem dX4_placeThatCanNotBe_38 : decode cX4_placeThatCanNotBe 38 = .ok (.iconst 1, 1) := by decide +kernel
theorem dX4_placeThatCanNotBe_39 : decode cX4_placeThatCanNotBe 39 = .ok (.iadd, 1) := by decide +kernel
theorem dX4_placeThatCanNotBe_40 : decode cX4_placeThatCanNotBe 40 = .ok (.aload_n 0, 1) := by decide +kernel
theorem dX4_placeThatCanNotBe_41 : decode cX4_placeThatCanNotBe 41 = .ok (.getfield 34, 3) := by decide +kernel
theorem dX4_placeThatCanNotBe_44 : decode cX4_placeThatCanNotBe 44 = .ok (.if_icmp .ge 14, 3) := by decide +kernel
theorem dX4_placeThatCanNotBe_47 : decode cX4_placeThatCanNotBe 47 = .ok (.iload_n 3, 1) := by decide +kernel
theorem dX4_placeThatCanNotBe_48 : decode cX4_placeThatCanNotBe 48 = .ok (.iconst 1, 1) := by decide +kernel
theorem dX4_placeThatCanNotBe_49 : decode cX4_placeThatCanNotBe 49 = .ok (.iadd, 1) := by decide +kernel
theorem dX4_placeThatCanNotBe_50 : decode cX4_placeThatCanNotBe 50 = .ok (.aload_n 0, 1) := by decide +kernel
theorem dX4_placeThatCanNotBe_51 : decode cX4_placeThatCanNotBe 51 = .ok (.getfield 30, 3) := by decide +kernel
theorem dX4_placeThatCanNotBe_54 : decode cX4_placeThatCanNotBe 54 = .ok (.arraylength, 1) := by decide +kernel
theorem dX4_placeThatCanNotBe_55 : decode cX4_placeThatCanNotBe 55 = .ok (.if_icmp .lt 5, 3) := by decide +kernel
theorem dX4_placeThatCanNotBe_58 : decode cX4_placeThatCanNotBe 58 = .ok (.iload_n 3, 1) := by decide +kernel
theorem dX4_placeThatCanNotBe_59 : decode cX4_placeThatCanNotBe 59 = .ok (.ireturn, 1) := by decide +kernel
theorem dX4_placeThatCanNotBe_60 : decode cX4_placeThatCanNotBe 60 = .ok (.aload_n 0, 1) := by decide +kernel
theorem dX4_placeThatCanNotBe_61 : decode cX4_placeThatCanNotBe 61 = .ok (.getfield 30, 3) := by decide +kernel
theorem dX4_placeThatCanNotBe_64 : decode cX4_placeThatCanNotBe 64 = .ok (.iload_n 3, 1) := by decide +kernel
theorem dX4_placeThatCanNotBe_65 : decode cX4_placeThatCanNotBe 65 = .ok (.iconst 1, 1) := by decide +kernel
theorem dX4_placeThatCanNotBe_66 : decode cX4_placeThatCanNotBe 66 = .ok (.iadd, 1) := by decide +kernel
theorem dX4_placeThatCanNotBe_67 : decode cX4_placeThatCanNotBe 67 = .ok (.iaload, 1) := by decide +kernel
theorem dX4_placeThatCanNotBe_68 : decode cX4_placeThatCanNotBe 68 = .ok (.istore 4, 2) := by decide +kernel
theorem dX4_placeThatCanNotBe_70 : decode cX4_placeThatCanNotBe 70 = .ok (.iload 4, 2) := by decide +kernel
theorem dX4_placeThatCanNotBe_72 : decode cX4_placeThatCanNotBe 72 = .ok (.iconst 3, 1) := by decide +kernel
theorem dX4_placeThatCanNotBe_73 : decode cX4_placeThatCanNotBe 73 = .ok (.if_icmp .eq 17, 3) := by decide +kernel
theorem dX4_placeThatCanNotBe_76 : decode cX4_placeThatCanNotBe 76 = .ok (.aload_n 0, 1) := by decide +kernel
theorem dX4_placeThatCanNotBe_77 : decode cX4_placeThatCanNotBe 77 = .ok (.aload_n 0, 1) := by decide +kernel
theorem dX4_placeThatCanNotBe_78 : decode cX4_placeThatCanNotBe 78 = .ok (.getfield 30, 3) := by decide +kernel
theorem dX4_placeThatCanNotBe_81 : decode cX4_placeThatCanNotBe 81 = .ok (.iload_n 3, 1) := by decide +kernel
theorem dX4_placeThatCanNotBe_82 : decode cX4_placeThatCanNotBe 82 = .ok (.iaload, 1) := by decide +kernel
theorem dX4_placeThatCanNotBe_83 : decode cX4_placeThatCanNotBe 83 = .ok (.iload_n 2, 1) := by decide +kernel
theorem dX4_placeThatCanNotBe_84 : decode cX4_placeThatCanNotBe 84 = .ok (.invokevirtual 221, 3) := by decide +kernel
theorem dX4_placeThatCanNotBe_87 : decode cX4_placeThatCanNotBe 87 = .ok (.ifCond .eq 7, 3) := by decide +kernel
theorem dX4_placeThatCanNotBe_90 : decode cX4_placeThatCanNotBe 90 = .ok (.iconst 1, 1) := by decide +kernel
theorem dX4_placeThatCanNotBe_91 : decode cX4_placeThatCanNotBe 91 = .ok (.goto 4, 3) := by decide +kernel
theorem dX4_placeThatCanNotBe_94 : decode cX4_placeThatCanNotBe 94 = .ok (.iconst 0, 1) := by decide +kernel
theorem dX4_placeThatCanNotBe_95 : decode cX4_placeThatCanNotBe 95 = .ok (.istore 5, 2) := by decide +kernel
theorem dX4_placeThatCanNotBe_97 : decode cX4_placeThatCanNotBe 97 = .ok (.iload 5, 2) := by decide +kernel
theorem dX4_placeThatCanNotBe_99 : decode cX4_placeThatCanNotBe 99 = .ok (.ifCond .eq 22, 3) := by decide +kernel
theorem dX4_placeThatCanNotBe_102 : decode cX4_placeThatCanNotBe 102 = .ok (.aload_n 0, 1) := by decide +kernel
theorem dX4_placeThatCanNotBe_103 : decode cX4_placeThatCanNotBe 103 = .ok (.getfield 44, 3) := by decide +kernel
theorem dX4_placeThatCanNotBe_106 : decode cX4_placeThatCanNotBe 106 = .ok (.iload_n 1, 1) := by decide +kernel
theorem dX4_placeThatCanNotBe_107 : decode cX4_placeThatCanNotBe 107 = .ok (.aload_n 0, 1) := by decide +kernel
theorem dX4_placeThatCanNotBe_108 : decode cX4_placeThatCanNotBe 108 = .ok (.getfield 10, 3) := by decide +kernel
theorem dX4_placeThatCanNotBe_111 : decode cX4_placeThatCanNotBe 111 = .ok (.iconst 1, 1) := by decide +kernel
theorem dX4_placeThatCanNotBe_112 : decode cX4_placeThatCanNotBe 112 = .ok (.invokevirtual 107, 3) := by decide +kernel
theorem dX4_placeThatCanNotBe_115 : decode cX4_placeThatCanNotBe 115 = .ok (.invokevirtual 207, 3) := by decide +kernel
theorem dX4_placeThatCanNotBe_118 : decode cX4_placeThatCanNotBe 118 = .ok (.ifCond .eq 5, 3) := by decide +kernel
theorem dX4_placeThatCanNotBe_121 : decode cX4_placeThatCanNotBe 121 = .ok (.iload_n 3, 1) := by decide +kernel
theorem dX4_placeThatCanNotBe_122 : decode cX4_placeThatCanNotBe 122 = .ok (.ireturn, 1) := by decide +kernel
theorem dX4_placeThatCanNotBe_123 : decode cX4_placeThatCanNotBe 123 = .ok (.iload 4, 2) := by decide +kernel
theorem dX4_placeThatCanNotBe_125 : decode cX4_placeThatCanNotBe 125 = .ok (.iconst 3, 1) := by decide +kernel
theorem dX4_placeThatCanNotBe_126 : decode cX4_placeThatCanNotBe 126 = .ok (.if_icmp .le 7, 3) := by decide +kernel
theorem dX4_placeThatCanNotBe_129 : decode cX4_placeThatCanNotBe 129 = .ok (.iload_n 3, 1) := by decide +kernel
theorem dX4_placeThatCanNotBe_130 : decode cX4_placeThatCanNotBe 130 = .ok (.iconst 1, 1) := by decide +kernel
theorem dX4_placeThatCanNotBe_131 : decode cX4_placeThatCanNotBe 131 = .ok (.iadd, 1) := by decide +kernel
theorem dX4_placeThatCanNotBe_132 : decode cX4_placeThatCanNotBe 132 = .ok (.ireturn, 1) := by decide +kernel
theorem dX4_placeThatCanNotBe_133 : decode cX4_placeThatCanNotBe 133 = .ok (.iconst 0, 1) := by decide +kernel
theorem dX4_placeThatCanNotBe_134 : decode cX4_placeThatCanNotBe 134 = .ok (.iload_n 1, 1) := by decide +kernel
theorem dX4_placeThatCanNotBe_135 : decode cX4_placeThatCanNotBe 135 = .ok (.iload 4, 2) := by decide +kernel
theorem dX4_placeThatCanNotBe_137 : decode cX4_placeThatCanNotBe 137 = .ok (.invokestatic 186, 3) := by decide +kernel
theorem dX4_placeThatCanNotBe_140 : decode cX4_placeThatCanNotBe 140 = .ok (.isub, 1) := by decide +kernel
theorem dX4_placeThatCanNotBe_141 : decode cX4_placeThatCanNotBe 141 = .ok (.invokestatic 215, 3) := by decide +kernel
theorem dX4_placeThatCanNotBe_144 : decode cX4_placeThatCanNotBe 144 = .ok (.istore_n 1, 1) := by decide +kernel
theorem dX4_placeThatCanNotBe_145 : decode cX4_placeThatCanNotBe 145 = .ok (.iload 4, 2) := by decide +kernel
theorem dX4_placeThatCanNotBe_147 : decode cX4_placeThatCanNotBe 147 = .ok (.iconst 3, 1) := by decide +kernel
theorem dX4_placeThatCanNotBe_148 : decode cX4_placeThatCanNotBe 148 = .ok (.if_icmp .ne 7, 3) := by decide +kernel
theorem dX4_placeThatCanNotBe_151 : decode cX4_placeThatCanNotBe 151 = .ok (.iload_n 2, 1) := by decide +kernel
theorem dX4_placeThatCanNotBe_152 : decode cX4_placeThatCanNotBe 152 = .ok (.goto 6, 3) := by decide +kernel
theorem dX4_placeThatCanNotBe_155 : decode cX4_placeThatCanNotBe 155 = .ok (.iconst 1, 1) := by decide +kernel
theorem dX4_placeThatCanNotBe_156 : decode cX4_placeThatCanNotBe 156 = .ok (.iload_n 2, 1) := by decide +kernel
theorem dX4_placeThatCanNotBe_157 : decode cX4_placeThatCanNotBe 157 = .ok (.isub, 1) := by decide +kernel
theorem dX4_placeThatCanNotBe_158 : decode cX4_placeThatCanNotBe 158 = .ok (.istore_n 2, 1) := by decide +kernel
theorem dX4_placeThatCanNotBe_159 : decode cX4_placeThatCanNotBe 159 = .ok (.iinc 3 2, 3) := by decide +kernel
theorem dX4_placeThatCanNotBe_162 : decode cX4_placeThatCanNotBe 162 = .ok (.goto (-142), 3) := by decide +kernel
theorem dX4_placeThatCanNotBe_165 : decode cX4_placeThatCanNotBe 165 = .ok (.bipush (-9), 2) := by decide +kernel
theorem dX4_placeThatCanNotBe_167 : decode cX4_placeThatCanNotBe 167 = .ok (.ireturn, 1) := by decide +kernel
set_option maxRecDepth 20000 in
theorem ggX4_hasBall_X3_has : GoodIn wsX4_hasBall wsX3_has := goodIn_r _ [6, 7, 25, 26] (by decide +kernel) (by decide +kernel)
set_option maxRecDepth 20000 in
theorem gX4_hasBall_X3_has : GoodIn wsX4_hasBall (wsV RX4 93 RX3 yX3_has wsX3_has) := goodIn_app (goodIn_of _ (by decide +kernel)) ggX4_hasBall_X3_has
set_option maxRecDepth 20000 in
theorem ggX4_hasBall_X3_fact : GoodIn wsX4_hasBall wsX3_fact := goodIn_r _ [11, 12, 25, 26] (by decide +kernel) (by decide +kernel)
set_option maxRecDepth 20000 in
theorem gX4_hasBall_X3_fact : GoodIn wsX4_hasBall (wsV RX4 97 RX3 yX3_fact wsX3_fact) := goodIn_app (goodIn_of _ (by decide +kernel)) ggX4_hasBall_X3_fact
theorem dX4_hasBall_0 : decode cX4_hasBall 0 = .ok (.aload_n 0, 1) := by decide +kernel
theorem dX4_hasBall_1 : decode cX4_hasBall 1 = .ok (.getfield 10, 3) := by decide +kernel
theorem dX4_hasBall_4 : decode cX4_hasBall 4 = .ok (.getfield 69, 3) := by decide +kernel
theorem dX4_hasBall_7 : decode cX4_hasBall 7 = .ok (.iload_n 1, 1) := by decide +kernel
theorem dX4_hasBall_8 : decode cX4_hasBall 8 = .ok (.invokevirtual 93, 3) := by decide +kernel
theorem dX4_hasBall_11 : decode cX4_hasBall 11 = .ok (.ifCond .eq 23, 3) := by decide +kernel
theorem dX4_hasBall_14 : decode cX4_hasBall 14 = .ok (.aload_n 0, 1) := by decide +kernel
theorem dX4_hasBall_15 : decode cX4_hasBall 15 = .ok (.getfield 10, 3) := by decide +kernel
theorem dX4_hasBall_18 : decode cX4_hasBall 18 = .ok (.getfield 69, 3) := by decide +kernel
theorem dX4_hasBall_21 : decode cX4_hasBall 21 = .ok (.iload_n 1, 1) := by decide +kernel
theorem dX4_hasBall_22 : decode cX4_hasBall 22 = .ok (.iconst 0, 1) := by decide +kernel
theorem dX4_hasBall_23 : decode cX4_hasBall 23 = .ok (.invokevirtual 97, 3) := by decide +kernel
theorem dX4_hasBall_26 : decode cX4_hasBall 26 = .ok (.iload_n 2, 1) := by decide +kernel
theorem dX4_hasBall_27 : decode cX4_hasBall 27 = .ok (.if_icmp .ne 7, 3) := by decide +kernel
theorem dX4_hasBall_30 : decode cX4_hasBall 30 = .ok (.iconst 1, 1) := by decide +kernel
theorem dX4_hasBall_31 : decode cX4_hasBall 31 = .ok (.goto 4, 3) := by decide +kernel
theorem dX4_hasBall_34 : decode cX4_hasBall 34 = .ok (.iconst 0, 1) := by decide +kernel
theorem dX4_hasBall_35 : decode cX4_hasBall 35 = .ok (.ireturn, 1) := by decide +kernel
set_option maxRecDepth 20000 in
theorem ggX4_leadByLot_X0_told : GoodIn wsX4_leadByLot wsX0_told := goodIn_r _ [11, 12, 147, 148] (by decide +kernel) (by decide +kernel)
set_option maxRecDepth 20000 in
theorem gX4_leadByLot_X0_told : GoodIn wsX4_leadByLot (wsV RX4 107 RX0 yX0_told wsX0_told) := goodIn_app (goodIn_of _ (by decide +kernel)) ggX4_leadByLot_X0_told
set_option maxRecDepth 20000 in
theorem ggX4_leadByLot_X1_solveTo : GoodIn wsX4_leadByLot wsX1_solveTo := goodIn_r _ [17, 18, 19, 5, 20, 21, 22, 23, 24, 16, 25, 26, 27, 28, 29, 30, 31, 32, 33, 34, 35, 36, 37, 38, 4, 6, 39, 40, 41, 42, 43, 44, 45, 46, 47, 48, 49, 50, 51, 52, 53, 54, 55, 56, 57, 58, 59, 60, 61, 62, 63, 64, 65, 66, 67, 68, 69, 70, 71, 72, 73, 74, 75, 76, 77, 78, 79, 80, 81, 82, 83, 84, 85, 86, 87, 88, 89, 90, 91, 92, 93, 94, 95, 96, 97, 98, 99, 100, 101, 102, 103, 104, 105, 106, 107, 108, 109, 110, 111, 112, 113, 114, 115, 116, 117, 118, 119, 149, 150, 151, 152, 153, 154, 155, 156, 157, 158, 159, 160, 161] (by decide +kernel) (by decide +kernel)
set_option maxRecDepth 20000 in
theorem gX4_leadByLot_X1_solveTo : GoodIn wsX4_leadByLot (wsV RX4 120 RX1 yX1_solveTo wsX1_solveTo) := goodIn_app (goodIn_of _ (by decide +kernel)) ggX4_leadByLot_X1_solveTo
set_option maxRecDepth 20000 in
theorem ggX4_leadByLot_X1_isOver : GoodIn wsX4_leadByLot wsX1_isOver := goodIn_r _ [62, 63, 64, 65, 5, 66, 149, 150, 151, 152, 153, 154, 155, 156, 157, 158, 159] (by decide +kernel) (by decide +kernel)
set_option maxRecDepth 20000 in
theorem gX4_leadByLot_X1_isOver : GoodIn wsX4_leadByLot (wsV RX4 207 RX1 yX1_isOver wsX1_isOver) := goodIn_app (goodIn_of _ (by decide +kernel)) ggX4_leadByLot_X1_isOver
set_option maxRecDepth 20000 in
theorem ggX4_leadByLot_X1_bestAt : GoodIn wsX4_leadByLot wsX1_bestAt := goodIn_r _ [124, 79, 56, 57, 16, 58, 149, 150, 151, 152, 153, 154, 155, 156, 157, 158, 159] (by decide +kernel) (by decide +kernel)
set_option maxRecDepth 20000 in
theorem gX4_leadByLot_X1_bestAt : GoodIn wsX4_leadByLot (wsV RX4 127 RX1 yX1_bestAt wsX1_bestAt) := goodIn_app (goodIn_of _ (by decide +kernel)) ggX4_leadByLot_X1_bestAt
set_option maxRecDepth 20000 in
theorem ggX4_leadByLot_X4_takes : GoodIn wsX4_leadByLot wsX4_takes := goodIn_r _ [86, 87] (by decide +kernel) (by decide +kernel)
set_option maxRecDepth 20000 in
theorem gX4_leadByLot_X4_takes : GoodIn wsX4_leadByLot (va_wsS RX4 186 yX4_takes wsX4_takes) := goodIn_app (goodIn_of _ (by decide +kernel)) ggX4_leadByLot_X4_takes
set_option maxRecDepth 20000 in
theorem ggX4_leadByLot_X4_draw : GoodIn wsX4_leadByLot wsX4_draw := goodIn_r _ [129, 130, 131, 132, 133, 137, 138, 139, 140, 141, 142, 143, 144, 145, 146] (by decide +kernel) (by decide +kernel)
set_option maxRecDepth 20000 in
theorem gX4_leadByLot_X4_draw : GoodIn wsX4_leadByLot (wsV RX4 224 RX4 yX4_draw wsX4_draw) := goodIn_app (goodIn_of _ (by decide +kernel)) ggX4_leadByLot_X4_draw
set_option maxRecDepth 20000 in
theorem ggX4_leadByLot_X1_tenths : GoodIn wsX4_leadByLot wsX1_tenths := goodIn_r _ [30, 31, 18, 19, 5, 20, 32, 33, 34, 35, 36, 37, 38, 4, 6, 39, 40, 41, 42, 43, 44, 45, 46, 16, 47, 48, 149, 150, 151, 152, 153, 154, 155, 156, 157, 158, 159, 160, 161] (by decide +kernel) (by decide +kernel)
set_option maxRecDepth 20000 in
theorem gX4_leadByLot_X1_tenths : GoodIn wsX4_leadByLot (wsV RX4 227 RX1 yX1_tenths wsX1_tenths) := goodIn_app (goodIn_of _ (by decide +kernel)) ggX4_leadByLot_X1_tenths
set_option maxRecDepth 20000 in
theorem ggX4_leadByLot_X1_leadBehind : GoodIn wsX4_leadByLot wsX1_leadBehind := goodIn_r _ [91, 63, 92, 85, 93, 149, 150, 151, 152, 153, 154, 155, 156, 157, 158, 159] (by decide +kernel) (by decide +kernel)
set_option maxRecDepth 20000 in
theorem gX4_leadByLot_X1_leadBehind : GoodIn wsX4_leadByLot (wsV RX4 228 RX1 yX1_leadBehind wsX1_leadBehind) := goodIn_app (goodIn_of _ (by decide +kernel)) ggX4_leadByLot_X1_leadBehind
set_option maxRecDepth 20000 in
theorem ggX4_leadByLot_X1_secondsBehindHit : GoodIn wsX4_leadByLot wsX1_secondsBehindHit := goodIn_r _ [97, 63, 84, 85, 86, 87, 149, 150, 151, 152, 153, 154, 155, 156, 157, 158, 159] (by decide +kernel) (by decide +kernel)
set_option maxRecDepth 20000 in
theorem gX4_leadByLot_X1_secondsBehindHit : GoodIn wsX4_leadByLot (wsV RX4 231 RX1 yX1_secondsBehindHit wsX1_secondsBehindHit) := goodIn_app (goodIn_of _ (by decide +kernel)) ggX4_leadByLot_X1_secondsBehindHit
theorem dX4_leadByLot_0 : decode cX4_leadByLot 0 = .ok (.aload_n 0, 1) := by decide +kernel
theorem dX4_leadByLot_1 : decode cX4_leadByLot 1 = .ok (.getfield 10, 3) := by decide +kernel
theorem dX4_leadByLot_4 : decode cX4_leadByLot 4 = .ok (.iconst 0, 1) := by decide +kernel
theorem dX4_leadByLot_5 : decode cX4_leadByLot 5 = .ok (.invokevirtual 107, 3) := by decide +kernel
theorem dX4_leadByLot_8 : decode cX4_leadByLot 8 = .ok (.istore_n 1, 1) := by decide +kernel
theorem dX4_leadByLot_9 : decode cX4_leadByLot 9 = .ok (.aload_n 0, 1) := by decide +kernel
theorem dX4_leadByLot_10 : decode cX4_leadByLot 10 = .ok (.getfield 10, 3) := by decide +kernel
theorem dX4_leadByLot_13 : decode cX4_leadByLot 13 = .ok (.iconst 1, 1) := by decide +kernel
theorem dX4_leadByLot_14 : decode cX4_leadByLot 14 = .ok (.invokevirtual 107, 3) := by decide +kernel
theorem dX4_leadByLot_17 : decode cX4_leadByLot 17 = .ok (.istore_n 2, 1) := by decide +kernel
theorem dX4_leadByLot_18 : decode cX4_leadByLot 18 = .ok (.aload_n 0, 1) := by decide +kernel
theorem dX4_leadByLot_19 : decode cX4_leadByLot 19 = .ok (.getfield 10, 3) := by decide +kernel
theorem dX4_leadByLot_22 : decode cX4_leadByLot 22 = .ok (.iconst 2, 1) := by decide +kernel
theorem dX4_leadByLot_23 : decode cX4_leadByLot 23 = .ok (.invokevirtual 107, 3) := by decide +kernel
theorem dX4_leadByLot_26 : decode cX4_leadByLot 26 = .ok (.istore_n 3, 1) := by decide +kernel
theorem dX4_leadByLot_27 : decode cX4_leadByLot 27 = .ok (.aload_n 0, 1) := by decide +kernel
theorem dX4_leadByLot_28 : decode cX4_leadByLot 28 = .ok (.getfield 44, 3) := by decide +kernel
theorem dX4_leadByLot_31 : decode cX4_leadByLot 31 = .ok (.iload_n 1, 1) := by decide +kernel
theorem dX4_leadByLot_32 : decode cX4_leadByLot 32 = .ok (.invokevirtual 120, 3) := by decide +kernel
theorem dX4_leadByLot_35 : decode cX4_leadByLot 35 = .ok (.iconst 0, 1) := by decide +kernel
theorem dX4_leadByLot_36 : decode cX4_leadByLot 36 = .ok (.istore 4, 2) := by decide +kernel
theorem dX4_leadByLot_38 : decode cX4_leadByLot 38 = .ok (.iload 4, 2) := by decide +kernel
theorem dX4_leadByLot_40 : decode cX4_leadByLot 40 = .ok (.bipush 24, 2) := by decide +kernel
theorem dX4_leadByLot_42 : decode cX4_leadByLot 42 = .ok (.if_icmp .ge 164, 3) := by decide +kernel
theorem dX4_leadByLot_45 : decode cX4_leadByLot 45 = .ok (.aload_n 0, 1) := by decide +kernel
theorem dX4_leadByLot_46 : decode cX4_leadByLot 46 = .ok (.getfield 44, 3) := by decide +kernel
theorem dX4_leadByLot_49 : decode cX4_leadByLot 49 = .ok (.iload_n 1, 1) := by decide +kernel
theorem dX4_leadByLot_50 : decode cX4_leadByLot 50 = .ok (.iload_n 2, 1) := by decide +kernel
theorem dX4_leadByLot_51 : decode cX4_leadByLot 51 = .ok (.invokevirtual 207, 3) := by decide +kernel
theorem dX4_leadByLot_54 : decode cX4_leadByLot 54 = .ok (.ifCond .ne 152, 3) := by decide +kernel
theorem dX4_leadByLot_57 : decode cX4_leadByLot 57 = .ok (.aload_n 0, 1) := by decide +kernel
theorem dX4_leadByLot_58 : decode cX4_leadByLot 58 = .ok (.getfield 44, 3) := by decide +kernel
theorem dX4_leadByLot_61 : decode cX4_leadByLot 61 = .ok (.iload_n 1, 1) := by decide +kernel
theorem dX4_leadByLot_62 : decode cX4_leadByLot 62 = .ok (.iload_n 2, 1) := by decide +kernel
theorem dX4_leadByLot_63 : decode cX4_leadByLot 63 = .ok (.iload_n 3, 1) := by decide +kernel
theorem dX4_leadByLot_64 : decode cX4_leadByLot 64 = .ok (.invokevirtual 127, 3) := by decide +kernel
theorem dX4_leadByLot_67 : decode cX4_leadByLot 67 = .ok (.istore 5, 2) := by decide +kernel
theorem dX4_leadByLot_69 : decode cX4_leadByLot 69 = .ok (.iload 5, 2) := by decide +kernel
theorem dX4_leadByLot_71 : decode cX4_leadByLot 71 = .ok (.bipush 10, 2) := by decide +kernel
theorem dX4_leadByLot_73 : decode cX4_leadByLot 73 = .ok (.irem, 1) := by decide +kernel
theorem dX4_leadByLot_74 : decode cX4_leadByLot 74 = .ok (.istore 6, 2) := by decide +kernel
theorem dX4_leadByLot_76 : decode cX4_leadByLot 76 = .ok (.iload 6, 2) := by decide +kernel
theorem dX4_leadByLot_78 : decode cX4_leadByLot 78 = .ok (.iconst 3, 1) := by decide +kernel
theorem dX4_leadByLot_79 : decode cX4_leadByLot 79 = .ok (.if_icmp .eq 16, 3) := by decide +kernel
theorem dX4_leadByLot_82 : decode cX4_leadByLot 82 = .ok (.iload 6, 2) := by decide +kernel
theorem dX4_leadByLot_84 : decode cX4_leadByLot 84 = .ok (.invokestatic 186, 3) := by decide +kernel
theorem dX4_leadByLot_87 : decode cX4_leadByLot 87 = .ok (.iload_n 1, 1) := by decide +kernel
theorem dX4_leadByLot_88 : decode cX4_leadByLot 88 = .ok (.if_icmp .gt 7, 3) := by decide +kernel
theorem dX4_leadByLot_91 : decode cX4_leadByLot 91 = .ok (.iconst 1, 1) := by decide +kernel
theorem dX4_leadByLot_92 : decode cX4_leadByLot 92 = .ok (.goto 4, 3) := by decide +kernel
theorem dX4_leadByLot_95 : decode cX4_leadByLot 95 = .ok (.iconst 0, 1) := by decide +kernel
theorem dX4_leadByLot_96 : decode cX4_leadByLot 96 = .ok (.istore 7, 2) := by decide +kernel
theorem dX4_leadByLot_98 : decode cX4_leadByLot 98 = .ok (.iload 7, 2) := by decide +kernel
theorem dX4_leadByLot_100 : decode cX4_leadByLot 100 = .ok (.ifCond .eq 57, 3) := by decide +kernel
theorem dX4_leadByLot_103 : decode cX4_leadByLot 103 = .ok (.aload_n 0, 1) := by decide +kernel
theorem dX4_leadByLot_104 : decode cX4_leadByLot 104 = .ok (.bipush 10, 2) := by decide +kernel
theorem dX4_leadByLot_106 : decode cX4_leadByLot 106 = .ok (.invokevirtual 224, 3) := by decide +kernel
theorem dX4_leadByLot_109 : decode cX4_leadByLot 109 = .ok (.aload_n 0, 1) := by decide +kernel
theorem dX4_leadByLot_110 : decode cX4_leadByLot 110 = .ok (.getfield 44, 3) := by decide +kernel
theorem dX4_leadByLot_113 : decode cX4_leadByLot 113 = .ok (.iload 5, 2) := by decide +kernel
theorem dX4_leadByLot_115 : decode cX4_leadByLot 115 = .ok (.bipush 10, 2) := by decide +kernel
theorem dX4_leadByLot_117 : decode cX4_leadByLot 117 = .ok (.idiv, 1) := by decide +kernel
theorem dX4_leadByLot_118 : decode cX4_leadByLot 118 = .ok (.iload 6, 2) := by decide +kernel
theorem dX4_leadByLot_120 : decode cX4_leadByLot 120 = .ok (.iload_n 1, 1) := by decide +kernel
theorem dX4_leadByLot_121 : decode cX4_leadByLot 121 = .ok (.invokevirtual 227, 3) := by decide +kernel
theorem dX4_leadByLot_124 : decode cX4_leadByLot 124 = .ok (.if_icmp .ge 33, 3) := by decide +kernel
theorem dX4_leadByLot_127 : decode cX4_leadByLot 127 = .ok (.aload_n 0, 1) := by decide +kernel
theorem dX4_leadByLot_128 : decode cX4_leadByLot 128 = .ok (.getfield 44, 3) := by decide +kernel
theorem dX4_leadByLot_131 : decode cX4_leadByLot 131 = .ok (.iload 6, 2) := by decide +kernel
theorem dX4_leadByLot_133 : decode cX4_leadByLot 133 = .ok (.iload_n 2, 1) := by decide +kernel
theorem dX4_leadByLot_134 : decode cX4_leadByLot 134 = .ok (.iload_n 3, 1) := by decide +kernel
theorem dX4_leadByLot_135 : decode cX4_leadByLot 135 = .ok (.invokevirtual 228, 3) := by decide +kernel
theorem dX4_leadByLot_138 : decode cX4_leadByLot 138 = .ok (.istore_n 2, 1) := by decide +kernel
theorem dX4_leadByLot_139 : decode cX4_leadByLot 139 = .ok (.aload_n 0, 1) := by decide +kernel
theorem dX4_leadByLot_140 : decode cX4_leadByLot 140 = .ok (.getfield 44, 3) := by decide +kernel
theorem dX4_leadByLot_143 : decode cX4_leadByLot 143 = .ok (.iload 6, 2) := by decide +kernel
theorem dX4_leadByLot_145 : decode cX4_leadByLot 145 = .ok (.iload_n 1, 1) := by decide +kernel
theorem dX4_leadByLot_146 : decode cX4_leadByLot 146 = .ok (.invokevirtual 231, 3) := by decide +kernel
theorem dX4_leadByLot_149 : decode cX4_leadByLot 149 = .ok (.istore_n 1, 1) := by decide +kernel
theorem dX4_leadByLot_150 : decode cX4_leadByLot 150 = .ok (.iconst 1, 1) := by decide +kernel
theorem dX4_leadByLot_151 : decode cX4_leadByLot 151 = .ok (.iload_n 3, 1) := by decide +kernel
theorem dX4_leadByLot_152 : decode cX4_leadByLot 152 = .ok (.isub, 1) := by decide +kernel
theorem dX4_leadByLot_153 : decode cX4_leadByLot 153 = .ok (.istore_n 3, 1) := by decide +kernel
theorem dX4_leadByLot_154 : decode cX4_leadByLot 154 = .ok (.goto 46, 3) := by decide +kernel
theorem dX4_leadByLot_157 : decode cX4_leadByLot 157 = .ok (.iconst 0, 1) := by decide +kernel
theorem dX4_leadByLot_158 : decode cX4_leadByLot 158 = .ok (.iload_n 1, 1) := by decide +kernel
theorem dX4_leadByLot_159 : decode cX4_leadByLot 159 = .ok (.iload 6, 2) := by decide +kernel
theorem dX4_leadByLot_161 : decode cX4_leadByLot 161 = .ok (.invokestatic 186, 3) := by decide +kernel
theorem dX4_leadByLot_164 : decode cX4_leadByLot 164 = .ok (.isub, 1) := by decide +kernel
theorem dX4_leadByLot_165 : decode cX4_leadByLot 165 = .ok (.invokestatic 215, 3) := by decide +kernel
theorem dX4_leadByLot_168 : decode cX4_leadByLot 168 = .ok (.istore_n 1, 1) := by decide +kernel
theorem dX4_leadByLot_169 : decode cX4_leadByLot 169 = .ok (.iload 7, 2) := by decide +kernel
theorem dX4_leadByLot_171 : decode cX4_leadByLot 171 = .ok (.ifCond .eq 27, 3) := by decide +kernel
theorem dX4_leadByLot_174 : decode cX4_leadByLot 174 = .ok (.aload_n 0, 1) := by decide +kernel
theorem dX4_leadByLot_175 : decode cX4_leadByLot 175 = .ok (.bipush 10, 2) := by decide +kernel
theorem dX4_leadByLot_177 : decode cX4_leadByLot 177 = .ok (.invokevirtual 224, 3) := by decide +kernel
theorem dX4_leadByLot_180 : decode cX4_leadByLot 180 = .ok (.aload_n 0, 1) := by decide +kernel
theorem dX4_leadByLot_181 : decode cX4_leadByLot 181 = .ok (.getfield 10, 3) := by decide +kernel
theorem dX4_leadByLot_184 : decode cX4_leadByLot 184 = .ok (.bipush 7, 2) := by decide +kernel
theorem dX4_leadByLot_186 : decode cX4_leadByLot 186 = .ok (.invokevirtual 107, 3) := by decide +kernel
theorem dX4_leadByLot_189 : decode cX4_leadByLot 189 = .ok (.if_icmp .lt 9, 3) := by decide +kernel
theorem dX4_leadByLot_192 : decode cX4_leadByLot 192 = .ok (.iconst 1, 1) := by decide +kernel
theorem dX4_leadByLot_193 : decode cX4_leadByLot 193 = .ok (.iload_n 3, 1) := by decide +kernel
theorem dX4_leadByLot_194 : decode cX4_leadByLot 194 = .ok (.isub, 1) := by decide +kernel
theorem dX4_leadByLot_195 : decode cX4_leadByLot 195 = .ok (.goto 4, 3) := by decide +kernel
theorem dX4_leadByLot_198 : decode cX4_leadByLot 198 = .ok (.iload_n 3, 1) := by decide +kernel
theorem dX4_leadByLot_199 : decode cX4_leadByLot 199 = .ok (.istore_n 3, 1) := by decide +kernel
theorem dX4_leadByLot_200 : decode cX4_leadByLot 200 = .ok (.iinc 4 1, 3) := by decide +kernel
theorem dX4_leadByLot_203 : decode cX4_leadByLot 203 = .ok (.goto (-165), 3) := by decide +kernel
theorem dX4_leadByLot_206 : decode cX4_leadByLot 206 = .ok (.iload_n 2, 1) := by decide +kernel
theorem dX4_leadByLot_207 : decode cX4_leadByLot 207 = .ok (.ireturn, 1) := by decide +kernel
theorem dX4_draw_0 : decode cX4_draw 0 = .ok (.aload_n 0, 1) := by decide +kernel
theorem dX4_draw_1 : decode cX4_draw 1 = .ok (.aload_n 0, 1) := by decide +kernel
theorem dX4_draw_2 : decode cX4_draw 2 = .ok (.getfield 51, 3) := by decide +kernel
theorem dX4_draw_5 : decode cX4_draw 5 = .ok (.ldc 234, 2) := by decide +kernel
theorem dX4_draw_7 : decode cX4_draw 7 = .ok (.imul, 1) := by decide +kernel
theorem dX4_draw_8 : decode cX4_draw 8 = .ok (.ldc 235, 2) := by decide +kernel
theorem dX4_draw_10 : decode cX4_draw 10 = .ok (.iadd, 1) := by decide +kernel
theorem dX4_draw_11 : decode cX4_draw 11 = .ok (.putfield 51, 3) := by decide +kernel
theorem dX4_draw_14 : decode cX4_draw 14 = .ok (.iload_n 1, 1) := by decide +kernel
theorem dX4_draw_15 : decode cX4_draw 15 = .ok (.iconst 1, 1) := by decide +kernel
theorem dX4_draw_16 : decode cX4_draw 16 = .ok (.if_icmp .ge 7, 3) := by decide +kernel
theorem dX4_draw_19 : decode cX4_draw 19 = .ok (.iconst 0, 1) := by decide +kernel
theorem dX4_draw_20 : decode cX4_draw 20 = .ok (.goto 16, 3) := by decide +kernel
theorem dX4_draw_23 : decode cX4_draw 23 = .ok (.aload_n 0, 1) := by decide +kernel
theorem dX4_draw_24 : decode cX4_draw 24 = .ok (.getfield 51, 3) := by decide +kernel
theorem dX4_draw_27 : decode cX4_draw 27 = .ok (.ldc 236, 2) := by decide +kernel
theorem dX4_draw_29 : decode cX4_draw 29 = .ok (.iand, 1) := by decide +kernel
theorem dX4_draw_30 : decode cX4_draw 30 = .ok (.sipush 256, 3) := by decide +kernel
theorem dX4_draw_33 : decode cX4_draw 33 = .ok (.idiv, 1) := by decide +kernel
theorem dX4_draw_34 : decode cX4_draw 34 = .ok (.iload_n 1, 1) := by decide +kernel
theorem dX4_draw_35 : decode cX4_draw 35 = .ok (.irem, 1) := by decide +kernel
theorem dX4_draw_36 : decode cX4_draw 36 = .ok (.ireturn, 1) := by decide +kernel
theorem dX5_init_0 : decode cX5_init 0 = .ok (.aload_n 0, 1) := by decide +kernel
theorem dX5_init_1 : decode cX5_init 1 = .ok (.invokespecial 1, 3) := by decide +kernel
theorem dX5_init_4 : decode cX5_init 4 = .ok (.aload_n 0, 1) := by decide +kernel
theorem dX5_init_5 : decode cX5_init 5 = .ok (.iconst 2, 1) := by decide +kernel
theorem dX5_init_6 : decode cX5_init 6 = .ok (.newarray .int, 2) := by decide +kernel
theorem dX5_init_8 : decode cX5_init 8 = .ok (.putfield 7, 3) := by decide +kernel
theorem dX5_init_11 : decode cX5_init 11 = .ok (.aload_n 0, 1) := by decide +kernel
theorem dX5_init_12 : decode cX5_init 12 = .ok (.iconst 2, 1) := by decide +kernel
theorem dX5_init_13 : decode cX5_init 13 = .ok (.newarray .int, 2) := by decide +kernel
theorem dX5_init_15 : decode cX5_init 15 = .ok (.putfield 13, 3) := by decide +kernel
theorem dX5_init_18 : decode cX5_init 18 = .ok (.aload_n 0, 1) := by decide +kernel
theorem dX5_init_19 : decode cX5_init 19 = .ok (.bipush 6, 2) := by decide +kernel
theorem dX5_init_21 : decode cX5_init 21 = .ok (.newarray .int, 2) := by decide +kernel
theorem dX5_init_23 : decode cX5_init 23 = .ok (.putfield 16, 3) := by decide +kernel
theorem dX5_init_26 : decode cX5_init 26 = .ok (.aload_n 0, 1) := by decide +kernel
theorem dX5_init_27 : decode cX5_init 27 = .ok (.bipush 6, 2) := by decide +kernel
theorem dX5_init_29 : decode cX5_init 29 = .ok (.newarray .int, 2) := by decide +kernel
theorem dX5_init_31 : decode cX5_init 31 = .ok (.putfield 19, 3) := by decide +kernel
theorem dX5_init_34 : decode cX5_init 34 = .ok (.aload_n 0, 1) := by decide +kernel
theorem dX5_init_35 : decode cX5_init 35 = .ok (.bipush 6, 2) := by decide +kernel
theorem dX5_init_37 : decode cX5_init 37 = .ok (.newarray .int, 2) := by decide +kernel
theorem dX5_init_39 : decode cX5_init 39 = .ok (.putfield 22, 3) := by decide +kernel
theorem dX5_init_42 : decode cX5_init 42 = .ok (.aload_n 0, 1) := by decide +kernel
theorem dX5_init_43 : decode cX5_init 43 = .ok (.bipush 6, 2) := by decide +kernel
theorem dX5_init_45 : decode cX5_init 45 = .ok (.newarray .int, 2) := by decide +kernel
theorem dX5_init_47 : decode cX5_init 47 = .ok (.putfield 25, 3) := by decide +kernel
theorem dX5_init_50 : decode cX5_init 50 = .ok (.aload_n 0, 1) := by decide +kernel
theorem dX5_init_51 : decode cX5_init 51 = .ok (.bipush 6, 2) := by decide +kernel
theorem dX5_init_53 : decode cX5_init 53 = .ok (.newarray .int, 2) := by decide +kernel
theorem dX5_init_55 : decode cX5_init 55 = .ok (.putfield 28, 3) := by decide +kernel
theorem dX5_init_58 : decode cX5_init 58 = .ok (.aload_n 0, 1) := by decide +kernel
theorem dX5_init_59 : decode cX5_init 59 = .ok (.bipush 96, 2) := by decide +kernel
theorem dX5_init_61 : decode cX5_init 61 = .ok (.newarray .int, 2) := by decide +kernel
theorem dX5_init_63 : decode cX5_init 63 = .ok (.putfield 31, 3) := by decide +kernel
theorem dX5_init_66 : decode cX5_init 66 = .ok (.aload_n 0, 1) := by decide +kernel
theorem dX5_init_67 : decode cX5_init 67 = .ok (.iconst 4, 1) := by decide +kernel
theorem dX5_init_68 : decode cX5_init 68 = .ok (.newarray .int, 2) := by decide +kernel
theorem dX5_init_70 : decode cX5_init 70 = .ok (.putfield 34, 3) := by decide +kernel
theorem dX5_init_73 : decode cX5_init 73 = .ok (.aload_n 0, 1) := by decide +kernel
theorem dX5_init_74 : decode cX5_init 74 = .ok (.bipush 20, 2) := by decide +kernel
theorem dX5_init_76 : decode cX5_init 76 = .ok (.newarray .int, 2) := by decide +kernel
theorem dX5_init_78 : decode cX5_init 78 = .ok (.putfield 37, 3) := by decide +kernel
theorem dX5_init_81 : decode cX5_init 81 = .ok (.aload_n 0, 1) := by decide +kernel
theorem dX5_init_82 : decode cX5_init 82 = .ok (.bipush 7, 2) := by decide +kernel
theorem dX5_init_84 : decode cX5_init 84 = .ok (.newarray .int, 2) := by decide +kernel
theorem dX5_init_86 : decode cX5_init 86 = .ok (.putfield 40, 3) := by decide +kernel
theorem dX5_init_89 : decode cX5_init 89 = .ok (.aload_n 0, 1) := by decide +kernel
theorem dX5_init_90 : decode cX5_init 90 = .ok (.bipush 41, 2) := by decide +kernel
theorem dX5_init_92 : decode cX5_init 92 = .ok (.newarray .int, 2) := by decide +kernel
theorem dX5_init_94 : decode cX5_init 94 = .ok (.putfield 43, 3) := by decide +kernel
theorem dX5_init_97 : decode cX5_init 97 = .ok (.aload_n 0, 1) := by decide +kernel
theorem dX5_init_98 : decode cX5_init 98 = .ok (.bipush 41, 2) := by decide +kernel
theorem dX5_init_100 : decode cX5_init 100 = .ok (.newarray .int, 2) := by decide +kernel
theorem dX5_init_102 : decode cX5_init 102 = .ok (.putfield 46, 3) := by decide +kernel
theorem dX5_init_105 : decode cX5_init 105 = .ok (.aload_n 0, 1) := by decide +kernel
theorem dX5_init_106 : decode cX5_init 106 = .ok (.bipush 6, 2) := by decide +kernel
theorem dX5_init_108 : decode cX5_init 108 = .ok (.newarray .int, 2) := by decide +kernel
theorem dX5_init_110 : decode cX5_init 110 = .ok (.putfield 49, 3) := by decide +kernel
theorem dX5_init_113 : decode cX5_init 113 = .ok (.aload_n 0, 1) := by decide +kernel
theorem dX5_init_114 : decode cX5_init 114 = .ok (.sipush 650, 3) := by decide +kernel
theorem dX5_init_117 : decode cX5_init 117 = .ok (.newarray .int, 2) := by decide +kernel
theorem dX5_init_119 : decode cX5_init 119 = .ok (.putfield 52, 3) := by decide +kernel
theorem dX5_init_122 : decode cX5_init 122 = .ok (.aload_n 0, 1) := by decide +kernel
theorem dX5_init_123 : decode cX5_init 123 = .ok (.bipush 19, 2) := by decide +kernel
theorem dX5_init_125 : decode cX5_init 125 = .ok (.putfield 55, 3) := by decide +kernel
theorem dX5_init_128 : decode cX5_init 128 = .ok (.aload_n 0, 1) := by decide +kernel
theorem dX5_init_129 : decode cX5_init 129 = .ok (.iconst 5, 1) := by decide +kernel
theorem dX5_init_130 : decode cX5_init 130 = .ok (.putfield 59, 3) := by decide +kernel
theorem dX5_init_133 : decode cX5_init 133 = .ok (.aload_n 0, 1) := by decide +kernel
theorem dX5_init_134 : decode cX5_init 134 = .ok (.getfield 13, 3) := by decide +kernel
theorem dX5_init_137 : decode cX5_init 137 = .ok (.iconst 0, 1) := by decide +kernel
theorem dX5_init_138 : decode cX5_init 138 = .ok (.iconst 1, 1) := by decide +kernel
theorem dX5_init_139 : decode cX5_init 139 = .ok (.iastore, 1) := by decide +kernel
theorem dX5_init_140 : decode cX5_init 140 = .ok (.aload_n 0, 1) := by decide +kernel
theorem dX5_init_141 : decode cX5_init 141 = .ok (.getfield 13, 3) := by decide +kernel
theorem dX5_init_144 : decode cX5_init 144 = .ok (.iconst 1, 1) := by decide +kernel
theorem dX5_init_145 : decode cX5_init 145 = .ok (.iconst 1, 1) := by decide +kernel
theorem dX5_init_146 : decode cX5_init 146 = .ok (.iastore, 1) := by decide +kernel
theorem dX5_init_147 : decode cX5_init 147 = .ok (.aload_n 0, 1) := by decide +kernel
theorem dX5_init_148 : decode cX5_init 148 = .ok (.iconst 3, 1) := by decide +kernel
theorem dX5_init_149 : decode cX5_init 149 = .ok (.putfield 62, 3) := by decide +kernel
theorem dX5_init_152 : decode cX5_init 152 = .ok (.aload_n 0, 1) := by decide +kernel
theorem dX5_init_153 : decode cX5_init 153 = .ok (.iconst 5, 1) := by decide +kernel
theorem dX5_init_154 : decode cX5_init 154 = .ok (.putfield 65, 3) := by decide +kernel
theorem dX5_init_157 : decode cX5_init 157 = .ok (.return_, 1) := by decide +kernel
theorem dX5_no_0 : decode cX5_no 0 = .ok (.aload_n 0, 1) := by decide +kernel
theorem dX5_no_1 : decode cX5_no 1 = .ok (.getfield 40, 3) := by decide +kernel
theorem dX5_no_4 : decode cX5_no 4 = .ok (.iload_n 1, 1) := by decide +kernel
theorem dX5_no_5 : decode cX5_no 5 = .ok (.ineg, 1) := by decide +kernel
theorem dX5_no_6 : decode cX5_no 6 = .ok (.dup2, 1) := by decide +kernel
theorem dX5_no_7 : decode cX5_no 7 = .ok (.iaload, 1) := by decide +kernel
theorem dX5_no_8 : decode cX5_no 8 = .ok (.iconst 1, 1) := by decide +kernel
theorem dX5_no_9 : decode cX5_no 9 = .ok (.iadd, 1) := by decide +kernel
theorem dX5_no_10 : decode cX5_no 10 = .ok (.iastore, 1) := by decide +kernel
theorem dX5_no_11 : decode cX5_no 11 = .ok (.iload_n 1, 1) := by decide +kernel
theorem dX5_no_12 : decode cX5_no 12 = .ok (.ireturn, 1) := by decide +kernel
set_option maxRecDepth 20000 in
theorem ggX5_noFar_X5_no : GoodIn wsX5_noFar wsX5_no := goodIn_r _ [6, 7, 8, 9, 10, 11, 12, 13, 14, 15, 16, 17, 18, 19, 20, 21, 22, 23, 24, 25, 26, 27, 28, 29, 30, 31, 32, 33] (by decide +kernel) (by decide +kernel)
set_option maxRecDepth 20000 in
theorem gX5_noFar_X5_no : GoodIn wsX5_noFar (wsV RX5 69 RX5 yX5_no wsX5_no) := goodIn_app (goodIn_of _ (by decide +kernel)) ggX5_noFar_X5_no
theorem dX5_noFar_0 : decode cX5_noFar 0 = .ok (.ldc 68, 2) := by decide +kernel
theorem dX5_noFar_2 : decode cX5_noFar 2 = .ok (.aload_n 0, 1) := by decide +kernel
theorem dX5_noFar_3 : decode cX5_noFar 3 = .ok (.iload_n 1, 1) := by decide +kernel
theorem dX5_noFar_4 : decode cX5_noFar 4 = .ok (.invokevirtual 69, 3) := by decide +kernel
theorem dX5_noFar_7 : decode cX5_noFar 7 = .ok (.isub, 1) := by decide +kernel
theorem dX5_noFar_8 : decode cX5_noFar 8 = .ok (.ireturn, 1) := by decide +kernel
theorem dX5_within_0 : decode cX5_within 0 = .ok (.iload_n 0, 1) := by decide +kernel
theorem dX5_within_1 : decode cX5_within 1 = .ok (.iload_n 1, 1) := by decide +kernel
theorem dX5_within_2 : decode cX5_within 2 = .ok (.if_icmp .lt 12, 3) := by decide +kernel
theorem dX5_within_5 : decode cX5_within 5 = .ok (.iload_n 0, 1) := by decide +kernel
theorem dX5_within_6 : decode cX5_within 6 = .ok (.iload_n 2, 1) := by decide +kernel
theorem dX5_within_7 : decode cX5_within 7 = .ok (.if_icmp .gt 7, 3) := by decide +kernel
theorem dX5_within_10 : decode cX5_within 10 = .ok (.iconst 1, 1) := by decide +kernel
theorem dX5_within_11 : decode cX5_within 11 = .ok (.goto 4, 3) := by decide +kernel
theorem dX5_within_14 : decode cX5_within 14 = .ok (.iconst 0, 1) := by decide +kernel
theorem dX5_within_15 : decode cX5_within 15 = .ok (.ireturn, 1) := by decide +kernel
set_option maxRecDepth 20000 in
theorem ggX5_isOne_X5_within : GoodIn wsX5_isOne wsX5_within := goodIn_r _ [5] (by decide +kernel) (by decide +kernel)
set_option maxRecDepth 20000 in
theorem gX5_isOne_X5_within : GoodIn wsX5_isOne (va_wsS RX5 76 yX5_within wsX5_within) := goodIn_app (goodIn_of _ (by decide +kernel)) ggX5_isOne_X5_within
theorem dX5_isOne_0 : decode cX5_isOne 0 = .ok (.iload_n 1, 1) := by decide +kernel
theorem dX5_isOne_1 : decode cX5_isOne 1 = .ok (.iconst 0, 1) := by decide +kernel
theorem dX5_isOne_2 : decode cX5_isOne 2 = .ok (.aload_n 0, 1) := by decide +kernel
theorem dX5_isOne_3 : decode cX5_isOne 3 = .ok (.getfield 73, 3) := by decide +kernel
theorem dX5_isOne_6 : decode cX5_isOne 6 = .ok (.iconst 1, 1) := by decide +kernel
theorem dX5_isOne_7 : decode cX5_isOne 7 = .ok (.isub, 1) := by decide +kernel
theorem dX5_isOne_8 : decode cX5_isOne 8 = .ok (.invokestatic 76, 3) := by decide +kernel
theorem dX5_isOne_11 : decode cX5_isOne 11 = .ok (.ireturn, 1) := by decide +kernel
set_option maxRecDepth 20000 in
theorem ggX5_letter_X5_no : GoodIn wsX5_letter wsX5_no := goodIn_r _ [7, 8, 9, 10, 11, 12, 13, 14, 15, 16, 17, 18, 19, 20, 21, 22, 23, 24, 25, 26, 27, 28, 29, 30, 31, 32, 33, 34] (by decide +kernel) (by decide +kernel)
set_option maxRecDepth 20000 in
theorem gX5_letter_X5_no : GoodIn wsX5_letter (wsV RX5 69 RX5 yX5_no wsX5_no) := goodIn_app (goodIn_of _ (by decide +kernel)) ggX5_letter_X5_no
theorem dX5_letter_0 : decode cX5_letter 0 = .ok (.iload_n 1, 1) := by decide +kernel
theorem dX5_letter_1 : decode cX5_letter 1 = .ok (.ifCond .ge 10, 3) := by decide +kernel
theorem dX5_letter_4 : decode cX5_letter 4 = .ok (.aload_n 0, 1) := by decide +kernel
theorem dX5_letter_5 : decode cX5_letter 5 = .ok (.bipush (-4), 2) := by decide +kernel
theorem dX5_letter_7 : decode cX5_letter 7 = .ok (.invokevirtual 69, 3) := by decide +kernel
theorem dX5_letter_10 : decode cX5_letter 10 = .ok (.ireturn, 1) := by decide +kernel
theorem dX5_letter_11 : decode cX5_letter 11 = .ok (.iload_n 1, 1) := by decide +kernel
theorem dX5_letter_12 : decode cX5_letter 12 = .ok (.sipush 255, 3) := by decide +kernel
theorem dX5_letter_15 : decode cX5_letter 15 = .ok (.if_icmp .gt 12, 3) := by decide +kernel
theorem dX5_letter_18 : decode cX5_letter 18 = .ok (.aload_n 0, 1) := by decide +kernel
theorem dX5_letter_19 : decode cX5_letter 19 = .ok (.getfield 80, 3) := by decide +kernel
theorem dX5_letter_22 : decode cX5_letter 22 = .ok (.bipush 96, 2) := by decide +kernel
theorem dX5_letter_24 : decode cX5_letter 24 = .ok (.if_icmp .ne 10, 3) := by decide +kernel
theorem dX5_letter_27 : decode cX5_letter 27 = .ok (.aload_n 0, 1) := by decide +kernel
theorem dX5_letter_28 : decode cX5_letter 28 = .ok (.bipush (-6), 2) := by decide +kernel
theorem dX5_letter_30 : decode cX5_letter 30 = .ok (.invokevirtual 69, 3) := by decide +kernel
theorem dX5_letter_33 : decode cX5_letter 33 = .ok (.ireturn, 1) := by decide +kernel
theorem dX5_letter_34 : decode cX5_letter 34 = .ok (.aload_n 0, 1) := by decide +kernel
theorem dX5_letter_35 : decode cX5_letter 35 = .ok (.getfield 31, 3) := by decide +kernel
theorem dX5_letter_38 : decode cX5_letter 38 = .ok (.aload_n 0, 1) := by decide +kernel
theorem dX5_letter_39 : decode cX5_letter 39 = .ok (.dup, 1) := by decide +kernel
theorem dX5_letter_40 : decode cX5_letter 40 = .ok (.getfield 80, 3) := by decide +kernel
theorem dX5_letter_43 : decode cX5_letter 43 = .ok (.dup_x1, 1) := by decide +kernel
theorem dX5_letter_44 : decode cX5_letter 44 = .ok (.iconst 1, 1) := by decide +kernel
theorem dX5_letter_45 : decode cX5_letter 45 = .ok (.iadd, 1) := by decide +kernel
theorem dX5_letter_46 : decode cX5_letter 46 = .ok (.putfield 80, 3) := by decide +kernel
theorem dX5_letter_49 : decode cX5_letter 49 = .ok (.iload_n 1, 1) := by decide +kernel
theorem dX5_letter_50 : decode cX5_letter 50 = .ok (.iastore, 1) := by decide +kernel
theorem dX5_letter_51 : decode cX5_letter 51 = .ok (.aload_n 0, 1) := by decide +kernel
theorem dX5_letter_52 : decode cX5_letter 52 = .ok (.getfield 80, 3) := by decide +kernel
theorem dX5_letter_55 : decode cX5_letter 55 = .ok (.ireturn, 1) := by decide +kernel
theorem dX5_is_0 : decode cX5_is 0 = .ok (.aload_n 0, 1) := by decide +kernel
theorem dX5_is_1 : decode cX5_is 1 = .ok (.getfield 83, 3) := by decide +kernel
theorem dX5_is_4 : decode cX5_is 4 = .ok (.aload_n 0, 1) := by decide +kernel
theorem dX5_is_5 : decode cX5_is 5 = .ok (.getfield 80, 3) := by decide +kernel
theorem dX5_is_8 : decode cX5_is 8 = .ok (.if_icmp .eq 16, 3) := by decide +kernel
theorem dX5_is_11 : decode cX5_is 11 = .ok (.aload_n 0, 1) := by decide +kernel
theorem dX5_is_12 : decode cX5_is 12 = .ok (.getfield 31, 3) := by decide +kernel
theorem dX5_is_15 : decode cX5_is 15 = .ok (.aload_n 0, 1) := by decide +kernel
theorem dX5_is_16 : decode cX5_is 16 = .ok (.getfield 83, 3) := by decide +kernel
theorem dX5_is_19 : decode cX5_is 19 = .ok (.iaload, 1) := by decide +kernel
theorem dX5_is_20 : decode cX5_is 20 = .ok (.iload_n 1, 1) := by decide +kernel
theorem dX5_is_21 : decode cX5_is 21 = .ok (.if_icmp .eq 5, 3) := by decide +kernel
theorem dX5_is_24 : decode cX5_is 24 = .ok (.iconst 0, 1) := by decide +kernel
theorem dX5_is_25 : decode cX5_is 25 = .ok (.ireturn, 1) := by decide +kernel
theorem dX5_is_26 : decode cX5_is 26 = .ok (.aload_n 0, 1) := by decide +kernel
theorem dX5_is_27 : decode cX5_is 27 = .ok (.dup, 1) := by decide +kernel
theorem dX5_is_28 : decode cX5_is 28 = .ok (.getfield 83, 3) := by decide +kernel
theorem dX5_is_31 : decode cX5_is 31 = .ok (.iconst 1, 1) := by decide +kernel
theorem dX5_is_32 : decode cX5_is 32 = .ok (.iadd, 1) := by decide +kernel
theorem dX5_is_33 : decode cX5_is 33 = .ok (.putfield 83, 3) := by decide +kernel
theorem dX5_is_36 : decode cX5_is 36 = .ok (.iconst 1, 1) := by decide +kernel
theorem dX5_is_37 : decode cX5_is 37 = .ok (.ireturn, 1) := by decide +kernel
theorem dX5_digits_0 : decode cX5_digits 0 = .ok (.iload_n 1, 1) := by decide +kernel
theorem dX5_digits_1 : decode cX5_digits 1 = .ok (.istore_n 3, 1) := by decide +kernel
theorem dX5_digits_2 : decode cX5_digits 2 = .ok (.iload_n 3, 1) := by decide +kernel
theorem dX5_digits_3 : decode cX5_digits 3 = .ok (.iload_n 1, 1) := by decide +kernel
theorem dX5_digits_4 : decode cX5_digits 4 = .ok (.iload_n 2, 1) := by decide +kernel
theorem dX5_digits_5 : decode cX5_digits 5 = .ok (.iadd, 1) := by decide +kernel
theorem dX5_digits_6 : decode cX5_digits 6 = .ok (.if_icmp .ge 75, 3) := by decide +kernel
theorem dX5_digits_9 : decode cX5_digits 9 = .ok (.aload_n 0, 1) := by decide +kernel
theorem dX5_digits_10 : decode cX5_digits 10 = .ok (.getfield 83, 3) := by decide +kernel
theorem dX5_digits_13 : decode cX5_digits 13 = .ok (.aload_n 0, 1) := by decide +kernel
theorem dX5_digits_14 : decode cX5_digits 14 = .ok (.getfield 80, 3) := by decide +kernel
theorem dX5_digits_17 : decode cX5_digits 17 = .ok (.if_icmp .eq 31, 3) := by decide +kernel
theorem dX5_digits_20 : decode cX5_digits 20 = .ok (.aload_n 0, 1) := by decide +kernel
theorem dX5_digits_21 : decode cX5_digits 21 = .ok (.getfield 31, 3) := by decide +kernel
theorem dX5_digits_24 : decode cX5_digits 24 = .ok (.aload_n 0, 1) := by decide +kernel
theorem dX5_digits_25 : decode cX5_digits 25 = .ok (.getfield 83, 3) := by decide +kernel
theorem dX5_digits_28 : decode cX5_digits 28 = .ok (.iaload, 1) := by decide +kernel
theorem dX5_digits_29 : decode cX5_digits 29 = .ok (.bipush 48, 2) := by decide +kernel
theorem dX5_digits_31 : decode cX5_digits 31 = .ok (.if_icmp .lt 17, 3) := by decide +kernel
theorem dX5_digits_34 : decode cX5_digits 34 = .ok (.aload_n 0, 1) := by decide +kernel
theorem dX5_digits_35 : decode cX5_digits 35 = .ok (.getfield 31, 3) := by decide +kernel
theorem dX5_digits_38 : decode cX5_digits 38 = .ok (.aload_n 0, 1) := by decide +kernel
theorem dX5_digits_39 : decode cX5_digits 39 = .ok (.getfield 83, 3) := by decide +kernel
theorem dX5_digits_42 : decode cX5_digits 42 = .ok (.iaload, 1) := by decide +kernel
theorem dX5_digits_43 : decode cX5_digits 43 = .ok (.bipush 57, 2) := by decide +kernel
theorem dX5_digits_45 : decode cX5_digits 45 = .ok (.if_icmp .le 5, 3) := by decide +kernel
theorem dX5_digits_48 : decode cX5_digits 48 = .ok (.iconst 0, 1) := by decide +kernel
theorem dX5_digits_49 : decode cX5_digits 49 = .ok (.ireturn, 1) := by decide +kernel
theorem dX5_digits_50 : decode cX5_digits 50 = .ok (.aload_n 0, 1) := by decide +kernel
theorem dX5_digits_51 : decode cX5_digits 51 = .ok (.getfield 34, 3) := by decide +kernel
theorem dX5_digits_54 : decode cX5_digits 54 = .ok (.iload_n 3, 1) := by decide +kernel
theorem dX5_digits_55 : decode cX5_digits 55 = .ok (.aload_n 0, 1) := by decide +kernel
theorem dX5_digits_56 : decode cX5_digits 56 = .ok (.getfield 31, 3) := by decide +kernel
theorem dX5_digits_59 : decode cX5_digits 59 = .ok (.aload_n 0, 1) := by decide +kernel
theorem dX5_digits_60 : decode cX5_digits 60 = .ok (.dup, 1) := by decide +kernel
theorem dX5_digits_61 : decode cX5_digits 61 = .ok (.getfield 83, 3) := by decide +kernel
theorem dX5_digits_64 : decode cX5_digits 64 = .ok (.dup_x1, 1) := by decide +kernel
theorem dX5_digits_65 : decode cX5_digits 65 = .ok (.iconst 1, 1) := by decide +kernel
theorem dX5_digits_66 : decode cX5_digits 66 = .ok (.iadd, 1) := by decide +kernel
theorem dX5_digits_67 : decode cX5_digits 67 = .ok (.putfield 83, 3) := by decide +kernel
theorem dX5_digits_70 : decode cX5_digits 70 = .ok (.iaload, 1) := by decide +kernel
theorem dX5_digits_71 : decode cX5_digits 71 = .ok (.bipush 48, 2) := by decide +kernel
theorem dX5_digits_73 : decode cX5_digits 73 = .ok (.isub, 1) := by decide +kernel
theorem dX5_digits_74 : decode cX5_digits 74 = .ok (.iastore, 1) := by decide +kernel
theorem dX5_digits_75 : decode cX5_digits 75 = .ok (.iinc 3 1, 3) := by decide +kernel
theorem dX5_digits_78 : decode cX5_digits 78 = .ok (.goto (-76), 3) := by decide +kernel
theorem dX5_digits_81 : decode cX5_digits 81 = .ok (.iconst 1, 1) := by decide +kernel
theorem dX5_digits_82 : decode cX5_digits 82 = .ok (.ireturn, 1) := by decide +kernel
set_option maxRecDepth 20000 in
theorem ggX5_statement_X5_is : GoodIn wsX5_statement wsX5_is := goodIn_r _ [23, 1, 2, 3, 117, 118, 119, 120, 121, 122, 123, 124, 125, 126, 127, 128, 129, 130, 131, 132, 133, 134, 135, 136, 137, 138, 139, 140, 141, 142] (by decide +kernel) (by decide +kernel)
set_option maxRecDepth 20000 in
theorem gX5_statement_X5_is : GoodIn wsX5_statement (wsV RX5 86 RX5 yX5_is wsX5_is) := goodIn_app (goodIn_of _ (by decide +kernel)) ggX5_statement_X5_is
set_option maxRecDepth 20000 in
theorem ggX5_statement_X5_digits : GoodIn wsX5_statement wsX5_digits := goodIn_r _ [27, 1, 2, 3, 4, 117, 118, 119, 120, 121, 122, 123, 124, 125, 126, 127, 128, 129, 130, 131, 132, 133, 134, 135, 136, 137, 138, 139, 140, 141, 142] (by decide +kernel) (by decide +kernel)
set_option maxRecDepth 20000 in
theorem gX5_statement_X5_digits : GoodIn wsX5_statement (wsV RX5 90 RX5 yX5_digits wsX5_digits) := goodIn_app (goodIn_of _ (by decide +kernel)) ggX5_statement_X5_digits
set_option maxRecDepth 20000 in
theorem ggX5_statement_J0_indexOf_0f7a4 : GoodIn wsX5_statement wsJ0_indexOf_0f7a4 := goodIn_r _ [32, 33, 34, 35, 31, 36, 37, 38, 39, 40, 41, 42, 43, 44, 45, 46, 47, 48, 49, 50, 51, 52, 53, 54, 55, 56, 57, 58, 59, 60, 61, 62, 63, 64, 65, 66, 67, 68, 69, 70, 71, 72, 73, 74, 75, 76, 77, 78, 79, 80, 81, 82, 83, 84, 85, 86, 87, 88, 89, 90, 91, 92, 93, 94, 95, 96, 97, 98, 99, 100, 101, 102, 103, 104, 105, 106, 107, 108, 109, 110, 111, 112, 113, 114, 115, 116] (by decide +kernel) (by decide +kernel)
set_option maxRecDepth 20000 in
theorem gX5_statement_J0_indexOf_0f7a4 : GoodIn wsX5_statement (wsV RX5 96 RJ0 yJ0_indexOf_0f7a4 wsJ0_indexOf_0f7a4) := goodIn_app (goodIn_of _ (by decide +kernel)) ggX5_statement_J0_indexOf_0f7a4
theorem dX5_statement_0 : decode cX5_statement 0 = .ok (.aload_n 0, 1) := by decide +kernel
theorem dX5_statement_1 : decode cX5_statement 1 = .ok (.bipush 112, 2) := by decide +kernel
theorem dX5_statement_3 : decode cX5_statement 3 = .ok (.invokevirtual 86, 3) := by decide +kernel
theorem dX5_statement_6 : decode cX5_statement 6 = .ok (.ifCond .eq 189, 3) := by decide +kernel
theorem dX5_statement_9 : decode cX5_statement 9 = .ok (.aload_n 0, 1) := by decide +kernel
theorem dX5_statement_10 : decode cX5_statement 10 = .ok (.iconst 0, 1) := by decide +kernel
theorem dX5_statement_11 : decode cX5_statement 11 = .ok (.iconst 1, 1) := by decide +kernel
theorem dX5_statement_12 : decode cX5_statement 12 = .ok (.invokevirtual 90, 3) := by decide +kernel
theorem dX5_statement_15 : decode cX5_statement 15 = .ok (.ifCond .ne 5, 3) := by decide +kernel
theorem dX5_statement_18 : decode cX5_statement 18 = .ok (.iconst (-1), 1) := by decide +kernel
theorem dX5_statement_19 : decode cX5_statement 19 = .ok (.ireturn, 1) := by decide +kernel
theorem dX5_statement_20 : decode cX5_statement 20 = .ok (.aload_n 0, 1) := by decide +kernel
theorem dX5_statement_21 : decode cX5_statement 21 = .ok (.getfield 83, 3) := by decide +kernel
theorem dX5_statement_24 : decode cX5_statement 24 = .ok (.aload_n 0, 1) := by decide +kernel
theorem dX5_statement_25 : decode cX5_statement 25 = .ok (.getfield 80, 3) := by decide +kernel
theorem dX5_statement_28 : decode cX5_statement 28 = .ok (.if_icmp .ge 32, 3) := by decide +kernel
theorem dX5_statement_31 : decode cX5_statement 31 = .ok (.aload_n 0, 1) := by decide +kernel
theorem dX5_statement_32 : decode cX5_statement 32 = .ok (.getfield 31, 3) := by decide +kernel
theorem dX5_statement_35 : decode cX5_statement 35 = .ok (.aload_n 0, 1) := by decide +kernel
theorem dX5_statement_36 : decode cX5_statement 36 = .ok (.getfield 83, 3) := by decide +kernel
theorem dX5_statement_39 : decode cX5_statement 39 = .ok (.iaload, 1) := by decide +kernel
theorem dX5_statement_40 : decode cX5_statement 40 = .ok (.ifCond .le 20, 3) := by decide +kernel
theorem dX5_statement_43 : decode cX5_statement 43 = .ok (.ldc 94, 2) := by decide +kernel
theorem dX5_statement_45 : decode cX5_statement 45 = .ok (.aload_n 0, 1) := by decide +kernel
theorem dX5_statement_46 : decode cX5_statement 46 = .ok (.getfield 31, 3) := by decide +kernel
theorem dX5_statement_49 : decode cX5_statement 49 = .ok (.aload_n 0, 1) := by decide +kernel
theorem dX5_statement_50 : decode cX5_statement 50 = .ok (.getfield 83, 3) := by decide +kernel
theorem dX5_statement_53 : decode cX5_statement 53 = .ok (.iaload, 1) := by decide +kernel
theorem dX5_statement_54 : decode cX5_statement 54 = .ok (.invokevirtual 96, 3) := by decide +kernel
theorem dX5_statement_57 : decode cX5_statement 57 = .ok (.goto 4, 3) := by decide +kernel
theorem dX5_statement_60 : decode cX5_statement 60 = .ok (.iconst (-1), 1) := by decide +kernel
theorem dX5_statement_61 : decode cX5_statement 61 = .ok (.istore_n 2, 1) := by decide +kernel
theorem dX5_statement_62 : decode cX5_statement 62 = .ok (.iload_n 2, 1) := by decide +kernel
theorem dX5_statement_63 : decode cX5_statement 63 = .ok (.ifCond .ge 5, 3) := by decide +kernel
theorem dX5_statement_66 : decode cX5_statement 66 = .ok (.iconst (-1), 1) := by decide +kernel
theorem dX5_statement_67 : decode cX5_statement 67 = .ok (.ireturn, 1) := by decide +kernel
theorem dX5_statement_68 : decode cX5_statement 68 = .ok (.aload_n 0, 1) := by decide +kernel
theorem dX5_statement_69 : decode cX5_statement 69 = .ok (.dup, 1) := by decide +kernel
theorem dX5_statement_70 : decode cX5_statement 70 = .ok (.getfield 83, 3) := by decide +kernel
theorem dX5_statement_73 : decode cX5_statement 73 = .ok (.iconst 1, 1) := by decide +kernel
theorem dX5_statement_74 : decode cX5_statement 74 = .ok (.iadd, 1) := by decide +kernel
theorem dX5_statement_75 : decode cX5_statement 75 = .ok (.putfield 83, 3) := by decide +kernel
theorem dX5_statement_78 : decode cX5_statement 78 = .ok (.aload_n 0, 1) := by decide +kernel
theorem dX5_statement_79 : decode cX5_statement 79 = .ok (.iconst 1, 1) := by decide +kernel
theorem dX5_statement_80 : decode cX5_statement 80 = .ok (.iconst 3, 1) := by decide +kernel
theorem dX5_statement_81 : decode cX5_statement 81 = .ok (.invokevirtual 90, 3) := by decide +kernel
theorem dX5_statement_84 : decode cX5_statement 84 = .ok (.ifCond .ne 5, 3) := by decide +kernel
theorem dX5_statement_87 : decode cX5_statement 87 = .ok (.iconst (-1), 1) := by decide +kernel
theorem dX5_statement_88 : decode cX5_statement 88 = .ok (.ireturn, 1) := by decide +kernel
theorem dX5_statement_89 : decode cX5_statement 89 = .ok (.iload_n 1, 1) := by decide +kernel
theorem dX5_statement_90 : decode cX5_statement 90 = .ok (.ifCond .ne 5, 3) := by decide +kernel
theorem dX5_statement_93 : decode cX5_statement 93 = .ok (.iconst 1, 1) := by decide +kernel
theorem dX5_statement_94 : decode cX5_statement 94 = .ok (.ireturn, 1) := by decide +kernel
theorem dX5_statement_95 : decode cX5_statement 95 = .ok (.aload_n 0, 1) := by decide +kernel
theorem dX5_statement_96 : decode cX5_statement 96 = .ok (.getfield 34, 3) := by decide +kernel
theorem dX5_statement_99 : decode cX5_statement 99 = .ok (.iconst 0, 1) := by decide +kernel
theorem dX5_statement_100 : decode cX5_statement 100 = .ok (.iaload, 1) := by decide +kernel
theorem dX5_statement_101 : decode cX5_statement 101 = .ok (.iconst 1, 1) := by decide +kernel
theorem dX5_statement_102 : decode cX5_statement 102 = .ok (.if_icmp .gt 12, 3) := by decide +kernel
theorem dX5_statement_105 : decode cX5_statement 105 = .ok (.aload_n 0, 1) := by decide +kernel
theorem dX5_statement_106 : decode cX5_statement 106 = .ok (.getfield 73, 3) := by decide +kernel
theorem dX5_statement_109 : decode cX5_statement 109 = .ok (.bipush 6, 2) := by decide +kernel
theorem dX5_statement_111 : decode cX5_statement 111 = .ok (.if_icmp .ne 5, 3) := by decide +kernel
theorem dX5_statement_114 : decode cX5_statement 114 = .ok (.iconst 0, 1) := by decide +kernel
theorem dX5_statement_115 : decode cX5_statement 115 = .ok (.ireturn, 1) := by decide +kernel
theorem dX5_statement_116 : decode cX5_statement 116 = .ok (.aload_n 0, 1) := by decide +kernel
theorem dX5_statement_117 : decode cX5_statement 117 = .ok (.getfield 16, 3) := by decide +kernel
theorem dX5_statement_120 : decode cX5_statement 120 = .ok (.aload_n 0, 1) := by decide +kernel
theorem dX5_statement_121 : decode cX5_statement 121 = .ok (.getfield 73, 3) := by decide +kernel
theorem dX5_statement_124 : decode cX5_statement 124 = .ok (.aload_n 0, 1) := by decide +kernel
theorem dX5_statement_125 : decode cX5_statement 125 = .ok (.getfield 34, 3) := by decide +kernel
theorem dX5_statement_128 : decode cX5_statement 128 = .ok (.iconst 0, 1) := by decide +kernel
theorem dX5_statement_129 : decode cX5_statement 129 = .ok (.iaload, 1) := by decide +kernel
theorem dX5_statement_130 : decode cX5_statement 130 = .ok (.iastore, 1) := by decide +kernel
theorem dX5_statement_131 : decode cX5_statement 131 = .ok (.aload_n 0, 1) := by decide +kernel
theorem dX5_statement_132 : decode cX5_statement 132 = .ok (.getfield 19, 3) := by decide +kernel
theorem dX5_statement_135 : decode cX5_statement 135 = .ok (.aload_n 0, 1) := by decide +kernel
theorem dX5_statement_136 : decode cX5_statement 136 = .ok (.getfield 73, 3) := by decide +kernel
theorem dX5_statement_139 : decode cX5_statement 139 = .ok (.iload_n 2, 1) := by decide +kernel
theorem dX5_statement_140 : decode cX5_statement 140 = .ok (.iastore, 1) := by decide +kernel
theorem dX5_statement_141 : decode cX5_statement 141 = .ok (.aload_n 0, 1) := by decide +kernel
theorem dX5_statement_142 : decode cX5_statement 142 = .ok (.getfield 22, 3) := by decide +kernel
theorem dX5_statement_145 : decode cX5_statement 145 = .ok (.aload_n 0, 1) := by decide +kernel
theorem dX5_statement_146 : decode cX5_statement 146 = .ok (.getfield 73, 3) := by decide +kernel
theorem dX5_statement_149 : decode cX5_statement 149 = .ok (.aload_n 0, 1) := by decide +kernel
theorem dX5_statement_150 : decode cX5_statement 150 = .ok (.getfield 34, 3) := by decide +kernel
theorem dX5_statement_153 : decode cX5_statement 153 = .ok (.iconst 1, 1) := by decide +kernel
theorem dX5_statement_154 : decode cX5_statement 154 = .ok (.iaload, 1) := by decide +kernel
theorem dX5_statement_155 : decode cX5_statement 155 = .ok (.iastore, 1) := by decide +kernel
theorem dX5_statement_156 : decode cX5_statement 156 = .ok (.aload_n 0, 1) := by decide +kernel
theorem dX5_statement_157 : decode cX5_statement 157 = .ok (.getfield 25, 3) := by decide +kernel
theorem dX5_statement_160 : decode cX5_statement 160 = .ok (.aload_n 0, 1) := by decide +kernel
theorem dX5_statement_161 : decode cX5_statement 161 = .ok (.getfield 73, 3) := by decide +kernel
theorem dX5_statement_164 : decode cX5_statement 164 = .ok (.aload_n 0, 1) := by decide +kernel
theorem dX5_statement_165 : decode cX5_statement 165 = .ok (.getfield 34, 3) := by decide +kernel
theorem dX5_statement_168 : decode cX5_statement 168 = .ok (.iconst 2, 1) := by decide +kernel
theorem dX5_statement_169 : decode cX5_statement 169 = .ok (.iaload, 1) := by decide +kernel
theorem dX5_statement_170 : decode cX5_statement 170 = .ok (.iastore, 1) := by decide +kernel
theorem dX5_statement_171 : decode cX5_statement 171 = .ok (.aload_n 0, 1) := by decide +kernel
theorem dX5_statement_172 : decode cX5_statement 172 = .ok (.getfield 28, 3) := by decide +kernel
theorem dX5_statement_175 : decode cX5_statement 175 = .ok (.aload_n 0, 1) := by decide +kernel
theorem dX5_statement_176 : decode cX5_statement 176 = .ok (.dup, 1) := by decide +kernel
theorem dX5_statement_177 : decode cX5_statement 177 = .ok (.getfield 73, 3) := by decide +kernel
theorem dX5_statement_180 : decode cX5_statement 180 = .ok (.dup_x1, 1) := by decide +kernel
theorem dX5_statement_181 : decode cX5_statement 181 = .ok (.iconst 1, 1) := by decide +kernel
theorem dX5_statement_182 : decode cX5_statement 182 = .ok (.iadd, 1) := by decide +kernel
theorem dX5_statement_183 : decode cX5_statement 183 = .ok (.putfield 73, 3) := by decide +kernel
theorem dX5_statement_186 : decode cX5_statement 186 = .ok (.aload_n 0, 1) := by decide +kernel
theorem dX5_statement_187 : decode cX5_statement 187 = .ok (.getfield 34, 3) := by decide +kernel
theorem dX5_statement_190 : decode cX5_statement 190 = .ok (.iconst 3, 1) := by decide +kernel
theorem dX5_statement_191 : decode cX5_statement 191 = .ok (.iaload, 1) := by decide +kernel
theorem dX5_statement_192 : decode cX5_statement 192 = .ok (.iastore, 1) := by decide +kernel
theorem dX5_statement_193 : decode cX5_statement 193 = .ok (.iconst 1, 1) := by decide +kernel
theorem dX5_statement_194 : decode cX5_statement 194 = .ok (.ireturn, 1) := by decide +kernel
theorem dX5_statement_195 : decode cX5_statement 195 = .ok (.aload_n 0, 1) := by decide +kernel
theorem dX5_statement_196 : decode cX5_statement 196 = .ok (.bipush 99, 2) := by decide +kernel
theorem dX5_statement_198 : decode cX5_statement 198 = .ok (.invokevirtual 86, 3) := by decide +kernel
theorem dX5_statement_201 : decode cX5_statement 201 = .ok (.ifCond .eq 65, 3) := by decide +kernel
theorem dX5_statement_204 : decode cX5_statement 204 = .ok (.aload_n 0, 1) := by decide +kernel
theorem dX5_statement_205 : decode cX5_statement 205 = .ok (.iconst 0, 1) := by decide +kernel
theorem dX5_statement_206 : decode cX5_statement 206 = .ok (.iconst 2, 1) := by decide +kernel
theorem dX5_statement_207 : decode cX5_statement 207 = .ok (.invokevirtual 90, 3) := by decide +kernel
theorem dX5_statement_210 : decode cX5_statement 210 = .ok (.ifCond .ne 5, 3) := by decide +kernel
theorem dX5_statement_213 : decode cX5_statement 213 = .ok (.iconst (-1), 1) := by decide +kernel
theorem dX5_statement_214 : decode cX5_statement 214 = .ok (.ireturn, 1) := by decide +kernel
theorem dX5_statement_215 : decode cX5_statement 215 = .ok (.iload_n 1, 1) := by decide +kernel
theorem dX5_statement_216 : decode cX5_statement 216 = .ok (.ifCond .ne 5, 3) := by decide +kernel
theorem dX5_statement_219 : decode cX5_statement 219 = .ok (.iconst 1, 1) := by decide +kernel
theorem dX5_statement_220 : decode cX5_statement 220 = .ok (.ireturn, 1) := by decide +kernel
theorem dX5_statement_221 : decode cX5_statement 221 = .ok (.bipush 10, 2) := by decide +kernel
theorem dX5_statement_223 : decode cX5_statement 223 = .ok (.aload_n 0, 1) := by decide +kernel
theorem dX5_statement_224 : decode cX5_statement 224 = .ok (.getfield 34, 3) := by decide +kernel
theorem dX5_statement_227 : decode cX5_statement 227 = .ok (.iconst 0, 1) := by decide +kernel
theorem dX5_statement_228 : decode cX5_statement 228 = .ok (.iaload, 1) := by decide +kernel
theorem dX5_statement_229 : decode cX5_statement 229 = .ok (.imul, 1) := by decide +kernel
theorem dX5_statement_230 : decode cX5_statement 230 = .ok (.aload_n 0, 1) := by decide +kernel
theorem dX5_statement_231 : decode cX5_statement 231 = .ok (.getfield 34, 3) := by decide +kernel
theorem dX5_statement_234 : decode cX5_statement 234 = .ok (.iconst 1, 1) := by decide +kernel
theorem dX5_statement_235 : decode cX5_statement 235 = .ok (.iaload, 1) := by decide +kernel
theorem dX5_statement_236 : decode cX5_statement 236 = .ok (.iadd, 1) := by decide +kernel
theorem dX5_statement_237 : decode cX5_statement 237 = .ok (.bipush 24, 2) := by decide +kernel
theorem dX5_statement_239 : decode cX5_statement 239 = .ok (.if_icmp .le 5, 3) := by decide +kernel
theorem dX5_statement_242 : decode cX5_statement 242 = .ok (.iconst 0, 1) := by decide +kernel
theorem dX5_statement_243 : decode cX5_statement 243 = .ok (.ireturn, 1) := by decide +kernel
theorem dX5_statement_244 : decode cX5_statement 244 = .ok (.aload_n 0, 1) := by decide +kernel
theorem dX5_statement_245 : decode cX5_statement 245 = .ok (.bipush 10, 2) := by decide +kernel
theorem dX5_statement_247 : decode cX5_statement 247 = .ok (.aload_n 0, 1) := by decide +kernel
theorem dX5_statement_248 : decode cX5_statement 248 = .ok (.getfield 34, 3) := by decide +kernel
theorem dX5_statement_251 : decode cX5_statement 251 = .ok (.iconst 0, 1) := by decide +kernel
theorem dX5_statement_252 : decode cX5_statement 252 = .ok (.iaload, 1) := by decide +kernel
theorem dX5_statement_253 : decode cX5_statement 253 = .ok (.imul, 1) := by decide +kernel
theorem dX5_statement_254 : decode cX5_statement 254 = .ok (.aload_n 0, 1) := by decide +kernel
theorem dX5_statement_255 : decode cX5_statement 255 = .ok (.getfield 34, 3) := by decide +kernel
theorem dX5_statement_258 : decode cX5_statement 258 = .ok (.iconst 1, 1) := by decide +kernel
theorem dX5_statement_259 : decode cX5_statement 259 = .ok (.iaload, 1) := by decide +kernel
theorem dX5_statement_260 : decode cX5_statement 260 = .ok (.iadd, 1) := by decide +kernel
theorem dX5_statement_261 : decode cX5_statement 261 = .ok (.putfield 55, 3) := by decide +kernel
theorem dX5_statement_264 : decode cX5_statement 264 = .ok (.iconst 1, 1) := by decide +kernel
theorem dX5_statement_265 : decode cX5_statement 265 = .ok (.ireturn, 1) := by decide +kernel
theorem dX5_statement_266 : decode cX5_statement 266 = .ok (.aload_n 0, 1) := by decide +kernel
theorem dX5_statement_267 : decode cX5_statement 267 = .ok (.bipush 108, 2) := by decide +kernel
theorem dX5_statement_269 : decode cX5_statement 269 = .ok (.invokevirtual 86, 3) := by decide +kernel
theorem dX5_statement_272 : decode cX5_statement 272 = .ok (.ifCond .eq 84, 3) := by decide +kernel
theorem dX5_statement_275 : decode cX5_statement 275 = .ok (.aload_n 0, 1) := by decide +kernel
theorem dX5_statement_276 : decode cX5_statement 276 = .ok (.bipush 45, 2) := by decide +kernel
theorem dX5_statement_278 : decode cX5_statement 278 = .ok (.invokevirtual 86, 3) := by decide +kernel
theorem dX5_statement_281 : decode cX5_statement 281 = .ok (.istore_n 2, 1) := by decide +kernel
theorem dX5_statement_282 : decode cX5_statement 282 = .ok (.iload_n 2, 1) := by decide +kernel
theorem dX5_statement_283 : decode cX5_statement 283 = .ok (.ifCond .ne 12, 3) := by decide +kernel
theorem dX5_statement_286 : decode cX5_statement 286 = .ok (.aload_n 0, 1) := by decide +kernel
theorem dX5_statement_287 : decode cX5_statement 287 = .ok (.bipush 43, 2) := by decide +kernel
theorem dX5_statement_289 : decode cX5_statement 289 = .ok (.invokevirtual 86, 3) := by decide +kernel
theorem dX5_statement_292 : decode cX5_statement 292 = .ok (.ifCond .eq 12, 3) := by decide +kernel
theorem dX5_statement_295 : decode cX5_statement 295 = .ok (.aload_n 0, 1) := by decide +kernel
theorem dX5_statement_296 : decode cX5_statement 296 = .ok (.iconst 0, 1) := by decide +kernel
theorem dX5_statement_297 : decode cX5_statement 297 = .ok (.iconst 1, 1) := by decide +kernel
theorem dX5_statement_298 : decode cX5_statement 298 = .ok (.invokevirtual 90, 3) := by decide +kernel
theorem dX5_statement_301 : decode cX5_statement 301 = .ok (.ifCond .ne 5, 3) := by decide +kernel
theorem dX5_statement_304 : decode cX5_statement 304 = .ok (.iconst (-1), 1) := by decide +kernel
theorem dX5_statement_305 : decode cX5_statement 305 = .ok (.ireturn, 1) := by decide +kernel
theorem dX5_statement_306 : decode cX5_statement 306 = .ok (.iload_n 1, 1) := by decide +kernel
theorem dX5_statement_307 : decode cX5_statement 307 = .ok (.ifCond .ne 5, 3) := by decide +kernel
theorem dX5_statement_310 : decode cX5_statement 310 = .ok (.iconst 1, 1) := by decide +kernel
theorem dX5_statement_311 : decode cX5_statement 311 = .ok (.ireturn, 1) := by decide +kernel
theorem dX5_statement_312 : decode cX5_statement 312 = .ok (.aload_n 0, 1) := by decide +kernel
theorem dX5_statement_313 : decode cX5_statement 313 = .ok (.getfield 34, 3) := by decide +kernel
theorem dX5_statement_316 : decode cX5_statement 316 = .ok (.iconst 0, 1) := by decide +kernel
theorem dX5_statement_317 : decode cX5_statement 317 = .ok (.iaload, 1) := by decide +kernel
theorem dX5_statement_318 : decode cX5_statement 318 = .ok (.bipush 6, 2) := by decide +kernel
theorem dX5_statement_320 : decode cX5_statement 320 = .ok (.if_icmp .le 5, 3) := by decide +kernel
theorem dX5_statement_323 : decode cX5_statement 323 = .ok (.iconst 0, 1) := by decide +kernel
theorem dX5_statement_324 : decode cX5_statement 324 = .ok (.ireturn, 1) := by decide +kernel
theorem dX5_statement_325 : decode cX5_statement 325 = .ok (.aload_n 0, 1) := by decide +kernel
theorem dX5_statement_326 : decode cX5_statement 326 = .ok (.iload_n 2, 1) := by decide +kernel
theorem dX5_statement_327 : decode cX5_statement 327 = .ok (.ifCond .eq 15, 3) := by decide +kernel
theorem dX5_statement_330 : decode cX5_statement 330 = .ok (.bipush 6, 2) := by decide +kernel
theorem dX5_statement_332 : decode cX5_statement 332 = .ok (.aload_n 0, 1) := by decide +kernel
theorem dX5_statement_333 : decode cX5_statement 333 = .ok (.getfield 34, 3) := by decide +kernel
theorem dX5_statement_336 : decode cX5_statement 336 = .ok (.iconst 0, 1) := by decide +kernel
theorem dX5_statement_337 : decode cX5_statement 337 = .ok (.iaload, 1) := by decide +kernel
theorem dX5_statement_338 : decode cX5_statement 338 = .ok (.isub, 1) := by decide +kernel
theorem dX5_statement_339 : decode cX5_statement 339 = .ok (.goto 12, 3) := by decide +kernel
theorem dX5_statement_342 : decode cX5_statement 342 = .ok (.bipush 6, 2) := by decide +kernel
theorem dX5_statement_344 : decode cX5_statement 344 = .ok (.aload_n 0, 1) := by decide +kernel
theorem dX5_statement_345 : decode cX5_statement 345 = .ok (.getfield 34, 3) := by decide +kernel
theorem dX5_statement_348 : decode cX5_statement 348 = .ok (.iconst 0, 1) := by decide +kernel
theorem dX5_statement_349 : decode cX5_statement 349 = .ok (.iaload, 1) := by decide +kernel
theorem dX5_statement_350 : decode cX5_statement 350 = .ok (.iadd, 1) := by decide +kernel
theorem dX5_statement_351 : decode cX5_statement 351 = .ok (.putfield 59, 3) := by decide +kernel
theorem dX5_statement_354 : decode cX5_statement 354 = .ok (.iconst 1, 1) := by decide +kernel
theorem dX5_statement_355 : decode cX5_statement 355 = .ok (.ireturn, 1) := by decide +kernel
theorem dX5_statement_356 : decode cX5_statement 356 = .ok (.aload_n 0, 1) := by decide +kernel
theorem dX5_statement_357 : decode cX5_statement 357 = .ok (.bipush 102, 2) := by decide +kernel
theorem dX5_statement_359 : decode cX5_statement 359 = .ok (.invokevirtual 86, 3) := by decide +kernel
theorem dX5_statement_362 : decode cX5_statement 362 = .ok (.ifCond .ne 12, 3) := by decide +kernel
theorem dX5_statement_365 : decode cX5_statement 365 = .ok (.aload_n 0, 1) := by decide +kernel
theorem dX5_statement_366 : decode cX5_statement 366 = .ok (.bipush 111, 2) := by decide +kernel
theorem dX5_statement_368 : decode cX5_statement 368 = .ok (.invokevirtual 86, 3) := by decide +kernel
theorem dX5_statement_371 : decode cX5_statement 371 = .ok (.ifCond .eq 115, 3) := by decide +kernel
theorem dX5_statement_374 : decode cX5_statement 374 = .ok (.aload_n 0, 1) := by decide +kernel
theorem dX5_statement_375 : decode cX5_statement 375 = .ok (.getfield 31, 3) := by decide +kernel
theorem dX5_statement_378 : decode cX5_statement 378 = .ok (.aload_n 0, 1) := by decide +kernel
theorem dX5_statement_379 : decode cX5_statement 379 = .ok (.getfield 83, 3) := by decide +kernel
theorem dX5_statement_382 : decode cX5_statement 382 = .ok (.iconst 1, 1) := by decide +kernel
theorem dX5_statement_383 : decode cX5_statement 383 = .ok (.isub, 1) := by decide +kernel
theorem dX5_statement_384 : decode cX5_statement 384 = .ok (.iaload, 1) := by decide +kernel
theorem dX5_statement_385 : decode cX5_statement 385 = .ok (.bipush 102, 2) := by decide +kernel
theorem dX5_statement_387 : decode cX5_statement 387 = .ok (.if_icmp .ne 7, 3) := by decide +kernel
theorem dX5_statement_390 : decode cX5_statement 390 = .ok (.iconst 1, 1) := by decide +kernel
theorem dX5_statement_391 : decode cX5_statement 391 = .ok (.goto 4, 3) := by decide +kernel
theorem dX5_statement_394 : decode cX5_statement 394 = .ok (.iconst 0, 1) := by decide +kernel
theorem dX5_statement_395 : decode cX5_statement 395 = .ok (.istore_n 2, 1) := by decide +kernel
theorem dX5_statement_396 : decode cX5_statement 396 = .ok (.aload_n 0, 1) := by decide +kernel
theorem dX5_statement_397 : decode cX5_statement 397 = .ok (.iconst 0, 1) := by decide +kernel
theorem dX5_statement_398 : decode cX5_statement 398 = .ok (.iconst 2, 1) := by decide +kernel
theorem dX5_statement_399 : decode cX5_statement 399 = .ok (.invokevirtual 90, 3) := by decide +kernel
theorem dX5_statement_402 : decode cX5_statement 402 = .ok (.ifCond .ne 5, 3) := by decide +kernel
theorem dX5_statement_405 : decode cX5_statement 405 = .ok (.iconst (-1), 1) := by decide +kernel
theorem dX5_statement_406 : decode cX5_statement 406 = .ok (.ireturn, 1) := by decide +kernel
theorem dX5_statement_407 : decode cX5_statement 407 = .ok (.iload_n 1, 1) := by decide +kernel
theorem dX5_statement_408 : decode cX5_statement 408 = .ok (.ifCond .ne 5, 3) := by decide +kernel
theorem dX5_statement_411 : decode cX5_statement 411 = .ok (.iconst 1, 1) := by decide +kernel
theorem dX5_statement_412 : decode cX5_statement 412 = .ok (.ireturn, 1) := by decide +kernel
theorem dX5_statement_413 : decode cX5_statement 413 = .ok (.aload_n 0, 1) := by decide +kernel
theorem dX5_statement_414 : decode cX5_statement 414 = .ok (.getfield 34, 3) := by decide +kernel
theorem dX5_statement_417 : decode cX5_statement 417 = .ok (.iconst 0, 1) := by decide +kernel
theorem dX5_statement_418 : decode cX5_statement 418 = .ok (.iaload, 1) := by decide +kernel
theorem dX5_statement_419 : decode cX5_statement 419 = .ok (.iconst 1, 1) := by decide +kernel
theorem dX5_statement_420 : decode cX5_statement 420 = .ok (.if_icmp .gt 21, 3) := by decide +kernel
theorem dX5_statement_423 : decode cX5_statement 423 = .ok (.aload_n 0, 1) := by decide +kernel
theorem dX5_statement_424 : decode cX5_statement 424 = .ok (.getfield 34, 3) := by decide +kernel
theorem dX5_statement_427 : decode cX5_statement 427 = .ok (.iconst 1, 1) := by decide +kernel
theorem dX5_statement_428 : decode cX5_statement 428 = .ok (.iaload, 1) := by decide +kernel
theorem dX5_statement_429 : decode cX5_statement 429 = .ok (.iload_n 2, 1) := by decide +kernel
theorem dX5_statement_430 : decode cX5_statement 430 = .ok (.ifCond .eq 7, 3) := by decide +kernel
theorem dX5_statement_433 : decode cX5_statement 433 = .ok (.iconst 5, 1) := by decide +kernel
theorem dX5_statement_434 : decode cX5_statement 434 = .ok (.goto 4, 3) := by decide +kernel
theorem dX5_statement_437 : decode cX5_statement 437 = .ok (.iconst 2, 1) := by decide +kernel
theorem dX5_statement_438 : decode cX5_statement 438 = .ok (.if_icmp .le 5, 3) := by decide +kernel
theorem dX5_statement_441 : decode cX5_statement 441 = .ok (.iconst 0, 1) := by decide +kernel
theorem dX5_statement_442 : decode cX5_statement 442 = .ok (.ireturn, 1) := by decide +kernel
theorem dX5_statement_443 : decode cX5_statement 443 = .ok (.iload_n 2, 1) := by decide +kernel
theorem dX5_statement_444 : decode cX5_statement 444 = .ok (.ifCond .eq 23, 3) := by decide +kernel
theorem dX5_statement_447 : decode cX5_statement 447 = .ok (.aload_n 0, 1) := by decide +kernel
theorem dX5_statement_448 : decode cX5_statement 448 = .ok (.getfield 7, 3) := by decide +kernel
theorem dX5_statement_451 : decode cX5_statement 451 = .ok (.aload_n 0, 1) := by decide +kernel
theorem dX5_statement_452 : decode cX5_statement 452 = .ok (.getfield 34, 3) := by decide +kernel
theorem dX5_statement_455 : decode cX5_statement 455 = .ok (.iconst 0, 1) := by decide +kernel
theorem dX5_statement_456 : decode cX5_statement 456 = .ok (.iaload, 1) := by decide +kernel
theorem dX5_statement_457 : decode cX5_statement 457 = .ok (.aload_n 0, 1) := by decide +kernel
theorem dX5_statement_458 : decode cX5_statement 458 = .ok (.getfield 34, 3) := by decide +kernel
theorem dX5_statement_461 : decode cX5_statement 461 = .ok (.iconst 1, 1) := by decide +kernel
theorem dX5_statement_462 : decode cX5_statement 462 = .ok (.iaload, 1) := by decide +kernel
theorem dX5_statement_463 : decode cX5_statement 463 = .ok (.iastore, 1) := by decide +kernel
theorem dX5_statement_464 : decode cX5_statement 464 = .ok (.goto 20, 3) := by decide +kernel
theorem dX5_statement_467 : decode cX5_statement 467 = .ok (.aload_n 0, 1) := by decide +kernel
theorem dX5_statement_468 : decode cX5_statement 468 = .ok (.getfield 13, 3) := by decide +kernel
theorem dX5_statement_471 : decode cX5_statement 471 = .ok (.aload_n 0, 1) := by decide +kernel
theorem dX5_statement_472 : decode cX5_statement 472 = .ok (.getfield 34, 3) := by decide +kernel
theorem dX5_statement_475 : decode cX5_statement 475 = .ok (.iconst 0, 1) := by decide +kernel
theorem dX5_statement_476 : decode cX5_statement 476 = .ok (.iaload, 1) := by decide +kernel
theorem dX5_statement_477 : decode cX5_statement 477 = .ok (.aload_n 0, 1) := by decide +kernel
theorem dX5_statement_478 : decode cX5_statement 478 = .ok (.getfield 34, 3) := by decide +kernel
theorem dX5_statement_481 : decode cX5_statement 481 = .ok (.iconst 1, 1) := by decide +kernel
theorem dX5_statement_482 : decode cX5_statement 482 = .ok (.iaload, 1) := by decide +kernel
theorem dX5_statement_483 : decode cX5_statement 483 = .ok (.iastore, 1) := by decide +kernel
theorem dX5_statement_484 : decode cX5_statement 484 = .ok (.iconst 1, 1) := by decide +kernel
theorem dX5_statement_485 : decode cX5_statement 485 = .ok (.ireturn, 1) := by decide +kernel
theorem dX5_statement_486 : decode cX5_statement 486 = .ok (.aload_n 0, 1) := by decide +kernel
theorem dX5_statement_487 : decode cX5_statement 487 = .ok (.getfield 83, 3) := by decide +kernel
theorem dX5_statement_490 : decode cX5_statement 490 = .ok (.aload_n 0, 1) := by decide +kernel
theorem dX5_statement_491 : decode cX5_statement 491 = .ok (.getfield 80, 3) := by decide +kernel
theorem dX5_statement_494 : decode cX5_statement 494 = .ok (.if_icmp .ge 15, 3) := by decide +kernel
theorem dX5_statement_497 : decode cX5_statement 497 = .ok (.aload_n 0, 1) := by decide +kernel
theorem dX5_statement_498 : decode cX5_statement 498 = .ok (.getfield 31, 3) := by decide +kernel
theorem dX5_statement_501 : decode cX5_statement 501 = .ok (.aload_n 0, 1) := by decide +kernel
theorem dX5_statement_502 : decode cX5_statement 502 = .ok (.getfield 83, 3) := by decide +kernel
theorem dX5_statement_505 : decode cX5_statement 505 = .ok (.iaload, 1) := by decide +kernel
theorem dX5_statement_506 : decode cX5_statement 506 = .ok (.goto 4, 3) := by decide +kernel
theorem dX5_statement_509 : decode cX5_statement 509 = .ok (.iconst 0, 1) := by decide +kernel
theorem dX5_statement_510 : decode cX5_statement 510 = .ok (.istore_n 2, 1) := by decide +kernel
theorem dX5_statement_511 : decode cX5_statement 511 = .ok (.iload_n 2, 1) := by decide +kernel
theorem dX5_statement_512 : decode cX5_statement 512 = .ok (.bipush 98, 2) := by decide +kernel
theorem dX5_statement_514 : decode cX5_statement 514 = .ok (.if_icmp .eq 23, 3) := by decide +kernel
theorem dX5_statement_517 : decode cX5_statement 517 = .ok (.iload_n 2, 1) := by decide +kernel
theorem dX5_statement_518 : decode cX5_statement 518 = .ok (.bipush 114, 2) := by decide +kernel
theorem dX5_statement_520 : decode cX5_statement 520 = .ok (.if_icmp .eq 17, 3) := by decide +kernel
theorem dX5_statement_523 : decode cX5_statement 523 = .ok (.iload_n 2, 1) := by decide +kernel
theorem dX5_statement_524 : decode cX5_statement 524 = .ok (.bipush 119, 2) := by decide +kernel
theorem dX5_statement_526 : decode cX5_statement 526 = .ok (.if_icmp .eq 11, 3) := by decide +kernel
theorem dX5_statement_529 : decode cX5_statement 529 = .ok (.iload_n 2, 1) := by decide +kernel
theorem dX5_statement_530 : decode cX5_statement 530 = .ok (.bipush 100, 2) := by decide +kernel
theorem dX5_statement_532 : decode cX5_statement 532 = .ok (.if_icmp .eq 5, 3) := by decide +kernel
theorem dX5_statement_535 : decode cX5_statement 535 = .ok (.iconst (-1), 1) := by decide +kernel
theorem dX5_statement_536 : decode cX5_statement 536 = .ok (.ireturn, 1) := by decide +kernel
theorem dX5_statement_537 : decode cX5_statement 537 = .ok (.aload_n 0, 1) := by decide +kernel
theorem dX5_statement_538 : decode cX5_statement 538 = .ok (.dup, 1) := by decide +kernel
theorem dX5_statement_539 : decode cX5_statement 539 = .ok (.getfield 83, 3) := by decide +kernel
theorem dX5_statement_542 : decode cX5_statement 542 = .ok (.iconst 1, 1) := by decide +kernel
theorem dX5_statement_543 : decode cX5_statement 543 = .ok (.iadd, 1) := by decide +kernel
theorem dX5_statement_544 : decode cX5_statement 544 = .ok (.putfield 83, 3) := by decide +kernel
theorem dX5_statement_547 : decode cX5_statement 547 = .ok (.aload_n 0, 1) := by decide +kernel
theorem dX5_statement_548 : decode cX5_statement 548 = .ok (.iconst 0, 1) := by decide +kernel
theorem dX5_statement_549 : decode cX5_statement 549 = .ok (.iconst 1, 1) := by decide +kernel
theorem dX5_statement_550 : decode cX5_statement 550 = .ok (.invokevirtual 90, 3) := by decide +kernel
theorem dX5_statement_553 : decode cX5_statement 553 = .ok (.ifCond .ne 5, 3) := by decide +kernel
theorem dX5_statement_556 : decode cX5_statement 556 = .ok (.iconst (-1), 1) := by decide +kernel
theorem dX5_statement_557 : decode cX5_statement 557 = .ok (.ireturn, 1) := by decide +kernel
theorem dX5_statement_558 : decode cX5_statement 558 = .ok (.iload_n 1, 1) := by decide +kernel
theorem dX5_statement_559 : decode cX5_statement 559 = .ok (.ifCond .ne 5, 3) := by decide +kernel
theorem dX5_statement_562 : decode cX5_statement 562 = .ok (.iconst 1, 1) := by decide +kernel
theorem dX5_statement_563 : decode cX5_statement 563 = .ok (.ireturn, 1) := by decide +kernel
theorem dX5_statement_564 : decode cX5_statement 564 = .ok (.aload_n 0, 1) := by decide +kernel
theorem dX5_statement_565 : decode cX5_statement 565 = .ok (.getfield 34, 3) := by decide +kernel
theorem dX5_statement_568 : decode cX5_statement 568 = .ok (.iconst 0, 1) := by decide +kernel
theorem dX5_statement_569 : decode cX5_statement 569 = .ok (.iaload, 1) := by decide +kernel
