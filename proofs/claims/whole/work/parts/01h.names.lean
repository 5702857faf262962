theorem dX5_from_3 : decode cX5_from 3 = .ok (.iload_n 2, 1) := by decide +kernel
theorem dX5_from_4 : decode cX5_from 4 = .ok (.invokevirtual 177, 3) := by decide +kernel
theorem dX5_from_7 : decode cX5_from 7 = .ok (.istore_n 3, 1) := by decide +kernel
theorem dX5_from_8 : decode cX5_from 8 = .ok (.iload_n 3, 1) := by decide +kernel
theorem dX5_from_9 : decode cX5_from 9 = .ok (.ifCond .ge 9, 3) := by decide +kernel
theorem dX5_from_12 : decode cX5_from 12 = .ok (.aload_n 0, 1) := by decide +kernel
theorem dX5_from_13 : decode cX5_from 13 = .ok (.iload_n 3, 1) := by decide +kernel
theorem dX5_from_14 : decode cX5_from 14 = .ok (.invokevirtual 69, 3) := by decide +kernel
theorem dX5_from_17 : decode cX5_from 17 = .ok (.ireturn, 1) := by decide +kernel
theorem dX5_from_18 : decode cX5_from 18 = .ok (.aload_n 0, 1) := by decide +kernel
theorem dX5_from_19 : decode cX5_from 19 = .ok (.invokevirtual 170, 3) := by decide +kernel
theorem dX5_from_22 : decode cX5_from 22 = .ok (.iconst 0, 1) := by decide +kernel
theorem dX5_from_23 : decode cX5_from 23 = .ok (.istore 4, 2) := by decide +kernel
theorem dX5_from_25 : decode cX5_from 25 = .ok (.iload 4, 2) := by decide +kernel
theorem dX5_from_27 : decode cX5_from 27 = .ok (.bipush 24, 2) := by decide +kernel
theorem dX5_from_29 : decode cX5_from 29 = .ok (.if_icmp .ge 36, 3) := by decide +kernel
theorem dX5_from_32 : decode cX5_from 32 = .ok (.aload_n 0, 1) := by decide +kernel
theorem dX5_from_33 : decode cX5_from 33 = .ok (.iload 4, 2) := by decide +kernel
theorem dX5_from_35 : decode cX5_from 35 = .ok (.iconst 1, 1) := by decide +kernel
theorem dX5_from_36 : decode cX5_from 36 = .ok (.iadd, 1) := by decide +kernel
theorem dX5_from_37 : decode cX5_from 37 = .ok (.iload_n 1, 1) := by decide +kernel
theorem dX5_from_38 : decode cX5_from 38 = .ok (.invokevirtual 160, 3) := by decide +kernel
theorem dX5_from_41 : decode cX5_from 41 = .ok (.ifCond .ne 24, 3) := by decide +kernel
theorem dX5_from_44 : decode cX5_from 44 = .ok (.aload_n 0, 1) := by decide +kernel
theorem dX5_from_45 : decode cX5_from 45 = .ok (.iload 4, 2) := by decide +kernel
theorem dX5_from_47 : decode cX5_from 47 = .ok (.iconst 1, 1) := by decide +kernel
theorem dX5_from_48 : decode cX5_from 48 = .ok (.iadd, 1) := by decide +kernel
theorem dX5_from_49 : decode cX5_from 49 = .ok (.iload_n 1, 1) := by decide +kernel
theorem dX5_from_50 : decode cX5_from 50 = .ok (.iload_n 2, 1) := by decide +kernel
theorem dX5_from_51 : decode cX5_from 51 = .ok (.invokevirtual 163, 3) := by decide +kernel
theorem dX5_from_54 : decode cX5_from 54 = .ok (.bipush 93, 2) := by decide +kernel
theorem dX5_from_56 : decode cX5_from 56 = .ok (.if_icmp .eq 9, 3) := by decide +kernel
theorem dX5_from_59 : decode cX5_from 59 = .ok (.iinc 4 1, 3) := by decide +kernel
theorem dX5_from_62 : decode cX5_from 62 = .ok (.goto (-37), 3) := by decide +kernel
theorem dX5_from_65 : decode cX5_from 65 = .ok (.iload 4, 2) := by decide +kernel
theorem dX5_from_67 : decode cX5_from 67 = .ok (.ireturn, 1) := by decide +kernel
set_option maxRecDepth 20000 in
theorem ggX5_point_X5_solve : GoodIn wsX5_point wsX5_solve := goodIn_r _ [8, 9, 10, 11, 12, 7, 13, 14, 15, 16, 17, 18, 19, 20, 21, 22, 23, 24, 25, 26, 27, 28, 29, 30, 31, 32, 33, 34, 35, 36, 37, 38, 39, 40, 41, 42, 43, 44, 45, 46, 47, 48, 49, 50, 51, 52, 53, 54, 55, 56, 57, 58, 59, 60, 61, 62, 63, 64, 65, 66, 67, 68, 69, 70, 71, 72, 73, 74, 75, 76, 77, 78, 79, 80, 81, 82, 83, 84, 85, 86, 87, 88, 89, 90, 91, 92, 93, 94, 95, 96, 97, 98] (by decide +kernel) (by decide +kernel)
set_option maxRecDepth 20000 in
theorem gX5_point_X5_solve : GoodIn wsX5_point (wsV RX5 170 RX5 yX5_solve wsX5_solve) := goodIn_app (goodIn_of _ (by decide +kernel)) ggX5_point_X5_solve
set_option maxRecDepth 20000 in
theorem ggX5_point_X5_valueOf : GoodIn wsX5_point wsX5_valueOf := goodIn_r _ [64, 9, 73, 74, 75, 76, 77, 78, 79, 80, 81, 82, 83, 84, 85, 86, 87, 88, 89, 90, 91, 92, 93, 94, 95, 96, 97, 98] (by decide +kernel) (by decide +kernel)
set_option maxRecDepth 20000 in
theorem gX5_point_X5_valueOf : GoodIn wsX5_point (wsV RX5 145 RX5 yX5_valueOf wsX5_valueOf) := goodIn_app (goodIn_of _ (by decide +kernel)) ggX5_point_X5_valueOf
theorem dX5_point_0 : decode cX5_point 0 = .ok (.aload_n 0, 1) := by decide +kernel
theorem dX5_point_1 : decode cX5_point 1 = .ok (.invokevirtual 170, 3) := by decide +kernel
theorem dX5_point_4 : decode cX5_point 4 = .ok (.aload_n 0, 1) := by decide +kernel
theorem dX5_point_5 : decode cX5_point 5 = .ok (.getfield 59, 3) := by decide +kernel
theorem dX5_point_8 : decode cX5_point 8 = .ok (.bipush 12, 2) := by decide +kernel
theorem dX5_point_10 : decode cX5_point 10 = .ok (.if_icmp .ne 7, 3) := by decide +kernel
theorem dX5_point_13 : decode cX5_point 13 = .ok (.iconst 0, 1) := by decide +kernel
theorem dX5_point_14 : decode cX5_point 14 = .ok (.goto 38, 3) := by decide +kernel
theorem dX5_point_17 : decode cX5_point 17 = .ok (.aload_n 0, 1) := by decide +kernel
theorem dX5_point_18 : decode cX5_point 18 = .ok (.aload_n 0, 1) := by decide +kernel
theorem dX5_point_19 : decode cX5_point 19 = .ok (.getfield 55, 3) := by decide +kernel
theorem dX5_point_22 : decode cX5_point 22 = .ok (.aload_n 0, 1) := by decide +kernel
theorem dX5_point_23 : decode cX5_point 23 = .ok (.getfield 59, 3) := by decide +kernel
theorem dX5_point_26 : decode cX5_point 26 = .ok (.iconst 1, 1) := by decide +kernel
theorem dX5_point_27 : decode cX5_point 27 = .ok (.iadd, 1) := by decide +kernel
theorem dX5_point_28 : decode cX5_point 28 = .ok (.aload_n 0, 1) := by decide +kernel
theorem dX5_point_29 : decode cX5_point 29 = .ok (.getfield 101, 3) := by decide +kernel
theorem dX5_point_32 : decode cX5_point 32 = .ok (.invokevirtual 145, 3) := by decide +kernel
theorem dX5_point_35 : decode cX5_point 35 = .ok (.aload_n 0, 1) := by decide +kernel
theorem dX5_point_36 : decode cX5_point 36 = .ok (.aload_n 0, 1) := by decide +kernel
theorem dX5_point_37 : decode cX5_point 37 = .ok (.getfield 55, 3) := by decide +kernel
theorem dX5_point_40 : decode cX5_point 40 = .ok (.aload_n 0, 1) := by decide +kernel
theorem dX5_point_41 : decode cX5_point 41 = .ok (.getfield 59, 3) := by decide +kernel
theorem dX5_point_44 : decode cX5_point 44 = .ok (.aload_n 0, 1) := by decide +kernel
theorem dX5_point_45 : decode cX5_point 45 = .ok (.getfield 101, 3) := by decide +kernel
theorem dX5_point_48 : decode cX5_point 48 = .ok (.invokevirtual 145, 3) := by decide +kernel
theorem dX5_point_51 : decode cX5_point 51 = .ok (.isub, 1) := by decide +kernel
theorem dX5_point_52 : decode cX5_point 52 = .ok (.ireturn, 1) := by decide +kernel
set_option maxRecDepth 20000 in
theorem ggX5_twoOrThree_X5_ended : GoodIn wsX5_twoOrThree wsX5_ended := goodIn_r _ [14, 15, 87, 88, 89, 90, 91, 92, 93, 94, 95, 96, 97, 98, 99, 100, 101, 102, 103, 104, 105, 106, 107, 108, 109, 110, 111, 112] (by decide +kernel) (by decide +kernel)
set_option maxRecDepth 20000 in
theorem gX5_twoOrThree_X5_ended : GoodIn wsX5_twoOrThree (wsV RX5 160 RX5 yX5_ended wsX5_ended) := goodIn_app (goodIn_of _ (by decide +kernel)) ggX5_twoOrThree_X5_ended
set_option maxRecDepth 20000 in
theorem ggX5_twoOrThree_X5_ours : GoodIn wsX5_twoOrThree wsX5_ours := goodIn_r _ [19, 4, 5, 87, 88, 89, 90, 91, 92, 93, 94, 95, 96, 97, 98, 99, 100, 101, 102, 103, 104, 105, 106, 107, 108, 109, 110, 111, 112] (by decide +kernel) (by decide +kernel)
set_option maxRecDepth 20000 in
theorem gX5_twoOrThree_X5_ours : GoodIn wsX5_twoOrThree (wsV RX5 180 RX5 yX5_ours wsX5_ours) := goodIn_app (goodIn_of _ (by decide +kernel)) ggX5_twoOrThree_X5_ours
set_option maxRecDepth 20000 in
theorem ggX5_twoOrThree_X5_noFar : GoodIn wsX5_twoOrThree wsX5_noFar := goodIn_r _ [23, 24, 25, 26, 27, 13, 28, 29, 87, 88, 89, 90, 91, 92, 93, 94, 95, 96, 97, 98, 99, 100, 101, 102, 103, 104, 105, 106, 107, 108, 109, 110, 111, 112] (by decide +kernel) (by decide +kernel)
set_option maxRecDepth 20000 in
theorem gX5_twoOrThree_X5_noFar : GoodIn wsX5_twoOrThree (wsV RX5 183 RX5 yX5_noFar wsX5_noFar) := goodIn_app (goodIn_of _ (by decide +kernel)) ggX5_twoOrThree_X5_noFar
set_option maxRecDepth 20000 in
theorem ggX5_twoOrThree_X5_solve : GoodIn wsX5_twoOrThree wsX5_solve := goodIn_r _ [33, 34, 10, 11, 12, 13, 14, 15, 35, 36, 37, 38, 39, 40, 41, 42, 43, 44, 45, 4, 46, 47, 48, 49, 5, 50, 51, 52, 53, 54, 55, 56, 8, 57, 6, 7, 9, 58, 59, 60, 61, 62, 63, 64, 65, 66, 67, 68, 69, 70, 71, 72, 73, 74, 75, 76, 77, 78, 79, 80, 81, 82, 83, 84, 85, 86, 87, 88, 89, 90, 91, 92, 93, 94, 95, 96, 97, 98, 99, 100, 101, 102, 103, 104, 105, 106, 107, 108, 109, 110, 111, 112] (by decide +kernel) (by decide +kernel)
set_option maxRecDepth 20000 in
theorem gX5_twoOrThree_X5_solve : GoodIn wsX5_twoOrThree (wsV RX5 170 RX5 yX5_solve wsX5_solve) := goodIn_app (goodIn_of _ (by decide +kernel)) ggX5_twoOrThree_X5_solve
set_option maxRecDepth 20000 in
theorem ggX5_twoOrThree_X5_ofShot : GoodIn wsX5_twoOrThree wsX5_ofShot := goodIn_r _ [54, 15, 55, 56, 8, 57, 6, 7, 9, 58, 59, 60, 61, 13, 62, 35, 36, 37, 38, 39, 40, 41, 63, 64, 65, 66, 50, 67, 68, 69, 70, 71, 72, 73, 74, 75, 76, 77, 78, 34, 87, 88, 89, 90, 91, 92, 93, 94, 95, 96, 97, 98, 99, 100, 101, 102, 103, 104, 105, 106, 107, 108, 109, 110, 111, 112] (by decide +kernel) (by decide +kernel)
set_option maxRecDepth 20000 in
theorem gX5_twoOrThree_X5_ofShot : GoodIn wsX5_twoOrThree (wsV RX5 153 RX5 yX5_ofShot wsX5_ofShot) := goodIn_app (goodIn_of _ (by decide +kernel)) ggX5_twoOrThree_X5_ofShot
theorem dX5_twoOrThree_0 : decode cX5_twoOrThree 0 = .ok (.aload_n 0, 1) := by decide +kernel
theorem dX5_twoOrThree_1 : decode cX5_twoOrThree 1 = .ok (.getfield 101, 3) := by decide +kernel
theorem dX5_twoOrThree_4 : decode cX5_twoOrThree 4 = .ok (.iconst 1, 1) := by decide +kernel
theorem dX5_twoOrThree_5 : decode cX5_twoOrThree 5 = .ok (.if_icmp .eq 25, 3) := by decide +kernel
theorem dX5_twoOrThree_8 : decode cX5_twoOrThree 8 = .ok (.aload_n 0, 1) := by decide +kernel
theorem dX5_twoOrThree_9 : decode cX5_twoOrThree 9 = .ok (.aload_n 0, 1) := by decide +kernel
theorem dX5_twoOrThree_10 : decode cX5_twoOrThree 10 = .ok (.getfield 55, 3) := by decide +kernel
theorem dX5_twoOrThree_13 : decode cX5_twoOrThree 13 = .ok (.aload_n 0, 1) := by decide +kernel
theorem dX5_twoOrThree_14 : decode cX5_twoOrThree 14 = .ok (.getfield 59, 3) := by decide +kernel
theorem dX5_twoOrThree_17 : decode cX5_twoOrThree 17 = .ok (.invokevirtual 160, 3) := by decide +kernel
theorem dX5_twoOrThree_20 : decode cX5_twoOrThree 20 = .ok (.ifCond .ne 10, 3) := by decide +kernel
theorem dX5_twoOrThree_23 : decode cX5_twoOrThree 23 = .ok (.aload_n 0, 1) := by decide +kernel
theorem dX5_twoOrThree_24 : decode cX5_twoOrThree 24 = .ok (.invokevirtual 180, 3) := by decide +kernel
theorem dX5_twoOrThree_27 : decode cX5_twoOrThree 27 = .ok (.ifCond .ne 10, 3) := by decide +kernel
theorem dX5_twoOrThree_30 : decode cX5_twoOrThree 30 = .ok (.aload_n 0, 1) := by decide +kernel
theorem dX5_twoOrThree_31 : decode cX5_twoOrThree 31 = .ok (.bipush (-3), 2) := by decide +kernel
theorem dX5_twoOrThree_33 : decode cX5_twoOrThree 33 = .ok (.invokevirtual 183, 3) := by decide +kernel
theorem dX5_twoOrThree_36 : decode cX5_twoOrThree 36 = .ok (.ireturn, 1) := by decide +kernel
theorem dX5_twoOrThree_37 : decode cX5_twoOrThree 37 = .ok (.aload_n 0, 1) := by decide +kernel
theorem dX5_twoOrThree_38 : decode cX5_twoOrThree 38 = .ok (.invokevirtual 170, 3) := by decide +kernel
theorem dX5_twoOrThree_41 : decode cX5_twoOrThree 41 = .ok (.iconst (-1), 1) := by decide +kernel
theorem dX5_twoOrThree_42 : decode cX5_twoOrThree 42 = .ok (.istore_n 1, 1) := by decide +kernel
theorem dX5_twoOrThree_43 : decode cX5_twoOrThree 43 = .ok (.iconst (-1), 1) := by decide +kernel
theorem dX5_twoOrThree_44 : decode cX5_twoOrThree 44 = .ok (.istore_n 2, 1) := by decide +kernel
theorem dX5_twoOrThree_45 : decode cX5_twoOrThree 45 = .ok (.iconst 0, 1) := by decide +kernel
theorem dX5_twoOrThree_46 : decode cX5_twoOrThree 46 = .ok (.istore_n 3, 1) := by decide +kernel
theorem dX5_twoOrThree_47 : decode cX5_twoOrThree 47 = .ok (.iload_n 3, 1) := by decide +kernel
theorem dX5_twoOrThree_48 : decode cX5_twoOrThree 48 = .ok (.aload_n 0, 1) := by decide +kernel
theorem dX5_twoOrThree_49 : decode cX5_twoOrThree 49 = .ok (.getfield 73, 3) := by decide +kernel
theorem dX5_twoOrThree_52 : decode cX5_twoOrThree 52 = .ok (.if_icmp .ge 62, 3) := by decide +kernel
theorem dX5_twoOrThree_55 : decode cX5_twoOrThree 55 = .ok (.aload_n 0, 1) := by decide +kernel
theorem dX5_twoOrThree_56 : decode cX5_twoOrThree 56 = .ok (.getfield 16, 3) := by decide +kernel
theorem dX5_twoOrThree_59 : decode cX5_twoOrThree 59 = .ok (.iload_n 3, 1) := by decide +kernel
theorem dX5_twoOrThree_60 : decode cX5_twoOrThree 60 = .ok (.iaload, 1) := by decide +kernel
theorem dX5_twoOrThree_61 : decode cX5_twoOrThree 61 = .ok (.iconst 1, 1) := by decide +kernel
theorem dX5_twoOrThree_62 : decode cX5_twoOrThree 62 = .ok (.if_icmp .ne 6, 3) := by decide +kernel
theorem dX5_twoOrThree_65 : decode cX5_twoOrThree 65 = .ok (.goto 43, 3) := by decide +kernel
theorem dX5_twoOrThree_68 : decode cX5_twoOrThree 68 = .ok (.iload_n 1, 1) := by decide +kernel
theorem dX5_twoOrThree_69 : decode cX5_twoOrThree 69 = .ok (.aload_n 0, 1) := by decide +kernel
theorem dX5_twoOrThree_70 : decode cX5_twoOrThree 70 = .ok (.iload_n 3, 1) := by decide +kernel
theorem dX5_twoOrThree_71 : decode cX5_twoOrThree 71 = .ok (.iconst 0, 1) := by decide +kernel
theorem dX5_twoOrThree_72 : decode cX5_twoOrThree 72 = .ok (.aload_n 0, 1) := by decide +kernel
theorem dX5_twoOrThree_73 : decode cX5_twoOrThree 73 = .ok (.getfield 55, 3) := by decide +kernel
theorem dX5_twoOrThree_76 : decode cX5_twoOrThree 76 = .ok (.aload_n 0, 1) := by decide +kernel
theorem dX5_twoOrThree_77 : decode cX5_twoOrThree 77 = .ok (.getfield 59, 3) := by decide +kernel
theorem dX5_twoOrThree_80 : decode cX5_twoOrThree 80 = .ok (.iconst 0, 1) := by decide +kernel
theorem dX5_twoOrThree_81 : decode cX5_twoOrThree 81 = .ok (.invokevirtual 153, 3) := by decide +kernel
theorem dX5_twoOrThree_84 : decode cX5_twoOrThree 84 = .ok (.invokestatic 124, 3) := by decide +kernel
theorem dX5_twoOrThree_87 : decode cX5_twoOrThree 87 = .ok (.istore_n 1, 1) := by decide +kernel
theorem dX5_twoOrThree_88 : decode cX5_twoOrThree 88 = .ok (.iload_n 2, 1) := by decide +kernel
theorem dX5_twoOrThree_89 : decode cX5_twoOrThree 89 = .ok (.aload_n 0, 1) := by decide +kernel
theorem dX5_twoOrThree_90 : decode cX5_twoOrThree 90 = .ok (.iload_n 3, 1) := by decide +kernel
theorem dX5_twoOrThree_91 : decode cX5_twoOrThree 91 = .ok (.iconst 1, 1) := by decide +kernel
theorem dX5_twoOrThree_92 : decode cX5_twoOrThree 92 = .ok (.aload_n 0, 1) := by decide +kernel
theorem dX5_twoOrThree_93 : decode cX5_twoOrThree 93 = .ok (.getfield 55, 3) := by decide +kernel
theorem dX5_twoOrThree_96 : decode cX5_twoOrThree 96 = .ok (.aload_n 0, 1) := by decide +kernel
theorem dX5_twoOrThree_97 : decode cX5_twoOrThree 97 = .ok (.getfield 59, 3) := by decide +kernel
theorem dX5_twoOrThree_100 : decode cX5_twoOrThree 100 = .ok (.iconst 0, 1) := by decide +kernel
theorem dX5_twoOrThree_101 : decode cX5_twoOrThree 101 = .ok (.invokevirtual 153, 3) := by decide +kernel
theorem dX5_twoOrThree_104 : decode cX5_twoOrThree 104 = .ok (.invokestatic 124, 3) := by decide +kernel
theorem dX5_twoOrThree_107 : decode cX5_twoOrThree 107 = .ok (.istore_n 2, 1) := by decide +kernel
theorem dX5_twoOrThree_108 : decode cX5_twoOrThree 108 = .ok (.iinc 3 1, 3) := by decide +kernel
theorem dX5_twoOrThree_111 : decode cX5_twoOrThree 111 = .ok (.goto (-64), 3) := by decide +kernel
theorem dX5_twoOrThree_114 : decode cX5_twoOrThree 114 = .ok (.iload_n 1, 1) := by decide +kernel
theorem dX5_twoOrThree_115 : decode cX5_twoOrThree 115 = .ok (.iload_n 2, 1) := by decide +kernel
theorem dX5_twoOrThree_116 : decode cX5_twoOrThree 116 = .ok (.isub, 1) := by decide +kernel
theorem dX5_twoOrThree_117 : decode cX5_twoOrThree 117 = .ok (.ireturn, 1) := by decide +kernel
set_option maxRecDepth 20000 in
theorem ggX5_rebound_X5_now : GoodIn wsX5_rebound wsX5_now := goodIn_r _ [6, 7, 8, 9, 10, 11, 12, 5, 13, 14, 15, 16, 17, 18, 19, 20, 21, 22, 23, 24, 25, 26, 27, 28, 29, 30, 31, 32, 33, 34, 35, 36, 37, 38, 39, 40, 41, 42, 43, 44, 45, 46, 47, 48, 1, 49, 50, 51, 52, 53, 54, 55, 56, 57, 58, 59, 60, 61, 62, 63, 64, 65, 66, 67, 68, 69, 70, 71, 72, 73, 74, 75, 76, 77, 78, 79, 80, 81, 82, 83, 84, 85, 86, 87, 88, 89, 90, 91, 92, 93, 94, 95, 96, 97, 98, 99, 100, 101, 102] (by decide +kernel) (by decide +kernel)
set_option maxRecDepth 20000 in
theorem gX5_rebound_X5_now : GoodIn wsX5_rebound (wsV RX5 173 RX5 yX5_now wsX5_now) := goodIn_app (goodIn_of _ (by decide +kernel)) ggX5_rebound_X5_now
theorem dX5_rebound_0 : decode cX5_rebound 0 = .ok (.aload_n 0, 1) := by decide +kernel
theorem dX5_rebound_1 : decode cX5_rebound 1 = .ok (.getfield 62, 3) := by decide +kernel
theorem dX5_rebound_4 : decode cX5_rebound 4 = .ok (.istore_n 1, 1) := by decide +kernel
theorem dX5_rebound_5 : decode cX5_rebound 5 = .ok (.aload_n 0, 1) := by decide +kernel
theorem dX5_rebound_6 : decode cX5_rebound 6 = .ok (.bipush 9, 2) := by decide +kernel
theorem dX5_rebound_8 : decode cX5_rebound 8 = .ok (.putfield 62, 3) := by decide +kernel
theorem dX5_rebound_11 : decode cX5_rebound 11 = .ok (.aload_n 0, 1) := by decide +kernel
theorem dX5_rebound_12 : decode cX5_rebound 12 = .ok (.invokevirtual 173, 3) := by decide +kernel
theorem dX5_rebound_15 : decode cX5_rebound 15 = .ok (.istore_n 2, 1) := by decide +kernel
theorem dX5_rebound_16 : decode cX5_rebound 16 = .ok (.aload_n 0, 1) := by decide +kernel
theorem dX5_rebound_17 : decode cX5_rebound 17 = .ok (.iconst 0, 1) := by decide +kernel
theorem dX5_rebound_18 : decode cX5_rebound 18 = .ok (.putfield 62, 3) := by decide +kernel
theorem dX5_rebound_21 : decode cX5_rebound 21 = .ok (.aload_n 0, 1) := by decide +kernel
theorem dX5_rebound_22 : decode cX5_rebound 22 = .ok (.invokevirtual 173, 3) := by decide +kernel
theorem dX5_rebound_25 : decode cX5_rebound 25 = .ok (.istore_n 3, 1) := by decide +kernel
theorem dX5_rebound_26 : decode cX5_rebound 26 = .ok (.aload_n 0, 1) := by decide +kernel
theorem dX5_rebound_27 : decode cX5_rebound 27 = .ok (.iload_n 1, 1) := by decide +kernel
theorem dX5_rebound_28 : decode cX5_rebound 28 = .ok (.putfield 62, 3) := by decide +kernel
theorem dX5_rebound_31 : decode cX5_rebound 31 = .ok (.iload_n 2, 1) := by decide +kernel
theorem dX5_rebound_32 : decode cX5_rebound 32 = .ok (.iload_n 3, 1) := by decide +kernel
theorem dX5_rebound_33 : decode cX5_rebound 33 = .ok (.isub, 1) := by decide +kernel
theorem dX5_rebound_34 : decode cX5_rebound 34 = .ok (.ireturn, 1) := by decide +kernel
set_option maxRecDepth 20000 in
theorem ggX5_twoFree_X5_tenths : GoodIn wsX5_twoFree wsX5_tenths := goodIn_r _ [15, 16, 17, 18, 19, 3, 4, 5, 6, 7, 8, 9, 25, 26, 27, 28, 29, 30, 31, 32, 33, 34, 35, 36, 37, 38, 39, 40, 41, 42, 43, 44, 45, 46, 47, 48, 49, 50] (by decide +kernel) (by decide +kernel)
set_option maxRecDepth 20000 in
theorem gX5_twoFree_X5_tenths : GoodIn wsX5_twoFree (wsV RX5 127 RX5 yX5_tenths wsX5_tenths) := goodIn_app (goodIn_of _ (by decide +kernel)) ggX5_twoFree_X5_tenths
set_option maxRecDepth 20000 in
theorem ggX5_twoFree_X5_valueOf : GoodIn wsX5_twoFree wsX5_valueOf := goodIn_r _ [23, 24, 25, 26, 27, 28, 29, 30, 31, 32, 33, 34, 35, 36, 37, 38, 39, 40, 41, 42, 43, 44, 45, 46, 47, 48, 49, 50] (by decide +kernel) (by decide +kernel)
set_option maxRecDepth 20000 in
theorem gX5_twoFree_X5_valueOf : GoodIn wsX5_twoFree (wsV RX5 145 RX5 yX5_valueOf wsX5_valueOf) := goodIn_app (goodIn_of _ (by decide +kernel)) ggX5_twoFree_X5_valueOf
theorem dX5_twoFree_0 : decode cX5_twoFree 0 = .ok (.aload_n 0, 1) := by decide +kernel
theorem dX5_twoFree_1 : decode cX5_twoFree 1 = .ok (.iload_n 1, 1) := by decide +kernel
theorem dX5_twoFree_2 : decode cX5_twoFree 2 = .ok (.iconst 2, 1) := by decide +kernel
theorem dX5_twoFree_3 : decode cX5_twoFree 3 = .ok (.aload_n 0, 1) := by decide +kernel
theorem dX5_twoFree_4 : decode cX5_twoFree 4 = .ok (.getfield 55, 3) := by decide +kernel
theorem dX5_twoFree_7 : decode cX5_twoFree 7 = .ok (.invokevirtual 127, 3) := by decide +kernel
theorem dX5_twoFree_10 : decode cX5_twoFree 10 = .ok (.istore 5, 2) := by decide +kernel
theorem dX5_twoFree_12 : decode cX5_twoFree 12 = .ok (.aload_n 0, 1) := by decide +kernel
theorem dX5_twoFree_13 : decode cX5_twoFree 13 = .ok (.iload_n 2, 1) := by decide +kernel
theorem dX5_twoFree_14 : decode cX5_twoFree 14 = .ok (.aload_n 0, 1) := by decide +kernel
theorem dX5_twoFree_15 : decode cX5_twoFree 15 = .ok (.getfield 59, 3) := by decide +kernel
theorem dX5_twoFree_18 : decode cX5_twoFree 18 = .ok (.iload 4, 2) := by decide +kernel
theorem dX5_twoFree_20 : decode cX5_twoFree 20 = .ok (.invokevirtual 145, 3) := by decide +kernel
theorem dX5_twoFree_23 : decode cX5_twoFree 23 = .ok (.i2l, 1) := by decide +kernel
theorem dX5_twoFree_24 : decode cX5_twoFree 24 = .ok (.lstore 6, 2) := by decide +kernel
theorem dX5_twoFree_26 : decode cX5_twoFree 26 = .ok (.aload_n 0, 1) := by decide +kernel
theorem dX5_twoFree_27 : decode cX5_twoFree 27 = .ok (.iload_n 2, 1) := by decide +kernel
theorem dX5_twoFree_28 : decode cX5_twoFree 28 = .ok (.iconst 0, 1) := by decide +kernel
theorem dX5_twoFree_29 : decode cX5_twoFree 29 = .ok (.bipush 12, 2) := by decide +kernel
theorem dX5_twoFree_31 : decode cX5_twoFree 31 = .ok (.aload_n 0, 1) := by decide +kernel
theorem dX5_twoFree_32 : decode cX5_twoFree 32 = .ok (.getfield 59, 3) := by decide +kernel
theorem dX5_twoFree_35 : decode cX5_twoFree 35 = .ok (.iload_n 3, 1) := by decide +kernel
theorem dX5_twoFree_36 : decode cX5_twoFree 36 = .ok (.iadd, 1) := by decide +kernel
theorem dX5_twoFree_37 : decode cX5_twoFree 37 = .ok (.invokestatic 118, 3) := by decide +kernel
theorem dX5_twoFree_40 : decode cX5_twoFree 40 = .ok (.invokestatic 124, 3) := by decide +kernel
theorem dX5_twoFree_43 : decode cX5_twoFree 43 = .ok (.iload 4, 2) := by decide +kernel
theorem dX5_twoFree_45 : decode cX5_twoFree 45 = .ok (.invokevirtual 145, 3) := by decide +kernel
theorem dX5_twoFree_48 : decode cX5_twoFree 48 = .ok (.i2l, 1) := by decide +kernel
theorem dX5_twoFree_49 : decode cX5_twoFree 49 = .ok (.lstore 8, 2) := by decide +kernel
theorem dX5_twoFree_51 : decode cX5_twoFree 51 = .ok (.aload_n 0, 1) := by decide +kernel
theorem dX5_twoFree_52 : decode cX5_twoFree 52 = .ok (.iload_n 2, 1) := by decide +kernel
theorem dX5_twoFree_53 : decode cX5_twoFree 53 = .ok (.iconst 0, 1) := by decide +kernel
theorem dX5_twoFree_54 : decode cX5_twoFree 54 = .ok (.bipush 12, 2) := by decide +kernel
theorem dX5_twoFree_56 : decode cX5_twoFree 56 = .ok (.aload_n 0, 1) := by decide +kernel
theorem dX5_twoFree_57 : decode cX5_twoFree 57 = .ok (.getfield 59, 3) := by decide +kernel
theorem dX5_twoFree_60 : decode cX5_twoFree 60 = .ok (.iconst 2, 1) := by decide +kernel
theorem dX5_twoFree_61 : decode cX5_twoFree 61 = .ok (.iload_n 3, 1) := by decide +kernel
theorem dX5_twoFree_62 : decode cX5_twoFree 62 = .ok (.imul, 1) := by decide +kernel
theorem dX5_twoFree_63 : decode cX5_twoFree 63 = .ok (.iadd, 1) := by decide +kernel
theorem dX5_twoFree_64 : decode cX5_twoFree 64 = .ok (.invokestatic 118, 3) := by decide +kernel
theorem dX5_twoFree_67 : decode cX5_twoFree 67 = .ok (.invokestatic 124, 3) := by decide +kernel
theorem dX5_twoFree_70 : decode cX5_twoFree 70 = .ok (.iload 4, 2) := by decide +kernel
theorem dX5_twoFree_72 : decode cX5_twoFree 72 = .ok (.invokevirtual 145, 3) := by decide +kernel
theorem dX5_twoFree_75 : decode cX5_twoFree 75 = .ok (.i2l, 1) := by decide +kernel
theorem dX5_twoFree_76 : decode cX5_twoFree 76 = .ok (.lstore 10, 2) := by decide +kernel
theorem dX5_twoFree_78 : decode cX5_twoFree 78 = .ok (.iload 5, 2) := by decide +kernel
theorem dX5_twoFree_80 : decode cX5_twoFree 80 = .ok (.i2l, 1) := by decide +kernel
theorem dX5_twoFree_81 : decode cX5_twoFree 81 = .ok (.lload 10, 2) := by decide +kernel
theorem dX5_twoFree_83 : decode cX5_twoFree 83 = .ok (.lmul, 1) := by decide +kernel
theorem dX5_twoFree_84 : decode cX5_twoFree 84 = .ok (.bipush 10, 2) := by decide +kernel
theorem dX5_twoFree_86 : decode cX5_twoFree 86 = .ok (.iload 5, 2) := by decide +kernel
theorem dX5_twoFree_88 : decode cX5_twoFree 88 = .ok (.isub, 1) := by decide +kernel
theorem dX5_twoFree_89 : decode cX5_twoFree 89 = .ok (.i2l, 1) := by decide +kernel
theorem dX5_twoFree_90 : decode cX5_twoFree 90 = .ok (.lload 8, 2) := by decide +kernel
theorem dX5_twoFree_92 : decode cX5_twoFree 92 = .ok (.lmul, 1) := by decide +kernel
theorem dX5_twoFree_93 : decode cX5_twoFree 93 = .ok (.ladd, 1) := by decide +kernel
theorem dX5_twoFree_94 : decode cX5_twoFree 94 = .ok (.ldc2_w 148, 3) := by decide +kernel
theorem dX5_twoFree_97 : decode cX5_twoFree 97 = .ok (.ldiv, 1) := by decide +kernel
theorem dX5_twoFree_98 : decode cX5_twoFree 98 = .ok (.lstore 12, 2) := by decide +kernel
theorem dX5_twoFree_100 : decode cX5_twoFree 100 = .ok (.iload 5, 2) := by decide +kernel
theorem dX5_twoFree_102 : decode cX5_twoFree 102 = .ok (.i2l, 1) := by decide +kernel
theorem dX5_twoFree_103 : decode cX5_twoFree 103 = .ok (.lload 8, 2) := by decide +kernel
theorem dX5_twoFree_105 : decode cX5_twoFree 105 = .ok (.lmul, 1) := by decide +kernel
theorem dX5_twoFree_106 : decode cX5_twoFree 106 = .ok (.bipush 10, 2) := by decide +kernel
theorem dX5_twoFree_108 : decode cX5_twoFree 108 = .ok (.iload 5, 2) := by decide +kernel
theorem dX5_twoFree_110 : decode cX5_twoFree 110 = .ok (.isub, 1) := by decide +kernel
theorem dX5_twoFree_111 : decode cX5_twoFree 111 = .ok (.i2l, 1) := by decide +kernel
theorem dX5_twoFree_112 : decode cX5_twoFree 112 = .ok (.lload 6, 2) := by decide +kernel
theorem dX5_twoFree_114 : decode cX5_twoFree 114 = .ok (.lmul, 1) := by decide +kernel
theorem dX5_twoFree_115 : decode cX5_twoFree 115 = .ok (.ladd, 1) := by decide +kernel
theorem dX5_twoFree_116 : decode cX5_twoFree 116 = .ok (.ldc2_w 148, 3) := by decide +kernel
theorem dX5_twoFree_119 : decode cX5_twoFree 119 = .ok (.ldiv, 1) := by decide +kernel
theorem dX5_twoFree_120 : decode cX5_twoFree 120 = .ok (.lstore 14, 2) := by decide +kernel
theorem dX5_twoFree_122 : decode cX5_twoFree 122 = .ok (.iload 5, 2) := by decide +kernel
theorem dX5_twoFree_124 : decode cX5_twoFree 124 = .ok (.i2l, 1) := by decide +kernel
theorem dX5_twoFree_125 : decode cX5_twoFree 125 = .ok (.lload 12, 2) := by decide +kernel
theorem dX5_twoFree_127 : decode cX5_twoFree 127 = .ok (.lmul, 1) := by decide +kernel
theorem dX5_twoFree_128 : decode cX5_twoFree 128 = .ok (.bipush 10, 2) := by decide +kernel
theorem dX5_twoFree_130 : decode cX5_twoFree 130 = .ok (.iload 5, 2) := by decide +kernel
theorem dX5_twoFree_132 : decode cX5_twoFree 132 = .ok (.isub, 1) := by decide +kernel
theorem dX5_twoFree_133 : decode cX5_twoFree 133 = .ok (.i2l, 1) := by decide +kernel
theorem dX5_twoFree_134 : decode cX5_twoFree 134 = .ok (.lload 14, 2) := by decide +kernel
theorem dX5_twoFree_136 : decode cX5_twoFree 136 = .ok (.lmul, 1) := by decide +kernel
theorem dX5_twoFree_137 : decode cX5_twoFree 137 = .ok (.ladd, 1) := by decide +kernel
theorem dX5_twoFree_138 : decode cX5_twoFree 138 = .ok (.ldc2_w 148, 3) := by decide +kernel
theorem dX5_twoFree_141 : decode cX5_twoFree 141 = .ok (.ldiv, 1) := by decide +kernel
theorem dX5_twoFree_142 : decode cX5_twoFree 142 = .ok (.l2i, 1) := by decide +kernel
theorem dX5_twoFree_143 : decode cX5_twoFree 143 = .ok (.ireturn, 1) := by decide +kernel
set_option maxRecDepth 20000 in
theorem ggX5_noFoul_X5_ended : GoodIn wsX5_noFoul wsX5_ended := goodIn_r _ [9, 10, 11, 12, 13, 14, 15, 16, 17, 18, 19, 20, 21, 22, 23, 24, 25, 26, 27, 28, 29, 30, 31, 32, 33, 34, 35, 36] (by decide +kernel) (by decide +kernel)
set_option maxRecDepth 20000 in
theorem gX5_noFoul_X5_ended : GoodIn wsX5_noFoul (wsV RX5 160 RX5 yX5_ended wsX5_ended) := goodIn_app (goodIn_of _ (by decide +kernel)) ggX5_noFoul_X5_ended
theorem dX5_noFoul_0 : decode cX5_noFoul 0 = .ok (.aload_n 0, 1) := by decide +kernel
theorem dX5_noFoul_1 : decode cX5_noFoul 1 = .ok (.getfield 101, 3) := by decide +kernel
theorem dX5_noFoul_4 : decode cX5_noFoul 4 = .ok (.ifCond .eq 28, 3) := by decide +kernel
theorem dX5_noFoul_7 : decode cX5_noFoul 7 = .ok (.aload_n 0, 1) := by decide +kernel
theorem dX5_noFoul_8 : decode cX5_noFoul 8 = .ok (.aload_n 0, 1) := by decide +kernel
theorem dX5_noFoul_9 : decode cX5_noFoul 9 = .ok (.getfield 55, 3) := by decide +kernel
theorem dX5_noFoul_12 : decode cX5_noFoul 12 = .ok (.aload_n 0, 1) := by decide +kernel
theorem dX5_noFoul_13 : decode cX5_noFoul 13 = .ok (.getfield 59, 3) := by decide +kernel
theorem dX5_noFoul_16 : decode cX5_noFoul 16 = .ok (.invokevirtual 160, 3) := by decide +kernel
theorem dX5_noFoul_19 : decode cX5_noFoul 19 = .ok (.ifCond .ne 13, 3) := by decide +kernel
theorem dX5_noFoul_22 : decode cX5_noFoul 22 = .ok (.aload_n 0, 1) := by decide +kernel
theorem dX5_noFoul_23 : decode cX5_noFoul 23 = .ok (.getfield 7, 3) := by decide +kernel
theorem dX5_noFoul_26 : decode cX5_noFoul 26 = .ok (.iconst 0, 1) := by decide +kernel
theorem dX5_noFoul_27 : decode cX5_noFoul 27 = .ok (.iaload, 1) := by decide +kernel
theorem dX5_noFoul_28 : decode cX5_noFoul 28 = .ok (.iconst 4, 1) := by decide +kernel
theorem dX5_noFoul_29 : decode cX5_noFoul 29 = .ok (.if_icmp .le 7, 3) := by decide +kernel
theorem dX5_noFoul_32 : decode cX5_noFoul 32 = .ok (.iconst 1, 1) := by decide +kernel
theorem dX5_noFoul_33 : decode cX5_noFoul 33 = .ok (.goto 4, 3) := by decide +kernel
theorem dX5_noFoul_36 : decode cX5_noFoul 36 = .ok (.iconst 0, 1) := by decide +kernel
theorem dX5_noFoul_37 : decode cX5_noFoul 37 = .ok (.ireturn, 1) := by decide +kernel
set_option maxRecDepth 20000 in
theorem ggX5_foul_X5_isOne : GoodIn wsX5_foul wsX5_isOne := goodIn_r _ [7, 8, 9, 10, 6, 11, 94, 95, 96, 97, 98, 99, 100, 101, 102, 103, 104, 105, 106, 107, 108, 109, 110, 111, 112, 113, 114, 115, 116, 117, 118, 119] (by decide +kernel) (by decide +kernel)
set_option maxRecDepth 20000 in
theorem gX5_foul_X5_isOne : GoodIn wsX5_foul (wsV RX5 131 RX5 yX5_isOne wsX5_isOne) := goodIn_app (goodIn_of _ (by decide +kernel)) ggX5_foul_X5_isOne
set_option maxRecDepth 20000 in
theorem ggX5_foul_X5_no : GoodIn wsX5_foul wsX5_no := goodIn_r _ [15, 16, 94, 95, 96, 97, 98, 99, 100, 101, 102, 103, 104, 105, 106, 107, 108, 109, 110, 111, 112, 113, 114, 115, 116, 117, 118, 119] (by decide +kernel) (by decide +kernel)
set_option maxRecDepth 20000 in
theorem gX5_foul_X5_no : GoodIn wsX5_foul (wsV RX5 69 RX5 yX5_no wsX5_no) := goodIn_app (goodIn_of _ (by decide +kernel)) ggX5_foul_X5_no
set_option maxRecDepth 20000 in
theorem ggX5_foul_X5_noFoul : GoodIn wsX5_foul wsX5_noFoul := goodIn_r _ [20, 21, 2, 22, 23, 24, 25, 26, 6, 27, 28, 94, 95, 96, 97, 98, 99, 100, 101, 102, 103, 104, 105, 106, 107, 108, 109, 110, 111, 112, 113, 114, 115, 116, 117, 118, 119] (by decide +kernel) (by decide +kernel)
set_option maxRecDepth 20000 in
theorem gX5_foul_X5_noFoul : GoodIn wsX5_foul (wsV RX5 186 RX5 yX5_noFoul wsX5_noFoul) := goodIn_app (goodIn_of _ (by decide +kernel)) ggX5_foul_X5_noFoul
set_option maxRecDepth 20000 in
theorem ggX5_foul_X5_solve : GoodIn wsX5_foul wsX5_solve := goodIn_r _ [32, 33, 24, 25, 26, 6, 27, 28, 34, 35, 36, 37, 38, 39, 40, 41, 42, 43, 44, 8, 45, 46, 47, 48, 1, 49, 50, 51, 52, 53, 54, 55, 56, 57, 58, 59, 60, 61, 62, 63, 64, 65, 66, 67, 68, 69, 70, 71, 72, 73, 74, 75, 76, 77, 78, 79, 80, 81, 82, 83, 84, 85, 86, 87, 88, 89, 94, 95, 96, 97, 98, 99, 100, 101, 102, 103, 104, 105, 106, 107, 108, 109, 110, 111, 112, 113, 114, 115, 116, 117, 118, 119] (by decide +kernel) (by decide +kernel)
set_option maxRecDepth 20000 in
theorem gX5_foul_X5_solve : GoodIn wsX5_foul (wsV RX5 170 RX5 yX5_solve wsX5_solve) := goodIn_app (goodIn_of _ (by decide +kernel)) ggX5_foul_X5_solve
set_option maxRecDepth 20000 in
theorem ggX5_foul_X5_twoFree : GoodIn wsX5_foul wsX5_twoFree := goodIn_r _ [93, 2, 22, 54, 55, 56, 57, 58, 59, 60, 62, 70, 71, 72, 6, 73, 74, 75, 76, 77, 78, 79, 80, 81, 33, 94, 95, 96, 97, 98, 99, 100, 101, 102, 103, 104, 105, 106, 107, 108, 109, 110, 111, 112, 113, 114, 115, 116, 117, 118, 119] (by decide +kernel) (by decide +kernel)
set_option maxRecDepth 20000 in
theorem gX5_foul_X5_twoFree : GoodIn wsX5_foul (wsV RX5 190 RX5 yX5_twoFree wsX5_twoFree) := goodIn_app (goodIn_of _ (by decide +kernel)) ggX5_foul_X5_twoFree
theorem dX5_foul_0 : decode cX5_foul 0 = .ok (.aload_n 0, 1) := by decide +kernel
theorem dX5_foul_1 : decode cX5_foul 1 = .ok (.iload_n 1, 1) := by decide +kernel
theorem dX5_foul_2 : decode cX5_foul 2 = .ok (.invokevirtual 131, 3) := by decide +kernel
theorem dX5_foul_5 : decode cX5_foul 5 = .ok (.ifCond .ne 9, 3) := by decide +kernel
theorem dX5_foul_8 : decode cX5_foul 8 = .ok (.aload_n 0, 1) := by decide +kernel
theorem dX5_foul_9 : decode cX5_foul 9 = .ok (.iconst (-1), 1) := by decide +kernel
theorem dX5_foul_10 : decode cX5_foul 10 = .ok (.invokevirtual 69, 3) := by decide +kernel
theorem dX5_foul_13 : decode cX5_foul 13 = .ok (.ireturn, 1) := by decide +kernel
theorem dX5_foul_14 : decode cX5_foul 14 = .ok (.aload_n 0, 1) := by decide +kernel
theorem dX5_foul_15 : decode cX5_foul 15 = .ok (.invokevirtual 186, 3) := by decide +kernel
theorem dX5_foul_18 : decode cX5_foul 18 = .ok (.ifCond .ne 12, 3) := by decide +kernel
theorem dX5_foul_21 : decode cX5_foul 21 = .ok (.aload_n 0, 1) := by decide +kernel
theorem dX5_foul_22 : decode cX5_foul 22 = .ok (.getfield 16, 3) := by decide +kernel
theorem dX5_foul_25 : decode cX5_foul 25 = .ok (.iload_n 1, 1) := by decide +kernel
theorem dX5_foul_26 : decode cX5_foul 26 = .ok (.iaload, 1) := by decide +kernel
theorem dX5_foul_27 : decode cX5_foul 27 = .ok (.ifCond .ne 10, 3) := by decide +kernel
theorem dX5_foul_30 : decode cX5_foul 30 = .ok (.aload_n 0, 1) := by decide +kernel
theorem dX5_foul_31 : decode cX5_foul 31 = .ok (.bipush (-3), 2) := by decide +kernel
theorem dX5_foul_33 : decode cX5_foul 33 = .ok (.invokevirtual 69, 3) := by decide +kernel
theorem dX5_foul_36 : decode cX5_foul 36 = .ok (.ireturn, 1) := by decide +kernel
theorem dX5_foul_37 : decode cX5_foul 37 = .ok (.aload_n 0, 1) := by decide +kernel
theorem dX5_foul_38 : decode cX5_foul 38 = .ok (.invokevirtual 170, 3) := by decide +kernel
theorem dX5_foul_41 : decode cX5_foul 41 = .ok (.aload_n 0, 1) := by decide +kernel
theorem dX5_foul_42 : decode cX5_foul 42 = .ok (.iload_n 1, 1) := by decide +kernel
theorem dX5_foul_43 : decode cX5_foul 43 = .ok (.aload_n 0, 1) := by decide +kernel
theorem dX5_foul_44 : decode cX5_foul 44 = .ok (.getfield 55, 3) := by decide +kernel
theorem dX5_foul_47 : decode cX5_foul 47 = .ok (.iconst 1, 1) := by decide +kernel
theorem dX5_foul_48 : decode cX5_foul 48 = .ok (.isub, 1) := by decide +kernel
theorem dX5_foul_49 : decode cX5_foul 49 = .ok (.iconst (-1), 1) := by decide +kernel
theorem dX5_foul_50 : decode cX5_foul 50 = .ok (.iconst 0, 1) := by decide +kernel
theorem dX5_foul_51 : decode cX5_foul 51 = .ok (.invokevirtual 190, 3) := by decide +kernel
theorem dX5_foul_54 : decode cX5_foul 54 = .ok (.ireturn, 1) := by decide +kernel
set_option maxRecDepth 20000 in
theorem ggX5_whom_X5_within : GoodIn wsX5_whom wsX5_within := goodIn_r _ [9] (by decide +kernel) (by decide +kernel)
set_option maxRecDepth 20000 in
theorem gX5_whom_X5_within : GoodIn wsX5_whom (va_wsS RX5 76 yX5_within wsX5_within) := goodIn_app (goodIn_of _ (by decide +kernel)) ggX5_whom_X5_within
set_option maxRecDepth 20000 in
theorem ggX5_whom_X5_no : GoodIn wsX5_whom wsX5_no := goodIn_r _ [13, 14, 94, 95, 96, 97, 98, 99, 100, 101, 102, 103, 104, 105, 106, 107, 108, 109, 110, 111, 112, 113, 114, 115, 116, 117, 118, 119] (by decide +kernel) (by decide +kernel)
set_option maxRecDepth 20000 in
theorem gX5_whom_X5_no : GoodIn wsX5_whom (wsV RX5 69 RX5 yX5_no wsX5_no) := goodIn_app (goodIn_of _ (by decide +kernel)) ggX5_whom_X5_no
set_option maxRecDepth 20000 in
theorem ggX5_whom_X5_noFoul : GoodIn wsX5_whom wsX5_noFoul := goodIn_r _ [18, 5, 3, 4, 19, 20, 21, 22, 8, 23, 24, 94, 95, 96, 97, 98, 99, 100, 101, 102, 103, 104, 105, 106, 107, 108, 109, 110, 111, 112, 113, 114, 115, 116, 117, 118, 119] (by decide +kernel) (by decide +kernel)
set_option maxRecDepth 20000 in
theorem gX5_whom_X5_noFoul : GoodIn wsX5_whom (wsV RX5 186 RX5 yX5_noFoul wsX5_noFoul) := goodIn_app (goodIn_of _ (by decide +kernel)) ggX5_whom_X5_noFoul
set_option maxRecDepth 20000 in
theorem ggX5_whom_X5_ours : GoodIn wsX5_whom wsX5_ours := goodIn_r _ [28, 1, 2, 94, 95, 96, 97, 98, 99, 100, 101, 102, 103, 104, 105, 106, 107, 108, 109, 110, 111, 112, 113, 114, 115, 116, 117, 118, 119] (by decide +kernel) (by decide +kernel)
set_option maxRecDepth 20000 in
theorem gX5_whom_X5_ours : GoodIn wsX5_whom (wsV RX5 180 RX5 yX5_ours wsX5_ours) := goodIn_app (goodIn_of _ (by decide +kernel)) ggX5_whom_X5_ours
set_option maxRecDepth 20000 in
theorem ggX5_whom_X5_solve : GoodIn wsX5_whom wsX5_solve := goodIn_r _ [32, 33, 20, 21, 22, 8, 23, 24, 34, 35, 36, 37, 38, 39, 40, 41, 42, 43, 44, 1, 45, 46, 47, 48, 2, 49, 50, 51, 52, 53, 54, 55, 56, 57, 58, 59, 60, 61, 62, 63, 64, 65, 66, 67, 68, 69, 70, 71, 72, 73, 74, 75, 76, 77, 78, 79, 80, 81, 82, 83, 84, 85, 86, 87, 88, 89, 94, 95, 96, 97, 98, 99, 100, 101, 102, 103, 104, 105, 106, 107, 108, 109, 110, 111, 112, 113, 114, 115, 116, 117, 118, 119] (by decide +kernel) (by decide +kernel)
set_option maxRecDepth 20000 in
theorem gX5_whom_X5_solve : GoodIn wsX5_whom (wsV RX5 170 RX5 yX5_solve wsX5_solve) := goodIn_app (goodIn_of _ (by decide +kernel)) ggX5_whom_X5_solve
set_option maxRecDepth 20000 in
theorem ggX5_whom_X5_twoFree : GoodIn wsX5_whom wsX5_twoFree := goodIn_r _ [93, 3, 4, 54, 55, 56, 57, 58, 59, 60, 62, 70, 71, 72, 8, 73, 74, 75, 76, 77, 78, 79, 80, 81, 33, 94, 95, 96, 97, 98, 99, 100, 101, 102, 103, 104, 105, 106, 107, 108, 109, 110, 111, 112, 113, 114, 115, 116, 117, 118, 119] (by decide +kernel) (by decide +kernel)
set_option maxRecDepth 20000 in
theorem gX5_whom_X5_twoFree : GoodIn wsX5_whom (wsV RX5 190 RX5 yX5_twoFree wsX5_twoFree) := goodIn_app (goodIn_of _ (by decide +kernel)) ggX5_whom_X5_twoFree
set_option maxRecDepth 20000 in
theorem ggX5_whom_X5_valueOf : GoodIn wsX5_whom wsX5_valueOf := goodIn_r _ [81, 33, 94, 95, 96, 97, 98, 99, 100, 101, 102, 103, 104, 105, 106, 107, 108, 109, 110, 111, 112, 113, 114, 115, 116, 117, 118, 119] (by decide +kernel) (by decide +kernel)
set_option maxRecDepth 20000 in
theorem gX5_whom_X5_valueOf : GoodIn wsX5_whom (wsV RX5 145 RX5 yX5_valueOf wsX5_valueOf) := goodIn_app (goodIn_of _ (by decide +kernel)) ggX5_whom_X5_valueOf
theorem dX5_whom_0 : decode cX5_whom 0 = .ok (.iload_n 1, 1) := by decide +kernel
theorem dX5_whom_1 : decode cX5_whom 1 = .ok (.iconst 0, 1) := by decide +kernel
theorem dX5_whom_2 : decode cX5_whom 2 = .ok (.iconst 1, 1) := by decide +kernel
theorem dX5_whom_3 : decode cX5_whom 3 = .ok (.invokestatic 76, 3) := by decide +kernel
theorem dX5_whom_6 : decode cX5_whom 6 = .ok (.ifCond .ne 10, 3) := by decide +kernel
theorem dX5_whom_9 : decode cX5_whom 9 = .ok (.aload_n 0, 1) := by decide +kernel
theorem dX5_whom_10 : decode cX5_whom 10 = .ok (.bipush (-2), 2) := by decide +kernel
theorem dX5_whom_12 : decode cX5_whom 12 = .ok (.invokevirtual 69, 3) := by decide +kernel
theorem dX5_whom_15 : decode cX5_whom 15 = .ok (.ireturn, 1) := by decide +kernel
theorem dX5_whom_16 : decode cX5_whom 16 = .ok (.aload_n 0, 1) := by decide +kernel
theorem dX5_whom_17 : decode cX5_whom 17 = .ok (.invokevirtual 186, 3) := by decide +kernel
theorem dX5_whom_20 : decode cX5_whom 20 = .ok (.ifCond .ne 14, 3) := by decide +kernel
theorem dX5_whom_23 : decode cX5_whom 23 = .ok (.aload_n 0, 1) := by decide +kernel
theorem dX5_whom_24 : decode cX5_whom 24 = .ok (.invokevirtual 180, 3) := by decide +kernel
theorem dX5_whom_27 : decode cX5_whom 27 = .ok (.aload_n 0, 1) := by decide +kernel
theorem dX5_whom_28 : decode cX5_whom 28 = .ok (.getfield 73, 3) := by decide +kernel
theorem dX5_whom_31 : decode cX5_whom 31 = .ok (.if_icmp .ne 10, 3) := by decide +kernel
theorem dX5_whom_34 : decode cX5_whom 34 = .ok (.aload_n 0, 1) := by decide +kernel
theorem dX5_whom_35 : decode cX5_whom 35 = .ok (.bipush (-3), 2) := by decide +kernel
theorem dX5_whom_37 : decode cX5_whom 37 = .ok (.invokevirtual 69, 3) := by decide +kernel
theorem dX5_whom_40 : decode cX5_whom 40 = .ok (.ireturn, 1) := by decide +kernel
theorem dX5_whom_41 : decode cX5_whom 41 = .ok (.aload_n 0, 1) := by decide +kernel
theorem dX5_whom_42 : decode cX5_whom 42 = .ok (.invokevirtual 170, 3) := by decide +kernel
theorem dX5_whom_45 : decode cX5_whom 45 = .ok (.iconst (-1), 1) := by decide +kernel
theorem dX5_whom_46 : decode cX5_whom 46 = .ok (.istore_n 2, 1) := by decide +kernel
theorem dX5_whom_47 : decode cX5_whom 47 = .ok (.iconst 0, 1) := by decide +kernel
theorem dX5_whom_48 : decode cX5_whom 48 = .ok (.istore_n 3, 1) := by decide +kernel
theorem dX5_whom_49 : decode cX5_whom 49 = .ok (.iconst 0, 1) := by decide +kernel
theorem dX5_whom_50 : decode cX5_whom 50 = .ok (.istore 4, 2) := by decide +kernel
theorem dX5_whom_52 : decode cX5_whom 52 = .ok (.iload 4, 2) := by decide +kernel
theorem dX5_whom_54 : decode cX5_whom 54 = .ok (.aload_n 0, 1) := by decide +kernel
theorem dX5_whom_55 : decode cX5_whom 55 = .ok (.getfield 73, 3) := by decide +kernel
theorem dX5_whom_58 : decode cX5_whom 58 = .ok (.if_icmp .ge 57, 3) := by decide +kernel
theorem dX5_whom_61 : decode cX5_whom 61 = .ok (.aload_n 0, 1) := by decide +kernel
theorem dX5_whom_62 : decode cX5_whom 62 = .ok (.getfield 16, 3) := by decide +kernel
theorem dX5_whom_65 : decode cX5_whom 65 = .ok (.iload 4, 2) := by decide +kernel
theorem dX5_whom_67 : decode cX5_whom 67 = .ok (.iaload, 1) := by decide +kernel
theorem dX5_whom_68 : decode cX5_whom 68 = .ok (.ifCond .ne 6, 3) := by decide +kernel
theorem dX5_whom_71 : decode cX5_whom 71 = .ok (.goto 38, 3) := by decide +kernel
theorem dX5_whom_74 : decode cX5_whom 74 = .ok (.aload_n 0, 1) := by decide +kernel
theorem dX5_whom_75 : decode cX5_whom 75 = .ok (.iload 4, 2) := by decide +kernel
theorem dX5_whom_77 : decode cX5_whom 77 = .ok (.aload_n 0, 1) := by decide +kernel
theorem dX5_whom_78 : decode cX5_whom 78 = .ok (.getfield 55, 3) := by decide +kernel
theorem dX5_whom_81 : decode cX5_whom 81 = .ok (.iconst 1, 1) := by decide +kernel
theorem dX5_whom_82 : decode cX5_whom 82 = .ok (.isub, 1) := by decide +kernel
theorem dX5_whom_83 : decode cX5_whom 83 = .ok (.iconst (-1), 1) := by decide +kernel
theorem dX5_whom_84 : decode cX5_whom 84 = .ok (.iconst 0, 1) := by decide +kernel
theorem dX5_whom_85 : decode cX5_whom 85 = .ok (.invokevirtual 190, 3) := by decide +kernel
theorem dX5_whom_88 : decode cX5_whom 88 = .ok (.istore 5, 2) := by decide +kernel
theorem dX5_whom_90 : decode cX5_whom 90 = .ok (.iload_n 2, 1) := by decide +kernel
theorem dX5_whom_91 : decode cX5_whom 91 = .ok (.ifCond .lt 12, 3) := by decide +kernel
theorem dX5_whom_94 : decode cX5_whom 94 = .ok (.iload 5, 2) := by decide +kernel
theorem dX5_whom_96 : decode cX5_whom 96 = .ok (.iload_n 3, 1) := by decide +kernel
theorem dX5_whom_97 : decode cX5_whom 97 = .ok (.if_icmp .gt 6, 3) := by decide +kernel
theorem dX5_whom_100 : decode cX5_whom 100 = .ok (.goto 9, 3) := by decide +kernel
theorem dX5_whom_103 : decode cX5_whom 103 = .ok (.iload 4, 2) := by decide +kernel
theorem dX5_whom_105 : decode cX5_whom 105 = .ok (.istore_n 2, 1) := by decide +kernel
theorem dX5_whom_106 : decode cX5_whom 106 = .ok (.iload 5, 2) := by decide +kernel
theorem dX5_whom_108 : decode cX5_whom 108 = .ok (.istore_n 3, 1) := by decide +kernel
theorem dX5_whom_109 : decode cX5_whom 109 = .ok (.iinc 4 1, 3) := by decide +kernel
theorem dX5_whom_112 : decode cX5_whom 112 = .ok (.goto (-60), 3) := by decide +kernel
theorem dX5_whom_115 : decode cX5_whom 115 = .ok (.iload_n 1, 1) := by decide +kernel
theorem dX5_whom_116 : decode cX5_whom 116 = .ok (.ifCond .ne 7, 3) := by decide +kernel
theorem dX5_whom_119 : decode cX5_whom 119 = .ok (.iload_n 2, 1) := by decide +kernel
theorem dX5_whom_120 : decode cX5_whom 120 = .ok (.goto 28, 3) := by decide +kernel
theorem dX5_whom_123 : decode cX5_whom 123 = .ok (.iload_n 3, 1) := by decide +kernel
theorem dX5_whom_124 : decode cX5_whom 124 = .ok (.aload_n 0, 1) := by decide +kernel
theorem dX5_whom_125 : decode cX5_whom 125 = .ok (.aload_n 0, 1) := by decide +kernel
theorem dX5_whom_126 : decode cX5_whom 126 = .ok (.getfield 55, 3) := by decide +kernel
theorem dX5_whom_129 : decode cX5_whom 129 = .ok (.aload_n 0, 1) := by decide +kernel
theorem dX5_whom_130 : decode cX5_whom 130 = .ok (.getfield 59, 3) := by decide +kernel
theorem dX5_whom_133 : decode cX5_whom 133 = .ok (.aload_n 0, 1) := by decide +kernel
theorem dX5_whom_134 : decode cX5_whom 134 = .ok (.getfield 101, 3) := by decide +kernel
theorem dX5_whom_137 : decode cX5_whom 137 = .ok (.invokevirtual 145, 3) := by decide +kernel
theorem dX5_whom_140 : decode cX5_whom 140 = .ok (.if_icmp .le 7, 3) := by decide +kernel
theorem dX5_whom_143 : decode cX5_whom 143 = .ok (.iconst 1, 1) := by decide +kernel
theorem dX5_whom_144 : decode cX5_whom 144 = .ok (.goto 4, 3) := by decide +kernel
theorem dX5_whom_147 : decode cX5_whom 147 = .ok (.iconst 0, 1) := by decide +kernel
theorem dX5_whom_148 : decode cX5_whom 148 = .ok (.ireturn, 1) := by decide +kernel
set_option maxRecDepth 20000 in
theorem ggX5_freed_X5_isOne : GoodIn wsX5_freed wsX5_isOne := goodIn_r _ [8, 9, 10, 11, 7, 12, 88, 89, 90, 91, 92, 93, 94, 95, 96, 97, 98, 99, 100, 101, 102, 103, 104, 105, 106, 107, 108, 109, 110, 111, 112, 113] (by decide +kernel) (by decide +kernel)
set_option maxRecDepth 20000 in
theorem gX5_freed_X5_isOne : GoodIn wsX5_freed (wsV RX5 131 RX5 yX5_isOne wsX5_isOne) := goodIn_app (goodIn_of _ (by decide +kernel)) ggX5_freed_X5_isOne
set_option maxRecDepth 20000 in
theorem ggX5_freed_X5_no : GoodIn wsX5_freed wsX5_no := goodIn_r _ [16, 17, 88, 89, 90, 91, 92, 93, 94, 95, 96, 97, 98, 99, 100, 101, 102, 103, 104, 105, 106, 107, 108, 109, 110, 111, 112, 113] (by decide +kernel) (by decide +kernel)
set_option maxRecDepth 20000 in
theorem gX5_freed_X5_no : GoodIn wsX5_freed (wsV RX5 69 RX5 yX5_no wsX5_no) := goodIn_app (goodIn_of _ (by decide +kernel)) ggX5_freed_X5_no
set_option maxRecDepth 20000 in
theorem ggX5_freed_X5_ended : GoodIn wsX5_freed wsX5_ended := goodIn_r _ [21, 22, 88, 89, 90, 91, 92, 93, 94, 95, 96, 97, 98, 99, 100, 101, 102, 103, 104, 105, 106, 107, 108, 109, 110, 111, 112, 113] (by decide +kernel) (by decide +kernel)
set_option maxRecDepth 20000 in
theorem gX5_freed_X5_ended : GoodIn wsX5_freed (wsV RX5 160 RX5 yX5_ended wsX5_ended) := goodIn_app (goodIn_of _ (by decide +kernel)) ggX5_freed_X5_ended
set_option maxRecDepth 20000 in
theorem ggX5_freed_X5_solve : GoodIn wsX5_freed wsX5_solve := goodIn_r _ [26, 27, 18, 19, 20, 7, 21, 22, 28, 29, 30, 31, 32, 33, 34, 35, 36, 37, 38, 9, 39, 40, 41, 42, 1, 43, 44, 45, 46, 47, 48, 49, 50, 51, 52, 53, 54, 55, 56, 57, 58, 59, 60, 61, 62, 63, 64, 65, 66, 67, 68, 69, 70, 71, 72, 73, 74, 75, 76, 77, 78, 79, 80, 81, 82, 83, 88, 89, 90, 91, 92, 93, 94, 95, 96, 97, 98, 99, 100, 101, 102, 103, 104, 105, 106, 107, 108, 109, 110, 111, 112, 113] (by decide +kernel) (by decide +kernel)
set_option maxRecDepth 20000 in
theorem gX5_freed_X5_solve : GoodIn wsX5_freed (wsV RX5 170 RX5 yX5_solve wsX5_solve) := goodIn_app (goodIn_of _ (by decide +kernel)) ggX5_freed_X5_solve
set_option maxRecDepth 20000 in
theorem ggX5_freed_X5_twoFree : GoodIn wsX5_freed wsX5_twoFree := goodIn_r _ [87, 2, 3, 48, 49, 50, 51, 52, 53, 54, 56, 64, 65, 66, 7, 67, 68, 69, 70, 71, 72, 73, 74, 75, 27, 88, 89, 90, 91, 92, 93, 94, 95, 96, 97, 98, 99, 100, 101, 102, 103, 104, 105, 106, 107, 108, 109, 110, 111, 112, 113] (by decide +kernel) (by decide +kernel)
set_option maxRecDepth 20000 in
theorem gX5_freed_X5_twoFree : GoodIn wsX5_freed (wsV RX5 190 RX5 yX5_twoFree wsX5_twoFree) := goodIn_app (goodIn_of _ (by decide +kernel)) ggX5_freed_X5_twoFree
theorem dX5_freed_0 : decode cX5_freed 0 = .ok (.aload_n 0, 1) := by decide +kernel
theorem dX5_freed_1 : decode cX5_freed 1 = .ok (.iload_n 1, 1) := by decide +kernel
theorem dX5_freed_2 : decode cX5_freed 2 = .ok (.invokevirtual 131, 3) := by decide +kernel
theorem dX5_freed_5 : decode cX5_freed 5 = .ok (.ifCond .ne 9, 3) := by decide +kernel
theorem dX5_freed_8 : decode cX5_freed 8 = .ok (.aload_n 0, 1) := by decide +kernel
theorem dX5_freed_9 : decode cX5_freed 9 = .ok (.iconst (-1), 1) := by decide +kernel
theorem dX5_freed_10 : decode cX5_freed 10 = .ok (.invokevirtual 69, 3) := by decide +kernel
theorem dX5_freed_13 : decode cX5_freed 13 = .ok (.ireturn, 1) := by decide +kernel
theorem dX5_freed_14 : decode cX5_freed 14 = .ok (.aload_n 0, 1) := by decide +kernel
theorem dX5_freed_15 : decode cX5_freed 15 = .ok (.getfield 16, 3) := by decide +kernel
theorem dX5_freed_18 : decode cX5_freed 18 = .ok (.iload_n 1, 1) := by decide +kernel
theorem dX5_freed_19 : decode cX5_freed 19 = .ok (.iaload, 1) := by decide +kernel
theorem dX5_freed_20 : decode cX5_freed 20 = .ok (.iconst 1, 1) := by decide +kernel
theorem dX5_freed_21 : decode cX5_freed 21 = .ok (.if_icmp .eq 18, 3) := by decide +kernel
theorem dX5_freed_24 : decode cX5_freed 24 = .ok (.aload_n 0, 1) := by decide +kernel
theorem dX5_freed_25 : decode cX5_freed 25 = .ok (.aload_n 0, 1) := by decide +kernel
theorem dX5_freed_26 : decode cX5_freed 26 = .ok (.getfield 55, 3) := by decide +kernel
theorem dX5_freed_29 : decode cX5_freed 29 = .ok (.aload_n 0, 1) := by decide +kernel
theorem dX5_freed_30 : decode cX5_freed 30 = .ok (.getfield 59, 3) := by decide +kernel
theorem dX5_freed_33 : decode cX5_freed 33 = .ok (.invokevirtual 160, 3) := by decide +kernel
theorem dX5_freed_36 : decode cX5_freed 36 = .ok (.ifCond .eq 10, 3) := by decide +kernel
theorem dX5_freed_39 : decode cX5_freed 39 = .ok (.aload_n 0, 1) := by decide +kernel
theorem dX5_freed_40 : decode cX5_freed 40 = .ok (.bipush (-3), 2) := by decide +kernel
theorem dX5_freed_42 : decode cX5_freed 42 = .ok (.invokevirtual 69, 3) := by decide +kernel
theorem dX5_freed_45 : decode cX5_freed 45 = .ok (.ireturn, 1) := by decide +kernel
theorem dX5_freed_46 : decode cX5_freed 46 = .ok (.aload_n 0, 1) := by decide +kernel
theorem dX5_freed_47 : decode cX5_freed 47 = .ok (.invokevirtual 170, 3) := by decide +kernel
theorem dX5_freed_50 : decode cX5_freed 50 = .ok (.aload_n 0, 1) := by decide +kernel
theorem dX5_freed_51 : decode cX5_freed 51 = .ok (.iload_n 1, 1) := by decide +kernel
theorem dX5_freed_52 : decode cX5_freed 52 = .ok (.aload_n 0, 1) := by decide +kernel
theorem dX5_freed_53 : decode cX5_freed 53 = .ok (.getfield 55, 3) := by decide +kernel
theorem dX5_freed_56 : decode cX5_freed 56 = .ok (.iconst 1, 1) := by decide +kernel
theorem dX5_freed_57 : decode cX5_freed 57 = .ok (.iconst 1, 1) := by decide +kernel
theorem dX5_freed_58 : decode cX5_freed 58 = .ok (.invokevirtual 190, 3) := by decide +kernel
theorem dX5_freed_61 : decode cX5_freed 61 = .ok (.ireturn, 1) := by decide +kernel
set_option maxRecDepth 20000 in
theorem ggX5_noPair_X5_isOne : GoodIn wsX5_noPair wsX5_isOne := goodIn_r _ [6, 7, 8, 9, 5, 10, 11, 12, 13, 14, 15, 16, 17, 18, 19, 20, 21, 22, 23, 24, 25, 26, 27, 28, 29, 30, 31, 32, 33, 34, 35, 36] (by decide +kernel) (by decide +kernel)
set_option maxRecDepth 20000 in
theorem gX5_noPair_X5_isOne : GoodIn wsX5_noPair (wsV RX5 131 RX5 yX5_isOne wsX5_isOne) := goodIn_app (goodIn_of _ (by decide +kernel)) ggX5_noPair_X5_isOne
theorem dX5_noPair_0 : decode cX5_noPair 0 = .ok (.aload_n 0, 1) := by decide +kernel
theorem dX5_noPair_1 : decode cX5_noPair 1 = .ok (.iload_n 1, 1) := by decide +kernel
theorem dX5_noPair_2 : decode cX5_noPair 2 = .ok (.invokevirtual 131, 3) := by decide +kernel
theorem dX5_noPair_5 : decode cX5_noPair 5 = .ok (.ifCond .eq 16, 3) := by decide +kernel
theorem dX5_noPair_8 : decode cX5_noPair 8 = .ok (.aload_n 0, 1) := by decide +kernel
theorem dX5_noPair_9 : decode cX5_noPair 9 = .ok (.iload_n 2, 1) := by decide +kernel
theorem dX5_noPair_10 : decode cX5_noPair 10 = .ok (.invokevirtual 131, 3) := by decide +kernel
theorem dX5_noPair_13 : decode cX5_noPair 13 = .ok (.ifCond .eq 8, 3) := by decide +kernel
theorem dX5_noPair_16 : decode cX5_noPair 16 = .ok (.iload_n 1, 1) := by decide +kernel
theorem dX5_noPair_17 : decode cX5_noPair 17 = .ok (.iload_n 2, 1) := by decide +kernel
theorem dX5_noPair_18 : decode cX5_noPair 18 = .ok (.if_icmp .ne 5, 3) := by decide +kernel
theorem dX5_noPair_21 : decode cX5_noPair 21 = .ok (.iconst (-1), 1) := by decide +kernel
theorem dX5_noPair_22 : decode cX5_noPair 22 = .ok (.ireturn, 1) := by decide +kernel
theorem dX5_noPair_23 : decode cX5_noPair 23 = .ok (.aload_n 0, 1) := by decide +kernel
theorem dX5_noPair_24 : decode cX5_noPair 24 = .ok (.getfield 16, 3) := by decide +kernel
theorem dX5_noPair_27 : decode cX5_noPair 27 = .ok (.iload_n 1, 1) := by decide +kernel
theorem dX5_noPair_28 : decode cX5_noPair 28 = .ok (.iaload, 1) := by decide +kernel
theorem dX5_noPair_29 : decode cX5_noPair 29 = .ok (.iconst 1, 1) := by decide +kernel
theorem dX5_noPair_30 : decode cX5_noPair 30 = .ok (.if_icmp .eq 13, 3) := by decide +kernel
theorem dX5_noPair_33 : decode cX5_noPair 33 = .ok (.aload_n 0, 1) := by decide +kernel
theorem dX5_noPair_34 : decode cX5_noPair 34 = .ok (.getfield 16, 3) := by decide +kernel
theorem dX5_noPair_37 : decode cX5_noPair 37 = .ok (.iload_n 2, 1) := by decide +kernel
theorem dX5_noPair_38 : decode cX5_noPair 38 = .ok (.iaload, 1) := by decide +kernel
theorem dX5_noPair_39 : decode cX5_noPair 39 = .ok (.iconst 1, 1) := by decide +kernel
theorem dX5_noPair_40 : decode cX5_noPair 40 = .ok (.if_icmp .ne 8, 3) := by decide +kernel
theorem dX5_noPair_43 : decode cX5_noPair 43 = .ok (.bipush (-3), 2) := by decide +kernel
theorem dX5_noPair_45 : decode cX5_noPair 45 = .ok (.goto 4, 3) := by decide +kernel
theorem dX5_noPair_48 : decode cX5_noPair 48 = .ok (.iconst 0, 1) := by decide +kernel
theorem dX5_noPair_49 : decode cX5_noPair 49 = .ok (.ireturn, 1) := by decide +kernel
set_option maxRecDepth 20000 in
theorem ggX5_guardedNow_X5_now : GoodIn wsX5_guardedNow wsX5_now := goodIn_r _ [6, 7, 8, 9, 10, 11, 12, 5, 13, 14, 15, 16, 17, 18, 19, 20, 21, 22, 23, 24, 25, 26, 27, 28, 29, 30, 31, 32, 33, 34, 35, 36, 1, 37, 38, 39, 40, 41, 42, 43, 44, 45, 46, 47, 48, 49, 50, 51, 52, 53, 54, 55, 56, 57, 58, 59, 60, 61, 62, 63, 64, 65, 66, 67, 68, 69, 70, 71, 72, 73, 74, 75, 76, 81, 82, 83, 84, 85, 86, 87, 88, 89, 90, 91, 92, 93, 94, 95, 96, 97, 98, 99, 100, 101, 102, 103, 104, 105, 106] (by decide +kernel) (by decide +kernel)
set_option maxRecDepth 20000 in
theorem gX5_guardedNow_X5_now : GoodIn wsX5_guardedNow (wsV RX5 173 RX5 yX5_now wsX5_now) := goodIn_app (goodIn_of _ (by decide +kernel)) ggX5_guardedNow_X5_now
set_option maxRecDepth 20000 in
theorem ggX5_guardedNow_X5_asTold : GoodIn wsX5_guardedNow wsX5_asTold := goodIn_r _ [80, 1, 81, 82, 83, 84, 85, 86, 87, 88, 89, 90, 91, 92, 93, 94, 95, 96, 97, 98, 99, 100, 101, 102, 103, 104, 105, 106] (by decide +kernel) (by decide +kernel)
set_option maxRecDepth 20000 in
theorem gX5_guardedNow_X5_asTold : GoodIn wsX5_guardedNow (wsV RX5 193 RX5 yX5_asTold wsX5_asTold) := goodIn_app (goodIn_of _ (by decide +kernel)) ggX5_guardedNow_X5_asTold
theorem dX5_guardedNow_0 : decode cX5_guardedNow 0 = .ok (.aload_n 0, 1) := by decide +kernel
theorem dX5_guardedNow_1 : decode cX5_guardedNow 1 = .ok (.getfield 49, 3) := by decide +kernel
theorem dX5_guardedNow_4 : decode cX5_guardedNow 4 = .ok (.iload_n 1, 1) := by decide +kernel
theorem dX5_guardedNow_5 : decode cX5_guardedNow 5 = .ok (.iconst 1, 1) := by decide +kernel
theorem dX5_guardedNow_6 : decode cX5_guardedNow 6 = .ok (.iastore, 1) := by decide +kernel
theorem dX5_guardedNow_7 : decode cX5_guardedNow 7 = .ok (.aload_n 0, 1) := by decide +kernel
theorem dX5_guardedNow_8 : decode cX5_guardedNow 8 = .ok (.getfield 49, 3) := by decide +kernel
theorem dX5_guardedNow_11 : decode cX5_guardedNow 11 = .ok (.iload_n 2, 1) := by decide +kernel
theorem dX5_guardedNow_12 : decode cX5_guardedNow 12 = .ok (.iconst 2, 1) := by decide +kernel
theorem dX5_guardedNow_13 : decode cX5_guardedNow 13 = .ok (.iastore, 1) := by decide +kernel
theorem dX5_guardedNow_14 : decode cX5_guardedNow 14 = .ok (.aload_n 0, 1) := by decide +kernel
theorem dX5_guardedNow_15 : decode cX5_guardedNow 15 = .ok (.invokevirtual 173, 3) := by decide +kernel
theorem dX5_guardedNow_18 : decode cX5_guardedNow 18 = .ok (.istore_n 3, 1) := by decide +kernel
theorem dX5_guardedNow_19 : decode cX5_guardedNow 19 = .ok (.aload_n 0, 1) := by decide +kernel
theorem dX5_guardedNow_20 : decode cX5_guardedNow 20 = .ok (.invokevirtual 193, 3) := by decide +kernel
theorem dX5_guardedNow_23 : decode cX5_guardedNow 23 = .ok (.iload_n 3, 1) := by decide +kernel
theorem dX5_guardedNow_24 : decode cX5_guardedNow 24 = .ok (.ireturn, 1) := by decide +kernel
set_option maxRecDepth 20000 in
theorem ggX5_doubled_X5_noPair : GoodIn wsX5_doubled wsX5_noPair := goodIn_r _ [5, 6, 7, 8, 9, 4, 10, 11, 12, 13, 14, 101, 102, 103, 104, 105, 106, 107, 108, 109, 110, 111, 112, 113, 114, 115, 116, 117, 118, 119, 120, 121, 122, 123, 124, 125, 126] (by decide +kernel) (by decide +kernel)
set_option maxRecDepth 20000 in
theorem gX5_doubled_X5_noPair : GoodIn wsX5_doubled (wsV RX5 196 RX5 yX5_noPair wsX5_noPair) := goodIn_app (goodIn_of _ (by decide +kernel)) ggX5_doubled_X5_noPair
set_option maxRecDepth 20000 in
theorem ggX5_doubled_X5_no : GoodIn wsX5_doubled wsX5_no := goodIn_r _ [18, 19, 101, 102, 103, 104, 105, 106, 107, 108, 109, 110, 111, 112, 113, 114, 115, 116, 117, 118, 119, 120, 121, 122, 123, 124, 125, 126] (by decide +kernel) (by decide +kernel)
set_option maxRecDepth 20000 in
theorem gX5_doubled_X5_no : GoodIn wsX5_doubled (wsV RX5 69 RX5 yX5_no wsX5_no) := goodIn_app (goodIn_of _ (by decide +kernel)) ggX5_doubled_X5_no
set_option maxRecDepth 20000 in
theorem ggX5_doubled_X5_guardedNow : GoodIn wsX5_doubled wsX5_guardedNow := goodIn_r _ [23, 24, 25, 26, 27, 4, 28, 29, 30, 31, 32, 33, 34, 35, 36, 37, 38, 39, 40, 41, 42, 43, 44, 45, 46, 47, 48, 49, 50, 51, 52, 11, 53, 54, 55, 56, 6, 57, 58, 59, 60, 61, 62, 63, 64, 65, 66, 67, 68, 69, 70, 71, 72, 73, 74, 75, 76, 77, 78, 79, 80, 81, 82, 83, 84, 85, 86, 87, 88, 89, 90, 91, 92, 93, 94, 95, 96, 97, 98, 99, 100, 101, 102, 103, 104, 105, 106, 107, 108, 109, 110, 111, 112, 113, 114, 115, 116, 117, 118, 119, 120, 121, 122, 123, 124, 125, 126] (by decide +kernel) (by decide +kernel)
set_option maxRecDepth 20000 in
theorem gX5_doubled_X5_guardedNow : GoodIn wsX5_doubled (wsV RX5 199 RX5 yX5_guardedNow wsX5_guardedNow) := goodIn_app (goodIn_of _ (by decide +kernel)) ggX5_doubled_X5_guardedNow
theorem dX5_doubled_0 : decode cX5_doubled 0 = .ok (.aload_n 0, 1) := by decide +kernel
theorem dX5_doubled_1 : decode cX5_doubled 1 = .ok (.iload_n 1, 1) := by decide +kernel
theorem dX5_doubled_2 : decode cX5_doubled 2 = .ok (.iload_n 2, 1) := by decide +kernel
theorem dX5_doubled_3 : decode cX5_doubled 3 = .ok (.invokevirtual 196, 3) := by decide +kernel
theorem dX5_doubled_6 : decode cX5_doubled 6 = .ok (.istore_n 3, 1) := by decide +kernel
theorem dX5_doubled_7 : decode cX5_doubled 7 = .ok (.iload_n 3, 1) := by decide +kernel
theorem dX5_doubled_8 : decode cX5_doubled 8 = .ok (.ifCond .ge 11, 3) := by decide +kernel
theorem dX5_doubled_11 : decode cX5_doubled 11 = .ok (.aload_n 0, 1) := by decide +kernel
theorem dX5_doubled_12 : decode cX5_doubled 12 = .ok (.iload_n 3, 1) := by decide +kernel
theorem dX5_doubled_13 : decode cX5_doubled 13 = .ok (.invokevirtual 69, 3) := by decide +kernel
theorem dX5_doubled_16 : decode cX5_doubled 16 = .ok (.goto 9, 3) := by decide +kernel
theorem dX5_doubled_19 : decode cX5_doubled 19 = .ok (.aload_n 0, 1) := by decide +kernel
theorem dX5_doubled_20 : decode cX5_doubled 20 = .ok (.iload_n 1, 1) := by decide +kernel
theorem dX5_doubled_21 : decode cX5_doubled 21 = .ok (.iload_n 2, 1) := by decide +kernel
theorem dX5_doubled_22 : decode cX5_doubled 22 = .ok (.invokevirtual 199, 3) := by decide +kernel
theorem dX5_doubled_25 : decode cX5_doubled 25 = .ok (.ireturn, 1) := by decide +kernel
set_option maxRecDepth 20000 in
theorem ggX5_howGood_X5_noPair : GoodIn wsX5_howGood wsX5_noPair := goodIn_r _ [6, 7, 8, 9, 10, 5, 11, 12, 13, 14, 15, 101, 102, 103, 104, 105, 106, 107, 108, 109, 110, 111, 112, 113, 114, 115, 116, 117, 118, 119, 120, 121, 122, 123, 124, 125, 126] (by decide +kernel) (by decide +kernel)
set_option maxRecDepth 20000 in
theorem gX5_howGood_X5_noPair : GoodIn wsX5_howGood (wsV RX5 196 RX5 yX5_noPair wsX5_noPair) := goodIn_app (goodIn_of _ (by decide +kernel)) ggX5_howGood_X5_noPair
set_option maxRecDepth 20000 in
theorem ggX5_howGood_X5_no : GoodIn wsX5_howGood wsX5_no := goodIn_r _ [19, 20, 101, 102, 103, 104, 105, 106, 107, 108, 109, 110, 111, 112, 113, 114, 115, 116, 117, 118, 119, 120, 121, 122, 123, 124, 125, 126] (by decide +kernel) (by decide +kernel)
set_option maxRecDepth 20000 in
theorem gX5_howGood_X5_no : GoodIn wsX5_howGood (wsV RX5 69 RX5 yX5_no wsX5_no) := goodIn_app (goodIn_of _ (by decide +kernel)) ggX5_howGood_X5_no
set_option maxRecDepth 20000 in
theorem ggX5_howGood_X5_now : GoodIn wsX5_howGood wsX5_now := goodIn_r _ [24, 25, 26, 27, 28, 29, 30, 5, 31, 32, 33, 34, 35, 36, 37, 38, 39, 40, 41, 42, 43, 44, 45, 46, 47, 48, 12, 49, 50, 51, 52, 7, 53, 54, 55, 56, 57, 58, 59, 60, 61, 62, 63, 64, 65, 66, 67, 68, 69, 70, 71, 72, 73, 74, 75, 76, 77, 1, 78, 79, 80, 81, 82, 83, 84, 85, 86, 87, 88, 89, 90, 91, 92, 101, 102, 103, 104, 105, 106, 107, 108, 109, 110, 111, 112, 113, 114, 115, 116, 117, 118, 119, 120, 121, 122, 123, 124, 125, 126] (by decide +kernel) (by decide +kernel)
set_option maxRecDepth 20000 in
theorem gX5_howGood_X5_now : GoodIn wsX5_howGood (wsV RX5 173 RX5 yX5_now wsX5_now) := goodIn_app (goodIn_of _ (by decide +kernel)) ggX5_howGood_X5_now
set_option maxRecDepth 20000 in
theorem ggX5_howGood_X5_guardedNow : GoodIn wsX5_howGood wsX5_guardedNow := goodIn_r _ [96, 53, 21, 22, 23, 5, 24, 25, 26, 27, 28, 29, 30, 31, 32, 33, 34, 35, 36, 37, 38, 39, 40, 41, 42, 43, 44, 45, 46, 47, 48, 12, 49, 50, 51, 52, 7, 54, 55, 56, 57, 58, 59, 60, 61, 62, 63, 64, 65, 66, 67, 68, 69, 70, 71, 72, 73, 74, 75, 76, 77, 1, 78, 79, 80, 81, 82, 83, 84, 85, 86, 87, 88, 89, 90, 91, 92, 97, 98, 99, 100, 101, 102, 103, 104, 105, 106, 107, 108, 109, 110, 111, 112, 113, 114, 115, 116, 117, 118, 119, 120, 121, 122, 123, 124, 125, 126] (by decide +kernel) (by decide +kernel)
set_option maxRecDepth 20000 in
theorem gX5_howGood_X5_guardedNow : GoodIn wsX5_howGood (wsV RX5 199 RX5 yX5_guardedNow wsX5_guardedNow) := goodIn_app (goodIn_of _ (by decide +kernel)) ggX5_howGood_X5_guardedNow
theorem dX5_howGood_0 : decode cX5_howGood 0 = .ok (.aload_n 0, 1) := by decide +kernel
theorem dX5_howGood_1 : decode cX5_howGood 1 = .ok (.iload_n 1, 1) := by decide +kernel
theorem dX5_howGood_2 : decode cX5_howGood 2 = .ok (.iload_n 2, 1) := by decide +kernel
theorem dX5_howGood_3 : decode cX5_howGood 3 = .ok (.invokevirtual 196, 3) := by decide +kernel
theorem dX5_howGood_6 : decode cX5_howGood 6 = .ok (.istore_n 3, 1) := by decide +kernel
theorem dX5_howGood_7 : decode cX5_howGood 7 = .ok (.iload_n 3, 1) := by decide +kernel
theorem dX5_howGood_8 : decode cX5_howGood 8 = .ok (.ifCond .ge 9, 3) := by decide +kernel
theorem dX5_howGood_11 : decode cX5_howGood 11 = .ok (.aload_n 0, 1) := by decide +kernel
theorem dX5_howGood_12 : decode cX5_howGood 12 = .ok (.iload_n 3, 1) := by decide +kernel
theorem dX5_howGood_13 : decode cX5_howGood 13 = .ok (.invokevirtual 69, 3) := by decide +kernel
theorem dX5_howGood_16 : decode cX5_howGood 16 = .ok (.ireturn, 1) := by decide +kernel
theorem dX5_howGood_17 : decode cX5_howGood 17 = .ok (.aload_n 0, 1) := by decide +kernel
theorem dX5_howGood_18 : decode cX5_howGood 18 = .ok (.invokevirtual 173, 3) := by decide +kernel
theorem dX5_howGood_21 : decode cX5_howGood 21 = .ok (.istore 4, 2) := by decide +kernel
theorem dX5_howGood_23 : decode cX5_howGood 23 = .ok (.aload_n 0, 1) := by decide +kernel
theorem dX5_howGood_24 : decode cX5_howGood 24 = .ok (.getfield 22, 3) := by decide +kernel
theorem dX5_howGood_27 : decode cX5_howGood 27 = .ok (.iload_n 1, 1) := by decide +kernel
theorem dX5_howGood_28 : decode cX5_howGood 28 = .ok (.iaload, 1) := by decide +kernel
theorem dX5_howGood_29 : decode cX5_howGood 29 = .ok (.istore 5, 2) := by decide +kernel
theorem dX5_howGood_31 : decode cX5_howGood 31 = .ok (.bipush (-9), 2) := by decide +kernel
theorem dX5_howGood_33 : decode cX5_howGood 33 = .ok (.istore 6, 2) := by decide +kernel
theorem dX5_howGood_35 : decode cX5_howGood 35 = .ok (.iconst 0, 1) := by decide +kernel
theorem dX5_howGood_36 : decode cX5_howGood 36 = .ok (.istore 7, 2) := by decide +kernel
theorem dX5_howGood_38 : decode cX5_howGood 38 = .ok (.iload 7, 2) := by decide +kernel
theorem dX5_howGood_40 : decode cX5_howGood 40 = .ok (.bipush 10, 2) := by decide +kernel
theorem dX5_howGood_42 : decode cX5_howGood 42 = .ok (.if_icmp .ge 37, 3) := by decide +kernel
theorem dX5_howGood_45 : decode cX5_howGood 45 = .ok (.iload 6, 2) := by decide +kernel
theorem dX5_howGood_47 : decode cX5_howGood 47 = .ok (.ifCond .ge 32, 3) := by decide +kernel
theorem dX5_howGood_50 : decode cX5_howGood 50 = .ok (.aload_n 0, 1) := by decide +kernel
theorem dX5_howGood_51 : decode cX5_howGood 51 = .ok (.getfield 22, 3) := by decide +kernel
theorem dX5_howGood_54 : decode cX5_howGood 54 = .ok (.iload_n 1, 1) := by decide +kernel
theorem dX5_howGood_55 : decode cX5_howGood 55 = .ok (.iload 7, 2) := by decide +kernel
theorem dX5_howGood_57 : decode cX5_howGood 57 = .ok (.iastore, 1) := by decide +kernel
theorem dX5_howGood_58 : decode cX5_howGood 58 = .ok (.aload_n 0, 1) := by decide +kernel
theorem dX5_howGood_59 : decode cX5_howGood 59 = .ok (.iload_n 1, 1) := by decide +kernel
theorem dX5_howGood_60 : decode cX5_howGood 60 = .ok (.iload_n 2, 1) := by decide +kernel
theorem dX5_howGood_61 : decode cX5_howGood 61 = .ok (.invokevirtual 199, 3) := by decide +kernel
theorem dX5_howGood_64 : decode cX5_howGood 64 = .ok (.iload 4, 2) := by decide +kernel
theorem dX5_howGood_66 : decode cX5_howGood 66 = .ok (.if_icmp .lt 7, 3) := by decide +kernel
theorem dX5_howGood_69 : decode cX5_howGood 69 = .ok (.iload 7, 2) := by decide +kernel
theorem dX5_howGood_71 : decode cX5_howGood 71 = .ok (.istore 6, 2) := by decide +kernel
theorem dX5_howGood_73 : decode cX5_howGood 73 = .ok (.iinc 7 1, 3) := by decide +kernel
theorem dX5_howGood_76 : decode cX5_howGood 76 = .ok (.goto (-38), 3) := by decide +kernel
theorem dX5_howGood_79 : decode cX5_howGood 79 = .ok (.aload_n 0, 1) := by decide +kernel
theorem dX5_howGood_80 : decode cX5_howGood 80 = .ok (.getfield 22, 3) := by decide +kernel
theorem dX5_howGood_83 : decode cX5_howGood 83 = .ok (.iload_n 1, 1) := by decide +kernel
theorem dX5_howGood_84 : decode cX5_howGood 84 = .ok (.iload 5, 2) := by decide +kernel
theorem dX5_howGood_86 : decode cX5_howGood 86 = .ok (.iastore, 1) := by decide +kernel
theorem dX5_howGood_87 : decode cX5_howGood 87 = .ok (.iload 6, 2) := by decide +kernel
theorem dX5_howGood_89 : decode cX5_howGood 89 = .ok (.ireturn, 1) := by decide +kernel
set_option maxRecDepth 20000 in
theorem ggX5_call_X5_noFar : GoodIn wsX5_call wsX5_noFar := goodIn_r _ [10, 11, 12, 13, 14, 9, 15, 16, 92, 93, 94, 95, 96, 97, 98, 99, 100, 101, 102, 103, 104, 105, 106, 107, 108, 109, 110, 111, 112, 113, 114, 115, 116, 117] (by decide +kernel) (by decide +kernel)
set_option maxRecDepth 20000 in
theorem gX5_call_X5_noFar : GoodIn wsX5_call (wsV RX5 183 RX5 yX5_noFar wsX5_noFar) := goodIn_app (goodIn_of _ (by decide +kernel)) ggX5_call_X5_noFar
set_option maxRecDepth 20000 in
theorem ggX5_call_X5_now : GoodIn wsX5_call wsX5_now := goodIn_r _ [20, 21, 22, 2, 23, 24, 25, 9, 26, 27, 28, 29, 30, 31, 32, 33, 34, 35, 36, 37, 38, 39, 40, 41, 42, 43, 3, 44, 45, 46, 47, 4, 5, 48, 49, 50, 51, 52, 53, 54, 55, 56, 57, 58, 59, 60, 61, 62, 63, 64, 65, 66, 67, 68, 69, 70, 71, 72, 73, 74, 75, 76, 77, 78, 79, 80, 81, 82, 83, 84, 85, 86, 87, 92, 93, 94, 95, 96, 97, 98, 99, 100, 101, 102, 103, 104, 105, 106, 107, 108, 109, 110, 111, 112, 113, 114, 115, 116, 117] (by decide +kernel) (by decide +kernel)
set_option maxRecDepth 20000 in
theorem gX5_call_X5_now : GoodIn wsX5_call (wsV RX5 173 RX5 yX5_now wsX5_now) := goodIn_app (goodIn_of _ (by decide +kernel)) ggX5_call_X5_now
set_option maxRecDepth 20000 in
theorem ggX5_call_X5_asTold : GoodIn wsX5_call wsX5_asTold := goodIn_r _ [91, 5, 92, 93, 94, 95, 96, 97, 98, 99, 100, 101, 102, 103, 104, 105, 106, 107, 108, 109, 110, 111, 112, 113, 114, 115, 116, 117] (by decide +kernel) (by decide +kernel)
set_option maxRecDepth 20000 in
theorem gX5_call_X5_asTold : GoodIn wsX5_call (wsV RX5 193 RX5 yX5_asTold wsX5_asTold) := goodIn_app (goodIn_of _ (by decide +kernel)) ggX5_call_X5_asTold
theorem dX5_call_0 : decode cX5_call 0 = .ok (.aload_n 0, 1) := by decide +kernel
theorem dX5_call_1 : decode cX5_call 1 = .ok (.getfield 13, 3) := by decide +kernel
theorem dX5_call_4 : decode cX5_call 4 = .ok (.iconst 0, 1) := by decide +kernel
theorem dX5_call_5 : decode cX5_call 5 = .ok (.iaload, 1) := by decide +kernel
theorem dX5_call_6 : decode cX5_call 6 = .ok (.ifCond .eq 11, 3) := by decide +kernel
theorem dX5_call_9 : decode cX5_call 9 = .ok (.aload_n 0, 1) := by decide +kernel
theorem dX5_call_10 : decode cX5_call 10 = .ok (.getfield 101, 3) := by decide +kernel
theorem dX5_call_13 : decode cX5_call 13 = .ok (.iconst 1, 1) := by decide +kernel
theorem dX5_call_14 : decode cX5_call 14 = .ok (.if_icmp .ne 10, 3) := by decide +kernel
theorem dX5_call_17 : decode cX5_call 17 = .ok (.aload_n 0, 1) := by decide +kernel
theorem dX5_call_18 : decode cX5_call 18 = .ok (.bipush (-3), 2) := by decide +kernel
theorem dX5_call_20 : decode cX5_call 20 = .ok (.invokevirtual 183, 3) := by decide +kernel
theorem dX5_call_23 : decode cX5_call 23 = .ok (.ireturn, 1) := by decide +kernel
theorem dX5_call_24 : decode cX5_call 24 = .ok (.aload_n 0, 1) := by decide +kernel
theorem dX5_call_25 : decode cX5_call 25 = .ok (.invokevirtual 173, 3) := by decide +kernel
theorem dX5_call_28 : decode cX5_call 28 = .ok (.istore_n 1, 1) := by decide +kernel
theorem dX5_call_29 : decode cX5_call 29 = .ok (.iconst 0, 1) := by decide +kernel
theorem dX5_call_30 : decode cX5_call 30 = .ok (.istore_n 2, 1) := by decide +kernel
theorem dX5_call_31 : decode cX5_call 31 = .ok (.iload_n 2, 1) := by decide +kernel
theorem dX5_call_32 : decode cX5_call 32 = .ok (.aload_n 0, 1) := by decide +kernel
theorem dX5_call_33 : decode cX5_call 33 = .ok (.getfield 73, 3) := by decide +kernel
theorem dX5_call_36 : decode cX5_call 36 = .ok (.if_icmp .ge 25, 3) := by decide +kernel
theorem dX5_call_39 : decode cX5_call 39 = .ok (.aload_n 0, 1) := by decide +kernel
theorem dX5_call_40 : decode cX5_call 40 = .ok (.getfield 16, 3) := by decide +kernel
theorem dX5_call_43 : decode cX5_call 43 = .ok (.iload_n 2, 1) := by decide +kernel
theorem dX5_call_44 : decode cX5_call 44 = .ok (.iaload, 1) := by decide +kernel
theorem dX5_call_45 : decode cX5_call 45 = .ok (.ifCond .ne 10, 3) := by decide +kernel
theorem dX5_call_48 : decode cX5_call 48 = .ok (.aload_n 0, 1) := by decide +kernel
theorem dX5_call_49 : decode cX5_call 49 = .ok (.getfield 49, 3) := by decide +kernel
theorem dX5_call_52 : decode cX5_call 52 = .ok (.iload_n 2, 1) := by decide +kernel
theorem dX5_call_53 : decode cX5_call 53 = .ok (.iconst 1, 1) := by decide +kernel
theorem dX5_call_54 : decode cX5_call 54 = .ok (.iastore, 1) := by decide +kernel
theorem dX5_call_55 : decode cX5_call 55 = .ok (.iinc 2 1, 3) := by decide +kernel
theorem dX5_call_58 : decode cX5_call 58 = .ok (.goto (-27), 3) := by decide +kernel
theorem dX5_call_61 : decode cX5_call 61 = .ok (.aload_n 0, 1) := by decide +kernel
theorem dX5_call_62 : decode cX5_call 62 = .ok (.invokevirtual 173, 3) := by decide +kernel
theorem dX5_call_65 : decode cX5_call 65 = .ok (.istore_n 2, 1) := by decide +kernel
theorem dX5_call_66 : decode cX5_call 66 = .ok (.aload_n 0, 1) := by decide +kernel
theorem dX5_call_67 : decode cX5_call 67 = .ok (.invokevirtual 193, 3) := by decide +kernel
theorem dX5_call_70 : decode cX5_call 70 = .ok (.iload_n 2, 1) := by decide +kernel
theorem dX5_call_71 : decode cX5_call 71 = .ok (.iload_n 1, 1) := by decide +kernel
theorem dX5_call_72 : decode cX5_call 72 = .ok (.isub, 1) := by decide +kernel
theorem dX5_call_73 : decode cX5_call 73 = .ok (.ireturn, 1) := by decide +kernel
theorem dX5_ours_0 : decode cX5_ours 0 = .ok (.iconst 0, 1) := by decide +kernel
theorem dX5_ours_1 : decode cX5_ours 1 = .ok (.istore_n 1, 1) := by decide +kernel
theorem dX5_ours_2 : decode cX5_ours 2 = .ok (.iconst 0, 1) := by decide +kernel
theorem dX5_ours_3 : decode cX5_ours 3 = .ok (.istore_n 2, 1) := by decide +kernel
theorem dX5_ours_4 : decode cX5_ours 4 = .ok (.iload_n 2, 1) := by decide +kernel
theorem dX5_ours_5 : decode cX5_ours 5 = .ok (.aload_n 0, 1) := by decide +kernel
theorem dX5_ours_6 : decode cX5_ours 6 = .ok (.getfield 73, 3) := by decide +kernel
theorem dX5_ours_9 : decode cX5_ours 9 = .ok (.if_icmp .ge 21, 3) := by decide +kernel
theorem dX5_ours_12 : decode cX5_ours 12 = .ok (.aload_n 0, 1) := by decide +kernel
theorem dX5_ours_13 : decode cX5_ours 13 = .ok (.getfield 16, 3) := by decide +kernel
theorem dX5_ours_16 : decode cX5_ours 16 = .ok (.iload_n 2, 1) := by decide +kernel
theorem dX5_ours_17 : decode cX5_ours 17 = .ok (.iaload, 1) := by decide +kernel
theorem dX5_ours_18 : decode cX5_ours 18 = .ok (.ifCond .ne 6, 3) := by decide +kernel
theorem dX5_ours_21 : decode cX5_ours 21 = .ok (.iinc 1 1, 3) := by decide +kernel
theorem dX5_ours_24 : decode cX5_ours 24 = .ok (.iinc 2 1, 3) := by decide +kernel
theorem dX5_ours_27 : decode cX5_ours 27 = .ok (.goto (-23), 3) := by decide +kernel
theorem dX5_ours_30 : decode cX5_ours 30 = .ok (.iload_n 1, 1) := by decide +kernel
theorem dX5_ours_31 : decode cX5_ours 31 = .ok (.ireturn, 1) := by decide +kernel
set_option maxRecDepth 20000 in
theorem ggX5_on_X5_ours : GoodIn wsX5_on wsX5_ours := goodIn_r _ [8, 1, 2, 81, 82, 83, 84, 85, 86, 87, 88, 89, 90, 91, 92, 93, 94, 95, 96, 97, 98, 99, 100, 101, 102, 103, 104, 105, 106] (by decide +kernel) (by decide +kernel)
set_option maxRecDepth 20000 in
theorem gX5_on_X5_ours : GoodIn wsX5_on (wsV RX5 180 RX5 yX5_ours wsX5_ours) := goodIn_app (goodIn_of _ (by decide +kernel)) ggX5_on_X5_ours
set_option maxRecDepth 20000 in
theorem ggX5_on_X5_now : GoodIn wsX5_on wsX5_now := goodIn_r _ [12, 13, 14, 15, 16, 17, 18, 7, 19, 20, 21, 22, 23, 24, 25, 26, 27, 28, 29, 30, 31, 32, 33, 34, 35, 36, 1, 37, 38, 39, 40, 2, 3, 41, 42, 43, 44, 45, 46, 47, 48, 49, 50, 51, 52, 53, 54, 55, 56, 57, 58, 59, 60, 61, 62, 63, 64, 65, 66, 67, 68, 69, 70, 71, 72, 73, 74, 75, 76, 77, 78, 79, 80, 81, 82, 83, 84, 85, 86, 87, 88, 89, 90, 91, 92, 93, 94, 95, 96, 97, 98, 99, 100, 101, 102, 103, 104, 105, 106] (by decide +kernel) (by decide +kernel)
set_option maxRecDepth 20000 in
theorem gX5_on_X5_now : GoodIn wsX5_on (wsV RX5 173 RX5 yX5_now wsX5_now) := goodIn_app (goodIn_of _ (by decide +kernel)) ggX5_on_X5_now
theorem dX5_on_0 : decode cX5_on 0 = .ok (.aload_n 0, 1) := by decide +kernel
theorem dX5_on_1 : decode cX5_on 1 = .ok (.invokevirtual 180, 3) := by decide +kernel
theorem dX5_on_4 : decode cX5_on 4 = .ok (.iconst 2, 1) := by decide +kernel
theorem dX5_on_5 : decode cX5_on 5 = .ok (.if_icmp .ge 6, 3) := by decide +kernel
theorem dX5_on_8 : decode cX5_on 8 = .ok (.bipush (-9), 2) := by decide +kernel
theorem dX5_on_10 : decode cX5_on 10 = .ok (.ireturn, 1) := by decide +kernel
theorem dX5_on_11 : decode cX5_on 11 = .ok (.iconst (-1), 1) := by decide +kernel
theorem dX5_on_12 : decode cX5_on 12 = .ok (.istore_n 1, 1) := by decide +kernel
theorem dX5_on_13 : decode cX5_on 13 = .ok (.iconst (-1), 1) := by decide +kernel
theorem dX5_on_14 : decode cX5_on 14 = .ok (.istore_n 2, 1) := by decide +kernel
theorem dX5_on_15 : decode cX5_on 15 = .ok (.iconst 0, 1) := by decide +kernel
theorem dX5_on_16 : decode cX5_on 16 = .ok (.istore_n 3, 1) := by decide +kernel
theorem dX5_on_17 : decode cX5_on 17 = .ok (.iload_n 3, 1) := by decide +kernel
theorem dX5_on_18 : decode cX5_on 18 = .ok (.aload_n 0, 1) := by decide +kernel
theorem dX5_on_19 : decode cX5_on 19 = .ok (.getfield 73, 3) := by decide +kernel
theorem dX5_on_22 : decode cX5_on 22 = .ok (.if_icmp .ge 56, 3) := by decide +kernel
theorem dX5_on_25 : decode cX5_on 25 = .ok (.aload_n 0, 1) := by decide +kernel
theorem dX5_on_26 : decode cX5_on 26 = .ok (.getfield 16, 3) := by decide +kernel
theorem dX5_on_29 : decode cX5_on 29 = .ok (.iload_n 3, 1) := by decide +kernel
theorem dX5_on_30 : decode cX5_on 30 = .ok (.iaload, 1) := by decide +kernel
theorem dX5_on_31 : decode cX5_on 31 = .ok (.iconst 1, 1) := by decide +kernel
theorem dX5_on_32 : decode cX5_on 32 = .ok (.if_icmp .ne 6, 3) := by decide +kernel
theorem dX5_on_35 : decode cX5_on 35 = .ok (.goto 37, 3) := by decide +kernel
theorem dX5_on_38 : decode cX5_on 38 = .ok (.aload_n 0, 1) := by decide +kernel
theorem dX5_on_39 : decode cX5_on 39 = .ok (.getfield 49, 3) := by decide +kernel
theorem dX5_on_42 : decode cX5_on 42 = .ok (.iload_n 3, 1) := by decide +kernel
theorem dX5_on_43 : decode cX5_on 43 = .ok (.iconst 3, 1) := by decide +kernel
theorem dX5_on_44 : decode cX5_on 44 = .ok (.iastore, 1) := by decide +kernel
theorem dX5_on_45 : decode cX5_on 45 = .ok (.aload_n 0, 1) := by decide +kernel
theorem dX5_on_46 : decode cX5_on 46 = .ok (.invokevirtual 173, 3) := by decide +kernel
theorem dX5_on_49 : decode cX5_on 49 = .ok (.istore 4, 2) := by decide +kernel
theorem dX5_on_51 : decode cX5_on 51 = .ok (.aload_n 0, 1) := by decide +kernel
theorem dX5_on_52 : decode cX5_on 52 = .ok (.getfield 49, 3) := by decide +kernel
theorem dX5_on_55 : decode cX5_on 55 = .ok (.iload_n 3, 1) := by decide +kernel
theorem dX5_on_56 : decode cX5_on 56 = .ok (.iconst 0, 1) := by decide +kernel
theorem dX5_on_57 : decode cX5_on 57 = .ok (.iastore, 1) := by decide +kernel
theorem dX5_on_58 : decode cX5_on 58 = .ok (.iload 4, 2) := by decide +kernel
theorem dX5_on_60 : decode cX5_on 60 = .ok (.iload_n 2, 1) := by decide +kernel
theorem dX5_on_61 : decode cX5_on 61 = .ok (.if_icmp .gt 6, 3) := by decide +kernel
theorem dX5_on_64 : decode cX5_on 64 = .ok (.goto 8, 3) := by decide +kernel
theorem dX5_on_67 : decode cX5_on 67 = .ok (.iload 4, 2) := by decide +kernel
theorem dX5_on_69 : decode cX5_on 69 = .ok (.istore_n 2, 1) := by decide +kernel
theorem dX5_on_70 : decode cX5_on 70 = .ok (.iload_n 3, 1) := by decide +kernel
theorem dX5_on_71 : decode cX5_on 71 = .ok (.istore_n 1, 1) := by decide +kernel
theorem dX5_on_72 : decode cX5_on 72 = .ok (.iinc 3 1, 3) := by decide +kernel
theorem dX5_on_75 : decode cX5_on 75 = .ok (.goto (-58), 3) := by decide +kernel
theorem dX5_on_78 : decode cX5_on 78 = .ok (.iload_n 1, 1) := by decide +kernel
theorem dX5_on_79 : decode cX5_on 79 = .ok (.ireturn, 1) := by decide +kernel
set_option maxRecDepth 20000 in
theorem ggX5_withLaw_X5_now : GoodIn wsX5_withLaw wsX5_now := goodIn_r _ [6, 7, 8, 9, 10, 11, 12, 5, 13, 14, 15, 16, 17, 18, 1, 19, 20, 21, 22, 23, 24, 25, 26, 27, 28, 29, 30, 31, 32, 33, 34, 35, 36, 37, 38, 39, 40, 41, 42, 43, 44, 45, 46, 47, 48, 49, 50, 51, 52, 53, 54, 55, 56, 57, 58, 59, 60, 61, 62, 63, 64, 65, 66, 67, 68, 69, 70, 71, 72, 73, 74, 75, 76, 77, 78, 79, 80, 81, 82, 83, 84, 85, 86, 87, 88, 89, 90, 91, 92, 93, 94, 95, 96, 97, 98, 99, 100, 101, 102] (by decide +kernel) (by decide +kernel)
set_option maxRecDepth 20000 in
theorem gX5_withLaw_X5_now : GoodIn wsX5_withLaw (wsV RX5 173 RX5 yX5_now wsX5_now) := goodIn_app (goodIn_of _ (by decide +kernel)) ggX5_withLaw_X5_now
theorem dX5_withLaw_0 : decode cX5_withLaw 0 = .ok (.aload_n 0, 1) := by decide +kernel
theorem dX5_withLaw_1 : decode cX5_withLaw 1 = .ok (.getfield 104, 3) := by decide +kernel
theorem dX5_withLaw_4 : decode cX5_withLaw 4 = .ok (.istore_n 2, 1) := by decide +kernel
theorem dX5_withLaw_5 : decode cX5_withLaw 5 = .ok (.aload_n 0, 1) := by decide +kernel
theorem dX5_withLaw_6 : decode cX5_withLaw 6 = .ok (.iload_n 1, 1) := by decide +kernel
theorem dX5_withLaw_7 : decode cX5_withLaw 7 = .ok (.putfield 104, 3) := by decide +kernel
theorem dX5_withLaw_10 : decode cX5_withLaw 10 = .ok (.aload_n 0, 1) := by decide +kernel
theorem dX5_withLaw_11 : decode cX5_withLaw 11 = .ok (.invokevirtual 173, 3) := by decide +kernel
theorem dX5_withLaw_14 : decode cX5_withLaw 14 = .ok (.istore_n 3, 1) := by decide +kernel
theorem dX5_withLaw_15 : decode cX5_withLaw 15 = .ok (.aload_n 0, 1) := by decide +kernel
theorem dX5_withLaw_16 : decode cX5_withLaw 16 = .ok (.iload_n 2, 1) := by decide +kernel
theorem dX5_withLaw_17 : decode cX5_withLaw 17 = .ok (.putfield 104, 3) := by decide +kernel
theorem dX5_withLaw_20 : decode cX5_withLaw 20 = .ok (.iload_n 3, 1) := by decide +kernel
theorem dX5_withLaw_21 : decode cX5_withLaw 21 = .ok (.ireturn, 1) := by decide +kernel
set_option maxRecDepth 20000 in
theorem ggX5_byLaw_X5_within : GoodIn wsX5_byLaw wsX5_within := goodIn_r _ [4] (by decide +kernel) (by decide +kernel)
set_option maxRecDepth 20000 in
theorem gX5_byLaw_X5_within : GoodIn wsX5_byLaw (va_wsS RX5 76 yX5_within wsX5_within) := goodIn_app (goodIn_of _ (by decide +kernel)) ggX5_byLaw_X5_within
set_option maxRecDepth 20000 in
theorem ggX5_byLaw_X5_withLaw : GoodIn wsX5_byLaw wsX5_withLaw := goodIn_r _ [8, 9, 10, 11, 12, 3, 13, 14, 15, 16, 17, 18, 19, 20, 21, 22, 23, 24, 25, 26, 27, 28, 29, 30, 31, 32, 33, 34, 35, 36, 37, 38, 39, 40, 41, 42, 43, 44, 45, 46, 47, 48, 49, 50, 51, 52, 53, 54, 55, 56, 57, 58, 59, 60, 61, 62, 63, 64, 65, 66, 67, 68, 69, 70, 71, 72, 73, 74, 75, 76, 77, 78, 79, 80, 81, 82, 83, 89, 90, 91, 92, 93, 94, 95, 96, 97, 98, 99, 100, 101, 102, 103, 104, 105, 106, 107, 108, 109, 110, 111, 112, 113, 114] (by decide +kernel) (by decide +kernel)
set_option maxRecDepth 20000 in
theorem gX5_byLaw_X5_withLaw : GoodIn wsX5_byLaw (wsV RX5 202 RX5 yX5_withLaw wsX5_withLaw) := goodIn_app (goodIn_of _ (by decide +kernel)) ggX5_byLaw_X5_withLaw
set_option maxRecDepth 20000 in
theorem ggX5_byLaw_X5_no : GoodIn wsX5_byLaw wsX5_no := goodIn_r _ [87, 88, 89, 90, 91, 92, 93, 94, 95, 96, 97, 98, 99, 100, 101, 102, 103, 104, 105, 106, 107, 108, 109, 110, 111, 112, 113, 114] (by decide +kernel) (by decide +kernel)
set_option maxRecDepth 20000 in
theorem gX5_byLaw_X5_no : GoodIn wsX5_byLaw (wsV RX5 69 RX5 yX5_no wsX5_no) := goodIn_app (goodIn_of _ (by decide +kernel)) ggX5_byLaw_X5_no
theorem dX5_byLaw_0 : decode cX5_byLaw 0 = .ok (.iload_n 1, 1) := by decide +kernel
theorem dX5_byLaw_1 : decode cX5_byLaw 1 = .ok (.iconst 0, 1) := by decide +kernel
theorem dX5_byLaw_2 : decode cX5_byLaw 2 = .ok (.iconst 3, 1) := by decide +kernel
theorem dX5_byLaw_3 : decode cX5_byLaw 3 = .ok (.invokestatic 76, 3) := by decide +kernel
theorem dX5_byLaw_6 : decode cX5_byLaw 6 = .ok (.ifCond .eq 11, 3) := by decide +kernel
theorem dX5_byLaw_9 : decode cX5_byLaw 9 = .ok (.aload_n 0, 1) := by decide +kernel
theorem dX5_byLaw_10 : decode cX5_byLaw 10 = .ok (.iload_n 1, 1) := by decide +kernel
theorem dX5_byLaw_11 : decode cX5_byLaw 11 = .ok (.invokevirtual 202, 3) := by decide +kernel
theorem dX5_byLaw_14 : decode cX5_byLaw 14 = .ok (.goto 9, 3) := by decide +kernel
theorem dX5_byLaw_17 : decode cX5_byLaw 17 = .ok (.aload_n 0, 1) := by decide +kernel
theorem dX5_byLaw_18 : decode cX5_byLaw 18 = .ok (.bipush (-2), 2) := by decide +kernel
theorem dX5_byLaw_20 : decode cX5_byLaw 20 = .ok (.invokevirtual 69, 3) := by decide +kernel
theorem dX5_byLaw_23 : decode cX5_byLaw 23 = .ok (.ireturn, 1) := by decide +kernel
set_option maxRecDepth 20000 in
theorem ggX5_fairest_X5_withLaw : GoodIn wsX5_fairest wsX5_withLaw := goodIn_r _ [10, 11, 12, 13, 14, 9, 15, 16, 17, 18, 19, 20, 21, 22, 23, 24, 25, 26, 27, 28, 29, 30, 31, 32, 33, 34, 35, 36, 37, 38, 39, 40, 41, 42, 43, 44, 45, 46, 47, 48, 49, 50, 51, 4, 52, 53, 54, 55, 56, 57, 58, 59, 60, 61, 62, 63, 64, 65, 66, 67, 68, 69, 70, 71, 72, 73, 74, 75, 76, 77, 78, 79, 80, 81, 82, 83, 84, 85, 86, 87, 88, 89, 90, 91, 92, 93, 94, 95, 96, 97, 98, 99, 100, 101, 102, 103, 104, 105, 106, 107, 108, 109, 110] (by decide +kernel) (by decide +kernel)
set_option maxRecDepth 20000 in
theorem gX5_fairest_X5_withLaw : GoodIn wsX5_fairest (wsV RX5 202 RX5 yX5_withLaw wsX5_withLaw) := goodIn_app (goodIn_of _ (by decide +kernel)) ggX5_fairest_X5_withLaw
theorem dX5_fairest_0 : decode cX5_fairest 0 = .ok (.iconst (-1), 1) := by decide +kernel
theorem dX5_fairest_1 : decode cX5_fairest 1 = .ok (.istore_n 1, 1) := by decide +kernel
theorem dX5_fairest_2 : decode cX5_fairest 2 = .ok (.iconst 0, 1) := by decide +kernel
theorem dX5_fairest_3 : decode cX5_fairest 3 = .ok (.istore_n 2, 1) := by decide +kernel
theorem dX5_fairest_4 : decode cX5_fairest 4 = .ok (.iconst 0, 1) := by decide +kernel
theorem dX5_fairest_5 : decode cX5_fairest 5 = .ok (.istore_n 3, 1) := by decide +kernel
theorem dX5_fairest_6 : decode cX5_fairest 6 = .ok (.iload_n 3, 1) := by decide +kernel
theorem dX5_fairest_7 : decode cX5_fairest 7 = .ok (.iconst 4, 1) := by decide +kernel
theorem dX5_fairest_8 : decode cX5_fairest 8 = .ok (.if_icmp .ge 40, 3) := by decide +kernel
theorem dX5_fairest_11 : decode cX5_fairest 11 = .ok (.aload_n 0, 1) := by decide +kernel
theorem dX5_fairest_12 : decode cX5_fairest 12 = .ok (.iload_n 3, 1) := by decide +kernel
theorem dX5_fairest_13 : decode cX5_fairest 13 = .ok (.invokevirtual 202, 3) := by decide +kernel
theorem dX5_fairest_16 : decode cX5_fairest 16 = .ok (.ldc 205, 2) := by decide +kernel
theorem dX5_fairest_18 : decode cX5_fairest 18 = .ok (.isub, 1) := by decide +kernel
theorem dX5_fairest_19 : decode cX5_fairest 19 = .ok (.invokestatic 206, 3) := by decide +kernel
theorem dX5_fairest_22 : decode cX5_fairest 22 = .ok (.istore 4, 2) := by decide +kernel
theorem dX5_fairest_24 : decode cX5_fairest 24 = .ok (.iload_n 1, 1) := by decide +kernel
theorem dX5_fairest_25 : decode cX5_fairest 25 = .ok (.ifCond .lt 12, 3) := by decide +kernel
theorem dX5_fairest_28 : decode cX5_fairest 28 = .ok (.iload 4, 2) := by decide +kernel
theorem dX5_fairest_30 : decode cX5_fairest 30 = .ok (.iload_n 2, 1) := by decide +kernel
theorem dX5_fairest_31 : decode cX5_fairest 31 = .ok (.if_icmp .lt 6, 3) := by decide +kernel
theorem dX5_fairest_34 : decode cX5_fairest 34 = .ok (.goto 8, 3) := by decide +kernel
theorem dX5_fairest_37 : decode cX5_fairest 37 = .ok (.iload_n 3, 1) := by decide +kernel
theorem dX5_fairest_38 : decode cX5_fairest 38 = .ok (.istore_n 1, 1) := by decide +kernel
theorem dX5_fairest_39 : decode cX5_fairest 39 = .ok (.iload 4, 2) := by decide +kernel
theorem dX5_fairest_41 : decode cX5_fairest 41 = .ok (.istore_n 2, 1) := by decide +kernel
theorem dX5_fairest_42 : decode cX5_fairest 42 = .ok (.iinc 3 1, 3) := by decide +kernel
theorem dX5_fairest_45 : decode cX5_fairest 45 = .ok (.goto (-39), 3) := by decide +kernel
theorem dX5_fairest_48 : decode cX5_fairest 48 = .ok (.iload_n 1, 1) := by decide +kernel
theorem dX5_fairest_49 : decode cX5_fairest 49 = .ok (.ireturn, 1) := by decide +kernel
set_option maxRecDepth 20000 in
theorem ggX5_hand_X5_no : GoodIn wsX5_hand wsX5_no := goodIn_r _ [5, 6, 10, 11, 12, 13, 14, 15, 16, 17, 18, 19, 20, 21, 22, 23, 24, 25, 26, 27, 28, 29, 30, 31, 32, 33, 34, 35] (by decide +kernel) (by decide +kernel)
set_option maxRecDepth 20000 in
theorem gX5_hand_X5_no : GoodIn wsX5_hand (wsV RX5 69 RX5 yX5_no wsX5_no) := goodIn_app (goodIn_of _ (by decide +kernel)) ggX5_hand_X5_no
set_option maxRecDepth 20000 in
theorem ggX5_hand_X5_takes : GoodIn wsX5_hand wsX5_takes := goodIn_r _ [9] (by decide +kernel) (by decide +kernel)
set_option maxRecDepth 20000 in
theorem gX5_hand_X5_takes : GoodIn wsX5_hand (va_wsS RX5 136 yX5_takes wsX5_takes) := goodIn_app (goodIn_of _ (by decide +kernel)) ggX5_hand_X5_takes
theorem dX5_hand_0 : decode cX5_hand 0 = .ok (.iload_n 1, 1) := by decide +kernel
theorem dX5_hand_1 : decode cX5_hand 1 = .ok (.ifCond .ge 10, 3) := by decide +kernel
theorem dX5_hand_4 : decode cX5_hand 4 = .ok (.aload_n 0, 1) := by decide +kernel
theorem dX5_hand_5 : decode cX5_hand 5 = .ok (.bipush (-4), 2) := by decide +kernel
theorem dX5_hand_7 : decode cX5_hand 7 = .ok (.invokevirtual 69, 3) := by decide +kernel
theorem dX5_hand_10 : decode cX5_hand 10 = .ok (.ireturn, 1) := by decide +kernel
theorem dX5_hand_11 : decode cX5_hand 11 = .ok (.iload_n 1, 1) := by decide +kernel
theorem dX5_hand_12 : decode cX5_hand 12 = .ok (.bipush 24, 2) := by decide +kernel
theorem dX5_hand_14 : decode cX5_hand 14 = .ok (.if_icmp .le 10, 3) := by decide +kernel
theorem dX5_hand_17 : decode cX5_hand 17 = .ok (.aload_n 0, 1) := by decide +kernel
theorem dX5_hand_18 : decode cX5_hand 18 = .ok (.bipush (-6), 2) := by decide +kernel
theorem dX5_hand_20 : decode cX5_hand 20 = .ok (.invokevirtual 69, 3) := by decide +kernel
theorem dX5_hand_23 : decode cX5_hand 23 = .ok (.ireturn, 1) := by decide +kernel
theorem dX5_hand_24 : decode cX5_hand 24 = .ok (.iconst 0, 1) := by decide +kernel
theorem dX5_hand_25 : decode cX5_hand 25 = .ok (.istore_n 2, 1) := by decide +kernel
theorem dX5_hand_26 : decode cX5_hand 26 = .ok (.iconst 0, 1) := by decide +kernel
theorem dX5_hand_27 : decode cX5_hand 27 = .ok (.istore_n 3, 1) := by decide +kernel
theorem dX5_hand_28 : decode cX5_hand 28 = .ok (.iload_n 3, 1) := by decide +kernel
theorem dX5_hand_29 : decode cX5_hand 29 = .ok (.iconst 3, 1) := by decide +kernel
theorem dX5_hand_30 : decode cX5_hand 30 = .ok (.if_icmp .ge 23, 3) := by decide +kernel
theorem dX5_hand_33 : decode cX5_hand 33 = .ok (.iload_n 3, 1) := by decide +kernel
theorem dX5_hand_34 : decode cX5_hand 34 = .ok (.invokestatic 136, 3) := by decide +kernel
theorem dX5_hand_37 : decode cX5_hand 37 = .ok (.iload_n 1, 1) := by decide +kernel
theorem dX5_hand_38 : decode cX5_hand 38 = .ok (.if_icmp .gt 9, 3) := by decide +kernel
theorem dX5_hand_41 : decode cX5_hand 41 = .ok (.iload_n 2, 1) := by decide +kernel
theorem dX5_hand_42 : decode cX5_hand 42 = .ok (.iconst 1, 1) := by decide +kernel
theorem dX5_hand_43 : decode cX5_hand 43 = .ok (.iload_n 3, 1) := by decide +kernel
theorem dX5_hand_44 : decode cX5_hand 44 = .ok (.ishl, 1) := by decide +kernel
theorem dX5_hand_45 : decode cX5_hand 45 = .ok (.ior, 1) := by decide +kernel
theorem dX5_hand_46 : decode cX5_hand 46 = .ok (.istore_n 2, 1) := by decide +kernel
theorem dX5_hand_47 : decode cX5_hand 47 = .ok (.iinc 3 1, 3) := by decide +kernel
theorem dX5_hand_50 : decode cX5_hand 50 = .ok (.goto (-22), 3) := by decide +kernel
theorem dX5_hand_53 : decode cX5_hand 53 = .ok (.iload_n 2, 1) := by decide +kernel
theorem dX5_hand_54 : decode cX5_hand 54 = .ok (.ireturn, 1) := by decide +kernel
set_option maxRecDepth 20000 in
theorem ggX5_row_X5_no : GoodIn wsX5_row wsX5_no := goodIn_r _ [7, 8, 9, 10, 11, 12, 13, 14, 15, 16, 17, 18, 19, 20, 21, 22, 23, 24, 25, 26, 27, 28, 29, 30, 31, 32, 33, 34] (by decide +kernel) (by decide +kernel)
set_option maxRecDepth 20000 in
theorem gX5_row_X5_no : GoodIn wsX5_row (wsV RX5 69 RX5 yX5_no wsX5_no) := goodIn_app (goodIn_of _ (by decide +kernel)) ggX5_row_X5_no
theorem dX5_row_0 : decode cX5_row 0 = .ok (.iload_n 1, 1) := by decide +kernel
theorem dX5_row_1 : decode cX5_row 1 = .ok (.ifCond .ge 10, 3) := by decide +kernel
theorem dX5_row_4 : decode cX5_row 4 = .ok (.aload_n 0, 1) := by decide +kernel
theorem dX5_row_5 : decode cX5_row 5 = .ok (.bipush (-4), 2) := by decide +kernel
theorem dX5_row_7 : decode cX5_row 7 = .ok (.invokevirtual 69, 3) := by decide +kernel
theorem dX5_row_10 : decode cX5_row 10 = .ok (.ireturn, 1) := by decide +kernel
theorem dX5_row_11 : decode cX5_row 11 = .ok (.iload_n 1, 1) := by decide +kernel
theorem dX5_row_12 : decode cX5_row 12 = .ok (.bipush 9, 2) := by decide +kernel
theorem dX5_row_14 : decode cX5_row 14 = .ok (.if_icmp .gt 12, 3) := by decide +kernel
theorem dX5_row_17 : decode cX5_row 17 = .ok (.aload_n 0, 1) := by decide +kernel
theorem dX5_row_18 : decode cX5_row 18 = .ok (.getfield 209, 3) := by decide +kernel
theorem dX5_row_21 : decode cX5_row 21 = .ok (.bipush 20, 2) := by decide +kernel
theorem dX5_row_23 : decode cX5_row 23 = .ok (.if_icmp .ne 10, 3) := by decide +kernel
theorem dX5_row_26 : decode cX5_row 26 = .ok (.aload_n 0, 1) := by decide +kernel
theorem dX5_row_27 : decode cX5_row 27 = .ok (.bipush (-6), 2) := by decide +kernel
theorem dX5_row_29 : decode cX5_row 29 = .ok (.invokevirtual 69, 3) := by decide +kernel
theorem dX5_row_32 : decode cX5_row 32 = .ok (.ireturn, 1) := by decide +kernel
theorem dX5_row_33 : decode cX5_row 33 = .ok (.aload_n 0, 1) := by decide +kernel
theorem dX5_row_34 : decode cX5_row 34 = .ok (.getfield 37, 3) := by decide +kernel
theorem dX5_row_37 : decode cX5_row 37 = .ok (.aload_n 0, 1) := by decide +kernel
theorem dX5_row_38 : decode cX5_row 38 = .ok (.dup, 1) := by decide +kernel
theorem dX5_row_39 : decode cX5_row 39 = .ok (.getfield 209, 3) := by decide +kernel
theorem dX5_row_42 : decode cX5_row 42 = .ok (.dup_x1, 1) := by decide +kernel
theorem dX5_row_43 : decode cX5_row 43 = .ok (.iconst 1, 1) := by decide +kernel
theorem dX5_row_44 : decode cX5_row 44 = .ok (.iadd, 1) := by decide +kernel
theorem dX5_row_45 : decode cX5_row 45 = .ok (.putfield 209, 3) := by decide +kernel
theorem dX5_row_48 : decode cX5_row 48 = .ok (.iload_n 1, 1) := by decide +kernel
theorem dX5_row_49 : decode cX5_row 49 = .ok (.iastore, 1) := by decide +kernel
theorem dX5_row_50 : decode cX5_row 50 = .ok (.aload_n 0, 1) := by decide +kernel
theorem dX5_row_51 : decode cX5_row 51 = .ok (.getfield 209, 3) := by decide +kernel
theorem dX5_row_54 : decode cX5_row 54 = .ok (.ireturn, 1) := by decide +kernel
set_option maxRecDepth 20000 in
theorem ggX5_judge_X5_ended : GoodIn wsX5_judge wsX5_ended := goodIn_r _ [15, 16, 28, 29, 30, 31, 32, 33, 34, 35, 36, 37, 38, 39, 40, 41, 42, 43, 44, 45, 46, 47, 48, 49, 50, 51, 52, 53] (by decide +kernel) (by decide +kernel)
set_option maxRecDepth 20000 in
theorem gX5_judge_X5_ended : GoodIn wsX5_judge (wsV RX5 160 RX5 yX5_ended wsX5_ended) := goodIn_app (goodIn_of _ (by decide +kernel)) ggX5_judge_X5_ended
set_option maxRecDepth 20000 in
theorem ggX5_judge_X5_isOne : GoodIn wsX5_judge wsX5_isOne := goodIn_r _ [20, 21, 22, 23, 14, 24, 28, 29, 30, 31, 32, 33, 34, 35, 36, 37, 38, 39, 40, 41, 42, 43, 44, 45, 46, 47, 48, 49, 50, 51, 52, 53] (by decide +kernel) (by decide +kernel)
set_option maxRecDepth 20000 in
theorem gX5_judge_X5_isOne : GoodIn wsX5_judge (wsV RX5 131 RX5 yX5_isOne wsX5_isOne) := goodIn_app (goodIn_of _ (by decide +kernel)) ggX5_judge_X5_isOne
set_option maxRecDepth 20000 in
theorem ggX5_judge_X5_takes : GoodIn wsX5_judge wsX5_takes := goodIn_r _ [27] (by decide +kernel) (by decide +kernel)
set_option maxRecDepth 20000 in
theorem gX5_judge_X5_takes : GoodIn wsX5_judge (va_wsS RX5 136 yX5_takes wsX5_takes) := goodIn_app (goodIn_of _ (by decide +kernel)) ggX5_judge_X5_takes
theorem dX5_judge_0 : decode cX5_judge 0 = .ok (.aload_n 0, 1) := by decide +kernel
theorem dX5_judge_1 : decode cX5_judge 1 = .ok (.getfield 209, 3) := by decide +kernel
theorem dX5_judge_4 : decode cX5_judge 4 = .ok (.istore_n 1, 1) := by decide +kernel
theorem dX5_judge_5 : decode cX5_judge 5 = .ok (.aload_n 0, 1) := by decide +kernel
theorem dX5_judge_6 : decode cX5_judge 6 = .ok (.iconst 0, 1) := by decide +kernel
theorem dX5_judge_7 : decode cX5_judge 7 = .ok (.putfield 209, 3) := by decide +kernel
theorem dX5_judge_10 : decode cX5_judge 10 = .ok (.aload_n 0, 1) := by decide +kernel
theorem dX5_judge_11 : decode cX5_judge 11 = .ok (.getfield 55, 3) := by decide +kernel
theorem dX5_judge_14 : decode cX5_judge 14 = .ok (.istore_n 2, 1) := by decide +kernel
theorem dX5_judge_15 : decode cX5_judge 15 = .ok (.aload_n 0, 1) := by decide +kernel
theorem dX5_judge_16 : decode cX5_judge 16 = .ok (.getfield 101, 3) := by decide +kernel
theorem dX5_judge_19 : decode cX5_judge 19 = .ok (.istore_n 3, 1) := by decide +kernel
theorem dX5_judge_20 : decode cX5_judge 20 = .ok (.iconst 0, 1) := by decide +kernel
theorem dX5_judge_21 : decode cX5_judge 21 = .ok (.istore 4, 2) := by decide +kernel
theorem dX5_judge_23 : decode cX5_judge 23 = .ok (.iload 4, 2) := by decide +kernel
theorem dX5_judge_25 : decode cX5_judge 25 = .ok (.iload_n 1, 1) := by decide +kernel
theorem dX5_judge_26 : decode cX5_judge 26 = .ok (.if_icmp .ge 115, 3) := by decide +kernel
theorem dX5_judge_29 : decode cX5_judge 29 = .ok (.iload 4, 2) := by decide +kernel
theorem dX5_judge_31 : decode cX5_judge 31 = .ok (.iconst 1, 1) := by decide +kernel
theorem dX5_judge_32 : decode cX5_judge 32 = .ok (.iadd, 1) := by decide +kernel
theorem dX5_judge_33 : decode cX5_judge 33 = .ok (.iload_n 1, 1) := by decide +kernel
theorem dX5_judge_34 : decode cX5_judge 34 = .ok (.if_icmp .eq 15, 3) := by decide +kernel
theorem dX5_judge_37 : decode cX5_judge 37 = .ok (.aload_n 0, 1) := by decide +kernel
theorem dX5_judge_38 : decode cX5_judge 38 = .ok (.iload_n 2, 1) := by decide +kernel
theorem dX5_judge_39 : decode cX5_judge 39 = .ok (.aload_n 0, 1) := by decide +kernel
theorem dX5_judge_40 : decode cX5_judge 40 = .ok (.getfield 59, 3) := by decide +kernel
theorem dX5_judge_43 : decode cX5_judge 43 = .ok (.invokevirtual 160, 3) := by decide +kernel
theorem dX5_judge_46 : decode cX5_judge 46 = .ok (.ifCond .eq 6, 3) := by decide +kernel
theorem dX5_judge_49 : decode cX5_judge 49 = .ok (.iload 4, 2) := by decide +kernel
theorem dX5_judge_51 : decode cX5_judge 51 = .ok (.ireturn, 1) := by decide +kernel
theorem dX5_judge_52 : decode cX5_judge 52 = .ok (.aload_n 0, 1) := by decide +kernel
theorem dX5_judge_53 : decode cX5_judge 53 = .ok (.getfield 37, 3) := by decide +kernel
theorem dX5_judge_56 : decode cX5_judge 56 = .ok (.iload 4, 2) := by decide +kernel
theorem dX5_judge_58 : decode cX5_judge 58 = .ok (.iconst 1, 1) := by decide +kernel
theorem dX5_judge_59 : decode cX5_judge 59 = .ok (.iadd, 1) := by decide +kernel
theorem dX5_judge_60 : decode cX5_judge 60 = .ok (.iaload, 1) := by decide +kernel
theorem dX5_judge_61 : decode cX5_judge 61 = .ok (.istore 5, 2) := by decide +kernel
theorem dX5_judge_63 : decode cX5_judge 63 = .ok (.iload 5, 2) := by decide +kernel
theorem dX5_judge_65 : decode cX5_judge 65 = .ok (.iconst 3, 1) := by decide +kernel
theorem dX5_judge_66 : decode cX5_judge 66 = .ok (.if_icmp .eq 36, 3) := by decide +kernel
theorem dX5_judge_69 : decode cX5_judge 69 = .ok (.aload_n 0, 1) := by decide +kernel
theorem dX5_judge_70 : decode cX5_judge 70 = .ok (.aload_n 0, 1) := by decide +kernel
theorem dX5_judge_71 : decode cX5_judge 71 = .ok (.getfield 37, 3) := by decide +kernel
theorem dX5_judge_74 : decode cX5_judge 74 = .ok (.iload 4, 2) := by decide +kernel
theorem dX5_judge_76 : decode cX5_judge 76 = .ok (.iaload, 1) := by decide +kernel
theorem dX5_judge_77 : decode cX5_judge 77 = .ok (.invokevirtual 131, 3) := by decide +kernel
theorem dX5_judge_80 : decode cX5_judge 80 = .ok (.ifCond .eq 19, 3) := by decide +kernel
theorem dX5_judge_83 : decode cX5_judge 83 = .ok (.aload_n 0, 1) := by decide +kernel
theorem dX5_judge_84 : decode cX5_judge 84 = .ok (.getfield 16, 3) := by decide +kernel
theorem dX5_judge_87 : decode cX5_judge 87 = .ok (.aload_n 0, 1) := by decide +kernel
theorem dX5_judge_88 : decode cX5_judge 88 = .ok (.getfield 37, 3) := by decide +kernel
theorem dX5_judge_91 : decode cX5_judge 91 = .ok (.iload 4, 2) := by decide +kernel
theorem dX5_judge_93 : decode cX5_judge 93 = .ok (.iaload, 1) := by decide +kernel
theorem dX5_judge_94 : decode cX5_judge 94 = .ok (.iaload, 1) := by decide +kernel
theorem dX5_judge_95 : decode cX5_judge 95 = .ok (.iload_n 3, 1) := by decide +kernel
theorem dX5_judge_96 : decode cX5_judge 96 = .ok (.if_icmp .eq 6, 3) := by decide +kernel
theorem dX5_judge_99 : decode cX5_judge 99 = .ok (.iload 4, 2) := by decide +kernel
theorem dX5_judge_101 : decode cX5_judge 101 = .ok (.ireturn, 1) := by decide +kernel
theorem dX5_judge_102 : decode cX5_judge 102 = .ok (.iload 5, 2) := by decide +kernel
theorem dX5_judge_104 : decode cX5_judge 104 = .ok (.iconst 3, 1) := by decide +kernel
theorem dX5_judge_105 : decode cX5_judge 105 = .ok (.if_icmp .le 8, 3) := by decide +kernel
theorem dX5_judge_108 : decode cX5_judge 108 = .ok (.iload 4, 2) := by decide +kernel
theorem dX5_judge_110 : decode cX5_judge 110 = .ok (.iconst 1, 1) := by decide +kernel
theorem dX5_judge_111 : decode cX5_judge 111 = .ok (.iadd, 1) := by decide +kernel
theorem dX5_judge_112 : decode cX5_judge 112 = .ok (.ireturn, 1) := by decide +kernel
theorem dX5_judge_113 : decode cX5_judge 113 = .ok (.iconst 0, 1) := by decide +kernel
theorem dX5_judge_114 : decode cX5_judge 114 = .ok (.iload_n 2, 1) := by decide +kernel
theorem dX5_judge_115 : decode cX5_judge 115 = .ok (.iload 5, 2) := by decide +kernel
theorem dX5_judge_117 : decode cX5_judge 117 = .ok (.invokestatic 136, 3) := by decide +kernel
theorem dX5_judge_120 : decode cX5_judge 120 = .ok (.isub, 1) := by decide +kernel
theorem dX5_judge_121 : decode cX5_judge 121 = .ok (.invokestatic 124, 3) := by decide +kernel
theorem dX5_judge_124 : decode cX5_judge 124 = .ok (.istore_n 2, 1) := by decide +kernel
theorem dX5_judge_125 : decode cX5_judge 125 = .ok (.iload 5, 2) := by decide +kernel
theorem dX5_judge_127 : decode cX5_judge 127 = .ok (.iconst 3, 1) := by decide +kernel
theorem dX5_judge_128 : decode cX5_judge 128 = .ok (.if_icmp .ge 7, 3) := by decide +kernel
theorem dX5_judge_131 : decode cX5_judge 131 = .ok (.iconst 1, 1) := by decide +kernel
theorem dX5_judge_132 : decode cX5_judge 132 = .ok (.iload_n 3, 1) := by decide +kernel
theorem dX5_judge_133 : decode cX5_judge 133 = .ok (.isub, 1) := by decide +kernel
theorem dX5_judge_134 : decode cX5_judge 134 = .ok (.istore_n 3, 1) := by decide +kernel
theorem dX5_judge_135 : decode cX5_judge 135 = .ok (.iinc 4 2, 3) := by decide +kernel
theorem dX5_judge_138 : decode cX5_judge 138 = .ok (.goto (-115), 3) := by decide +kernel
theorem dX5_judge_141 : decode cX5_judge 141 = .ok (.bipush (-9), 2) := by decide +kernel
theorem dX5_judge_143 : decode cX5_judge 143 = .ok (.ireturn, 1) := by decide +kernel
set_option maxRecDepth 20000 in
theorem ggX5_lots_X5_no : GoodIn wsX5_lots wsX5_no := goodIn_r _ [20, 21, 81, 82, 83, 84, 85, 86, 87, 88, 89, 90, 91, 92, 93, 94, 95, 96, 97, 98, 99, 100, 101, 102, 103, 104, 105, 106] (by decide +kernel) (by decide +kernel)
set_option maxRecDepth 20000 in
theorem gX5_lots_X5_no : GoodIn wsX5_lots (wsV RX5 69 RX5 yX5_no wsX5_no) := goodIn_app (goodIn_of _ (by decide +kernel)) ggX5_lots_X5_no
set_option maxRecDepth 20000 in
theorem ggX5_lots_X5_solve : GoodIn wsX5_lots wsX5_solve := goodIn_r _ [25, 26, 27, 28, 29, 19, 30, 7, 31, 32, 33, 34, 35, 36, 37, 38, 39, 40, 41, 42, 43, 44, 45, 46, 47, 48, 49, 50, 51, 52, 8, 9, 10, 11, 12, 13, 14, 15, 53, 54, 55, 56, 57, 58, 59, 60, 61, 62, 63, 64, 65, 66, 67, 68, 69, 70, 71, 72, 73, 74, 75, 76, 77, 78, 79, 80, 81, 82, 83, 84, 85, 86, 87, 88, 89, 90, 91, 92, 93, 94, 95, 96, 97, 98, 99, 100, 101, 102, 103, 104, 105, 106] (by decide +kernel) (by decide +kernel)
set_option maxRecDepth 20000 in
theorem gX5_lots_X5_solve : GoodIn wsX5_lots (wsV RX5 170 RX5 yX5_solve wsX5_solve) := goodIn_app (goodIn_of _ (by decide +kernel)) ggX5_lots_X5_solve
set_option maxRecDepth 20000 in
theorem ggX5_lots_X5_ended : GoodIn wsX5_lots wsX5_ended := goodIn_r _ [30, 7, 81, 82, 83, 84, 85, 86, 87, 88, 89, 90, 91, 92, 93, 94, 95, 96, 97, 98, 99, 100, 101, 102, 103, 104, 105, 106] (by decide +kernel) (by decide +kernel)
set_option maxRecDepth 20000 in
theorem gX5_lots_X5_ended : GoodIn wsX5_lots (wsV RX5 160 RX5 yX5_ended wsX5_ended) := goodIn_app (goodIn_of _ (by decide +kernel)) ggX5_lots_X5_ended
set_option maxRecDepth 20000 in
theorem ggX5_lots_X5_choice : GoodIn wsX5_lots wsX5_choice := goodIn_r _ [41, 42, 43, 44, 45, 19, 46, 47, 48, 49, 50, 51, 52, 7, 8, 9, 10, 11, 12, 13, 14, 15, 53, 54, 55, 56, 31, 32, 33, 34, 35, 36, 37, 57, 58, 59, 60, 61, 62, 63, 64, 65, 66, 67, 68, 69, 70, 71, 72, 26, 73, 74, 75, 76, 81, 82, 83, 84, 85, 86, 87, 88, 89, 90, 91, 92, 93, 94, 95, 96, 97, 98, 99, 100, 101, 102, 103, 104, 105, 106] (by decide +kernel) (by decide +kernel)
set_option maxRecDepth 20000 in
theorem gX5_lots_X5_choice : GoodIn wsX5_lots (wsV RX5 163 RX5 yX5_choice wsX5_choice) := goodIn_app (goodIn_of _ (by decide +kernel)) ggX5_lots_X5_choice
set_option maxRecDepth 20000 in
theorem ggX5_lots_X5_takes : GoodIn wsX5_lots wsX5_takes := goodIn_r _ [56] (by decide +kernel) (by decide +kernel)
set_option maxRecDepth 20000 in
theorem gX5_lots_X5_takes : GoodIn wsX5_lots (va_wsS RX5 136 yX5_takes wsX5_takes) := goodIn_app (goodIn_of _ (by decide +kernel)) ggX5_lots_X5_takes
set_option maxRecDepth 20000 in
theorem ggX5_lots_X5_odds : GoodIn wsX5_lots wsX5_odds := goodIn_r _ [60, 48, 8, 9, 10, 11, 61, 62, 63, 19, 64, 65, 66, 67, 68, 12, 13, 14, 81, 82, 83, 84, 85, 86, 87, 88, 89, 90, 91, 92, 93, 94, 95, 96, 97, 98, 99, 100, 101, 102, 103, 104, 105, 106] (by decide +kernel) (by decide +kernel)
set_option maxRecDepth 20000 in
theorem gX5_lots_X5_odds : GoodIn wsX5_lots (wsV RX5 142 RX5 yX5_odds wsX5_odds) := goodIn_app (goodIn_of _ (by decide +kernel)) ggX5_lots_X5_odds
theorem dX5_lots_0 : decode cX5_lots 0 = .ok (.iload_n 1, 1) := by decide +kernel
theorem dX5_lots_1 : decode cX5_lots 1 = .ok (.iconst 1, 1) := by decide +kernel
theorem dX5_lots_2 : decode cX5_lots 2 = .ok (.if_icmp .ge 10, 3) := by decide +kernel
theorem dX5_lots_5 : decode cX5_lots 5 = .ok (.aload_n 0, 1) := by decide +kernel
theorem dX5_lots_6 : decode cX5_lots 6 = .ok (.bipush (-4), 2) := by decide +kernel
theorem dX5_lots_8 : decode cX5_lots 8 = .ok (.invokevirtual 69, 3) := by decide +kernel
theorem dX5_lots_11 : decode cX5_lots 11 = .ok (.ireturn, 1) := by decide +kernel
theorem dX5_lots_12 : decode cX5_lots 12 = .ok (.iload_n 1, 1) := by decide +kernel
theorem dX5_lots_13 : decode cX5_lots 13 = .ok (.bipush 30, 2) := by decide +kernel
theorem dX5_lots_15 : decode cX5_lots 15 = .ok (.if_icmp .le 10, 3) := by decide +kernel
theorem dX5_lots_18 : decode cX5_lots 18 = .ok (.aload_n 0, 1) := by decide +kernel
theorem dX5_lots_19 : decode cX5_lots 19 = .ok (.bipush (-6), 2) := by decide +kernel
theorem dX5_lots_21 : decode cX5_lots 21 = .ok (.invokevirtual 69, 3) := by decide +kernel
theorem dX5_lots_24 : decode cX5_lots 24 = .ok (.ireturn, 1) := by decide +kernel
theorem dX5_lots_25 : decode cX5_lots 25 = .ok (.aload_n 0, 1) := by decide +kernel
theorem dX5_lots_26 : decode cX5_lots 26 = .ok (.invokevirtual 170, 3) := by decide +kernel
theorem dX5_lots_29 : decode cX5_lots 29 = .ok (.iload_n 2, 1) := by decide +kernel
theorem dX5_lots_30 : decode cX5_lots 30 = .ok (.istore_n 3, 1) := by decide +kernel
theorem dX5_lots_31 : decode cX5_lots 31 = .ok (.iconst 0, 1) := by decide +kernel
theorem dX5_lots_32 : decode cX5_lots 32 = .ok (.istore 4, 2) := by decide +kernel
theorem dX5_lots_34 : decode cX5_lots 34 = .ok (.iconst 0, 1) := by decide +kernel
theorem dX5_lots_35 : decode cX5_lots 35 = .ok (.istore 5, 2) := by decide +kernel
theorem dX5_lots_37 : decode cX5_lots 37 = .ok (.iload 5, 2) := by decide +kernel
theorem dX5_lots_39 : decode cX5_lots 39 = .ok (.iload_n 1, 1) := by decide +kernel
theorem dX5_lots_40 : decode cX5_lots 40 = .ok (.if_icmp .ge 300, 3) := by decide +kernel
theorem dX5_lots_43 : decode cX5_lots 43 = .ok (.aload_n 0, 1) := by decide +kernel
theorem dX5_lots_44 : decode cX5_lots 44 = .ok (.getfield 55, 3) := by decide +kernel
theorem dX5_lots_47 : decode cX5_lots 47 = .ok (.istore 6, 2) := by decide +kernel
theorem dX5_lots_49 : decode cX5_lots 49 = .ok (.aload_n 0, 1) := by decide +kernel
theorem dX5_lots_50 : decode cX5_lots 50 = .ok (.getfield 59, 3) := by decide +kernel
theorem dX5_lots_53 : decode cX5_lots 53 = .ok (.istore 7, 2) := by decide +kernel
theorem dX5_lots_55 : decode cX5_lots 55 = .ok (.aload_n 0, 1) := by decide +kernel
theorem dX5_lots_56 : decode cX5_lots 56 = .ok (.getfield 101, 3) := by decide +kernel
theorem dX5_lots_59 : decode cX5_lots 59 = .ok (.istore 8, 2) := by decide +kernel
theorem dX5_lots_61 : decode cX5_lots 61 = .ok (.aload_n 0, 1) := by decide +kernel
theorem dX5_lots_62 : decode cX5_lots 62 = .ok (.iload 6, 2) := by decide +kernel
theorem dX5_lots_64 : decode cX5_lots 64 = .ok (.iload 7, 2) := by decide +kernel
theorem dX5_lots_66 : decode cX5_lots 66 = .ok (.invokevirtual 160, 3) := by decide +kernel
theorem dX5_lots_69 : decode cX5_lots 69 = .ok (.ifCond .ne 245, 3) := by decide +kernel
theorem dX5_lots_72 : decode cX5_lots 72 = .ok (.aload_n 0, 1) := by decide +kernel
theorem dX5_lots_73 : decode cX5_lots 73 = .ok (.iload 6, 2) := by decide +kernel
theorem dX5_lots_75 : decode cX5_lots 75 = .ok (.iload 7, 2) := by decide +kernel
theorem dX5_lots_77 : decode cX5_lots 77 = .ok (.iload 8, 2) := by decide +kernel
theorem dX5_lots_79 : decode cX5_lots 79 = .ok (.invokevirtual 163, 3) := by decide +kernel
theorem dX5_lots_82 : decode cX5_lots 82 = .ok (.istore 9, 2) := by decide +kernel
theorem dX5_lots_84 : decode cX5_lots 84 = .ok (.iload 9, 2) := by decide +kernel
theorem dX5_lots_86 : decode cX5_lots 86 = .ok (.bipush 93, 2) := by decide +kernel
