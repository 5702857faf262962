theorem dX4_twoOrThree_49 : decode cX4_twoOrThree 49 = .ok (.isub, 1) := by decide +kernel
theorem dX4_twoOrThree_50 : decode cX4_twoOrThree 50 = .ok (.ireturn, 1) := by decide +kernel
set_option maxRecDepth 20000 in
theorem ggX4_rebound_X1_start : GoodIn wsX4_rebound wsX1_start := goodIn_r _ [7, 8, 9, 10, 11, 12, 13, 14, 15, 16, 17, 18, 19, 20, 21, 22, 23, 24, 25, 26, 27, 28, 29, 30, 151, 152, 153, 154, 155, 156, 157, 158, 159, 160, 161, 162, 163, 164, 165] (by decide +kernel) (by decide +kernel)
set_option maxRecDepth 20000 in
theorem gX4_rebound_X1_start : GoodIn wsX4_rebound (wsV RX4 86 RX1 yX1_start wsX1_start) := goodIn_app (goodIn_of _ (by decide +kernel)) ggX4_rebound_X1_start
set_option maxRecDepth 20000 in
theorem ggX4_rebound_X1_changeRebound : GoodIn wsX4_rebound wsX1_changeRebound := goodIn_r _ [34, 10, 151, 152, 153, 154, 155, 156, 157, 158, 159, 160, 161] (by decide +kernel) (by decide +kernel)
set_option maxRecDepth 20000 in
theorem gX4_rebound_X1_changeRebound : GoodIn wsX4_rebound (wsV RX4 149 RX1 yX1_changeRebound wsX1_changeRebound) := goodIn_app (goodIn_of _ (by decide +kernel)) ggX4_rebound_X1_changeRebound
set_option maxRecDepth 20000 in
theorem ggX4_rebound_X4_otherValueNow : GoodIn wsX4_rebound wsX4_otherValueNow := goodIn_r _ [39, 2, 1, 40, 26, 27, 28, 29, 30, 41, 42, 43, 6, 44, 45, 46, 47, 48, 13, 49, 50, 51, 52, 53, 54, 55, 56, 57, 8, 58, 59, 60, 17, 61, 62, 63, 64, 65, 66, 67, 68, 69, 20, 70, 71, 72, 73, 9, 74, 75, 76, 77, 78, 79, 80, 81, 82, 83, 84, 85, 86, 87, 11, 88, 89, 90, 91, 92, 93, 94, 95, 12, 96, 97, 98, 99, 100, 101, 102, 103, 104, 105, 106, 107, 38, 108, 109, 110, 111, 112, 113, 114, 115, 116, 117, 118, 119, 120, 121, 122, 123, 124, 125, 126, 127, 10, 128, 129, 130, 131, 132, 133, 134, 19, 135, 136, 137, 138, 139, 140, 141, 142, 143, 144, 145, 146, 147, 148, 149, 150, 162, 163, 151, 152, 153, 154, 155, 156, 157, 158, 159, 160, 161, 164, 165] (by decide +kernel) (by decide +kernel)
set_option maxRecDepth 20000 in
theorem gX4_rebound_X4_otherValueNow : GoodIn wsX4_rebound (wsV RX4 152 RX4 yX4_otherValueNow wsX4_otherValueNow) := goodIn_app (goodIn_of _ (by decide +kernel)) ggX4_rebound_X4_otherValueNow
theorem dX4_rebound_0 : decode cX4_rebound 0 = .ok (.aload_n 0, 1) := by decide +kernel
theorem dX4_rebound_1 : decode cX4_rebound 1 = .ok (.getfield 48, 3) := by decide +kernel
theorem dX4_rebound_4 : decode cX4_rebound 4 = .ok (.aload_n 0, 1) := by decide +kernel
theorem dX4_rebound_5 : decode cX4_rebound 5 = .ok (.getfield 10, 3) := by decide +kernel
theorem dX4_rebound_8 : decode cX4_rebound 8 = .ok (.invokevirtual 86, 3) := by decide +kernel
theorem dX4_rebound_11 : decode cX4_rebound 11 = .ok (.aload_n 0, 1) := by decide +kernel
theorem dX4_rebound_12 : decode cX4_rebound 12 = .ok (.getfield 48, 3) := by decide +kernel
theorem dX4_rebound_15 : decode cX4_rebound 15 = .ok (.bipush 9, 2) := by decide +kernel
theorem dX4_rebound_17 : decode cX4_rebound 17 = .ok (.invokevirtual 149, 3) := by decide +kernel
theorem dX4_rebound_20 : decode cX4_rebound 20 = .ok (.aload_n 0, 1) := by decide +kernel
theorem dX4_rebound_21 : decode cX4_rebound 21 = .ok (.invokevirtual 152, 3) := by decide +kernel
theorem dX4_rebound_24 : decode cX4_rebound 24 = .ok (.istore_n 1, 1) := by decide +kernel
theorem dX4_rebound_25 : decode cX4_rebound 25 = .ok (.aload_n 0, 1) := by decide +kernel
theorem dX4_rebound_26 : decode cX4_rebound 26 = .ok (.getfield 48, 3) := by decide +kernel
theorem dX4_rebound_29 : decode cX4_rebound 29 = .ok (.aload_n 0, 1) := by decide +kernel
theorem dX4_rebound_30 : decode cX4_rebound 30 = .ok (.getfield 10, 3) := by decide +kernel
theorem dX4_rebound_33 : decode cX4_rebound 33 = .ok (.invokevirtual 86, 3) := by decide +kernel
theorem dX4_rebound_36 : decode cX4_rebound 36 = .ok (.aload_n 0, 1) := by decide +kernel
theorem dX4_rebound_37 : decode cX4_rebound 37 = .ok (.getfield 48, 3) := by decide +kernel
theorem dX4_rebound_40 : decode cX4_rebound 40 = .ok (.iconst 0, 1) := by decide +kernel
theorem dX4_rebound_41 : decode cX4_rebound 41 = .ok (.invokevirtual 149, 3) := by decide +kernel
theorem dX4_rebound_44 : decode cX4_rebound 44 = .ok (.iload_n 1, 1) := by decide +kernel
theorem dX4_rebound_45 : decode cX4_rebound 45 = .ok (.aload_n 0, 1) := by decide +kernel
theorem dX4_rebound_46 : decode cX4_rebound 46 = .ok (.invokevirtual 152, 3) := by decide +kernel
theorem dX4_rebound_49 : decode cX4_rebound 49 = .ok (.isub, 1) := by decide +kernel
theorem dX4_rebound_50 : decode cX4_rebound 50 = .ok (.ireturn, 1) := by decide +kernel
set_option maxRecDepth 20000 in
theorem ggX4_foul_X3_has : GoodIn wsX4_foul wsX3_has := goodIn_r _ [6, 7, 159, 160] (by decide +kernel) (by decide +kernel)
set_option maxRecDepth 20000 in
theorem gX4_foul_X3_has : GoodIn wsX4_foul (wsV RX4 93 RX3 yX3_has wsX3_has) := goodIn_app (goodIn_of _ (by decide +kernel)) ggX4_foul_X3_has
set_option maxRecDepth 20000 in
theorem ggX4_foul_X4_refused : GoodIn wsX4_foul wsX4_refused := goodIn_r _ [12, 13, 147, 148, 149, 150, 151, 152, 153, 154, 155, 156] (by decide +kernel) (by decide +kernel)
set_option maxRecDepth 20000 in
theorem gX4_foul_X4_refused : GoodIn wsX4_foul (wsV RX4 62 RX4 yX4_refused wsX4_refused) := goodIn_app (goodIn_of _ (by decide +kernel)) ggX4_foul_X4_refused
set_option maxRecDepth 20000 in
theorem ggX4_foul_X4_mayFoul : GoodIn wsX4_foul wsX4_mayFoul := goodIn_r _ [17, 1, 18, 19, 20, 21, 22, 23, 24, 25, 26, 27, 11, 28, 29, 30, 31, 32, 33, 34, 35, 36, 37, 38, 39, 147, 148, 149, 150, 151, 152, 153, 154, 155, 156, 157, 158, 161, 162, 163, 164, 165, 166, 167, 168, 169, 170, 171] (by decide +kernel) (by decide +kernel)
set_option maxRecDepth 20000 in
theorem gX4_foul_X4_mayFoul : GoodIn wsX4_foul (wsV RX4 155 RX4 yX4_mayFoul wsX4_mayFoul) := goodIn_app (goodIn_of _ (by decide +kernel)) ggX4_foul_X4_mayFoul
set_option maxRecDepth 20000 in
theorem ggX4_foul_X3_fact : GoodIn wsX4_foul wsX3_fact := goodIn_r _ [43, 44, 159, 160] (by decide +kernel) (by decide +kernel)
set_option maxRecDepth 20000 in
theorem gX4_foul_X3_fact : GoodIn wsX4_foul (wsV RX4 97 RX3 yX3_fact wsX3_fact) := goodIn_app (goodIn_of _ (by decide +kernel)) ggX4_foul_X3_fact
set_option maxRecDepth 20000 in
theorem ggX4_foul_X0_told : GoodIn wsX4_foul wsX0_told := goodIn_r _ [23, 24, 157, 158] (by decide +kernel) (by decide +kernel)
set_option maxRecDepth 20000 in
theorem gX4_foul_X0_told : GoodIn wsX4_foul (wsV RX4 107 RX0 yX0_told wsX0_told) := goodIn_app (goodIn_of _ (by decide +kernel)) ggX4_foul_X0_told
set_option maxRecDepth 20000 in
theorem ggX4_foul_X4_valueOfTwoFree : GoodIn wsX4_foul wsX4_valueOfTwoFree := goodIn_r _ [48, 29, 1, 19, 20, 21, 22, 23, 24, 49, 50, 51, 33, 52, 53, 54, 38, 55, 56, 57, 58, 59, 60, 61, 62, 63, 64, 65, 66, 67, 68, 69, 5, 70, 71, 72, 73, 74, 75, 41, 42, 43, 44, 76, 77, 78, 79, 80, 81, 82, 83, 84, 85, 86, 87, 88, 89, 90, 91, 31, 32, 34, 35, 36, 37, 39, 92, 93, 94, 95, 96, 97, 98, 99, 100, 101, 102, 103, 104, 105, 106, 107, 108, 109, 11, 110, 111, 112, 113, 114, 115, 116, 117, 118, 119, 120, 121, 122, 123, 124, 125, 126, 127, 128, 129, 130, 131, 132, 133, 134, 135, 136, 137, 7, 138, 139, 140, 141, 142, 143, 40, 144, 145, 146, 147, 148, 149, 150, 151, 152, 153, 154, 155, 156, 157, 158, 161, 162, 163, 164, 165, 166, 167, 168, 169, 170, 171, 159, 160] (by decide +kernel) (by decide +kernel)
set_option maxRecDepth 20000 in
theorem gX4_foul_X4_valueOfTwoFree : GoodIn wsX4_foul (wsV RX4 158 RX4 yX4_valueOfTwoFree wsX4_valueOfTwoFree) := goodIn_app (goodIn_of _ (by decide +kernel)) ggX4_foul_X4_valueOfTwoFree
theorem dX4_foul_0 : decode cX4_foul 0 = .ok (.aload_n 0, 1) := by decide +kernel
theorem dX4_foul_1 : decode cX4_foul 1 = .ok (.getfield 10, 3) := by decide +kernel
theorem dX4_foul_4 : decode cX4_foul 4 = .ok (.getfield 69, 3) := by decide +kernel
theorem dX4_foul_7 : decode cX4_foul 7 = .ok (.iload_n 1, 1) := by decide +kernel
theorem dX4_foul_8 : decode cX4_foul 8 = .ok (.invokevirtual 93, 3) := by decide +kernel
theorem dX4_foul_11 : decode cX4_foul 11 = .ok (.ifCond .ne 9, 3) := by decide +kernel
theorem dX4_foul_14 : decode cX4_foul 14 = .ok (.aload_n 0, 1) := by decide +kernel
theorem dX4_foul_15 : decode cX4_foul 15 = .ok (.iconst (-1), 1) := by decide +kernel
theorem dX4_foul_16 : decode cX4_foul 16 = .ok (.invokevirtual 62, 3) := by decide +kernel
theorem dX4_foul_19 : decode cX4_foul 19 = .ok (.ireturn, 1) := by decide +kernel
theorem dX4_foul_20 : decode cX4_foul 20 = .ok (.aload_n 0, 1) := by decide +kernel
theorem dX4_foul_21 : decode cX4_foul 21 = .ok (.invokevirtual 155, 3) := by decide +kernel
theorem dX4_foul_24 : decode cX4_foul 24 = .ok (.ifCond .eq 19, 3) := by decide +kernel
theorem dX4_foul_27 : decode cX4_foul 27 = .ok (.aload_n 0, 1) := by decide +kernel
theorem dX4_foul_28 : decode cX4_foul 28 = .ok (.getfield 10, 3) := by decide +kernel
theorem dX4_foul_31 : decode cX4_foul 31 = .ok (.getfield 69, 3) := by decide +kernel
theorem dX4_foul_34 : decode cX4_foul 34 = .ok (.iload_n 1, 1) := by decide +kernel
theorem dX4_foul_35 : decode cX4_foul 35 = .ok (.iconst 0, 1) := by decide +kernel
theorem dX4_foul_36 : decode cX4_foul 36 = .ok (.invokevirtual 97, 3) := by decide +kernel
theorem dX4_foul_39 : decode cX4_foul 39 = .ok (.iconst 1, 1) := by decide +kernel
theorem dX4_foul_40 : decode cX4_foul 40 = .ok (.if_icmp .eq 10, 3) := by decide +kernel
theorem dX4_foul_43 : decode cX4_foul 43 = .ok (.aload_n 0, 1) := by decide +kernel
theorem dX4_foul_44 : decode cX4_foul 44 = .ok (.bipush (-3), 2) := by decide +kernel
theorem dX4_foul_46 : decode cX4_foul 46 = .ok (.invokevirtual 62, 3) := by decide +kernel
theorem dX4_foul_49 : decode cX4_foul 49 = .ok (.ireturn, 1) := by decide +kernel
theorem dX4_foul_50 : decode cX4_foul 50 = .ok (.aload_n 0, 1) := by decide +kernel
theorem dX4_foul_51 : decode cX4_foul 51 = .ok (.iload_n 1, 1) := by decide +kernel
theorem dX4_foul_52 : decode cX4_foul 52 = .ok (.aload_n 0, 1) := by decide +kernel
theorem dX4_foul_53 : decode cX4_foul 53 = .ok (.getfield 10, 3) := by decide +kernel
theorem dX4_foul_56 : decode cX4_foul 56 = .ok (.iconst 0, 1) := by decide +kernel
theorem dX4_foul_57 : decode cX4_foul 57 = .ok (.invokevirtual 107, 3) := by decide +kernel
theorem dX4_foul_60 : decode cX4_foul 60 = .ok (.iconst 1, 1) := by decide +kernel
theorem dX4_foul_61 : decode cX4_foul 61 = .ok (.isub, 1) := by decide +kernel
theorem dX4_foul_62 : decode cX4_foul 62 = .ok (.iconst 0, 1) := by decide +kernel
theorem dX4_foul_63 : decode cX4_foul 63 = .ok (.invokevirtual 158, 3) := by decide +kernel
theorem dX4_foul_66 : decode cX4_foul 66 = .ok (.ireturn, 1) := by decide +kernel
set_option maxRecDepth 20000 in
theorem ggX4_whom_X4_refused : GoodIn wsX4_whom wsX4_refused := goodIn_r _ [6, 7, 152, 153, 154, 155, 156, 157, 158, 159, 160, 161] (by decide +kernel) (by decide +kernel)
set_option maxRecDepth 20000 in
theorem gX4_whom_X4_refused : GoodIn wsX4_whom (wsV RX4 62 RX4 yX4_refused wsX4_refused) := goodIn_app (goodIn_of _ (by decide +kernel)) ggX4_whom_X4_refused
set_option maxRecDepth 20000 in
theorem ggX4_whom_X4_mayFoul : GoodIn wsX4_whom wsX4_mayFoul := goodIn_r _ [11, 1, 12, 13, 14, 15, 16, 17, 18, 19, 20, 21, 5, 22, 23, 24, 25, 26, 27, 28, 29, 30, 31, 32, 33, 152, 153, 154, 155, 156, 157, 158, 159, 160, 161, 162, 163, 164, 165, 166, 167, 168, 169, 170, 171, 172, 173, 174] (by decide +kernel) (by decide +kernel)
set_option maxRecDepth 20000 in
theorem gX4_whom_X4_mayFoul : GoodIn wsX4_whom (wsV RX4 155 RX4 yX4_mayFoul wsX4_mayFoul) := goodIn_app (goodIn_of _ (by decide +kernel)) ggX4_whom_X4_mayFoul
set_option maxRecDepth 20000 in
theorem ggX4_whom_X3_ofSide : GoodIn wsX4_whom wsX3_ofSide := goodIn_r _ [38, 39, 40, 41, 42, 37, 43, 44, 175, 176] (by decide +kernel) (by decide +kernel)
set_option maxRecDepth 20000 in
theorem gX4_whom_X3_ofSide : GoodIn wsX4_whom (wsV RX4 140 RX3 yX3_ofSide wsX3_ofSide) := goodIn_app (goodIn_of _ (by decide +kernel)) ggX4_whom_X3_ofSide
set_option maxRecDepth 20000 in
theorem ggX4_whom_X3_players : GoodIn wsX4_whom wsX3_players := goodIn_r _ [48, 39, 175, 176] (by decide +kernel) (by decide +kernel)
set_option maxRecDepth 20000 in
theorem gX4_whom_X3_players : GoodIn wsX4_whom (wsV RX4 73 RX3 yX3_players wsX3_players) := goodIn_app (goodIn_of _ (by decide +kernel)) ggX4_whom_X3_players
set_option maxRecDepth 20000 in
theorem ggX4_whom_X3_fact : GoodIn wsX4_whom wsX3_fact := goodIn_r _ [43, 44, 175, 176] (by decide +kernel) (by decide +kernel)
set_option maxRecDepth 20000 in
theorem gX4_whom_X3_fact : GoodIn wsX4_whom (wsV RX4 97 RX3 yX3_fact wsX3_fact) := goodIn_app (goodIn_of _ (by decide +kernel)) ggX4_whom_X3_fact
set_option maxRecDepth 20000 in
theorem ggX4_whom_X0_told : GoodIn wsX4_whom wsX0_told := goodIn_r _ [17, 18, 162, 163] (by decide +kernel) (by decide +kernel)
set_option maxRecDepth 20000 in
theorem gX4_whom_X0_told : GoodIn wsX4_whom (wsV RX4 107 RX0 yX0_told wsX0_told) := goodIn_app (goodIn_of _ (by decide +kernel)) ggX4_whom_X0_told
set_option maxRecDepth 20000 in
theorem ggX4_whom_X4_valueOfTwoFree : GoodIn wsX4_whom wsX4_valueOfTwoFree := goodIn_r _ [53, 23, 1, 13, 14, 15, 16, 17, 18, 54, 55, 56, 27, 57, 58, 59, 32, 60, 61, 62, 63, 64, 65, 66, 67, 68, 69, 70, 71, 72, 73, 74, 37, 75, 76, 77, 78, 79, 40, 41, 42, 43, 44, 80, 81, 82, 83, 84, 85, 86, 87, 88, 89, 90, 91, 92, 93, 94, 95, 25, 26, 28, 29, 30, 31, 33, 96, 97, 98, 99, 100, 101, 102, 103, 104, 105, 106, 107, 108, 109, 110, 111, 112, 113, 5, 114, 115, 116, 117, 118, 119, 120, 121, 122, 123, 124, 125, 126, 127, 128, 129, 130, 131, 132, 133, 134, 135, 136, 137, 138, 46, 47, 48, 39, 139, 140, 141, 142, 143, 144, 49, 145, 146, 147, 152, 153, 154, 155, 156, 157, 158, 159, 160, 161, 162, 163, 164, 165, 166, 167, 168, 169, 170, 171, 172, 173, 174, 175, 176] (by decide +kernel) (by decide +kernel)
set_option maxRecDepth 20000 in
theorem gX4_whom_X4_valueOfTwoFree : GoodIn wsX4_whom (wsV RX4 158 RX4 yX4_valueOfTwoFree wsX4_valueOfTwoFree) := goodIn_app (goodIn_of _ (by decide +kernel)) ggX4_whom_X4_valueOfTwoFree
set_option maxRecDepth 20000 in
theorem ggX4_whom_X4_valueNow : GoodIn wsX4_whom wsX4_valueNow := goodIn_r _ [151, 1, 23, 13, 14, 15, 16, 17, 18, 54, 55, 56, 27, 57, 58, 59, 32, 60, 61, 62, 63, 64, 65, 66, 67, 68, 69, 70, 71, 72, 73, 74, 37, 75, 76, 77, 78, 79, 40, 41, 42, 43, 44, 80, 81, 82, 83, 84, 85, 86, 87, 88, 89, 90, 91, 92, 93, 94, 95, 25, 26, 28, 29, 30, 31, 33, 96, 97, 98, 99, 100, 101, 102, 103, 104, 105, 106, 107, 108, 109, 110, 111, 112, 113, 5, 114, 115, 116, 117, 118, 119, 120, 121, 122, 123, 124, 125, 126, 127, 128, 129, 130, 131, 132, 133, 134, 135, 136, 137, 138, 46, 47, 48, 39, 139, 140, 141, 142, 143, 146, 152, 153, 154, 155, 156, 157, 158, 159, 160, 161, 162, 163, 164, 165, 166, 167, 168, 169, 170, 171, 172, 173, 174, 175, 176] (by decide +kernel) (by decide +kernel)
set_option maxRecDepth 20000 in
theorem gX4_whom_X4_valueNow : GoodIn wsX4_whom (wsV RX4 114 RX4 yX4_valueNow wsX4_valueNow) := goodIn_app (goodIn_of _ (by decide +kernel)) ggX4_whom_X4_valueNow
theorem dX4_whom_0 : decode cX4_whom 0 = .ok (.iload_n 1, 1) := by decide +kernel
theorem dX4_whom_1 : decode cX4_whom 1 = .ok (.ifCond .lt 8, 3) := by decide +kernel
theorem dX4_whom_4 : decode cX4_whom 4 = .ok (.iload_n 1, 1) := by decide +kernel
theorem dX4_whom_5 : decode cX4_whom 5 = .ok (.iconst 1, 1) := by decide +kernel
theorem dX4_whom_6 : decode cX4_whom 6 = .ok (.if_icmp .le 10, 3) := by decide +kernel
theorem dX4_whom_9 : decode cX4_whom 9 = .ok (.aload_n 0, 1) := by decide +kernel
theorem dX4_whom_10 : decode cX4_whom 10 = .ok (.bipush (-2), 2) := by decide +kernel
theorem dX4_whom_12 : decode cX4_whom 12 = .ok (.invokevirtual 62, 3) := by decide +kernel
theorem dX4_whom_15 : decode cX4_whom 15 = .ok (.ireturn, 1) := by decide +kernel
theorem dX4_whom_16 : decode cX4_whom 16 = .ok (.aload_n 0, 1) := by decide +kernel
theorem dX4_whom_17 : decode cX4_whom 17 = .ok (.invokevirtual 155, 3) := by decide +kernel
theorem dX4_whom_20 : decode cX4_whom 20 = .ok (.ifCond .eq 17, 3) := by decide +kernel
theorem dX4_whom_23 : decode cX4_whom 23 = .ok (.aload_n 0, 1) := by decide +kernel
theorem dX4_whom_24 : decode cX4_whom 24 = .ok (.getfield 10, 3) := by decide +kernel
theorem dX4_whom_27 : decode cX4_whom 27 = .ok (.getfield 69, 3) := by decide +kernel
theorem dX4_whom_30 : decode cX4_whom 30 = .ok (.iconst 1, 1) := by decide +kernel
theorem dX4_whom_31 : decode cX4_whom 31 = .ok (.invokevirtual 140, 3) := by decide +kernel
theorem dX4_whom_34 : decode cX4_whom 34 = .ok (.ifCond .ne 10, 3) := by decide +kernel
theorem dX4_whom_37 : decode cX4_whom 37 = .ok (.aload_n 0, 1) := by decide +kernel
theorem dX4_whom_38 : decode cX4_whom 38 = .ok (.bipush (-3), 2) := by decide +kernel
theorem dX4_whom_40 : decode cX4_whom 40 = .ok (.invokevirtual 62, 3) := by decide +kernel
theorem dX4_whom_43 : decode cX4_whom 43 = .ok (.ireturn, 1) := by decide +kernel
theorem dX4_whom_44 : decode cX4_whom 44 = .ok (.bipush (-9), 2) := by decide +kernel
theorem dX4_whom_46 : decode cX4_whom 46 = .ok (.istore_n 2, 1) := by decide +kernel
theorem dX4_whom_47 : decode cX4_whom 47 = .ok (.iconst 0, 1) := by decide +kernel
theorem dX4_whom_48 : decode cX4_whom 48 = .ok (.istore_n 3, 1) := by decide +kernel
theorem dX4_whom_49 : decode cX4_whom 49 = .ok (.iconst 0, 1) := by decide +kernel
theorem dX4_whom_50 : decode cX4_whom 50 = .ok (.istore 4, 2) := by decide +kernel
theorem dX4_whom_52 : decode cX4_whom 52 = .ok (.iload 4, 2) := by decide +kernel
theorem dX4_whom_54 : decode cX4_whom 54 = .ok (.aload_n 0, 1) := by decide +kernel
theorem dX4_whom_55 : decode cX4_whom 55 = .ok (.getfield 10, 3) := by decide +kernel
theorem dX4_whom_58 : decode cX4_whom 58 = .ok (.getfield 69, 3) := by decide +kernel
theorem dX4_whom_61 : decode cX4_whom 61 = .ok (.invokevirtual 73, 3) := by decide +kernel
theorem dX4_whom_64 : decode cX4_whom 64 = .ok (.if_icmp .ge 63, 3) := by decide +kernel
theorem dX4_whom_67 : decode cX4_whom 67 = .ok (.aload_n 0, 1) := by decide +kernel
theorem dX4_whom_68 : decode cX4_whom 68 = .ok (.getfield 10, 3) := by decide +kernel
theorem dX4_whom_71 : decode cX4_whom 71 = .ok (.getfield 69, 3) := by decide +kernel
theorem dX4_whom_74 : decode cX4_whom 74 = .ok (.iload 4, 2) := by decide +kernel
theorem dX4_whom_76 : decode cX4_whom 76 = .ok (.iconst 0, 1) := by decide +kernel
theorem dX4_whom_77 : decode cX4_whom 77 = .ok (.invokevirtual 97, 3) := by decide +kernel
theorem dX4_whom_80 : decode cX4_whom 80 = .ok (.iconst 1, 1) := by decide +kernel
theorem dX4_whom_81 : decode cX4_whom 81 = .ok (.if_icmp .ne 40, 3) := by decide +kernel
theorem dX4_whom_84 : decode cX4_whom 84 = .ok (.aload_n 0, 1) := by decide +kernel
theorem dX4_whom_85 : decode cX4_whom 85 = .ok (.iload 4, 2) := by decide +kernel
theorem dX4_whom_87 : decode cX4_whom 87 = .ok (.aload_n 0, 1) := by decide +kernel
theorem dX4_whom_88 : decode cX4_whom 88 = .ok (.getfield 10, 3) := by decide +kernel
theorem dX4_whom_91 : decode cX4_whom 91 = .ok (.iconst 0, 1) := by decide +kernel
theorem dX4_whom_92 : decode cX4_whom 92 = .ok (.invokevirtual 107, 3) := by decide +kernel
theorem dX4_whom_95 : decode cX4_whom 95 = .ok (.iconst 1, 1) := by decide +kernel
theorem dX4_whom_96 : decode cX4_whom 96 = .ok (.isub, 1) := by decide +kernel
theorem dX4_whom_97 : decode cX4_whom 97 = .ok (.iconst 0, 1) := by decide +kernel
theorem dX4_whom_98 : decode cX4_whom 98 = .ok (.invokevirtual 158, 3) := by decide +kernel
theorem dX4_whom_101 : decode cX4_whom 101 = .ok (.istore 5, 2) := by decide +kernel
theorem dX4_whom_103 : decode cX4_whom 103 = .ok (.iload_n 2, 1) := by decide +kernel
theorem dX4_whom_104 : decode cX4_whom 104 = .ok (.bipush (-9), 2) := by decide +kernel
theorem dX4_whom_106 : decode cX4_whom 106 = .ok (.if_icmp .eq 9, 3) := by decide +kernel
theorem dX4_whom_109 : decode cX4_whom 109 = .ok (.iload 5, 2) := by decide +kernel
theorem dX4_whom_111 : decode cX4_whom 111 = .ok (.iload_n 3, 1) := by decide +kernel
theorem dX4_whom_112 : decode cX4_whom 112 = .ok (.if_icmp .le 9, 3) := by decide +kernel
theorem dX4_whom_115 : decode cX4_whom 115 = .ok (.iload 4, 2) := by decide +kernel
theorem dX4_whom_117 : decode cX4_whom 117 = .ok (.istore_n 2, 1) := by decide +kernel
theorem dX4_whom_118 : decode cX4_whom 118 = .ok (.iload 5, 2) := by decide +kernel
theorem dX4_whom_120 : decode cX4_whom 120 = .ok (.istore_n 3, 1) := by decide +kernel
theorem dX4_whom_121 : decode cX4_whom 121 = .ok (.iinc 4 1, 3) := by decide +kernel
theorem dX4_whom_124 : decode cX4_whom 124 = .ok (.goto (-72), 3) := by decide +kernel
theorem dX4_whom_127 : decode cX4_whom 127 = .ok (.iload_n 1, 1) := by decide +kernel
theorem dX4_whom_128 : decode cX4_whom 128 = .ok (.ifCond .ne 5, 3) := by decide +kernel
theorem dX4_whom_131 : decode cX4_whom 131 = .ok (.iload_n 2, 1) := by decide +kernel
theorem dX4_whom_132 : decode cX4_whom 132 = .ok (.ireturn, 1) := by decide +kernel
theorem dX4_whom_133 : decode cX4_whom 133 = .ok (.iload_n 3, 1) := by decide +kernel
theorem dX4_whom_134 : decode cX4_whom 134 = .ok (.aload_n 0, 1) := by decide +kernel
theorem dX4_whom_135 : decode cX4_whom 135 = .ok (.invokevirtual 114, 3) := by decide +kernel
theorem dX4_whom_138 : decode cX4_whom 138 = .ok (.if_icmp .le 7, 3) := by decide +kernel
theorem dX4_whom_141 : decode cX4_whom 141 = .ok (.iconst 1, 1) := by decide +kernel
theorem dX4_whom_142 : decode cX4_whom 142 = .ok (.goto 4, 3) := by decide +kernel
theorem dX4_whom_145 : decode cX4_whom 145 = .ok (.iconst 0, 1) := by decide +kernel
theorem dX4_whom_146 : decode cX4_whom 146 = .ok (.ireturn, 1) := by decide +kernel
set_option maxRecDepth 20000 in
theorem ggX4_freed_X3_has : GoodIn wsX4_freed wsX3_has := goodIn_r _ [6, 7, 154, 155] (by decide +kernel) (by decide +kernel)
set_option maxRecDepth 20000 in
theorem gX4_freed_X3_has : GoodIn wsX4_freed (wsV RX4 93 RX3 yX3_has wsX3_has) := goodIn_app (goodIn_of _ (by decide +kernel)) ggX4_freed_X3_has
set_option maxRecDepth 20000 in
theorem ggX4_freed_X4_refused : GoodIn wsX4_freed wsX4_refused := goodIn_r _ [12, 13, 142, 143, 144, 145, 146, 147, 148, 149, 150, 151] (by decide +kernel) (by decide +kernel)
set_option maxRecDepth 20000 in
theorem gX4_freed_X4_refused : GoodIn wsX4_freed (wsV RX4 62 RX4 yX4_refused wsX4_refused) := goodIn_app (goodIn_of _ (by decide +kernel)) ggX4_freed_X4_refused
set_option maxRecDepth 20000 in
theorem ggX4_freed_X3_fact : GoodIn wsX4_freed wsX3_fact := goodIn_r _ [17, 18, 154, 155] (by decide +kernel) (by decide +kernel)
set_option maxRecDepth 20000 in
theorem gX4_freed_X3_fact : GoodIn wsX4_freed (wsV RX4 97 RX3 yX3_fact wsX3_fact) := goodIn_app (goodIn_of _ (by decide +kernel)) ggX4_freed_X3_fact
set_option maxRecDepth 20000 in
theorem ggX4_freed_X4_isOverNow : GoodIn wsX4_freed wsX4_isOverNow := goodIn_r _ [22, 23, 1, 24, 25, 26, 27, 28, 29, 30, 31, 32, 33, 34, 35, 36, 37, 38, 39, 142, 143, 144, 145, 146, 147, 148, 149, 150, 151, 152, 153, 156, 157, 158, 159, 160, 161, 162, 163, 164, 165, 166] (by decide +kernel) (by decide +kernel)
set_option maxRecDepth 20000 in
theorem gX4_freed_X4_isOverNow : GoodIn wsX4_freed (wsV RX4 137 RX4 yX4_isOverNow wsX4_isOverNow) := goodIn_app (goodIn_of _ (by decide +kernel)) ggX4_freed_X4_isOverNow
set_option maxRecDepth 20000 in
theorem ggX4_freed_X0_told : GoodIn wsX4_freed wsX0_told := goodIn_r _ [28, 29, 152, 153] (by decide +kernel) (by decide +kernel)
set_option maxRecDepth 20000 in
theorem gX4_freed_X0_told : GoodIn wsX4_freed (wsV RX4 107 RX0 yX0_told wsX0_told) := goodIn_app (goodIn_of _ (by decide +kernel)) ggX4_freed_X0_told
set_option maxRecDepth 20000 in
theorem ggX4_freed_X4_valueOfTwoFree : GoodIn wsX4_freed wsX4_valueOfTwoFree := goodIn_r _ [43, 23, 1, 24, 25, 26, 27, 28, 29, 44, 45, 46, 33, 47, 48, 49, 38, 50, 51, 52, 53, 54, 55, 56, 57, 58, 59, 60, 61, 62, 63, 64, 5, 65, 66, 67, 68, 69, 70, 15, 16, 17, 18, 71, 72, 73, 74, 75, 76, 77, 78, 79, 80, 81, 82, 83, 84, 85, 86, 31, 32, 34, 35, 36, 37, 39, 87, 88, 89, 90, 91, 92, 93, 94, 95, 96, 97, 98, 99, 100, 101, 102, 103, 104, 11, 105, 106, 107, 108, 109, 110, 111, 112, 113, 114, 115, 116, 117, 118, 119, 120, 121, 122, 123, 124, 125, 126, 127, 128, 129, 130, 131, 132, 7, 133, 134, 135, 136, 137, 138, 14, 139, 140, 141, 142, 143, 144, 145, 146, 147, 148, 149, 150, 151, 152, 153, 156, 157, 158, 159, 160, 161, 162, 163, 164, 165, 166, 154, 155] (by decide +kernel) (by decide +kernel)
set_option maxRecDepth 20000 in
theorem gX4_freed_X4_valueOfTwoFree : GoodIn wsX4_freed (wsV RX4 158 RX4 yX4_valueOfTwoFree wsX4_valueOfTwoFree) := goodIn_app (goodIn_of _ (by decide +kernel)) ggX4_freed_X4_valueOfTwoFree
theorem dX4_freed_0 : decode cX4_freed 0 = .ok (.aload_n 0, 1) := by decide +kernel
theorem dX4_freed_1 : decode cX4_freed 1 = .ok (.getfield 10, 3) := by decide +kernel
theorem dX4_freed_4 : decode cX4_freed 4 = .ok (.getfield 69, 3) := by decide +kernel
theorem dX4_freed_7 : decode cX4_freed 7 = .ok (.iload_n 1, 1) := by decide +kernel
theorem dX4_freed_8 : decode cX4_freed 8 = .ok (.invokevirtual 93, 3) := by decide +kernel
theorem dX4_freed_11 : decode cX4_freed 11 = .ok (.ifCond .ne 9, 3) := by decide +kernel
theorem dX4_freed_14 : decode cX4_freed 14 = .ok (.aload_n 0, 1) := by decide +kernel
theorem dX4_freed_15 : decode cX4_freed 15 = .ok (.iconst (-1), 1) := by decide +kernel
theorem dX4_freed_16 : decode cX4_freed 16 = .ok (.invokevirtual 62, 3) := by decide +kernel
theorem dX4_freed_19 : decode cX4_freed 19 = .ok (.ireturn, 1) := by decide +kernel
theorem dX4_freed_20 : decode cX4_freed 20 = .ok (.aload_n 0, 1) := by decide +kernel
theorem dX4_freed_21 : decode cX4_freed 21 = .ok (.getfield 10, 3) := by decide +kernel
theorem dX4_freed_24 : decode cX4_freed 24 = .ok (.getfield 69, 3) := by decide +kernel
theorem dX4_freed_27 : decode cX4_freed 27 = .ok (.iload_n 1, 1) := by decide +kernel
theorem dX4_freed_28 : decode cX4_freed 28 = .ok (.iconst 0, 1) := by decide +kernel
theorem dX4_freed_29 : decode cX4_freed 29 = .ok (.invokevirtual 97, 3) := by decide +kernel
theorem dX4_freed_32 : decode cX4_freed 32 = .ok (.ifCond .ne 10, 3) := by decide +kernel
theorem dX4_freed_35 : decode cX4_freed 35 = .ok (.aload_n 0, 1) := by decide +kernel
theorem dX4_freed_36 : decode cX4_freed 36 = .ok (.invokevirtual 137, 3) := by decide +kernel
theorem dX4_freed_39 : decode cX4_freed 39 = .ok (.ifCond .eq 10, 3) := by decide +kernel
theorem dX4_freed_42 : decode cX4_freed 42 = .ok (.aload_n 0, 1) := by decide +kernel
theorem dX4_freed_43 : decode cX4_freed 43 = .ok (.bipush (-3), 2) := by decide +kernel
theorem dX4_freed_45 : decode cX4_freed 45 = .ok (.invokevirtual 62, 3) := by decide +kernel
theorem dX4_freed_48 : decode cX4_freed 48 = .ok (.ireturn, 1) := by decide +kernel
theorem dX4_freed_49 : decode cX4_freed 49 = .ok (.aload_n 0, 1) := by decide +kernel
theorem dX4_freed_50 : decode cX4_freed 50 = .ok (.iload_n 1, 1) := by decide +kernel
theorem dX4_freed_51 : decode cX4_freed 51 = .ok (.aload_n 0, 1) := by decide +kernel
theorem dX4_freed_52 : decode cX4_freed 52 = .ok (.getfield 10, 3) := by decide +kernel
theorem dX4_freed_55 : decode cX4_freed 55 = .ok (.iconst 0, 1) := by decide +kernel
theorem dX4_freed_56 : decode cX4_freed 56 = .ok (.invokevirtual 107, 3) := by decide +kernel
theorem dX4_freed_59 : decode cX4_freed 59 = .ok (.iconst 1, 1) := by decide +kernel
theorem dX4_freed_60 : decode cX4_freed 60 = .ok (.invokevirtual 158, 3) := by decide +kernel
theorem dX4_freed_63 : decode cX4_freed 63 = .ok (.ireturn, 1) := by decide +kernel
set_option maxRecDepth 20000 in
theorem ggX4_doubled_X4_outsidePair : GoodIn wsX4_doubled wsX4_outsidePair := goodIn_r _ [5, 6, 7, 8, 9, 10, 11, 12, 13, 14, 15, 16, 17, 159, 160, 161, 162, 163, 164, 165, 166, 167, 168, 169, 170, 171, 172] (by decide +kernel) (by decide +kernel)
set_option maxRecDepth 20000 in
theorem gX4_doubled_X4_outsidePair : GoodIn wsX4_doubled (wsV RX4 161 RX4 yX4_outsidePair wsX4_outsidePair) := goodIn_app (goodIn_of _ (by decide +kernel)) ggX4_doubled_X4_outsidePair
set_option maxRecDepth 20000 in
theorem ggX4_doubled_X4_refused : GoodIn wsX4_doubled wsX4_refused := goodIn_r _ [21, 22, 159, 160, 161, 162, 163, 164, 165, 166, 167, 168] (by decide +kernel) (by decide +kernel)
set_option maxRecDepth 20000 in
theorem gX4_doubled_X4_refused : GoodIn wsX4_doubled (wsV RX4 62 RX4 yX4_refused wsX4_refused) := goodIn_app (goodIn_of _ (by decide +kernel)) ggX4_doubled_X4_refused
set_option maxRecDepth 20000 in
theorem ggX4_doubled_X4_startDouble : GoodIn wsX4_doubled wsX4_startDouble := goodIn_r _ [26, 27, 6, 28, 29, 30, 31, 32, 33, 34, 35, 36, 37, 38, 39, 40, 41, 10, 42, 12, 17, 43, 44, 45, 46, 47, 48, 49, 50, 51, 52, 53, 54, 55, 56, 159, 160, 161, 162, 163, 164, 165, 166, 167, 168, 173, 174, 175, 176, 177, 178, 179, 180, 181, 182, 183, 169, 170, 171, 172] (by decide +kernel) (by decide +kernel)
set_option maxRecDepth 20000 in
theorem gX4_doubled_X4_startDouble : GoodIn wsX4_doubled (wsV RX4 164 RX4 yX4_startDouble wsX4_startDouble) := goodIn_app (goodIn_of _ (by decide +kernel)) ggX4_doubled_X4_startDouble
set_option maxRecDepth 20000 in
theorem ggX4_doubled_X4_otherValueNow : GoodIn wsX4_doubled wsX4_otherValueNow := goodIn_r _ [60, 6, 27, 61, 48, 49, 50, 51, 52, 62, 63, 64, 31, 65, 66, 67, 68, 69, 38, 70, 71, 72, 73, 74, 75, 76, 77, 78, 33, 79, 80, 81, 10, 82, 83, 84, 85, 86, 87, 14, 15, 16, 17, 88, 89, 90, 91, 34, 92, 93, 94, 95, 96, 97, 98, 99, 100, 101, 102, 103, 104, 105, 36, 106, 107, 108, 109, 110, 111, 112, 113, 37, 114, 115, 116, 117, 118, 119, 120, 121, 122, 123, 124, 125, 4, 126, 127, 128, 129, 130, 131, 132, 133, 134, 135, 136, 137, 138, 139, 140, 141, 142, 143, 144, 145, 35, 146, 147, 148, 149, 150, 151, 152, 12, 153, 154, 155, 156, 157, 158, 159, 160, 161, 162, 163, 164, 165, 166, 167, 168, 169, 170, 173, 174, 175, 176, 177, 178, 179, 180, 181, 182, 183, 171, 172] (by decide +kernel) (by decide +kernel)
set_option maxRecDepth 20000 in
theorem gX4_doubled_X4_otherValueNow : GoodIn wsX4_doubled (wsV RX4 152 RX4 yX4_otherValueNow wsX4_otherValueNow) := goodIn_app (goodIn_of _ (by decide +kernel)) ggX4_doubled_X4_otherValueNow
theorem dX4_doubled_0 : decode cX4_doubled 0 = .ok (.aload_n 0, 1) := by decide +kernel
theorem dX4_doubled_1 : decode cX4_doubled 1 = .ok (.iload_n 1, 1) := by decide +kernel
theorem dX4_doubled_2 : decode cX4_doubled 2 = .ok (.iload_n 2, 1) := by decide +kernel
theorem dX4_doubled_3 : decode cX4_doubled 3 = .ok (.invokevirtual 161, 3) := by decide +kernel
theorem dX4_doubled_6 : decode cX4_doubled 6 = .ok (.istore_n 3, 1) := by decide +kernel
theorem dX4_doubled_7 : decode cX4_doubled 7 = .ok (.iload_n 3, 1) := by decide +kernel
theorem dX4_doubled_8 : decode cX4_doubled 8 = .ok (.ifCond .eq 9, 3) := by decide +kernel
theorem dX4_doubled_11 : decode cX4_doubled 11 = .ok (.aload_n 0, 1) := by decide +kernel
theorem dX4_doubled_12 : decode cX4_doubled 12 = .ok (.iload_n 3, 1) := by decide +kernel
theorem dX4_doubled_13 : decode cX4_doubled 13 = .ok (.invokevirtual 62, 3) := by decide +kernel
theorem dX4_doubled_16 : decode cX4_doubled 16 = .ok (.ireturn, 1) := by decide +kernel
theorem dX4_doubled_17 : decode cX4_doubled 17 = .ok (.aload_n 0, 1) := by decide +kernel
theorem dX4_doubled_18 : decode cX4_doubled 18 = .ok (.iload_n 1, 1) := by decide +kernel
theorem dX4_doubled_19 : decode cX4_doubled 19 = .ok (.iload_n 2, 1) := by decide +kernel
theorem dX4_doubled_20 : decode cX4_doubled 20 = .ok (.invokevirtual 164, 3) := by decide +kernel
theorem dX4_doubled_23 : decode cX4_doubled 23 = .ok (.aload_n 0, 1) := by decide +kernel
theorem dX4_doubled_24 : decode cX4_doubled 24 = .ok (.invokevirtual 152, 3) := by decide +kernel
theorem dX4_doubled_27 : decode cX4_doubled 27 = .ok (.ireturn, 1) := by decide +kernel
set_option maxRecDepth 20000 in
theorem ggX4_howGood_X4_outsidePair : GoodIn wsX4_howGood wsX4_outsidePair := goodIn_r _ [6, 7, 8, 9, 10, 11, 12, 13, 14, 15, 16, 17, 18, 172, 173, 174, 175, 176, 177, 178, 179, 180, 181, 182, 183, 184, 185] (by decide +kernel) (by decide +kernel)
set_option maxRecDepth 20000 in
theorem gX4_howGood_X4_outsidePair : GoodIn wsX4_howGood (wsV RX4 161 RX4 yX4_outsidePair wsX4_outsidePair) := goodIn_app (goodIn_of _ (by decide +kernel)) ggX4_howGood_X4_outsidePair
set_option maxRecDepth 20000 in
theorem ggX4_howGood_X4_refused : GoodIn wsX4_howGood wsX4_refused := goodIn_r _ [22, 23, 172, 173, 174, 175, 176, 177, 178, 179, 180, 181] (by decide +kernel) (by decide +kernel)
set_option maxRecDepth 20000 in
theorem gX4_howGood_X4_refused : GoodIn wsX4_howGood (wsV RX4 62 RX4 yX4_refused wsX4_refused) := goodIn_app (goodIn_of _ (by decide +kernel)) ggX4_howGood_X4_refused
set_option maxRecDepth 20000 in
theorem ggX4_howGood_X4_valueNow : GoodIn wsX4_howGood wsX4_valueNow := goodIn_r _ [27, 7, 28, 29, 30, 31, 32, 33, 34, 35, 36, 37, 38, 39, 40, 41, 42, 43, 44, 45, 46, 47, 48, 49, 50, 51, 52, 53, 54, 55, 56, 57, 11, 58, 59, 60, 61, 62, 63, 15, 16, 17, 18, 64, 65, 66, 67, 68, 69, 70, 71, 72, 73, 74, 75, 76, 77, 78, 79, 80, 81, 82, 83, 84, 85, 86, 87, 88, 89, 90, 91, 92, 93, 94, 95, 96, 97, 98, 99, 100, 101, 102, 103, 104, 5, 105, 106, 107, 108, 109, 110, 111, 112, 113, 114, 115, 116, 117, 118, 119, 120, 121, 122, 123, 124, 125, 126, 127, 128, 129, 130, 131, 132, 13, 133, 134, 135, 136, 137, 138, 172, 173, 174, 175, 176, 177, 178, 179, 180, 181, 182, 183, 186, 187, 188, 189, 190, 191, 192, 193, 194, 195, 196, 184, 185] (by decide +kernel) (by decide +kernel)
set_option maxRecDepth 20000 in
theorem gX4_howGood_X4_valueNow : GoodIn wsX4_howGood (wsV RX4 114 RX4 yX4_valueNow wsX4_valueNow) := goodIn_app (goodIn_of _ (by decide +kernel)) ggX4_howGood_X4_valueNow
set_option maxRecDepth 20000 in
theorem ggX4_howGood_X4_startDouble : GoodIn wsX4_howGood wsX4_startDouble := goodIn_r _ [142, 1, 7, 143, 144, 145, 38, 146, 54, 68, 125, 83, 92, 44, 147, 148, 149, 11, 150, 13, 18, 151, 152, 153, 154, 155, 30, 31, 32, 33, 34, 156, 157, 158, 159, 172, 173, 174, 175, 176, 177, 178, 179, 180, 181, 186, 187, 188, 189, 190, 191, 192, 193, 194, 195, 196, 182, 183, 184, 185] (by decide +kernel) (by decide +kernel)
set_option maxRecDepth 20000 in
theorem gX4_howGood_X4_startDouble : GoodIn wsX4_howGood (wsV RX4 164 RX4 yX4_startDouble wsX4_startDouble) := goodIn_app (goodIn_of _ (by decide +kernel)) ggX4_howGood_X4_startDouble
set_option maxRecDepth 20000 in
theorem ggX4_howGood_X1_changeNear : GoodIn wsX4_howGood wsX1_changeNear := goodIn_r _ [163, 54, 164, 165, 166, 11, 167, 18, 186, 187, 188, 189, 190, 191, 192, 193, 194, 195, 196, 184, 185] (by decide +kernel) (by decide +kernel)
set_option maxRecDepth 20000 in
theorem gX4_howGood_X1_changeNear : GoodIn wsX4_howGood (wsV RX4 167 RX1 yX1_changeNear wsX1_changeNear) := goodIn_app (goodIn_of _ (by decide +kernel)) ggX4_howGood_X1_changeNear
set_option maxRecDepth 20000 in
theorem ggX4_howGood_X4_otherValueNow : GoodIn wsX4_howGood wsX4_otherValueNow := goodIn_r _ [171, 7, 1, 29, 30, 31, 32, 33, 34, 35, 36, 37, 38, 39, 40, 41, 42, 43, 44, 45, 46, 47, 48, 49, 50, 51, 52, 53, 54, 55, 56, 57, 11, 58, 59, 60, 61, 62, 63, 15, 16, 17, 18, 64, 65, 66, 67, 68, 69, 70, 71, 72, 73, 74, 75, 76, 77, 78, 79, 80, 81, 82, 83, 84, 85, 86, 87, 88, 89, 90, 91, 92, 93, 94, 95, 96, 97, 98, 99, 100, 101, 102, 103, 104, 5, 105, 106, 107, 108, 109, 110, 111, 112, 113, 114, 115, 116, 117, 118, 119, 120, 121, 122, 123, 124, 125, 126, 127, 128, 129, 130, 131, 132, 13, 133, 134, 135, 136, 137, 138, 172, 173, 174, 175, 176, 177, 178, 179, 180, 181, 182, 183, 186, 187, 188, 189, 190, 191, 192, 193, 194, 195, 196, 184, 185] (by decide +kernel) (by decide +kernel)
set_option maxRecDepth 20000 in
theorem gX4_howGood_X4_otherValueNow : GoodIn wsX4_howGood (wsV RX4 152 RX4 yX4_otherValueNow wsX4_otherValueNow) := goodIn_app (goodIn_of _ (by decide +kernel)) ggX4_howGood_X4_otherValueNow
theorem dX4_howGood_0 : decode cX4_howGood 0 = .ok (.aload_n 0, 1) := by decide +kernel
theorem dX4_howGood_1 : decode cX4_howGood 1 = .ok (.iload_n 1, 1) := by decide +kernel
theorem dX4_howGood_2 : decode cX4_howGood 2 = .ok (.iload_n 2, 1) := by decide +kernel
theorem dX4_howGood_3 : decode cX4_howGood 3 = .ok (.invokevirtual 161, 3) := by decide +kernel
theorem dX4_howGood_6 : decode cX4_howGood 6 = .ok (.istore_n 3, 1) := by decide +kernel
theorem dX4_howGood_7 : decode cX4_howGood 7 = .ok (.iload_n 3, 1) := by decide +kernel
theorem dX4_howGood_8 : decode cX4_howGood 8 = .ok (.ifCond .eq 9, 3) := by decide +kernel
theorem dX4_howGood_11 : decode cX4_howGood 11 = .ok (.aload_n 0, 1) := by decide +kernel
theorem dX4_howGood_12 : decode cX4_howGood 12 = .ok (.iload_n 3, 1) := by decide +kernel
theorem dX4_howGood_13 : decode cX4_howGood 13 = .ok (.invokevirtual 62, 3) := by decide +kernel
theorem dX4_howGood_16 : decode cX4_howGood 16 = .ok (.ireturn, 1) := by decide +kernel
theorem dX4_howGood_17 : decode cX4_howGood 17 = .ok (.aload_n 0, 1) := by decide +kernel
theorem dX4_howGood_18 : decode cX4_howGood 18 = .ok (.invokevirtual 114, 3) := by decide +kernel
theorem dX4_howGood_21 : decode cX4_howGood 21 = .ok (.istore 4, 2) := by decide +kernel
theorem dX4_howGood_23 : decode cX4_howGood 23 = .ok (.iconst 0, 1) := by decide +kernel
theorem dX4_howGood_24 : decode cX4_howGood 24 = .ok (.istore 5, 2) := by decide +kernel
theorem dX4_howGood_26 : decode cX4_howGood 26 = .ok (.iload 5, 2) := by decide +kernel
theorem dX4_howGood_28 : decode cX4_howGood 28 = .ok (.bipush 9, 2) := by decide +kernel
theorem dX4_howGood_30 : decode cX4_howGood 30 = .ok (.if_icmp .gt 37, 3) := by decide +kernel
theorem dX4_howGood_33 : decode cX4_howGood 33 = .ok (.aload_n 0, 1) := by decide +kernel
theorem dX4_howGood_34 : decode cX4_howGood 34 = .ok (.iload_n 1, 1) := by decide +kernel
theorem dX4_howGood_35 : decode cX4_howGood 35 = .ok (.iload_n 2, 1) := by decide +kernel
theorem dX4_howGood_36 : decode cX4_howGood 36 = .ok (.invokevirtual 164, 3) := by decide +kernel
theorem dX4_howGood_39 : decode cX4_howGood 39 = .ok (.aload_n 0, 1) := by decide +kernel
theorem dX4_howGood_40 : decode cX4_howGood 40 = .ok (.getfield 48, 3) := by decide +kernel
theorem dX4_howGood_43 : decode cX4_howGood 43 = .ok (.iload_n 1, 1) := by decide +kernel
theorem dX4_howGood_44 : decode cX4_howGood 44 = .ok (.iload 5, 2) := by decide +kernel
theorem dX4_howGood_46 : decode cX4_howGood 46 = .ok (.invokevirtual 167, 3) := by decide +kernel
theorem dX4_howGood_49 : decode cX4_howGood 49 = .ok (.aload_n 0, 1) := by decide +kernel
theorem dX4_howGood_50 : decode cX4_howGood 50 = .ok (.invokevirtual 152, 3) := by decide +kernel
theorem dX4_howGood_53 : decode cX4_howGood 53 = .ok (.iload 4, 2) := by decide +kernel
theorem dX4_howGood_55 : decode cX4_howGood 55 = .ok (.if_icmp .lt 6, 3) := by decide +kernel
theorem dX4_howGood_58 : decode cX4_howGood 58 = .ok (.iload 5, 2) := by decide +kernel
theorem dX4_howGood_60 : decode cX4_howGood 60 = .ok (.ireturn, 1) := by decide +kernel
theorem dX4_howGood_61 : decode cX4_howGood 61 = .ok (.iinc 5 1, 3) := by decide +kernel
theorem dX4_howGood_64 : decode cX4_howGood 64 = .ok (.goto (-38), 3) := by decide +kernel
theorem dX4_howGood_67 : decode cX4_howGood 67 = .ok (.bipush (-9), 2) := by decide +kernel
theorem dX4_howGood_69 : decode cX4_howGood 69 = .ok (.ireturn, 1) := by decide +kernel
set_option maxRecDepth 20000 in
theorem ggX4_call_X0_told : GoodIn wsX4_call wsX0_told := goodIn_r _ [7, 8, 170, 171] (by decide +kernel) (by decide +kernel)
set_option maxRecDepth 20000 in
theorem gX4_call_X0_told : GoodIn wsX4_call (wsV RX4 107 RX0 yX0_told wsX0_told) := goodIn_app (goodIn_of _ (by decide +kernel)) ggX4_call_X0_told
set_option maxRecDepth 20000 in
theorem ggX4_call_X4_refusedFarAbove : GoodIn wsX4_call wsX4_refusedFarAbove := goodIn_r _ [13, 14, 15, 16, 17, 12, 18, 19, 160, 161, 162, 163, 164, 165, 166, 167, 168, 169] (by decide +kernel) (by decide +kernel)
set_option maxRecDepth 20000 in
theorem gX4_call_X4_refusedFarAbove : GoodIn wsX4_call (wsV RX4 143 RX4 yX4_refusedFarAbove wsX4_refusedFarAbove) := goodIn_app (goodIn_of _ (by decide +kernel)) ggX4_call_X4_refusedFarAbove
set_option maxRecDepth 20000 in
theorem ggX4_call_X1_start : GoodIn wsX4_call wsX1_start := goodIn_r _ [24, 25, 26, 27, 28, 29, 30, 31, 32, 33, 34, 35, 36, 37, 38, 39, 40, 41, 42, 4, 5, 6, 7, 8, 172, 173, 174, 175, 176, 177, 178, 179, 180, 181, 182, 170, 171, 183, 184] (by decide +kernel) (by decide +kernel)
set_option maxRecDepth 20000 in
theorem gX4_call_X1_start : GoodIn wsX4_call (wsV RX4 86 RX1 yX1_start wsX1_start) := goodIn_app (goodIn_of _ (by decide +kernel)) ggX4_call_X1_start
set_option maxRecDepth 20000 in
theorem ggX4_call_X1_raiseAll : GoodIn wsX4_call wsX1_raiseAll := goodIn_r _ [46, 25, 47, 48, 49, 34, 50, 36, 51, 52, 53, 54, 37, 55, 56, 57, 23, 58, 26, 172, 173, 174, 175, 176, 177, 178, 179, 180, 181, 182, 183, 184] (by decide +kernel) (by decide +kernel)
set_option maxRecDepth 20000 in
theorem gX4_call_X1_raiseAll : GoodIn wsX4_call (wsV RX4 170 RX1 yX1_raiseAll wsX1_raiseAll) := goodIn_app (goodIn_of _ (by decide +kernel)) ggX4_call_X1_raiseAll
set_option maxRecDepth 20000 in
theorem ggX4_call_X4_otherValueNow : GoodIn wsX4_call wsX4_otherValueNow := goodIn_r _ [62, 1, 2, 3, 4, 5, 6, 7, 8, 63, 64, 65, 23, 66, 67, 68, 69, 70, 30, 71, 72, 73, 74, 75, 76, 77, 78, 79, 25, 80, 81, 82, 34, 83, 84, 85, 86, 87, 88, 52, 53, 54, 37, 89, 90, 91, 92, 26, 93, 94, 95, 96, 97, 98, 99, 100, 101, 102, 103, 104, 105, 106, 28, 107, 108, 109, 110, 111, 112, 113, 114, 29, 115, 116, 117, 118, 119, 120, 121, 122, 123, 124, 125, 126, 12, 127, 128, 129, 130, 131, 132, 133, 134, 135, 136, 137, 138, 139, 140, 141, 142, 143, 144, 145, 146, 27, 147, 148, 149, 47, 48, 49, 50, 36, 51, 150, 151, 152, 153, 154, 160, 161, 162, 163, 164, 165, 166, 167, 168, 169, 170, 171, 172, 173, 174, 175, 176, 177, 178, 179, 180, 181, 182, 183, 184] (by decide +kernel) (by decide +kernel)
set_option maxRecDepth 20000 in
theorem gX4_call_X4_otherValueNow : GoodIn wsX4_call (wsV RX4 152 RX4 yX4_otherValueNow wsX4_otherValueNow) := goodIn_app (goodIn_of _ (by decide +kernel)) ggX4_call_X4_otherValueNow
set_option maxRecDepth 20000 in
theorem ggX4_call_X4_valueNow : GoodIn wsX4_call wsX4_valueNow := goodIn_r _ [158, 1, 159, 3, 4, 5, 6, 7, 8, 63, 64, 65, 23, 66, 67, 68, 69, 70, 30, 71, 72, 73, 74, 75, 76, 77, 78, 79, 25, 80, 81, 82, 34, 83, 84, 85, 86, 87, 88, 52, 53, 54, 37, 89, 90, 91, 92, 26, 93, 94, 95, 96, 97, 98, 99, 100, 101, 102, 103, 104, 105, 106, 28, 107, 108, 109, 110, 111, 112, 113, 114, 29, 115, 116, 117, 118, 119, 120, 121, 122, 123, 124, 125, 126, 12, 127, 128, 129, 130, 131, 132, 133, 134, 135, 136, 137, 138, 139, 140, 141, 142, 143, 144, 145, 146, 27, 147, 148, 149, 47, 48, 49, 50, 36, 51, 150, 151, 152, 153, 154, 160, 161, 162, 163, 164, 165, 166, 167, 168, 169, 170, 171, 172, 173, 174, 175, 176, 177, 178, 179, 180, 181, 182, 183, 184] (by decide +kernel) (by decide +kernel)
set_option maxRecDepth 20000 in
theorem gX4_call_X4_valueNow : GoodIn wsX4_call (wsV RX4 114 RX4 yX4_valueNow wsX4_valueNow) := goodIn_app (goodIn_of _ (by decide +kernel)) ggX4_call_X4_valueNow
theorem dX4_call_0 : decode cX4_call 0 = .ok (.aload_n 0, 1) := by decide +kernel
theorem dX4_call_1 : decode cX4_call 1 = .ok (.getfield 10, 3) := by decide +kernel
theorem dX4_call_4 : decode cX4_call 4 = .ok (.iconst 5, 1) := by decide +kernel
theorem dX4_call_5 : decode cX4_call 5 = .ok (.invokevirtual 107, 3) := by decide +kernel
theorem dX4_call_8 : decode cX4_call 8 = .ok (.ifCond .eq 14, 3) := by decide +kernel
theorem dX4_call_11 : decode cX4_call 11 = .ok (.aload_n 0, 1) := by decide +kernel
theorem dX4_call_12 : decode cX4_call 12 = .ok (.getfield 10, 3) := by decide +kernel
theorem dX4_call_15 : decode cX4_call 15 = .ok (.iconst 2, 1) := by decide +kernel
theorem dX4_call_16 : decode cX4_call 16 = .ok (.invokevirtual 107, 3) := by decide +kernel
theorem dX4_call_19 : decode cX4_call 19 = .ok (.ifCond .eq 10, 3) := by decide +kernel
theorem dX4_call_22 : decode cX4_call 22 = .ok (.aload_n 0, 1) := by decide +kernel
theorem dX4_call_23 : decode cX4_call 23 = .ok (.bipush (-3), 2) := by decide +kernel
theorem dX4_call_25 : decode cX4_call 25 = .ok (.invokevirtual 143, 3) := by decide +kernel
theorem dX4_call_28 : decode cX4_call 28 = .ok (.ireturn, 1) := by decide +kernel
theorem dX4_call_29 : decode cX4_call 29 = .ok (.aload_n 0, 1) := by decide +kernel
theorem dX4_call_30 : decode cX4_call 30 = .ok (.getfield 48, 3) := by decide +kernel
theorem dX4_call_33 : decode cX4_call 33 = .ok (.aload_n 0, 1) := by decide +kernel
theorem dX4_call_34 : decode cX4_call 34 = .ok (.getfield 10, 3) := by decide +kernel
theorem dX4_call_37 : decode cX4_call 37 = .ok (.invokevirtual 86, 3) := by decide +kernel
theorem dX4_call_40 : decode cX4_call 40 = .ok (.aload_n 0, 1) := by decide +kernel
theorem dX4_call_41 : decode cX4_call 41 = .ok (.getfield 48, 3) := by decide +kernel
theorem dX4_call_44 : decode cX4_call 44 = .ok (.iconst 0, 1) := by decide +kernel
theorem dX4_call_45 : decode cX4_call 45 = .ok (.invokevirtual 170, 3) := by decide +kernel
theorem dX4_call_48 : decode cX4_call 48 = .ok (.aload_n 0, 1) := by decide +kernel
theorem dX4_call_49 : decode cX4_call 49 = .ok (.invokevirtual 152, 3) := by decide +kernel
theorem dX4_call_52 : decode cX4_call 52 = .ok (.aload_n 0, 1) := by decide +kernel
theorem dX4_call_53 : decode cX4_call 53 = .ok (.invokevirtual 114, 3) := by decide +kernel
theorem dX4_call_56 : decode cX4_call 56 = .ok (.isub, 1) := by decide +kernel
theorem dX4_call_57 : decode cX4_call 57 = .ok (.ireturn, 1) := by decide +kernel
set_option maxRecDepth 20000 in
theorem ggX4_on_X3_ofSide : GoodIn wsX4_on wsX3_ofSide := goodIn_r _ [7, 8, 9, 10, 11, 6, 12, 13, 159, 160] (by decide +kernel) (by decide +kernel)
set_option maxRecDepth 20000 in
theorem gX4_on_X3_ofSide : GoodIn wsX4_on (wsV RX4 140 RX3 yX3_ofSide wsX3_ofSide) := goodIn_app (goodIn_of _ (by decide +kernel)) ggX4_on_X3_ofSide
set_option maxRecDepth 20000 in
theorem ggX4_on_X3_players : GoodIn wsX4_on wsX3_players := goodIn_r _ [17, 8, 159, 160] (by decide +kernel) (by decide +kernel)
set_option maxRecDepth 20000 in
theorem gX4_on_X3_players : GoodIn wsX4_on (wsV RX4 73 RX3 yX3_players wsX3_players) := goodIn_app (goodIn_of _ (by decide +kernel)) ggX4_on_X3_players
set_option maxRecDepth 20000 in
theorem ggX4_on_X3_fact : GoodIn wsX4_on wsX3_fact := goodIn_r _ [12, 13, 159, 160] (by decide +kernel) (by decide +kernel)
set_option maxRecDepth 20000 in
theorem gX4_on_X3_fact : GoodIn wsX4_on (wsV RX4 97 RX3 yX3_fact wsX3_fact) := goodIn_app (goodIn_of _ (by decide +kernel)) ggX4_on_X3_fact
set_option maxRecDepth 20000 in
theorem ggX4_on_X1_start : GoodIn wsX4_on wsX1_start := goodIn_r _ [23, 24, 25, 26, 27, 28, 29, 30, 31, 32, 6, 33, 8, 13, 34, 35, 36, 37, 38, 39, 40, 41, 42, 43, 161, 162, 163, 164, 165, 166, 167, 168, 169, 170, 171, 157, 158, 159, 160] (by decide +kernel) (by decide +kernel)
set_option maxRecDepth 20000 in
theorem gX4_on_X1_start : GoodIn wsX4_on (wsV RX4 86 RX1 yX1_start wsX1_start) := goodIn_app (goodIn_of _ (by decide +kernel)) ggX4_on_X1_start
set_option maxRecDepth 20000 in
theorem ggX4_on_X1_change : GoodIn wsX4_on wsX1_change := goodIn_r _ [47, 25, 161, 162, 163, 164, 165, 166, 167, 168, 169, 170, 171] (by decide +kernel) (by decide +kernel)
set_option maxRecDepth 20000 in
theorem gX4_on_X1_change : GoodIn wsX4_on (wsV RX4 173 RX1 yX1_change wsX1_change) := goodIn_app (goodIn_of _ (by decide +kernel)) ggX4_on_X1_change
set_option maxRecDepth 20000 in
theorem ggX4_on_X4_otherValueNow : GoodIn wsX4_on wsX4_otherValueNow := goodIn_r _ [52, 1, 2, 53, 39, 40, 41, 42, 43, 54, 55, 56, 22, 57, 58, 59, 60, 61, 29, 62, 63, 64, 65, 66, 67, 68, 69, 70, 24, 71, 72, 73, 6, 74, 75, 76, 77, 78, 9, 10, 11, 12, 13, 79, 80, 81, 82, 25, 83, 84, 85, 86, 87, 88, 89, 90, 91, 92, 93, 94, 95, 96, 27, 97, 98, 99, 100, 101, 102, 103, 104, 28, 105, 106, 107, 108, 109, 110, 111, 112, 113, 114, 115, 116, 51, 117, 118, 119, 120, 121, 122, 123, 124, 125, 126, 127, 128, 129, 130, 131, 132, 133, 134, 135, 136, 26, 137, 138, 139, 140, 15, 16, 17, 8, 141, 142, 143, 144, 145, 146, 147, 148, 149, 150, 151, 152, 153, 154, 155, 156, 157, 158, 161, 162, 163, 164, 165, 166, 167, 168, 169, 170, 171, 159, 160] (by decide +kernel) (by decide +kernel)
set_option maxRecDepth 20000 in
theorem gX4_on_X4_otherValueNow : GoodIn wsX4_on (wsV RX4 152 RX4 yX4_otherValueNow wsX4_otherValueNow) := goodIn_app (goodIn_of _ (by decide +kernel)) ggX4_on_X4_otherValueNow
theorem dX4_on_0 : decode cX4_on 0 = .ok (.aload_n 0, 1) := by decide +kernel
theorem dX4_on_1 : decode cX4_on 1 = .ok (.getfield 10, 3) := by decide +kernel
theorem dX4_on_4 : decode cX4_on 4 = .ok (.getfield 69, 3) := by decide +kernel
theorem dX4_on_7 : decode cX4_on 7 = .ok (.iconst 0, 1) := by decide +kernel
theorem dX4_on_8 : decode cX4_on 8 = .ok (.invokevirtual 140, 3) := by decide +kernel
theorem dX4_on_11 : decode cX4_on 11 = .ok (.iconst 2, 1) := by decide +kernel
theorem dX4_on_12 : decode cX4_on 12 = .ok (.if_icmp .ge 6, 3) := by decide +kernel
theorem dX4_on_15 : decode cX4_on 15 = .ok (.bipush (-9), 2) := by decide +kernel
theorem dX4_on_17 : decode cX4_on 17 = .ok (.ireturn, 1) := by decide +kernel
theorem dX4_on_18 : decode cX4_on 18 = .ok (.bipush (-9), 2) := by decide +kernel
theorem dX4_on_20 : decode cX4_on 20 = .ok (.istore_n 1, 1) := by decide +kernel
theorem dX4_on_21 : decode cX4_on 21 = .ok (.iconst 0, 1) := by decide +kernel
theorem dX4_on_22 : decode cX4_on 22 = .ok (.istore_n 2, 1) := by decide +kernel
theorem dX4_on_23 : decode cX4_on 23 = .ok (.iconst 0, 1) := by decide +kernel
theorem dX4_on_24 : decode cX4_on 24 = .ok (.istore_n 3, 1) := by decide +kernel
theorem dX4_on_25 : decode cX4_on 25 = .ok (.iload_n 3, 1) := by decide +kernel
theorem dX4_on_26 : decode cX4_on 26 = .ok (.aload_n 0, 1) := by decide +kernel
theorem dX4_on_27 : decode cX4_on 27 = .ok (.getfield 10, 3) := by decide +kernel
theorem dX4_on_30 : decode cX4_on 30 = .ok (.getfield 69, 3) := by decide +kernel
theorem dX4_on_33 : decode cX4_on 33 = .ok (.invokevirtual 73, 3) := by decide +kernel
theorem dX4_on_36 : decode cX4_on 36 = .ok (.if_icmp .ge 67, 3) := by decide +kernel
theorem dX4_on_39 : decode cX4_on 39 = .ok (.aload_n 0, 1) := by decide +kernel
theorem dX4_on_40 : decode cX4_on 40 = .ok (.getfield 10, 3) := by decide +kernel
theorem dX4_on_43 : decode cX4_on 43 = .ok (.getfield 69, 3) := by decide +kernel
theorem dX4_on_46 : decode cX4_on 46 = .ok (.iload_n 3, 1) := by decide +kernel
theorem dX4_on_47 : decode cX4_on 47 = .ok (.iconst 0, 1) := by decide +kernel
theorem dX4_on_48 : decode cX4_on 48 = .ok (.invokevirtual 97, 3) := by decide +kernel
theorem dX4_on_51 : decode cX4_on 51 = .ok (.ifCond .ne 46, 3) := by decide +kernel
theorem dX4_on_54 : decode cX4_on 54 = .ok (.aload_n 0, 1) := by decide +kernel
theorem dX4_on_55 : decode cX4_on 55 = .ok (.getfield 48, 3) := by decide +kernel
theorem dX4_on_58 : decode cX4_on 58 = .ok (.aload_n 0, 1) := by decide +kernel
theorem dX4_on_59 : decode cX4_on 59 = .ok (.getfield 10, 3) := by decide +kernel
theorem dX4_on_62 : decode cX4_on 62 = .ok (.invokevirtual 86, 3) := by decide +kernel
theorem dX4_on_65 : decode cX4_on 65 = .ok (.aload_n 0, 1) := by decide +kernel
theorem dX4_on_66 : decode cX4_on 66 = .ok (.getfield 48, 3) := by decide +kernel
theorem dX4_on_69 : decode cX4_on 69 = .ok (.iload_n 3, 1) := by decide +kernel
theorem dX4_on_70 : decode cX4_on 70 = .ok (.iconst 1, 1) := by decide +kernel
theorem dX4_on_71 : decode cX4_on 71 = .ok (.invokevirtual 173, 3) := by decide +kernel
theorem dX4_on_74 : decode cX4_on 74 = .ok (.aload_n 0, 1) := by decide +kernel
theorem dX4_on_75 : decode cX4_on 75 = .ok (.invokevirtual 152, 3) := by decide +kernel
theorem dX4_on_78 : decode cX4_on 78 = .ok (.istore 4, 2) := by decide +kernel
theorem dX4_on_80 : decode cX4_on 80 = .ok (.iload_n 1, 1) := by decide +kernel
theorem dX4_on_81 : decode cX4_on 81 = .ok (.bipush (-9), 2) := by decide +kernel
theorem dX4_on_83 : decode cX4_on 83 = .ok (.if_icmp .eq 9, 3) := by decide +kernel
theorem dX4_on_86 : decode cX4_on 86 = .ok (.iload 4, 2) := by decide +kernel
theorem dX4_on_88 : decode cX4_on 88 = .ok (.iload_n 2, 1) := by decide +kernel
theorem dX4_on_89 : decode cX4_on 89 = .ok (.if_icmp .le 8, 3) := by decide +kernel
theorem dX4_on_92 : decode cX4_on 92 = .ok (.iload_n 3, 1) := by decide +kernel
theorem dX4_on_93 : decode cX4_on 93 = .ok (.istore_n 1, 1) := by decide +kernel
theorem dX4_on_94 : decode cX4_on 94 = .ok (.iload 4, 2) := by decide +kernel
theorem dX4_on_96 : decode cX4_on 96 = .ok (.istore_n 2, 1) := by decide +kernel
theorem dX4_on_97 : decode cX4_on 97 = .ok (.iinc 3 1, 3) := by decide +kernel
theorem dX4_on_100 : decode cX4_on 100 = .ok (.goto (-75), 3) := by decide +kernel
theorem dX4_on_103 : decode cX4_on 103 = .ok (.iload_n 1, 1) := by decide +kernel
theorem dX4_on_104 : decode cX4_on 104 = .ok (.ireturn, 1) := by decide +kernel
set_option maxRecDepth 20000 in
theorem ggX4_byLaw_X4_refused : GoodIn wsX4_byLaw wsX4_refused := goodIn_r _ [7, 8, 146, 147, 148, 149, 150, 151, 152, 153, 154, 155] (by decide +kernel) (by decide +kernel)
set_option maxRecDepth 20000 in
theorem gX4_byLaw_X4_refused : GoodIn wsX4_byLaw (wsV RX4 62 RX4 yX4_refused wsX4_refused) := goodIn_app (goodIn_of _ (by decide +kernel)) ggX4_byLaw_X4_refused
set_option maxRecDepth 20000 in
theorem ggX4_byLaw_X1_start : GoodIn wsX4_byLaw wsX1_start := goodIn_r _ [13, 14, 15, 16, 17, 18, 19, 20, 21, 22, 23, 24, 25, 26, 27, 28, 29, 30, 31, 32, 33, 34, 35, 36, 156, 157, 158, 159, 160, 161, 162, 163, 164, 165, 166, 167, 168, 169, 170] (by decide +kernel) (by decide +kernel)
set_option maxRecDepth 20000 in
theorem gX4_byLaw_X1_start : GoodIn wsX4_byLaw (wsV RX4 86 RX1 yX1_start wsX1_start) := goodIn_app (goodIn_of _ (by decide +kernel)) ggX4_byLaw_X1_start
set_option maxRecDepth 20000 in
theorem ggX4_byLaw_X1_changeLaw : GoodIn wsX4_byLaw wsX1_changeLaw := goodIn_r _ [40, 17, 156, 157, 158, 159, 160, 161, 162, 163, 164, 165, 166] (by decide +kernel) (by decide +kernel)
set_option maxRecDepth 20000 in
theorem gX4_byLaw_X1_changeLaw : GoodIn wsX4_byLaw (wsV RX4 176 RX1 yX1_changeLaw wsX1_changeLaw) := goodIn_app (goodIn_of _ (by decide +kernel)) ggX4_byLaw_X1_changeLaw
set_option maxRecDepth 20000 in
theorem ggX4_byLaw_X4_otherValueNow : GoodIn wsX4_byLaw wsX4_otherValueNow := goodIn_r _ [44, 2, 1, 45, 32, 33, 34, 35, 36, 46, 47, 48, 12, 49, 50, 51, 52, 53, 19, 54, 55, 56, 57, 58, 59, 60, 61, 62, 14, 63, 64, 65, 23, 66, 67, 68, 69, 70, 71, 72, 73, 74, 26, 75, 76, 77, 78, 15, 79, 80, 81, 82, 83, 84, 85, 86, 87, 88, 89, 90, 91, 92, 17, 93, 94, 95, 96, 97, 98, 99, 100, 18, 101, 102, 103, 104, 105, 106, 107, 108, 109, 110, 111, 112, 6, 113, 114, 115, 116, 117, 118, 119, 120, 121, 122, 123, 124, 125, 126, 127, 128, 129, 130, 131, 132, 16, 133, 134, 135, 136, 137, 138, 139, 25, 140, 141, 142, 143, 144, 145, 146, 147, 148, 149, 150, 151, 152, 153, 154, 155, 167, 168, 156, 157, 158, 159, 160, 161, 162, 163, 164, 165, 166, 169, 170] (by decide +kernel) (by decide +kernel)
set_option maxRecDepth 20000 in
theorem gX4_byLaw_X4_otherValueNow : GoodIn wsX4_byLaw (wsV RX4 152 RX4 yX4_otherValueNow wsX4_otherValueNow) := goodIn_app (goodIn_of _ (by decide +kernel)) ggX4_byLaw_X4_otherValueNow
theorem dX4_byLaw_0 : decode cX4_byLaw 0 = .ok (.iload_n 1, 1) := by decide +kernel
theorem dX4_byLaw_1 : decode cX4_byLaw 1 = .ok (.ifCond .lt 8, 3) := by decide +kernel
theorem dX4_byLaw_4 : decode cX4_byLaw 4 = .ok (.iload_n 1, 1) := by decide +kernel
theorem dX4_byLaw_5 : decode cX4_byLaw 5 = .ok (.iconst 4, 1) := by decide +kernel
theorem dX4_byLaw_6 : decode cX4_byLaw 6 = .ok (.if_icmp .lt 10, 3) := by decide +kernel
theorem dX4_byLaw_9 : decode cX4_byLaw 9 = .ok (.aload_n 0, 1) := by decide +kernel
theorem dX4_byLaw_10 : decode cX4_byLaw 10 = .ok (.bipush (-2), 2) := by decide +kernel
theorem dX4_byLaw_12 : decode cX4_byLaw 12 = .ok (.invokevirtual 62, 3) := by decide +kernel
theorem dX4_byLaw_15 : decode cX4_byLaw 15 = .ok (.ireturn, 1) := by decide +kernel
theorem dX4_byLaw_16 : decode cX4_byLaw 16 = .ok (.aload_n 0, 1) := by decide +kernel
theorem dX4_byLaw_17 : decode cX4_byLaw 17 = .ok (.getfield 48, 3) := by decide +kernel
theorem dX4_byLaw_20 : decode cX4_byLaw 20 = .ok (.aload_n 0, 1) := by decide +kernel
theorem dX4_byLaw_21 : decode cX4_byLaw 21 = .ok (.getfield 10, 3) := by decide +kernel
theorem dX4_byLaw_24 : decode cX4_byLaw 24 = .ok (.invokevirtual 86, 3) := by decide +kernel
theorem dX4_byLaw_27 : decode cX4_byLaw 27 = .ok (.aload_n 0, 1) := by decide +kernel
theorem dX4_byLaw_28 : decode cX4_byLaw 28 = .ok (.getfield 48, 3) := by decide +kernel
theorem dX4_byLaw_31 : decode cX4_byLaw 31 = .ok (.iload_n 1, 1) := by decide +kernel
theorem dX4_byLaw_32 : decode cX4_byLaw 32 = .ok (.invokevirtual 176, 3) := by decide +kernel
theorem dX4_byLaw_35 : decode cX4_byLaw 35 = .ok (.aload_n 0, 1) := by decide +kernel
theorem dX4_byLaw_36 : decode cX4_byLaw 36 = .ok (.invokevirtual 152, 3) := by decide +kernel
theorem dX4_byLaw_39 : decode cX4_byLaw 39 = .ok (.ireturn, 1) := by decide +kernel
set_option maxRecDepth 20000 in
theorem ggX4_fairest_X1_start : GoodIn wsX4_fairest wsX1_start := goodIn_r _ [13, 14, 15, 16, 17, 18, 19, 20, 21, 22, 23, 24, 25, 26, 27, 28, 29, 30, 31, 32, 33, 34, 35, 36, 154, 155, 156, 157, 158, 159, 160, 161, 162, 163, 164, 165, 166, 167, 168] (by decide +kernel) (by decide +kernel)
set_option maxRecDepth 20000 in
theorem gX4_fairest_X1_start : GoodIn wsX4_fairest (wsV RX4 86 RX1 yX1_start wsX1_start) := goodIn_app (goodIn_of _ (by decide +kernel)) ggX4_fairest_X1_start
set_option maxRecDepth 20000 in
theorem ggX4_fairest_X1_changeLaw : GoodIn wsX4_fairest wsX1_changeLaw := goodIn_r _ [40, 17, 154, 155, 156, 157, 158, 159, 160, 161, 162, 163, 164] (by decide +kernel) (by decide +kernel)
set_option maxRecDepth 20000 in
theorem gX4_fairest_X1_changeLaw : GoodIn wsX4_fairest (wsV RX4 176 RX1 yX1_changeLaw wsX1_changeLaw) := goodIn_app (goodIn_of _ (by decide +kernel)) ggX4_fairest_X1_changeLaw
set_option maxRecDepth 20000 in
theorem ggX4_fairest_X4_otherValueNow : GoodIn wsX4_fairest wsX4_otherValueNow := goodIn_r _ [45, 3, 2, 46, 32, 33, 34, 35, 36, 47, 48, 49, 12, 50, 51, 52, 7, 53, 19, 54, 55, 56, 57, 58, 59, 60, 61, 62, 14, 63, 64, 65, 23, 66, 67, 68, 69, 70, 71, 72, 73, 74, 26, 75, 76, 77, 78, 15, 79, 80, 81, 82, 83, 84, 85, 86, 87, 88, 89, 90, 91, 92, 17, 93, 6, 8, 94, 95, 96, 97, 98, 18, 99, 100, 101, 102, 103, 104, 105, 106, 107, 108, 109, 110, 44, 111, 112, 113, 114, 115, 116, 117, 118, 119, 120, 121, 122, 123, 124, 125, 126, 127, 128, 129, 130, 16, 131, 132, 133, 134, 135, 136, 137, 25, 138, 139, 140, 141, 142, 143, 144, 145, 146, 147, 148, 149, 150, 151, 152, 153, 165, 166, 154, 155, 156, 157, 158, 159, 160, 161, 162, 163, 164, 167, 168] (by decide +kernel) (by decide +kernel)
set_option maxRecDepth 20000 in
theorem gX4_fairest_X4_otherValueNow : GoodIn wsX4_fairest (wsV RX4 152 RX4 yX4_otherValueNow wsX4_otherValueNow) := goodIn_app (goodIn_of _ (by decide +kernel)) ggX4_fairest_X4_otherValueNow
theorem dX4_fairest_0 : decode cX4_fairest 0 = .ok (.iconst 0, 1) := by decide +kernel
theorem dX4_fairest_1 : decode cX4_fairest 1 = .ok (.istore_n 1, 1) := by decide +kernel
theorem dX4_fairest_2 : decode cX4_fairest 2 = .ok (.ldc 179, 2) := by decide +kernel
theorem dX4_fairest_4 : decode cX4_fairest 4 = .ok (.istore_n 2, 1) := by decide +kernel
theorem dX4_fairest_5 : decode cX4_fairest 5 = .ok (.iconst 0, 1) := by decide +kernel
theorem dX4_fairest_6 : decode cX4_fairest 6 = .ok (.istore_n 3, 1) := by decide +kernel
theorem dX4_fairest_7 : decode cX4_fairest 7 = .ok (.iload_n 3, 1) := by decide +kernel
theorem dX4_fairest_8 : decode cX4_fairest 8 = .ok (.iconst 4, 1) := by decide +kernel
theorem dX4_fairest_9 : decode cX4_fairest 9 = .ok (.if_icmp .ge 51, 3) := by decide +kernel
theorem dX4_fairest_12 : decode cX4_fairest 12 = .ok (.aload_n 0, 1) := by decide +kernel
theorem dX4_fairest_13 : decode cX4_fairest 13 = .ok (.getfield 48, 3) := by decide +kernel
theorem dX4_fairest_16 : decode cX4_fairest 16 = .ok (.aload_n 0, 1) := by decide +kernel
theorem dX4_fairest_17 : decode cX4_fairest 17 = .ok (.getfield 10, 3) := by decide +kernel
theorem dX4_fairest_20 : decode cX4_fairest 20 = .ok (.invokevirtual 86, 3) := by decide +kernel
theorem dX4_fairest_23 : decode cX4_fairest 23 = .ok (.aload_n 0, 1) := by decide +kernel
theorem dX4_fairest_24 : decode cX4_fairest 24 = .ok (.getfield 48, 3) := by decide +kernel
theorem dX4_fairest_27 : decode cX4_fairest 27 = .ok (.iload_n 3, 1) := by decide +kernel
theorem dX4_fairest_28 : decode cX4_fairest 28 = .ok (.invokevirtual 176, 3) := by decide +kernel
theorem dX4_fairest_31 : decode cX4_fairest 31 = .ok (.aload_n 0, 1) := by decide +kernel
theorem dX4_fairest_32 : decode cX4_fairest 32 = .ok (.invokevirtual 152, 3) := by decide +kernel
theorem dX4_fairest_35 : decode cX4_fairest 35 = .ok (.ldc 180, 2) := by decide +kernel
theorem dX4_fairest_37 : decode cX4_fairest 37 = .ok (.isub, 1) := by decide +kernel
theorem dX4_fairest_38 : decode cX4_fairest 38 = .ok (.invokestatic 181, 3) := by decide +kernel
theorem dX4_fairest_41 : decode cX4_fairest 41 = .ok (.istore 4, 2) := by decide +kernel
theorem dX4_fairest_43 : decode cX4_fairest 43 = .ok (.iload 4, 2) := by decide +kernel
theorem dX4_fairest_45 : decode cX4_fairest 45 = .ok (.iload_n 2, 1) := by decide +kernel
theorem dX4_fairest_46 : decode cX4_fairest 46 = .ok (.if_icmp .ge 8, 3) := by decide +kernel
theorem dX4_fairest_49 : decode cX4_fairest 49 = .ok (.iload_n 3, 1) := by decide +kernel
theorem dX4_fairest_50 : decode cX4_fairest 50 = .ok (.istore_n 1, 1) := by decide +kernel
theorem dX4_fairest_51 : decode cX4_fairest 51 = .ok (.iload 4, 2) := by decide +kernel
theorem dX4_fairest_53 : decode cX4_fairest 53 = .ok (.istore_n 2, 1) := by decide +kernel
theorem dX4_fairest_54 : decode cX4_fairest 54 = .ok (.iinc 3 1, 3) := by decide +kernel
theorem dX4_fairest_57 : decode cX4_fairest 57 = .ok (.goto (-50), 3) := by decide +kernel
theorem dX4_fairest_60 : decode cX4_fairest 60 = .ok (.iload_n 1, 1) := by decide +kernel
theorem dX4_fairest_61 : decode cX4_fairest 61 = .ok (.ireturn, 1) := by decide +kernel
set_option maxRecDepth 20000 in
theorem ggX4_hand_X4_outside : GoodIn wsX4_hand wsX4_outside := goodIn_r _ [4] (by decide +kernel) (by decide +kernel)
set_option maxRecDepth 20000 in
theorem gX4_hand_X4_outside : GoodIn wsX4_hand (va_wsS RX4 54 yX4_outside wsX4_outside) := goodIn_app (goodIn_of _ (by decide +kernel)) ggX4_hand_X4_outside
set_option maxRecDepth 20000 in
theorem ggX4_hand_X4_refused : GoodIn wsX4_hand wsX4_refused := goodIn_r _ [8, 9, 14, 15, 16, 17, 18, 19, 20, 21, 22, 23] (by decide +kernel) (by decide +kernel)
set_option maxRecDepth 20000 in
theorem gX4_hand_X4_refused : GoodIn wsX4_hand (wsV RX4 62 RX4 yX4_refused wsX4_refused) := goodIn_app (goodIn_of _ (by decide +kernel)) ggX4_hand_X4_refused
set_option maxRecDepth 20000 in
theorem ggX4_hand_X4_takes : GoodIn wsX4_hand wsX4_takes := goodIn_r _ [12, 13] (by decide +kernel) (by decide +kernel)
set_option maxRecDepth 20000 in
theorem gX4_hand_X4_takes : GoodIn wsX4_hand (va_wsS RX4 186 yX4_takes wsX4_takes) := goodIn_app (goodIn_of _ (by decide +kernel)) ggX4_hand_X4_takes
theorem dX4_hand_0 : decode cX4_hand 0 = .ok (.iload_n 1, 1) := by decide +kernel
theorem dX4_hand_1 : decode cX4_hand 1 = .ok (.bipush 24, 2) := by decide +kernel
theorem dX4_hand_3 : decode cX4_hand 3 = .ok (.invokestatic 54, 3) := by decide +kernel
theorem dX4_hand_6 : decode cX4_hand 6 = .ok (.istore_n 2, 1) := by decide +kernel
theorem dX4_hand_7 : decode cX4_hand 7 = .ok (.iload_n 2, 1) := by decide +kernel
theorem dX4_hand_8 : decode cX4_hand 8 = .ok (.ifCond .eq 9, 3) := by decide +kernel
theorem dX4_hand_11 : decode cX4_hand 11 = .ok (.aload_n 0, 1) := by decide +kernel
theorem dX4_hand_12 : decode cX4_hand 12 = .ok (.iload_n 2, 1) := by decide +kernel
theorem dX4_hand_13 : decode cX4_hand 13 = .ok (.invokevirtual 62, 3) := by decide +kernel
theorem dX4_hand_16 : decode cX4_hand 16 = .ok (.ireturn, 1) := by decide +kernel
theorem dX4_hand_17 : decode cX4_hand 17 = .ok (.iconst 0, 1) := by decide +kernel
theorem dX4_hand_18 : decode cX4_hand 18 = .ok (.istore_n 3, 1) := by decide +kernel
theorem dX4_hand_19 : decode cX4_hand 19 = .ok (.iconst 0, 1) := by decide +kernel
theorem dX4_hand_20 : decode cX4_hand 20 = .ok (.istore 4, 2) := by decide +kernel
theorem dX4_hand_22 : decode cX4_hand 22 = .ok (.iload 4, 2) := by decide +kernel
theorem dX4_hand_24 : decode cX4_hand 24 = .ok (.iconst 3, 1) := by decide +kernel
theorem dX4_hand_25 : decode cX4_hand 25 = .ok (.if_icmp .ge 25, 3) := by decide +kernel
theorem dX4_hand_28 : decode cX4_hand 28 = .ok (.iload 4, 2) := by decide +kernel
theorem dX4_hand_30 : decode cX4_hand 30 = .ok (.invokestatic 186, 3) := by decide +kernel
theorem dX4_hand_33 : decode cX4_hand 33 = .ok (.iload_n 1, 1) := by decide +kernel
theorem dX4_hand_34 : decode cX4_hand 34 = .ok (.if_icmp .gt 10, 3) := by decide +kernel
theorem dX4_hand_37 : decode cX4_hand 37 = .ok (.iload_n 3, 1) := by decide +kernel
theorem dX4_hand_38 : decode cX4_hand 38 = .ok (.iconst 1, 1) := by decide +kernel
theorem dX4_hand_39 : decode cX4_hand 39 = .ok (.iload 4, 2) := by decide +kernel
theorem dX4_hand_41 : decode cX4_hand 41 = .ok (.ishl, 1) := by decide +kernel
theorem dX4_hand_42 : decode cX4_hand 42 = .ok (.ior, 1) := by decide +kernel
theorem dX4_hand_43 : decode cX4_hand 43 = .ok (.istore_n 3, 1) := by decide +kernel
theorem dX4_hand_44 : decode cX4_hand 44 = .ok (.iinc 4 1, 3) := by decide +kernel
theorem dX4_hand_47 : decode cX4_hand 47 = .ok (.goto (-25), 3) := by decide +kernel
theorem dX4_hand_50 : decode cX4_hand 50 = .ok (.iload_n 3, 1) := by decide +kernel
theorem dX4_hand_51 : decode cX4_hand 51 = .ok (.ireturn, 1) := by decide +kernel
set_option maxRecDepth 20000 in
theorem ggX4_row_X4_outside : GoodIn wsX4_row wsX4_outside := goodIn_r _ [6] (by decide +kernel) (by decide +kernel)
set_option maxRecDepth 20000 in
theorem gX4_row_X4_outside : GoodIn wsX4_row (va_wsS RX4 54 yX4_outside wsX4_outside) := goodIn_app (goodIn_of _ (by decide +kernel)) ggX4_row_X4_outside
set_option maxRecDepth 20000 in
theorem ggX4_row_X4_refused : GoodIn wsX4_row wsX4_refused := goodIn_r _ [10, 11, 12, 13, 14, 15, 16, 17, 18, 19, 20, 21] (by decide +kernel) (by decide +kernel)
set_option maxRecDepth 20000 in
theorem gX4_row_X4_refused : GoodIn wsX4_row (wsV RX4 62 RX4 yX4_refused wsX4_refused) := goodIn_app (goodIn_of _ (by decide +kernel)) ggX4_row_X4_refused
theorem dX4_row_0 : decode cX4_row 0 = .ok (.iload_n 1, 1) := by decide +kernel
theorem dX4_row_1 : decode cX4_row 1 = .ok (.bipush 9, 2) := by decide +kernel
theorem dX4_row_3 : decode cX4_row 3 = .ok (.invokestatic 54, 3) := by decide +kernel
theorem dX4_row_6 : decode cX4_row 6 = .ok (.istore_n 2, 1) := by decide +kernel
theorem dX4_row_7 : decode cX4_row 7 = .ok (.iload_n 2, 1) := by decide +kernel
theorem dX4_row_8 : decode cX4_row 8 = .ok (.ifCond .ne 18, 3) := by decide +kernel
theorem dX4_row_11 : decode cX4_row 11 = .ok (.aload_n 0, 1) := by decide +kernel
theorem dX4_row_12 : decode cX4_row 12 = .ok (.getfield 34, 3) := by decide +kernel
theorem dX4_row_15 : decode cX4_row 15 = .ok (.aload_n 0, 1) := by decide +kernel
theorem dX4_row_16 : decode cX4_row 16 = .ok (.getfield 30, 3) := by decide +kernel
theorem dX4_row_19 : decode cX4_row 19 = .ok (.arraylength, 1) := by decide +kernel
theorem dX4_row_20 : decode cX4_row 20 = .ok (.if_icmp .lt 6, 3) := by decide +kernel
theorem dX4_row_23 : decode cX4_row 23 = .ok (.bipush (-6), 2) := by decide +kernel
theorem dX4_row_25 : decode cX4_row 25 = .ok (.istore_n 2, 1) := by decide +kernel
theorem dX4_row_26 : decode cX4_row 26 = .ok (.iload_n 2, 1) := by decide +kernel
theorem dX4_row_27 : decode cX4_row 27 = .ok (.ifCond .eq 9, 3) := by decide +kernel
theorem dX4_row_30 : decode cX4_row 30 = .ok (.aload_n 0, 1) := by decide +kernel
theorem dX4_row_31 : decode cX4_row 31 = .ok (.iload_n 2, 1) := by decide +kernel
theorem dX4_row_32 : decode cX4_row 32 = .ok (.invokevirtual 62, 3) := by decide +kernel
theorem dX4_row_35 : decode cX4_row 35 = .ok (.ireturn, 1) := by decide +kernel
theorem dX4_row_36 : decode cX4_row 36 = .ok (.aload_n 0, 1) := by decide +kernel
theorem dX4_row_37 : decode cX4_row 37 = .ok (.getfield 30, 3) := by decide +kernel
theorem dX4_row_40 : decode cX4_row 40 = .ok (.aload_n 0, 1) := by decide +kernel
theorem dX4_row_41 : decode cX4_row 41 = .ok (.getfield 34, 3) := by decide +kernel
theorem dX4_row_44 : decode cX4_row 44 = .ok (.iload_n 1, 1) := by decide +kernel
theorem dX4_row_45 : decode cX4_row 45 = .ok (.iastore, 1) := by decide +kernel
theorem dX4_row_46 : decode cX4_row 46 = .ok (.aload_n 0, 1) := by decide +kernel
theorem dX4_row_47 : decode cX4_row 47 = .ok (.dup, 1) := by decide +kernel
theorem dX4_row_48 : decode cX4_row 48 = .ok (.getfield 34, 3) := by decide +kernel
theorem dX4_row_51 : decode cX4_row 51 = .ok (.iconst 1, 1) := by decide +kernel
theorem dX4_row_52 : decode cX4_row 52 = .ok (.iadd, 1) := by decide +kernel
theorem dX4_row_53 : decode cX4_row 53 = .ok (.putfield 34, 3) := by decide +kernel
theorem dX4_row_56 : decode cX4_row 56 = .ok (.aload_n 0, 1) := by decide +kernel
theorem dX4_row_57 : decode cX4_row 57 = .ok (.getfield 34, 3) := by decide +kernel
theorem dX4_row_60 : decode cX4_row 60 = .ok (.ireturn, 1) := by decide +kernel
set_option maxRecDepth 20000 in
theorem ggX4_judge_X4_placeThatCanNotBe : GoodIn wsX4_judge wsX4_placeThatCanNotBe := goodIn_r _ [6, 7, 1, 8, 9, 10, 11, 12, 13, 14, 15, 16, 17, 18, 19, 20, 21, 22, 5, 23, 24, 25, 26, 27, 28, 29, 30, 31, 32, 33, 34, 35, 36, 37, 38, 39, 40, 41, 42, 43, 44, 45, 46, 47, 48, 49, 50, 51, 52, 53, 54, 55, 56, 57, 58, 59, 60, 61, 62, 63, 64, 65, 66, 67, 68, 69, 70, 71, 72] (by decide +kernel) (by decide +kernel)
set_option maxRecDepth 20000 in
theorem gX4_judge_X4_placeThatCanNotBe : GoodIn wsX4_judge (wsV RX4 189 RX4 yX4_placeThatCanNotBe wsX4_placeThatCanNotBe) := goodIn_app (goodIn_of _ (by decide +kernel)) ggX4_judge_X4_placeThatCanNotBe
theorem dX4_judge_0 : decode cX4_judge 0 = .ok (.aload_n 0, 1) := by decide +kernel
theorem dX4_judge_1 : decode cX4_judge 1 = .ok (.invokevirtual 189, 3) := by decide +kernel
theorem dX4_judge_4 : decode cX4_judge 4 = .ok (.istore_n 1, 1) := by decide +kernel
theorem dX4_judge_5 : decode cX4_judge 5 = .ok (.aload_n 0, 1) := by decide +kernel
theorem dX4_judge_6 : decode cX4_judge 6 = .ok (.iconst 0, 1) := by decide +kernel
theorem dX4_judge_7 : decode cX4_judge 7 = .ok (.putfield 34, 3) := by decide +kernel
theorem dX4_judge_10 : decode cX4_judge 10 = .ok (.iload_n 1, 1) := by decide +kernel
theorem dX4_judge_11 : decode cX4_judge 11 = .ok (.ireturn, 1) := by decide +kernel
set_option maxRecDepth 20000 in
theorem ggX4_lots_X4_outside : GoodIn wsX4_lots wsX4_outside := goodIn_r _ [5] (by decide +kernel) (by decide +kernel)
set_option maxRecDepth 20000 in
theorem gX4_lots_X4_outside : GoodIn wsX4_lots (va_wsS RX4 54 yX4_outside wsX4_outside) := goodIn_app (goodIn_of _ (by decide +kernel)) ggX4_lots_X4_outside
set_option maxRecDepth 20000 in
theorem ggX4_lots_X4_refused : GoodIn wsX4_lots wsX4_refused := goodIn_r _ [9, 10, 149, 150, 151, 152, 153, 154, 155, 156, 157, 158] (by decide +kernel) (by decide +kernel)
set_option maxRecDepth 20000 in
theorem gX4_lots_X4_refused : GoodIn wsX4_lots (wsV RX4 62 RX4 yX4_refused wsX4_refused) := goodIn_app (goodIn_of _ (by decide +kernel)) ggX4_lots_X4_refused
set_option maxRecDepth 20000 in
theorem ggX4_lots_X4_leadByLot : GoodIn wsX4_lots wsX4_leadByLot := goodIn_r _ [14, 15, 16, 17, 18, 19, 20, 21, 22, 23, 24, 25, 26, 27, 28, 29, 30, 31, 32, 33, 34, 35, 36, 37, 38, 39, 40, 41, 42, 43, 44, 45, 46, 47, 48, 49, 50, 51, 52, 53, 54, 55, 56, 57, 58, 59, 60, 61, 62, 63, 64, 65, 66, 67, 68, 69, 70, 71, 72, 73, 74, 75, 76, 77, 78, 79, 80, 81, 82, 83, 84, 85, 86, 87, 88, 89, 90, 91, 92, 93, 94, 95, 96, 97, 98, 4, 99, 100, 101, 102, 103, 104, 105, 106, 107, 108, 109, 110, 111, 112, 113, 114, 115, 116, 117, 118, 119, 120, 121, 122, 123, 124, 125, 126, 127, 128, 129, 130, 131, 132, 133, 134, 135, 136, 137, 138, 139, 140, 141, 142, 1, 143, 144, 145, 146, 147, 148, 149, 150, 151, 152, 153, 154, 155, 156, 157, 158, 159, 160, 161, 162, 163, 164, 165, 166, 167, 168, 169, 170, 171, 172, 173] (by decide +kernel) (by decide +kernel)
set_option maxRecDepth 20000 in
theorem gX4_lots_X4_leadByLot : GoodIn wsX4_lots (wsV RX4 192 RX4 yX4_leadByLot wsX4_leadByLot) := goodIn_app (goodIn_of _ (by decide +kernel)) ggX4_lots_X4_leadByLot
theorem dX4_lots_0 : decode cX4_lots 0 = .ok (.iload_n 1, 1) := by decide +kernel
theorem dX4_lots_1 : decode cX4_lots 1 = .ok (.iconst 1, 1) := by decide +kernel
theorem dX4_lots_2 : decode cX4_lots 2 = .ok (.if_icmp .ge 8, 3) := by decide +kernel
theorem dX4_lots_5 : decode cX4_lots 5 = .ok (.bipush (-4), 2) := by decide +kernel
theorem dX4_lots_7 : decode cX4_lots 7 = .ok (.goto 9, 3) := by decide +kernel
theorem dX4_lots_10 : decode cX4_lots 10 = .ok (.iload_n 1, 1) := by decide +kernel
theorem dX4_lots_11 : decode cX4_lots 11 = .ok (.bipush 30, 2) := by decide +kernel
theorem dX4_lots_13 : decode cX4_lots 13 = .ok (.invokestatic 54, 3) := by decide +kernel
theorem dX4_lots_16 : decode cX4_lots 16 = .ok (.istore_n 3, 1) := by decide +kernel
theorem dX4_lots_17 : decode cX4_lots 17 = .ok (.iload_n 3, 1) := by decide +kernel
theorem dX4_lots_18 : decode cX4_lots 18 = .ok (.ifCond .eq 9, 3) := by decide +kernel
theorem dX4_lots_21 : decode cX4_lots 21 = .ok (.aload_n 0, 1) := by decide +kernel
theorem dX4_lots_22 : decode cX4_lots 22 = .ok (.iload_n 3, 1) := by decide +kernel
theorem dX4_lots_23 : decode cX4_lots 23 = .ok (.invokevirtual 62, 3) := by decide +kernel
theorem dX4_lots_26 : decode cX4_lots 26 = .ok (.ireturn, 1) := by decide +kernel
theorem dX4_lots_27 : decode cX4_lots 27 = .ok (.aload_n 0, 1) := by decide +kernel
theorem dX4_lots_28 : decode cX4_lots 28 = .ok (.iload_n 2, 1) := by decide +kernel
theorem dX4_lots_29 : decode cX4_lots 29 = .ok (.putfield 51, 3) := by decide +kernel
theorem dX4_lots_32 : decode cX4_lots 32 = .ok (.iconst 0, 1) := by decide +kernel
theorem dX4_lots_33 : decode cX4_lots 33 = .ok (.istore 4, 2) := by decide +kernel
theorem dX4_lots_35 : decode cX4_lots 35 = .ok (.iconst 0, 1) := by decide +kernel
theorem dX4_lots_36 : decode cX4_lots 36 = .ok (.istore 5, 2) := by decide +kernel
theorem dX4_lots_38 : decode cX4_lots 38 = .ok (.iload 5, 2) := by decide +kernel
theorem dX4_lots_40 : decode cX4_lots 40 = .ok (.iload_n 1, 1) := by decide +kernel
theorem dX4_lots_41 : decode cX4_lots 41 = .ok (.if_icmp .ge 44, 3) := by decide +kernel
theorem dX4_lots_44 : decode cX4_lots 44 = .ok (.aload_n 0, 1) := by decide +kernel
theorem dX4_lots_45 : decode cX4_lots 45 = .ok (.invokevirtual 192, 3) := by decide +kernel
theorem dX4_lots_48 : decode cX4_lots 48 = .ok (.istore 6, 2) := by decide +kernel
theorem dX4_lots_50 : decode cX4_lots 50 = .ok (.iload 4, 2) := by decide +kernel
theorem dX4_lots_52 : decode cX4_lots 52 = .ok (.iload 6, 2) := by decide +kernel
theorem dX4_lots_54 : decode cX4_lots 54 = .ok (.bipush 6, 2) := by decide +kernel
theorem dX4_lots_56 : decode cX4_lots 56 = .ok (.if_icmp .le 8, 3) := by decide +kernel
theorem dX4_lots_59 : decode cX4_lots 59 = .ok (.bipush 100, 2) := by decide +kernel
theorem dX4_lots_61 : decode cX4_lots 61 = .ok (.goto 15, 3) := by decide +kernel
theorem dX4_lots_64 : decode cX4_lots 64 = .ok (.iload 6, 2) := by decide +kernel
theorem dX4_lots_66 : decode cX4_lots 66 = .ok (.bipush 6, 2) := by decide +kernel
theorem dX4_lots_68 : decode cX4_lots 68 = .ok (.if_icmp .ne 7, 3) := by decide +kernel
theorem dX4_lots_71 : decode cX4_lots 71 = .ok (.iconst 1, 1) := by decide +kernel
theorem dX4_lots_72 : decode cX4_lots 72 = .ok (.goto 4, 3) := by decide +kernel
theorem dX4_lots_75 : decode cX4_lots 75 = .ok (.iconst 0, 1) := by decide +kernel
theorem dX4_lots_76 : decode cX4_lots 76 = .ok (.iadd, 1) := by decide +kernel
theorem dX4_lots_77 : decode cX4_lots 77 = .ok (.istore 4, 2) := by decide +kernel
theorem dX4_lots_79 : decode cX4_lots 79 = .ok (.iinc 5 1, 3) := by decide +kernel
theorem dX4_lots_82 : decode cX4_lots 82 = .ok (.goto (-44), 3) := by decide +kernel
theorem dX4_lots_85 : decode cX4_lots 85 = .ok (.iload 4, 2) := by decide +kernel
theorem dX4_lots_87 : decode cX4_lots 87 = .ok (.ireturn, 1) := by decide +kernel
set_option maxRecDepth 20000 in
theorem ggX4_image_X0_copy : GoodIn wsX4_image wsX0_copy := goodIn_r _ [8, 9, 10, 11, 12, 13, 14, 15, 16, 17, 18, 19, 20, 21, 22, 37, 38, 39, 40] (by decide +kernel) (by decide +kernel)
set_option maxRecDepth 20000 in
theorem gX4_image_X0_copy : GoodIn wsX4_image (wsV RX4 195 RX0 yX0_copy wsX0_copy) := goodIn_app (goodIn_of _ (by decide +kernel)) ggX4_image_X0_copy
set_option maxRecDepth 20000 in
theorem ggX4_image_X0_told : GoodIn wsX4_image wsX0_told := goodIn_r _ [26, 9, 37, 38] (by decide +kernel) (by decide +kernel)
set_option maxRecDepth 20000 in
theorem gX4_image_X0_told : GoodIn wsX4_image (wsV RX4 107 RX0 yX0_told wsX0_told) := goodIn_app (goodIn_of _ (by decide +kernel)) ggX4_image_X0_told
theorem dX4_image_0 : decode cX4_image 0 = .ok (.aload_n 0, 1) := by decide +kernel
theorem dX4_image_1 : decode cX4_image 1 = .ok (.getfield 16, 3) := by decide +kernel
theorem dX4_image_4 : decode cX4_image 4 = .ok (.aload_n 0, 1) := by decide +kernel
theorem dX4_image_5 : decode cX4_image 5 = .ok (.getfield 10, 3) := by decide +kernel
theorem dX4_image_8 : decode cX4_image 8 = .ok (.invokevirtual 195, 3) := by decide +kernel
theorem dX4_image_11 : decode cX4_image 11 = .ok (.aload_n 0, 1) := by decide +kernel
theorem dX4_image_12 : decode cX4_image 12 = .ok (.iconst 1, 1) := by decide +kernel
theorem dX4_image_13 : decode cX4_image 13 = .ok (.putfield 19, 3) := by decide +kernel
theorem dX4_image_16 : decode cX4_image 16 = .ok (.aload_n 0, 1) := by decide +kernel
theorem dX4_image_17 : decode cX4_image 17 = .ok (.getfield 10, 3) := by decide +kernel
theorem dX4_image_20 : decode cX4_image 20 = .ok (.iconst 0, 1) := by decide +kernel
theorem dX4_image_21 : decode cX4_image 21 = .ok (.invokevirtual 107, 3) := by decide +kernel
theorem dX4_image_24 : decode cX4_image 24 = .ok (.ireturn, 1) := by decide +kernel
set_option maxRecDepth 20000 in
theorem ggX4_restore_X4_refused : GoodIn wsX4_restore wsX4_refused := goodIn_r _ [9, 10, 47, 48, 49, 50, 51, 52, 53, 54, 55, 56] (by decide +kernel) (by decide +kernel)
set_option maxRecDepth 20000 in
theorem gX4_restore_X4_refused : GoodIn wsX4_restore (wsV RX4 62 RX4 yX4_refused wsX4_refused) := goodIn_app (goodIn_of _ (by decide +kernel)) ggX4_restore_X4_refused
set_option maxRecDepth 20000 in
theorem ggX4_restore_X0_copy : GoodIn wsX4_restore wsX0_copy := goodIn_r _ [15, 16, 17, 18, 19, 20, 21, 22, 23, 24, 25, 26, 27, 28, 29, 57, 58, 59, 60] (by decide +kernel) (by decide +kernel)
set_option maxRecDepth 20000 in
theorem gX4_restore_X0_copy : GoodIn wsX4_restore (wsV RX4 195 RX0 yX0_copy wsX0_copy) := goodIn_app (goodIn_of _ (by decide +kernel)) ggX4_restore_X0_copy
set_option maxRecDepth 20000 in
theorem ggX4_restore_X1_start : GoodIn wsX4_restore wsX1_start := goodIn_r _ [34, 35, 36, 37, 38, 39, 40, 41, 23, 24, 25, 26, 27, 28, 29, 18, 19, 20, 42, 43, 44, 14, 45, 16, 61, 62, 63, 64, 65, 66, 67, 68, 69, 70, 71, 57, 58, 59, 60] (by decide +kernel) (by decide +kernel)
set_option maxRecDepth 20000 in
theorem gX4_restore_X1_start : GoodIn wsX4_restore (wsV RX4 86 RX1 yX1_start wsX1_start) := goodIn_app (goodIn_of _ (by decide +kernel)) ggX4_restore_X1_start
set_option maxRecDepth 20000 in
theorem ggX4_restore_X0_told : GoodIn wsX4_restore wsX0_told := goodIn_r _ [45, 16, 57, 58] (by decide +kernel) (by decide +kernel)
set_option maxRecDepth 20000 in
theorem gX4_restore_X0_told : GoodIn wsX4_restore (wsV RX4 107 RX0 yX0_told wsX0_told) := goodIn_app (goodIn_of _ (by decide +kernel)) ggX4_restore_X0_told
theorem dX4_restore_0 : decode cX4_restore 0 = .ok (.aload_n 0, 1) := by decide +kernel
theorem dX4_restore_1 : decode cX4_restore 1 = .ok (.getfield 19, 3) := by decide +kernel
theorem dX4_restore_4 : decode cX4_restore 4 = .ok (.ifCond .ne 10, 3) := by decide +kernel
theorem dX4_restore_7 : decode cX4_restore 7 = .ok (.aload_n 0, 1) := by decide +kernel
theorem dX4_restore_8 : decode cX4_restore 8 = .ok (.bipush (-3), 2) := by decide +kernel
theorem dX4_restore_10 : decode cX4_restore 10 = .ok (.invokevirtual 62, 3) := by decide +kernel
theorem dX4_restore_13 : decode cX4_restore 13 = .ok (.ireturn, 1) := by decide +kernel
theorem dX4_restore_14 : decode cX4_restore 14 = .ok (.aload_n 0, 1) := by decide +kernel
theorem dX4_restore_15 : decode cX4_restore 15 = .ok (.getfield 10, 3) := by decide +kernel
theorem dX4_restore_18 : decode cX4_restore 18 = .ok (.aload_n 0, 1) := by decide +kernel
theorem dX4_restore_19 : decode cX4_restore 19 = .ok (.getfield 16, 3) := by decide +kernel
theorem dX4_restore_22 : decode cX4_restore 22 = .ok (.invokevirtual 195, 3) := by decide +kernel
theorem dX4_restore_25 : decode cX4_restore 25 = .ok (.aload_n 0, 1) := by decide +kernel
theorem dX4_restore_26 : decode cX4_restore 26 = .ok (.getfield 44, 3) := by decide +kernel
theorem dX4_restore_29 : decode cX4_restore 29 = .ok (.aload_n 0, 1) := by decide +kernel
theorem dX4_restore_30 : decode cX4_restore 30 = .ok (.getfield 10, 3) := by decide +kernel
theorem dX4_restore_33 : decode cX4_restore 33 = .ok (.invokevirtual 86, 3) := by decide +kernel
theorem dX4_restore_36 : decode cX4_restore 36 = .ok (.aload_n 0, 1) := by decide +kernel
theorem dX4_restore_37 : decode cX4_restore 37 = .ok (.getfield 10, 3) := by decide +kernel
theorem dX4_restore_40 : decode cX4_restore 40 = .ok (.iconst 0, 1) := by decide +kernel
theorem dX4_restore_41 : decode cX4_restore 41 = .ok (.invokevirtual 107, 3) := by decide +kernel
theorem dX4_restore_44 : decode cX4_restore 44 = .ok (.ireturn, 1) := by decide +kernel
set_option maxRecDepth 20000 in
theorem ggX4_count_X3_players : GoodIn wsX4_count wsX3_players := goodIn_r _ [9, 10, 44, 45] (by decide +kernel) (by decide +kernel)
set_option maxRecDepth 20000 in
theorem gX4_count_X3_players : GoodIn wsX4_count (wsV RX4 73 RX3 yX3_players wsX3_players) := goodIn_app (goodIn_of _ (by decide +kernel)) ggX4_count_X3_players
set_option maxRecDepth 20000 in
theorem ggX4_count_X3_ofSide : GoodIn wsX4_count wsX3_ofSide := goodIn_r _ [14, 10, 15, 16, 17, 8, 18, 19, 44, 45] (by decide +kernel) (by decide +kernel)
set_option maxRecDepth 20000 in
theorem gX4_count_X3_ofSide : GoodIn wsX4_count (wsV RX4 140 RX3 yX3_ofSide wsX3_ofSide) := goodIn_app (goodIn_of _ (by decide +kernel)) ggX4_count_X3_ofSide
set_option maxRecDepth 20000 in
theorem ggX4_count_X0_told : GoodIn wsX4_count wsX0_told := goodIn_r _ [24, 25, 42, 43] (by decide +kernel) (by decide +kernel)
set_option maxRecDepth 20000 in
theorem gX4_count_X0_told : GoodIn wsX4_count (wsV RX4 107 RX0 yX0_told wsX0_told) := goodIn_app (goodIn_of _ (by decide +kernel)) ggX4_count_X0_told
set_option maxRecDepth 20000 in
theorem ggX4_count_X2_size : GoodIn wsX4_count wsX2_size := goodIn_r _ [30, 31, 46, 47, 48, 49] (by decide +kernel) (by decide +kernel)
set_option maxRecDepth 20000 in
theorem gX4_count_X2_size : GoodIn wsX4_count (wsV RX4 198 RX2 yX2_size wsX2_size) := goodIn_app (goodIn_of _ (by decide +kernel)) ggX4_count_X2_size
theorem dX4_count_0 : decode cX4_count 0 = .ok (.iload_n 1, 1) := by decide +kernel
theorem dX4_count_1 : decode cX4_count 1 = .ok (.tableswitch 120 0 7 #[47, 58, 70, 79, 88, 97, 107, 112], 47) := by decide +kernel
theorem dX4_count_48 : decode cX4_count 48 = .ok (.aload_n 0, 1) := by decide +kernel
theorem dX4_count_49 : decode cX4_count 49 = .ok (.getfield 10, 3) := by decide +kernel
theorem dX4_count_52 : decode cX4_count 52 = .ok (.getfield 69, 3) := by decide +kernel
theorem dX4_count_55 : decode cX4_count 55 = .ok (.invokevirtual 73, 3) := by decide +kernel
theorem dX4_count_58 : decode cX4_count 58 = .ok (.ireturn, 1) := by decide +kernel
theorem dX4_count_59 : decode cX4_count 59 = .ok (.aload_n 0, 1) := by decide +kernel
theorem dX4_count_60 : decode cX4_count 60 = .ok (.getfield 10, 3) := by decide +kernel
theorem dX4_count_63 : decode cX4_count 63 = .ok (.getfield 69, 3) := by decide +kernel
theorem dX4_count_66 : decode cX4_count 66 = .ok (.iconst 0, 1) := by decide +kernel
theorem dX4_count_67 : decode cX4_count 67 = .ok (.invokevirtual 140, 3) := by decide +kernel
theorem dX4_count_70 : decode cX4_count 70 = .ok (.ireturn, 1) := by decide +kernel
theorem dX4_count_71 : decode cX4_count 71 = .ok (.aload_n 0, 1) := by decide +kernel
theorem dX4_count_72 : decode cX4_count 72 = .ok (.getfield 10, 3) := by decide +kernel
theorem dX4_count_75 : decode cX4_count 75 = .ok (.iconst 0, 1) := by decide +kernel
theorem dX4_count_76 : decode cX4_count 76 = .ok (.invokevirtual 107, 3) := by decide +kernel
theorem dX4_count_79 : decode cX4_count 79 = .ok (.ireturn, 1) := by decide +kernel
theorem dX4_count_80 : decode cX4_count 80 = .ok (.aload_n 0, 1) := by decide +kernel
theorem dX4_count_81 : decode cX4_count 81 = .ok (.getfield 10, 3) := by decide +kernel
theorem dX4_count_84 : decode cX4_count 84 = .ok (.iconst 1, 1) := by decide +kernel
theorem dX4_count_85 : decode cX4_count 85 = .ok (.invokevirtual 107, 3) := by decide +kernel
theorem dX4_count_88 : decode cX4_count 88 = .ok (.ireturn, 1) := by decide +kernel
theorem dX4_count_89 : decode cX4_count 89 = .ok (.aload_n 0, 1) := by decide +kernel
theorem dX4_count_90 : decode cX4_count 90 = .ok (.getfield 10, 3) := by decide +kernel
theorem dX4_count_93 : decode cX4_count 93 = .ok (.iconst 2, 1) := by decide +kernel
theorem dX4_count_94 : decode cX4_count 94 = .ok (.invokevirtual 107, 3) := by decide +kernel
theorem dX4_count_97 : decode cX4_count 97 = .ok (.ireturn, 1) := by decide +kernel
theorem dX4_count_98 : decode cX4_count 98 = .ok (.aload_n 0, 1) := by decide +kernel
theorem dX4_count_99 : decode cX4_count 99 = .ok (.getfield 10, 3) := by decide +kernel
theorem dX4_count_102 : decode cX4_count 102 = .ok (.bipush 8, 2) := by decide +kernel
theorem dX4_count_104 : decode cX4_count 104 = .ok (.invokevirtual 107, 3) := by decide +kernel
theorem dX4_count_107 : decode cX4_count 107 = .ok (.ireturn, 1) := by decide +kernel
theorem dX4_count_108 : decode cX4_count 108 = .ok (.aload_n 0, 1) := by decide +kernel
theorem dX4_count_109 : decode cX4_count 109 = .ok (.getfield 34, 3) := by decide +kernel
theorem dX4_count_112 : decode cX4_count 112 = .ok (.ireturn, 1) := by decide +kernel
theorem dX4_count_113 : decode cX4_count 113 = .ok (.aload_n 0, 1) := by decide +kernel
theorem dX4_count_114 : decode cX4_count 114 = .ok (.getfield 26, 3) := by decide +kernel
theorem dX4_count_117 : decode cX4_count 117 = .ok (.invokevirtual 198, 3) := by decide +kernel
theorem dX4_count_120 : decode cX4_count 120 = .ok (.ireturn, 1) := by decide +kernel
theorem dX4_count_121 : decode cX4_count 121 = .ok (.iload_n 1, 1) := by decide +kernel
theorem dX4_count_122 : decode cX4_count 122 = .ok (.bipush 10, 2) := by decide +kernel
theorem dX4_count_124 : decode cX4_count 124 = .ok (.if_icmp .le 27, 3) := by decide +kernel
theorem dX4_count_127 : decode cX4_count 127 = .ok (.iload_n 1, 1) := by decide +kernel
theorem dX4_count_128 : decode cX4_count 128 = .ok (.bipush 10, 2) := by decide +kernel
theorem dX4_count_130 : decode cX4_count 130 = .ok (.isub, 1) := by decide +kernel
theorem dX4_count_131 : decode cX4_count 131 = .ok (.aload_n 0, 1) := by decide +kernel
theorem dX4_count_132 : decode cX4_count 132 = .ok (.getfield 38, 3) := by decide +kernel
theorem dX4_count_135 : decode cX4_count 135 = .ok (.arraylength, 1) := by decide +kernel
theorem dX4_count_136 : decode cX4_count 136 = .ok (.if_icmp .ge 15, 3) := by decide +kernel
theorem dX4_count_139 : decode cX4_count 139 = .ok (.aload_n 0, 1) := by decide +kernel
theorem dX4_count_140 : decode cX4_count 140 = .ok (.getfield 38, 3) := by decide +kernel
theorem dX4_count_143 : decode cX4_count 143 = .ok (.iload_n 1, 1) := by decide +kernel
theorem dX4_count_144 : decode cX4_count 144 = .ok (.bipush 10, 2) := by decide +kernel
theorem dX4_count_146 : decode cX4_count 146 = .ok (.isub, 1) := by decide +kernel
theorem dX4_count_147 : decode cX4_count 147 = .ok (.iaload, 1) := by decide +kernel
theorem dX4_count_148 : decode cX4_count 148 = .ok (.goto 5, 3) := by decide +kernel
theorem dX4_count_151 : decode cX4_count 151 = .ok (.bipush (-9), 2) := by decide +kernel
theorem dX4_count_153 : decode cX4_count 153 = .ok (.ireturn, 1) := by decide +kernel
theorem dX4_refused_0 : decode cX4_refused 0 = .ok (.iload_n 1, 1) := by decide +kernel
theorem dX4_refused_1 : decode cX4_refused 1 = .ok (.ineg, 1) := by decide +kernel
theorem dX4_refused_2 : decode cX4_refused 2 = .ok (.ifCond .le 24, 3) := by decide +kernel
theorem dX4_refused_5 : decode cX4_refused 5 = .ok (.iload_n 1, 1) := by decide +kernel
theorem dX4_refused_6 : decode cX4_refused 6 = .ok (.ineg, 1) := by decide +kernel
theorem dX4_refused_7 : decode cX4_refused 7 = .ok (.aload_n 0, 1) := by decide +kernel
theorem dX4_refused_8 : decode cX4_refused 8 = .ok (.getfield 38, 3) := by decide +kernel
theorem dX4_refused_11 : decode cX4_refused 11 = .ok (.arraylength, 1) := by decide +kernel
theorem dX4_refused_12 : decode cX4_refused 12 = .ok (.if_icmp .ge 14, 3) := by decide +kernel
theorem dX4_refused_15 : decode cX4_refused 15 = .ok (.aload_n 0, 1) := by decide +kernel
theorem dX4_refused_16 : decode cX4_refused 16 = .ok (.getfield 38, 3) := by decide +kernel
theorem dX4_refused_19 : decode cX4_refused 19 = .ok (.iload_n 1, 1) := by decide +kernel
theorem dX4_refused_20 : decode cX4_refused 20 = .ok (.ineg, 1) := by decide +kernel
theorem dX4_refused_21 : decode cX4_refused 21 = .ok (.dup2, 1) := by decide +kernel
theorem dX4_refused_22 : decode cX4_refused 22 = .ok (.iaload, 1) := by decide +kernel
theorem dX4_refused_23 : decode cX4_refused 23 = .ok (.iconst 1, 1) := by decide +kernel
theorem dX4_refused_24 : decode cX4_refused 24 = .ok (.iadd, 1) := by decide +kernel
theorem dX4_refused_25 : decode cX4_refused 25 = .ok (.iastore, 1) := by decide +kernel
theorem dX4_refused_26 : decode cX4_refused 26 = .ok (.iload_n 1, 1) := by decide +kernel
theorem dX4_refused_27 : decode cX4_refused 27 = .ok (.ireturn, 1) := by decide +kernel
set_option maxRecDepth 20000 in
theorem ggX4_refusedFarAbove_X4_refused : GoodIn wsX4_refusedFarAbove wsX4_refused := goodIn_r _ [6, 7, 8, 9, 10, 11, 12, 13, 14, 15, 16, 17] (by decide +kernel) (by decide +kernel)
set_option maxRecDepth 20000 in
theorem gX4_refusedFarAbove_X4_refused : GoodIn wsX4_refusedFarAbove (wsV RX4 62 RX4 yX4_refused wsX4_refused) := goodIn_app (goodIn_of _ (by decide +kernel)) ggX4_refusedFarAbove_X4_refused
theorem dX4_refusedFarAbove_0 : decode cX4_refusedFarAbove 0 = .ok (.ldc 201, 2) := by decide +kernel
theorem dX4_refusedFarAbove_2 : decode cX4_refusedFarAbove 2 = .ok (.aload_n 0, 1) := by decide +kernel
theorem dX4_refusedFarAbove_3 : decode cX4_refusedFarAbove 3 = .ok (.iload_n 1, 1) := by decide +kernel
theorem dX4_refusedFarAbove_4 : decode cX4_refusedFarAbove 4 = .ok (.invokevirtual 62, 3) := by decide +kernel
theorem dX4_refusedFarAbove_7 : decode cX4_refusedFarAbove 7 = .ok (.isub, 1) := by decide +kernel
theorem dX4_refusedFarAbove_8 : decode cX4_refusedFarAbove 8 = .ok (.ireturn, 1) := by decide +kernel
theorem dX4_outside_0 : decode cX4_outside 0 = .ok (.iload_n 0, 1) := by decide +kernel
theorem dX4_outside_1 : decode cX4_outside 1 = .ok (.ifCond .ge 6, 3) := by decide +kernel
theorem dX4_outside_4 : decode cX4_outside 4 = .ok (.bipush (-4), 2) := by decide +kernel
theorem dX4_outside_6 : decode cX4_outside 6 = .ok (.ireturn, 1) := by decide +kernel
theorem dX4_outside_7 : decode cX4_outside 7 = .ok (.iload_n 0, 1) := by decide +kernel
theorem dX4_outside_8 : decode cX4_outside 8 = .ok (.iload_n 1, 1) := by decide +kernel
theorem dX4_outside_9 : decode cX4_outside 9 = .ok (.if_icmp .le 8, 3) := by decide +kernel
theorem dX4_outside_12 : decode cX4_outside 12 = .ok (.bipush (-6), 2) := by decide +kernel
theorem dX4_outside_14 : decode cX4_outside 14 = .ok (.goto 4, 3) := by decide +kernel
theorem dX4_outside_17 : decode cX4_outside 17 = .ok (.iconst 0, 1) := by decide +kernel
theorem dX4_outside_18 : decode cX4_outside 18 = .ok (.ireturn, 1) := by decide +kernel
theorem dX4_outsideState_0 : decode cX4_outsideState 0 = .ok (.iload_n 0, 1) := by decide +kernel
theorem dX4_outsideState_1 : decode cX4_outsideState 1 = .ok (.ifCond .lt 11, 3) := by decide +kernel
theorem dX4_outsideState_4 : decode cX4_outsideState 4 = .ok (.iload_n 1, 1) := by decide +kernel
theorem dX4_outsideState_5 : decode cX4_outsideState 5 = .ok (.ifCond .lt 7, 3) := by decide +kernel
theorem dX4_outsideState_8 : decode cX4_outsideState 8 = .ok (.iload_n 2, 1) := by decide +kernel
theorem dX4_outsideState_9 : decode cX4_outsideState 9 = .ok (.ifCond .ge 6, 3) := by decide +kernel
theorem dX4_outsideState_12 : decode cX4_outsideState 12 = .ok (.bipush (-4), 2) := by decide +kernel
theorem dX4_outsideState_14 : decode cX4_outsideState 14 = .ok (.ireturn, 1) := by decide +kernel
theorem dX4_outsideState_15 : decode cX4_outsideState 15 = .ok (.iload_n 0, 1) := by decide +kernel
theorem dX4_outsideState_16 : decode cX4_outsideState 16 = .ok (.bipush 24, 2) := by decide +kernel
theorem dX4_outsideState_18 : decode cX4_outsideState 18 = .ok (.if_icmp .gt 14, 3) := by decide +kernel
theorem dX4_outsideState_21 : decode cX4_outsideState 21 = .ok (.iload_n 1, 1) := by decide +kernel
theorem dX4_outsideState_22 : decode cX4_outsideState 22 = .ok (.bipush 12, 2) := by decide +kernel
theorem dX4_outsideState_24 : decode cX4_outsideState 24 = .ok (.if_icmp .gt 8, 3) := by decide +kernel
theorem dX4_outsideState_27 : decode cX4_outsideState 27 = .ok (.iload_n 2, 1) := by decide +kernel
theorem dX4_outsideState_28 : decode cX4_outsideState 28 = .ok (.iconst 1, 1) := by decide +kernel
theorem dX4_outsideState_29 : decode cX4_outsideState 29 = .ok (.if_icmp .le 8, 3) := by decide +kernel
theorem dX4_outsideState_32 : decode cX4_outsideState 32 = .ok (.bipush (-6), 2) := by decide +kernel
theorem dX4_outsideState_34 : decode cX4_outsideState 34 = .ok (.goto 4, 3) := by decide +kernel
theorem dX4_outsideState_37 : decode cX4_outsideState 37 = .ok (.iconst 0, 1) := by decide +kernel
theorem dX4_outsideState_38 : decode cX4_outsideState 38 = .ok (.ireturn, 1) := by decide +kernel
set_option maxRecDepth 20000 in
theorem ggX4_outsidePair_X3_has : GoodIn wsX4_outsidePair wsX3_has := goodIn_r _ [6, 7, 25, 26] (by decide +kernel) (by decide +kernel)
set_option maxRecDepth 20000 in
theorem gX4_outsidePair_X3_has : GoodIn wsX4_outsidePair (wsV RX4 93 RX3 yX3_has wsX3_has) := goodIn_app (goodIn_of _ (by decide +kernel)) ggX4_outsidePair_X3_has
set_option maxRecDepth 20000 in
theorem ggX4_outsidePair_X3_fact : GoodIn wsX4_outsidePair wsX3_fact := goodIn_r _ [11, 12, 25, 26] (by decide +kernel) (by decide +kernel)
set_option maxRecDepth 20000 in
theorem gX4_outsidePair_X3_fact : GoodIn wsX4_outsidePair (wsV RX4 97 RX3 yX3_fact wsX3_fact) := goodIn_app (goodIn_of _ (by decide +kernel)) ggX4_outsidePair_X3_fact
theorem dX4_outsidePair_0 : decode cX4_outsidePair 0 = .ok (.aload_n 0, 1) := by decide +kernel
theorem dX4_outsidePair_1 : decode cX4_outsidePair 1 = .ok (.getfield 10, 3) := by decide +kernel
theorem dX4_outsidePair_4 : decode cX4_outsidePair 4 = .ok (.getfield 69, 3) := by decide +kernel
theorem dX4_outsidePair_7 : decode cX4_outsidePair 7 = .ok (.iload_n 1, 1) := by decide +kernel
theorem dX4_outsidePair_8 : decode cX4_outsidePair 8 = .ok (.invokevirtual 93, 3) := by decide +kernel
theorem dX4_outsidePair_11 : decode cX4_outsidePair 11 = .ok (.ifCond .eq 22, 3) := by decide +kernel
theorem dX4_outsidePair_14 : decode cX4_outsidePair 14 = .ok (.aload_n 0, 1) := by decide +kernel
theorem dX4_outsidePair_15 : decode cX4_outsidePair 15 = .ok (.getfield 10, 3) := by decide +kernel
theorem dX4_outsidePair_18 : decode cX4_outsidePair 18 = .ok (.getfield 69, 3) := by decide +kernel
theorem dX4_outsidePair_21 : decode cX4_outsidePair 21 = .ok (.iload_n 2, 1) := by decide +kernel
theorem dX4_outsidePair_22 : decode cX4_outsidePair 22 = .ok (.invokevirtual 93, 3) := by decide +kernel
theorem dX4_outsidePair_25 : decode cX4_outsidePair 25 = .ok (.ifCond .eq 8, 3) := by decide +kernel
theorem dX4_outsidePair_28 : decode cX4_outsidePair 28 = .ok (.iload_n 1, 1) := by decide +kernel
theorem dX4_outsidePair_29 : decode cX4_outsidePair 29 = .ok (.iload_n 2, 1) := by decide +kernel
theorem dX4_outsidePair_30 : decode cX4_outsidePair 30 = .ok (.if_icmp .ne 5, 3) := by decide +kernel
theorem dX4_outsidePair_33 : decode cX4_outsidePair 33 = .ok (.iconst (-1), 1) := by decide +kernel
theorem dX4_outsidePair_34 : decode cX4_outsidePair 34 = .ok (.ireturn, 1) := by decide +kernel
theorem dX4_outsidePair_35 : decode cX4_outsidePair 35 = .ok (.aload_n 0, 1) := by decide +kernel
theorem dX4_outsidePair_36 : decode cX4_outsidePair 36 = .ok (.getfield 10, 3) := by decide +kernel
theorem dX4_outsidePair_39 : decode cX4_outsidePair 39 = .ok (.getfield 69, 3) := by decide +kernel
theorem dX4_outsidePair_42 : decode cX4_outsidePair 42 = .ok (.iload_n 1, 1) := by decide +kernel
theorem dX4_outsidePair_43 : decode cX4_outsidePair 43 = .ok (.iconst 0, 1) := by decide +kernel
theorem dX4_outsidePair_44 : decode cX4_outsidePair 44 = .ok (.invokevirtual 97, 3) := by decide +kernel
theorem dX4_outsidePair_47 : decode cX4_outsidePair 47 = .ok (.ifCond .ne 22, 3) := by decide +kernel
theorem dX4_outsidePair_50 : decode cX4_outsidePair 50 = .ok (.aload_n 0, 1) := by decide +kernel
theorem dX4_outsidePair_51 : decode cX4_outsidePair 51 = .ok (.getfield 10, 3) := by decide +kernel
theorem dX4_outsidePair_54 : decode cX4_outsidePair 54 = .ok (.getfield 69, 3) := by decide +kernel
theorem dX4_outsidePair_57 : decode cX4_outsidePair 57 = .ok (.iload_n 2, 1) := by decide +kernel
theorem dX4_outsidePair_58 : decode cX4_outsidePair 58 = .ok (.iconst 0, 1) := by decide +kernel
theorem dX4_outsidePair_59 : decode cX4_outsidePair 59 = .ok (.invokevirtual 97, 3) := by decide +kernel
theorem dX4_outsidePair_62 : decode cX4_outsidePair 62 = .ok (.ifCond .ne 7, 3) := by decide +kernel
theorem dX4_outsidePair_65 : decode cX4_outsidePair 65 = .ok (.iconst 1, 1) := by decide +kernel
theorem dX4_outsidePair_66 : decode cX4_outsidePair 66 = .ok (.goto 4, 3) := by decide +kernel
theorem dX4_outsidePair_69 : decode cX4_outsidePair 69 = .ok (.iconst 0, 1) := by decide +kernel
theorem dX4_outsidePair_70 : decode cX4_outsidePair 70 = .ok (.istore_n 3, 1) := by decide +kernel
theorem dX4_outsidePair_71 : decode cX4_outsidePair 71 = .ok (.iload_n 3, 1) := by decide +kernel
theorem dX4_outsidePair_72 : decode cX4_outsidePair 72 = .ok (.ifCond .eq 7, 3) := by decide +kernel
theorem dX4_outsidePair_75 : decode cX4_outsidePair 75 = .ok (.iconst 0, 1) := by decide +kernel
theorem dX4_outsidePair_76 : decode cX4_outsidePair 76 = .ok (.goto 5, 3) := by decide +kernel
theorem dX4_outsidePair_79 : decode cX4_outsidePair 79 = .ok (.bipush (-3), 2) := by decide +kernel
theorem dX4_outsidePair_81 : decode cX4_outsidePair 81 = .ok (.ireturn, 1) := by decide +kernel
theorem dX4_takes_0 : decode cX4_takes 0 = .ok (.iload_n 0, 1) := by decide +kernel
theorem dX4_takes_1 : decode cX4_takes 1 = .ok (.ifCond .lt 11, 3) := by decide +kernel
theorem dX4_takes_4 : decode cX4_takes 4 = .ok (.iload_n 0, 1) := by decide +kernel
theorem dX4_takes_5 : decode cX4_takes 5 = .ok (.getstatic 202, 3) := by decide +kernel
theorem dX4_takes_8 : decode cX4_takes 8 = .ok (.arraylength, 1) := by decide +kernel
theorem dX4_takes_9 : decode cX4_takes 9 = .ok (.if_icmp .lt 7, 3) := by decide +kernel
theorem dX4_takes_12 : decode cX4_takes 12 = .ok (.iconst 0, 1) := by decide +kernel
theorem dX4_takes_13 : decode cX4_takes 13 = .ok (.goto 8, 3) := by decide +kernel
theorem dX4_takes_16 : decode cX4_takes 16 = .ok (.getstatic 202, 3) := by decide +kernel
theorem dX4_takes_19 : decode cX4_takes 19 = .ok (.iload_n 0, 1) := by decide +kernel
theorem dX4_takes_20 : decode cX4_takes 20 = .ok (.iaload, 1) := by decide +kernel
theorem dX4_takes_21 : decode cX4_takes 21 = .ok (.ireturn, 1) := by decide +kernel
theorem dX4_mix_0 : decode cX4_mix 0 = .ok (.iload_n 0, 1) := by decide +kernel
theorem dX4_mix_1 : decode cX4_mix 1 = .ok (.i2l, 1) := by decide +kernel
theorem dX4_mix_2 : decode cX4_mix 2 = .ok (.iload_n 1, 1) := by decide +kernel
theorem dX4_mix_3 : decode cX4_mix 3 = .ok (.i2l, 1) := by decide +kernel
theorem dX4_mix_4 : decode cX4_mix 4 = .ok (.lmul, 1) := by decide +kernel
theorem dX4_mix_5 : decode cX4_mix 5 = .ok (.bipush 10, 2) := by decide +kernel
theorem dX4_mix_7 : decode cX4_mix 7 = .ok (.iload_n 0, 1) := by decide +kernel
theorem dX4_mix_8 : decode cX4_mix 8 = .ok (.isub, 1) := by decide +kernel
theorem dX4_mix_9 : decode cX4_mix 9 = .ok (.i2l, 1) := by decide +kernel
theorem dX4_mix_10 : decode cX4_mix 10 = .ok (.iload_n 2, 1) := by decide +kernel
theorem dX4_mix_11 : decode cX4_mix 11 = .ok (.i2l, 1) := by decide +kernel
theorem dX4_mix_12 : decode cX4_mix 12 = .ok (.lmul, 1) := by decide +kernel
theorem dX4_mix_13 : decode cX4_mix 13 = .ok (.ladd, 1) := by decide +kernel
theorem dX4_mix_14 : decode cX4_mix 14 = .ok (.ldc2_w 205, 3) := by decide +kernel
theorem dX4_mix_17 : decode cX4_mix 17 = .ok (.ldiv, 1) := by decide +kernel
theorem dX4_mix_18 : decode cX4_mix 18 = .ok (.l2i, 1) := by decide +kernel
theorem dX4_mix_19 : decode cX4_mix 19 = .ok (.ireturn, 1) := by decide +kernel
theorem dX4_heldLead_0 : decode cX4_heldLead 0 = .ok (.iload_n 0, 1) := by decide +kernel
theorem dX4_heldLead_1 : decode cX4_heldLead 1 = .ok (.ifCond .ge 5, 3) := by decide +kernel
theorem dX4_heldLead_4 : decode cX4_heldLead 4 = .ok (.iconst 0, 1) := by decide +kernel
theorem dX4_heldLead_5 : decode cX4_heldLead 5 = .ok (.ireturn, 1) := by decide +kernel
theorem dX4_heldLead_6 : decode cX4_heldLead 6 = .ok (.iload_n 0, 1) := by decide +kernel
theorem dX4_heldLead_7 : decode cX4_heldLead 7 = .ok (.bipush 12, 2) := by decide +kernel
theorem dX4_heldLead_9 : decode cX4_heldLead 9 = .ok (.if_icmp .le 8, 3) := by decide +kernel
theorem dX4_heldLead_12 : decode cX4_heldLead 12 = .ok (.bipush 12, 2) := by decide +kernel
theorem dX4_heldLead_14 : decode cX4_heldLead 14 = .ok (.goto 4, 3) := by decide +kernel
theorem dX4_heldLead_17 : decode cX4_heldLead 17 = .ok (.iload_n 0, 1) := by decide +kernel
theorem dX4_heldLead_18 : decode cX4_heldLead 18 = .ok (.ireturn, 1) := by decide +kernel
set_option maxRecDepth 20000 in
theorem ggX4_valueNow_X0_told : GoodIn wsX4_valueNow wsX0_told := goodIn_r _ [7, 8, 130, 131] (by decide +kernel) (by decide +kernel)
set_option maxRecDepth 20000 in
theorem gX4_valueNow_X0_told : GoodIn wsX4_valueNow (wsV RX4 107 RX0 yX0_told wsX0_told) := goodIn_app (goodIn_of _ (by decide +kernel)) ggX4_valueNow_X0_told
set_option maxRecDepth 20000 in
theorem ggX4_valueNow_X1_solveTo : GoodIn wsX4_valueNow wsX1_solveTo := goodIn_r _ [13, 14, 15, 16, 17, 18, 19, 20, 21, 12, 22, 23, 24, 25, 26, 27, 28, 29, 30, 31, 32, 33, 34, 35, 36, 37, 38, 39, 40, 41, 42, 43, 44, 45, 46, 47, 48, 49, 50, 51, 52, 53, 54, 55, 56, 57, 58, 59, 60, 61, 62, 63, 64, 65, 66, 67, 68, 69, 70, 71, 72, 73, 74, 75, 76, 77, 78, 79, 80, 81, 82, 83, 84, 85, 86, 87, 88, 89, 90, 91, 92, 93, 94, 95, 96, 97, 98, 99, 100, 101, 102, 103, 104, 105, 106, 107, 108, 109, 110, 111, 112, 113, 114, 115, 116, 117, 118, 132, 133, 134, 135, 136, 137, 138, 139, 140, 141, 142, 143, 144] (by decide +kernel) (by decide +kernel)
set_option maxRecDepth 20000 in
theorem gX4_valueNow_X1_solveTo : GoodIn wsX4_valueNow (wsV RX4 120 RX1 yX1_solveTo wsX1_solveTo) := goodIn_app (goodIn_of _ (by decide +kernel)) ggX4_valueNow_X1_solveTo
set_option maxRecDepth 20000 in
theorem ggX4_valueNow_X1_valueAt : GoodIn wsX4_valueNow wsX1_valueAt := goodIn_r _ [100, 77, 55, 56, 12, 57, 132, 133, 134, 135, 136, 137, 138, 139, 140, 141, 142] (by decide +kernel) (by decide +kernel)
set_option maxRecDepth 20000 in
theorem gX4_valueNow_X1_valueAt : GoodIn wsX4_valueNow (wsV RX4 124 RX1 yX1_valueAt wsX1_valueAt) := goodIn_app (goodIn_of _ (by decide +kernel)) ggX4_valueNow_X1_valueAt
theorem dX4_valueNow_0 : decode cX4_valueNow 0 = .ok (.aload_n 0, 1) := by decide +kernel
theorem dX4_valueNow_1 : decode cX4_valueNow 1 = .ok (.getfield 10, 3) := by decide +kernel
theorem dX4_valueNow_4 : decode cX4_valueNow 4 = .ok (.iconst 0, 1) := by decide +kernel
theorem dX4_valueNow_5 : decode cX4_valueNow 5 = .ok (.invokevirtual 107, 3) := by decide +kernel
theorem dX4_valueNow_8 : decode cX4_valueNow 8 = .ok (.istore_n 1, 1) := by decide +kernel
theorem dX4_valueNow_9 : decode cX4_valueNow 9 = .ok (.aload_n 0, 1) := by decide +kernel
theorem dX4_valueNow_10 : decode cX4_valueNow 10 = .ok (.getfield 44, 3) := by decide +kernel
theorem dX4_valueNow_13 : decode cX4_valueNow 13 = .ok (.iload_n 1, 1) := by decide +kernel
theorem dX4_valueNow_14 : decode cX4_valueNow 14 = .ok (.invokevirtual 120, 3) := by decide +kernel
theorem dX4_valueNow_17 : decode cX4_valueNow 17 = .ok (.aload_n 0, 1) := by decide +kernel
theorem dX4_valueNow_18 : decode cX4_valueNow 18 = .ok (.getfield 44, 3) := by decide +kernel
theorem dX4_valueNow_21 : decode cX4_valueNow 21 = .ok (.iload_n 1, 1) := by decide +kernel
theorem dX4_valueNow_22 : decode cX4_valueNow 22 = .ok (.aload_n 0, 1) := by decide +kernel
theorem dX4_valueNow_23 : decode cX4_valueNow 23 = .ok (.getfield 10, 3) := by decide +kernel
theorem dX4_valueNow_26 : decode cX4_valueNow 26 = .ok (.iconst 1, 1) := by decide +kernel
theorem dX4_valueNow_27 : decode cX4_valueNow 27 = .ok (.invokevirtual 107, 3) := by decide +kernel
theorem dX4_valueNow_30 : decode cX4_valueNow 30 = .ok (.aload_n 0, 1) := by decide +kernel
theorem dX4_valueNow_31 : decode cX4_valueNow 31 = .ok (.getfield 10, 3) := by decide +kernel
theorem dX4_valueNow_34 : decode cX4_valueNow 34 = .ok (.iconst 2, 1) := by decide +kernel
theorem dX4_valueNow_35 : decode cX4_valueNow 35 = .ok (.invokevirtual 107, 3) := by decide +kernel
theorem dX4_valueNow_38 : decode cX4_valueNow 38 = .ok (.invokevirtual 124, 3) := by decide +kernel
theorem dX4_valueNow_41 : decode cX4_valueNow 41 = .ok (.ireturn, 1) := by decide +kernel
set_option maxRecDepth 20000 in
theorem ggX4_otherValueNow_X0_told : GoodIn wsX4_otherValueNow wsX0_told := goodIn_r _ [7, 8, 130, 131] (by decide +kernel) (by decide +kernel)
set_option maxRecDepth 20000 in
theorem gX4_otherValueNow_X0_told : GoodIn wsX4_otherValueNow (wsV RX4 107 RX0 yX0_told wsX0_told) := goodIn_app (goodIn_of _ (by decide +kernel)) ggX4_otherValueNow_X0_told
set_option maxRecDepth 20000 in
theorem ggX4_otherValueNow_X1_solveTo : GoodIn wsX4_otherValueNow wsX1_solveTo := goodIn_r _ [13, 14, 15, 16, 17, 18, 19, 20, 21, 12, 22, 23, 24, 25, 26, 27, 28, 29, 30, 31, 32, 33, 34, 35, 36, 37, 38, 39, 40, 41, 42, 43, 44, 45, 46, 47, 48, 49, 50, 51, 52, 53, 54, 55, 56, 57, 58, 59, 60, 61, 62, 63, 64, 65, 66, 67, 68, 69, 70, 71, 72, 73, 74, 75, 76, 77, 78, 79, 80, 81, 82, 83, 84, 85, 86, 87, 88, 89, 90, 91, 92, 93, 94, 95, 96, 97, 98, 99, 100, 101, 102, 103, 104, 105, 106, 107, 108, 109, 110, 111, 112, 113, 114, 115, 116, 117, 118, 132, 133, 134, 135, 136, 137, 138, 139, 140, 141, 142, 143, 144] (by decide +kernel) (by decide +kernel)
set_option maxRecDepth 20000 in
theorem gX4_otherValueNow_X1_solveTo : GoodIn wsX4_otherValueNow (wsV RX4 120 RX1 yX1_solveTo wsX1_solveTo) := goodIn_app (goodIn_of _ (by decide +kernel)) ggX4_otherValueNow_X1_solveTo
set_option maxRecDepth 20000 in
theorem ggX4_otherValueNow_X1_valueAt : GoodIn wsX4_otherValueNow wsX1_valueAt := goodIn_r _ [100, 77, 55, 56, 12, 57, 132, 133, 134, 135, 136, 137, 138, 139, 140, 141, 142] (by decide +kernel) (by decide +kernel)
set_option maxRecDepth 20000 in
theorem gX4_otherValueNow_X1_valueAt : GoodIn wsX4_otherValueNow (wsV RX4 124 RX1 yX1_valueAt wsX1_valueAt) := goodIn_app (goodIn_of _ (by decide +kernel)) ggX4_otherValueNow_X1_valueAt
theorem dX4_otherValueNow_0 : decode cX4_otherValueNow 0 = .ok (.aload_n 0, 1) := by decide +kernel
theorem dX4_otherValueNow_1 : decode cX4_otherValueNow 1 = .ok (.getfield 10, 3) := by decide +kernel
theorem dX4_otherValueNow_4 : decode cX4_otherValueNow 4 = .ok (.iconst 0, 1) := by decide +kernel
theorem dX4_otherValueNow_5 : decode cX4_otherValueNow 5 = .ok (.invokevirtual 107, 3) := by decide +kernel
theorem dX4_otherValueNow_8 : decode cX4_otherValueNow 8 = .ok (.istore_n 1, 1) := by decide +kernel
theorem dX4_otherValueNow_9 : decode cX4_otherValueNow 9 = .ok (.aload_n 0, 1) := by decide +kernel
theorem dX4_otherValueNow_10 : decode cX4_otherValueNow 10 = .ok (.getfield 48, 3) := by decide +kernel
theorem dX4_otherValueNow_13 : decode cX4_otherValueNow 13 = .ok (.iload_n 1, 1) := by decide +kernel
theorem dX4_otherValueNow_14 : decode cX4_otherValueNow 14 = .ok (.invokevirtual 120, 3) := by decide +kernel
theorem dX4_otherValueNow_17 : decode cX4_otherValueNow 17 = .ok (.aload_n 0, 1) := by decide +kernel
theorem dX4_otherValueNow_18 : decode cX4_otherValueNow 18 = .ok (.getfield 48, 3) := by decide +kernel
theorem dX4_otherValueNow_21 : decode cX4_otherValueNow 21 = .ok (.iload_n 1, 1) := by decide +kernel
theorem dX4_otherValueNow_22 : decode cX4_otherValueNow 22 = .ok (.aload_n 0, 1) := by decide +kernel
theorem dX4_otherValueNow_23 : decode cX4_otherValueNow 23 = .ok (.getfield 10, 3) := by decide +kernel
theorem dX4_otherValueNow_26 : decode cX4_otherValueNow 26 = .ok (.iconst 1, 1) := by decide +kernel
theorem dX4_otherValueNow_27 : decode cX4_otherValueNow 27 = .ok (.invokevirtual 107, 3) := by decide +kernel
theorem dX4_otherValueNow_30 : decode cX4_otherValueNow 30 = .ok (.aload_n 0, 1) := by decide +kernel
theorem dX4_otherValueNow_31 : decode cX4_otherValueNow 31 = .ok (.getfield 10, 3) := by decide +kernel
theorem dX4_otherValueNow_34 : decode cX4_otherValueNow 34 = .ok (.iconst 2, 1) := by decide +kernel
theorem dX4_otherValueNow_35 : decode cX4_otherValueNow 35 = .ok (.invokevirtual 107, 3) := by decide +kernel
theorem dX4_otherValueNow_38 : decode cX4_otherValueNow 38 = .ok (.invokevirtual 124, 3) := by decide +kernel
theorem dX4_otherValueNow_41 : decode cX4_otherValueNow 41 = .ok (.ireturn, 1) := by decide +kernel
set_option maxRecDepth 20000 in
theorem ggX4_startDouble_X1_start : GoodIn wsX4_startDouble wsX1_start := goodIn_r _ [7, 8, 9, 10, 11, 12, 13, 14, 15, 16, 17, 18, 19, 20, 21, 22, 23, 24, 25, 26, 27, 28, 29, 30, 45, 46, 47, 48, 49, 50, 51, 52, 53, 54, 55, 56, 57, 58, 59] (by decide +kernel) (by decide +kernel)
set_option maxRecDepth 20000 in
theorem gX4_startDouble_X1_start : GoodIn wsX4_startDouble (wsV RX4 86 RX1 yX1_start wsX1_start) := goodIn_app (goodIn_of _ (by decide +kernel)) ggX4_startDouble_X1_start
set_option maxRecDepth 20000 in
theorem ggX4_startDouble_X1_change : GoodIn wsX4_startDouble wsX1_change := goodIn_r _ [34, 9, 45, 46, 47, 48, 49, 50, 51, 52, 53, 54, 55] (by decide +kernel) (by decide +kernel)
set_option maxRecDepth 20000 in
theorem gX4_startDouble_X1_change : GoodIn wsX4_startDouble (wsV RX4 173 RX1 yX1_change wsX1_change) := goodIn_app (goodIn_of _ (by decide +kernel)) ggX4_startDouble_X1_change
theorem dX4_startDouble_0 : decode cX4_startDouble 0 = .ok (.aload_n 0, 1) := by decide +kernel
theorem dX4_startDouble_1 : decode cX4_startDouble 1 = .ok (.getfield 48, 3) := by decide +kernel
theorem dX4_startDouble_4 : decode cX4_startDouble 4 = .ok (.aload_n 0, 1) := by decide +kernel
theorem dX4_startDouble_5 : decode cX4_startDouble 5 = .ok (.getfield 10, 3) := by decide +kernel
theorem dX4_startDouble_8 : decode cX4_startDouble 8 = .ok (.invokevirtual 86, 3) := by decide +kernel
theorem dX4_startDouble_11 : decode cX4_startDouble 11 = .ok (.aload_n 0, 1) := by decide +kernel
theorem dX4_startDouble_12 : decode cX4_startDouble 12 = .ok (.getfield 48, 3) := by decide +kernel
theorem dX4_startDouble_15 : decode cX4_startDouble 15 = .ok (.iload_n 1, 1) := by decide +kernel
theorem dX4_startDouble_16 : decode cX4_startDouble 16 = .ok (.iconst 2, 1) := by decide +kernel
theorem dX4_startDouble_17 : decode cX4_startDouble 17 = .ok (.invokevirtual 173, 3) := by decide +kernel
theorem dX4_startDouble_20 : decode cX4_startDouble 20 = .ok (.aload_n 0, 1) := by decide +kernel
theorem dX4_startDouble_21 : decode cX4_startDouble 21 = .ok (.getfield 48, 3) := by decide +kernel
theorem dX4_startDouble_24 : decode cX4_startDouble 24 = .ok (.iload_n 2, 1) := by decide +kernel
theorem dX4_startDouble_25 : decode cX4_startDouble 25 = .ok (.iconst 3, 1) := by decide +kernel
theorem dX4_startDouble_26 : decode cX4_startDouble 26 = .ok (.invokevirtual 173, 3) := by decide +kernel
theorem dX4_startDouble_29 : decode cX4_startDouble 29 = .ok (.return_, 1) := by decide +kernel
set_option maxRecDepth 20000 in
theorem ggX4_isOverNow_X0_told : GoodIn wsX4_isOverNow wsX0_told := goodIn_r _ [7, 8, 29, 30] (by decide +kernel) (by decide +kernel)
set_option maxRecDepth 20000 in
theorem gX4_isOverNow_X0_told : GoodIn wsX4_isOverNow (wsV RX4 107 RX0 yX0_told wsX0_told) := goodIn_app (goodIn_of _ (by decide +kernel)) ggX4_isOverNow_X0_told
set_option maxRecDepth 20000 in
theorem ggX4_isOverNow_X1_isOver : GoodIn wsX4_isOverNow wsX1_isOver := goodIn_r _ [13, 14, 15, 16, 17, 18, 31, 32, 33, 34, 35, 36, 37, 38, 39, 40, 41] (by decide +kernel) (by decide +kernel)
set_option maxRecDepth 20000 in
theorem gX4_isOverNow_X1_isOver : GoodIn wsX4_isOverNow (wsV RX4 207 RX1 yX1_isOver wsX1_isOver) := goodIn_app (goodIn_of _ (by decide +kernel)) ggX4_isOverNow_X1_isOver
theorem dX4_isOverNow_0 : decode cX4_isOverNow 0 = .ok (.aload_n 0, 1) := by decide +kernel
theorem dX4_isOverNow_1 : decode cX4_isOverNow 1 = .ok (.getfield 44, 3) := by decide +kernel
theorem dX4_isOverNow_4 : decode cX4_isOverNow 4 = .ok (.aload_n 0, 1) := by decide +kernel
theorem dX4_isOverNow_5 : decode cX4_isOverNow 5 = .ok (.getfield 10, 3) := by decide +kernel
theorem dX4_isOverNow_8 : decode cX4_isOverNow 8 = .ok (.iconst 0, 1) := by decide +kernel
theorem dX4_isOverNow_9 : decode cX4_isOverNow 9 = .ok (.invokevirtual 107, 3) := by decide +kernel
theorem dX4_isOverNow_12 : decode cX4_isOverNow 12 = .ok (.aload_n 0, 1) := by decide +kernel
theorem dX4_isOverNow_13 : decode cX4_isOverNow 13 = .ok (.getfield 10, 3) := by decide +kernel
theorem dX4_isOverNow_16 : decode cX4_isOverNow 16 = .ok (.iconst 1, 1) := by decide +kernel
theorem dX4_isOverNow_17 : decode cX4_isOverNow 17 = .ok (.invokevirtual 107, 3) := by decide +kernel
theorem dX4_isOverNow_20 : decode cX4_isOverNow 20 = .ok (.invokevirtual 207, 3) := by decide +kernel
theorem dX4_isOverNow_23 : decode cX4_isOverNow 23 = .ok (.ireturn, 1) := by decide +kernel
set_option maxRecDepth 20000 in
theorem ggX4_isShotBest_X1_bestAt : GoodIn wsX4_isShotBest wsX1_bestAt := goodIn_r _ [6, 7, 8, 9, 5, 10, 21, 22, 23, 24, 25, 26, 27, 28, 29, 30, 31] (by decide +kernel) (by decide +kernel)
set_option maxRecDepth 20000 in
theorem gX4_isShotBest_X1_bestAt : GoodIn wsX4_isShotBest (wsV RX4 127 RX1 yX1_bestAt wsX1_bestAt) := goodIn_app (goodIn_of _ (by decide +kernel)) ggX4_isShotBest_X1_bestAt
theorem dX4_isShotBest_0 : decode cX4_isShotBest 0 = .ok (.aload_n 0, 1) := by decide +kernel
theorem dX4_isShotBest_1 : decode cX4_isShotBest 1 = .ok (.getfield 44, 3) := by decide +kernel
theorem dX4_isShotBest_4 : decode cX4_isShotBest 4 = .ok (.iload_n 1, 1) := by decide +kernel
theorem dX4_isShotBest_5 : decode cX4_isShotBest 5 = .ok (.iload_n 2, 1) := by decide +kernel
theorem dX4_isShotBest_6 : decode cX4_isShotBest 6 = .ok (.iload_n 3, 1) := by decide +kernel
theorem dX4_isShotBest_7 : decode cX4_isShotBest 7 = .ok (.invokevirtual 127, 3) := by decide +kernel
theorem dX4_isShotBest_10 : decode cX4_isShotBest 10 = .ok (.istore 4, 2) := by decide +kernel
theorem dX4_isShotBest_12 : decode cX4_isShotBest 12 = .ok (.iload 4, 2) := by decide +kernel
theorem dX4_isShotBest_14 : decode cX4_isShotBest 14 = .ok (.bipush 93, 2) := by decide +kernel
theorem dX4_isShotBest_16 : decode cX4_isShotBest 16 = .ok (.if_icmp .eq 14, 3) := by decide +kernel
theorem dX4_isShotBest_19 : decode cX4_isShotBest 19 = .ok (.iload 4, 2) := by decide +kernel
theorem dX4_isShotBest_21 : decode cX4_isShotBest 21 = .ok (.bipush (-9), 2) := by decide +kernel
theorem dX4_isShotBest_23 : decode cX4_isShotBest 23 = .ok (.if_icmp .eq 7, 3) := by decide +kernel
theorem dX4_isShotBest_26 : decode cX4_isShotBest 26 = .ok (.iconst 1, 1) := by decide +kernel
theorem dX4_isShotBest_27 : decode cX4_isShotBest 27 = .ok (.goto 4, 3) := by decide +kernel
theorem dX4_isShotBest_30 : decode cX4_isShotBest 30 = .ok (.iconst 0, 1) := by decide +kernel
theorem dX4_isShotBest_31 : decode cX4_isShotBest 31 = .ok (.ireturn, 1) := by decide +kernel
set_option maxRecDepth 20000 in
theorem ggX4_bestOfOurs_X0_told : GoodIn wsX4_bestOfOurs wsX0_told := goodIn_r _ [11, 12, 136, 137] (by decide +kernel) (by decide +kernel)
set_option maxRecDepth 20000 in
theorem gX4_bestOfOurs_X0_told : GoodIn wsX4_bestOfOurs (wsV RX4 107 RX0 yX0_told wsX0_told) := goodIn_app (goodIn_of _ (by decide +kernel)) ggX4_bestOfOurs_X0_told
set_option maxRecDepth 20000 in
theorem ggX4_bestOfOurs_X1_solveTo : GoodIn wsX4_bestOfOurs wsX1_solveTo := goodIn_r _ [17, 18, 19, 5, 20, 21, 22, 23, 24, 16, 25, 26, 27, 28, 29, 30, 31, 32, 33, 34, 35, 36, 37, 38, 4, 6, 39, 40, 41, 42, 43, 44, 45, 46, 47, 48, 49, 50, 51, 52, 53, 54, 55, 56, 57, 58, 59, 60, 61, 62, 63, 64, 65, 66, 67, 68, 69, 70, 71, 72, 73, 74, 75, 76, 77, 78, 79, 80, 81, 82, 83, 84, 85, 86, 87, 88, 89, 90, 91, 92, 93, 94, 95, 96, 97, 98, 99, 100, 101, 102, 103, 104, 105, 106, 107, 108, 109, 110, 111, 112, 113, 114, 115, 116, 117, 118, 119, 138, 139, 140, 141, 142, 143, 144, 145, 146, 147, 148, 149, 150] (by decide +kernel) (by decide +kernel)
set_option maxRecDepth 20000 in
theorem gX4_bestOfOurs_X1_solveTo : GoodIn wsX4_bestOfOurs (wsV RX4 120 RX1 yX1_solveTo wsX1_solveTo) := goodIn_app (goodIn_of _ (by decide +kernel)) ggX4_bestOfOurs_X1_solveTo
set_option maxRecDepth 20000 in
theorem ggX4_bestOfOurs_X3_players : GoodIn wsX4_bestOfOurs wsX3_players := goodIn_r _ [113, 114, 149, 150] (by decide +kernel) (by decide +kernel)
set_option maxRecDepth 20000 in
theorem gX4_bestOfOurs_X3_players : GoodIn wsX4_bestOfOurs (wsV RX4 73 RX3 yX3_players wsX3_players) := goodIn_app (goodIn_of _ (by decide +kernel)) ggX4_bestOfOurs_X3_players
set_option maxRecDepth 20000 in
theorem ggX4_bestOfOurs_X3_fact : GoodIn wsX4_bestOfOurs wsX3_fact := goodIn_r _ [42, 43, 149, 150] (by decide +kernel) (by decide +kernel)
set_option maxRecDepth 20000 in
theorem gX4_bestOfOurs_X3_fact : GoodIn wsX4_bestOfOurs (wsV RX4 97 RX3 yX3_fact wsX3_fact) := goodIn_app (goodIn_of _ (by decide +kernel)) ggX4_bestOfOurs_X3_fact
set_option maxRecDepth 20000 in
theorem ggX4_bestOfOurs_X1_valueOfShot : GoodIn wsX4_bestOfOurs wsX1_valueOfShot := goodIn_r _ [125, 80, 81, 82, 16, 83, 84, 85, 86, 87, 67, 68, 69, 70, 71, 72, 73, 88, 89, 90, 91, 63, 92, 93, 94, 95, 96, 97, 98, 99, 100, 101, 78, 56, 57, 58, 102, 103, 104, 105, 55, 4, 5, 6, 106, 107, 108, 109, 27, 28, 29, 30, 31, 18, 19, 20, 32, 33, 34, 35, 36, 37, 38, 39, 40, 41, 42, 43, 44, 45, 46, 47, 48, 138, 139, 140, 141, 142, 143, 144, 145, 146, 147, 148, 149, 150] (by decide +kernel) (by decide +kernel)
set_option maxRecDepth 20000 in
theorem gX4_bestOfOurs_X1_valueOfShot : GoodIn wsX4_bestOfOurs (wsV RX4 211 RX1 yX1_valueOfShot wsX1_valueOfShot) := goodIn_app (goodIn_of _ (by decide +kernel)) ggX4_bestOfOurs_X1_valueOfShot
theorem dX4_bestOfOurs_0 : decode cX4_bestOfOurs 0 = .ok (.aload_n 0, 1) := by decide +kernel
theorem dX4_bestOfOurs_1 : decode cX4_bestOfOurs 1 = .ok (.getfield 10, 3) := by decide +kernel
theorem dX4_bestOfOurs_4 : decode cX4_bestOfOurs 4 = .ok (.iconst 0, 1) := by decide +kernel
theorem dX4_bestOfOurs_5 : decode cX4_bestOfOurs 5 = .ok (.invokevirtual 107, 3) := by decide +kernel
theorem dX4_bestOfOurs_8 : decode cX4_bestOfOurs 8 = .ok (.istore_n 2, 1) := by decide +kernel
theorem dX4_bestOfOurs_9 : decode cX4_bestOfOurs 9 = .ok (.aload_n 0, 1) := by decide +kernel
theorem dX4_bestOfOurs_10 : decode cX4_bestOfOurs 10 = .ok (.getfield 44, 3) := by decide +kernel
theorem dX4_bestOfOurs_13 : decode cX4_bestOfOurs 13 = .ok (.iload_n 2, 1) := by decide +kernel
