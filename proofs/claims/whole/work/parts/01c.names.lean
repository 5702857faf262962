set_option maxRecDepth 20000 in
theorem ggX0_init_X3_init : GoodIn wsX0_init wsX3_init := goodIn_r _ [11, 12, 2, 3, 4, 13, 14, 17, 18] (by decide +kernel) (by decide +kernel)
set_option maxRecDepth 20000 in
theorem gX0_init_X3_init_n17 : GoodIn wsX0_init (wsX3_init) := ggX0_init_X3_init
theorem dX0_init_0 : decode cX0_init 0 = .ok (.aload_n 0, 1) := by decide +kernel
theorem dX0_init_1 : decode cX0_init 1 = .ok (.invokespecial 3, 3) := by decide +kernel
theorem dX0_init_4 : decode cX0_init 4 = .ok (.aload_n 0, 1) := by decide +kernel
theorem dX0_init_5 : decode cX0_init 5 = .ok (.bipush 10, 2) := by decide +kernel
theorem dX0_init_7 : decode cX0_init 7 = .ok (.newarray .int, 2) := by decide +kernel
theorem dX0_init_9 : decode cX0_init 9 = .ok (.dup, 1) := by decide +kernel
theorem dX0_init_10 : decode cX0_init 10 = .ok (.iconst 0, 1) := by decide +kernel
theorem dX0_init_11 : decode cX0_init 11 = .ok (.bipush 19, 2) := by decide +kernel
theorem dX0_init_13 : decode cX0_init 13 = .ok (.iastore, 1) := by decide +kernel
theorem dX0_init_14 : decode cX0_init 14 = .ok (.dup, 1) := by decide +kernel
theorem dX0_init_15 : decode cX0_init 15 = .ok (.iconst 1, 1) := by decide +kernel
theorem dX0_init_16 : decode cX0_init 16 = .ok (.iconst 5, 1) := by decide +kernel
theorem dX0_init_17 : decode cX0_init 17 = .ok (.iastore, 1) := by decide +kernel
theorem dX0_init_18 : decode cX0_init 18 = .ok (.dup, 1) := by decide +kernel
theorem dX0_init_19 : decode cX0_init 19 = .ok (.iconst 2, 1) := by decide +kernel
theorem dX0_init_20 : decode cX0_init 20 = .ok (.iconst 0, 1) := by decide +kernel
theorem dX0_init_21 : decode cX0_init 21 = .ok (.iastore, 1) := by decide +kernel
theorem dX0_init_22 : decode cX0_init 22 = .ok (.dup, 1) := by decide +kernel
theorem dX0_init_23 : decode cX0_init 23 = .ok (.iconst 3, 1) := by decide +kernel
theorem dX0_init_24 : decode cX0_init 24 = .ok (.iconst 0, 1) := by decide +kernel
theorem dX0_init_25 : decode cX0_init 25 = .ok (.iastore, 1) := by decide +kernel
theorem dX0_init_26 : decode cX0_init 26 = .ok (.dup, 1) := by decide +kernel
theorem dX0_init_27 : decode cX0_init 27 = .ok (.iconst 4, 1) := by decide +kernel
theorem dX0_init_28 : decode cX0_init 28 = .ok (.iconst 0, 1) := by decide +kernel
theorem dX0_init_29 : decode cX0_init 29 = .ok (.iastore, 1) := by decide +kernel
theorem dX0_init_30 : decode cX0_init 30 = .ok (.dup, 1) := by decide +kernel
theorem dX0_init_31 : decode cX0_init 31 = .ok (.iconst 5, 1) := by decide +kernel
theorem dX0_init_32 : decode cX0_init 32 = .ok (.iconst 1, 1) := by decide +kernel
theorem dX0_init_33 : decode cX0_init 33 = .ok (.iastore, 1) := by decide +kernel
theorem dX0_init_34 : decode cX0_init 34 = .ok (.dup, 1) := by decide +kernel
theorem dX0_init_35 : decode cX0_init 35 = .ok (.bipush 6, 2) := by decide +kernel
theorem dX0_init_37 : decode cX0_init 37 = .ok (.iconst 1, 1) := by decide +kernel
theorem dX0_init_38 : decode cX0_init 38 = .ok (.iastore, 1) := by decide +kernel
theorem dX0_init_39 : decode cX0_init 39 = .ok (.dup, 1) := by decide +kernel
theorem dX0_init_40 : decode cX0_init 40 = .ok (.bipush 7, 2) := by decide +kernel
theorem dX0_init_42 : decode cX0_init 42 = .ok (.iconst 3, 1) := by decide +kernel
theorem dX0_init_43 : decode cX0_init 43 = .ok (.iastore, 1) := by decide +kernel
theorem dX0_init_44 : decode cX0_init 44 = .ok (.dup, 1) := by decide +kernel
theorem dX0_init_45 : decode cX0_init 45 = .ok (.bipush 8, 2) := by decide +kernel
theorem dX0_init_47 : decode cX0_init 47 = .ok (.iconst 0, 1) := by decide +kernel
theorem dX0_init_48 : decode cX0_init 48 = .ok (.iastore, 1) := by decide +kernel
theorem dX0_init_49 : decode cX0_init 49 = .ok (.dup, 1) := by decide +kernel
theorem dX0_init_50 : decode cX0_init 50 = .ok (.bipush 9, 2) := by decide +kernel
theorem dX0_init_52 : decode cX0_init 52 = .ok (.iconst 5, 1) := by decide +kernel
theorem dX0_init_53 : decode cX0_init 53 = .ok (.iastore, 1) := by decide +kernel
theorem dX0_init_54 : decode cX0_init 54 = .ok (.putfield 9, 3) := by decide +kernel
theorem dX0_init_57 : decode cX0_init 57 = .ok (.aload_n 0, 1) := by decide +kernel
theorem dX0_init_58 : decode cX0_init 58 = .ok (.new 15, 3) := by decide +kernel
theorem dX0_init_61 : decode cX0_init 61 = .ok (.dup, 1) := by decide +kernel
theorem dX0_init_62 : decode cX0_init 62 = .ok (.invokespecial 17, 3) := by decide +kernel
theorem dX0_init_65 : decode cX0_init 65 = .ok (.putfield 18, 3) := by decide +kernel
theorem dX0_init_68 : decode cX0_init 68 = .ok (.return_, 1) := by decide +kernel
theorem dX0_told_0 : decode cX0_told 0 = .ok (.iload_n 1, 1) := by decide +kernel
theorem dX0_told_1 : decode cX0_told 1 = .ok (.ifCond .lt 12, 3) := by decide +kernel
theorem dX0_told_4 : decode cX0_told 4 = .ok (.iload_n 1, 1) := by decide +kernel
theorem dX0_told_5 : decode cX0_told 5 = .ok (.aload_n 0, 1) := by decide +kernel
theorem dX0_told_6 : decode cX0_told 6 = .ok (.getfield 9, 3) := by decide +kernel
theorem dX0_told_9 : decode cX0_told 9 = .ok (.arraylength, 1) := by decide +kernel
theorem dX0_told_10 : decode cX0_told 10 = .ok (.if_icmp .lt 7, 3) := by decide +kernel
theorem dX0_told_13 : decode cX0_told 13 = .ok (.iconst 0, 1) := by decide +kernel
theorem dX0_told_14 : decode cX0_told 14 = .ok (.goto 9, 3) := by decide +kernel
theorem dX0_told_17 : decode cX0_told 17 = .ok (.aload_n 0, 1) := by decide +kernel
theorem dX0_told_18 : decode cX0_told 18 = .ok (.getfield 9, 3) := by decide +kernel
theorem dX0_told_21 : decode cX0_told 21 = .ok (.iload_n 1, 1) := by decide +kernel
theorem dX0_told_22 : decode cX0_told 22 = .ok (.iaload, 1) := by decide +kernel
theorem dX0_told_23 : decode cX0_told 23 = .ok (.ireturn, 1) := by decide +kernel
theorem dX0_tell_0 : decode cX0_tell 0 = .ok (.iload_n 1, 1) := by decide +kernel
theorem dX0_tell_1 : decode cX0_tell 1 = .ok (.ifCond .lt 19, 3) := by decide +kernel
theorem dX0_tell_4 : decode cX0_tell 4 = .ok (.iload_n 1, 1) := by decide +kernel
theorem dX0_tell_5 : decode cX0_tell 5 = .ok (.aload_n 0, 1) := by decide +kernel
theorem dX0_tell_6 : decode cX0_tell 6 = .ok (.getfield 9, 3) := by decide +kernel
theorem dX0_tell_9 : decode cX0_tell 9 = .ok (.arraylength, 1) := by decide +kernel
theorem dX0_tell_10 : decode cX0_tell 10 = .ok (.if_icmp .ge 10, 3) := by decide +kernel
theorem dX0_tell_13 : decode cX0_tell 13 = .ok (.aload_n 0, 1) := by decide +kernel
theorem dX0_tell_14 : decode cX0_tell 14 = .ok (.getfield 9, 3) := by decide +kernel
theorem dX0_tell_17 : decode cX0_tell 17 = .ok (.iload_n 1, 1) := by decide +kernel
theorem dX0_tell_18 : decode cX0_tell 18 = .ok (.iload_n 2, 1) := by decide +kernel
theorem dX0_tell_19 : decode cX0_tell 19 = .ok (.iastore, 1) := by decide +kernel
theorem dX0_tell_20 : decode cX0_tell 20 = .ok (.return_, 1) := by decide +kernel
set_option maxRecDepth 20000 in
theorem ggX0_copy_X3_copy : GoodIn wsX0_copy wsX3_copy := goodIn_r _ [11, 12, 13, 14, 3, 4, 5, 17, 18] (by decide +kernel) (by decide +kernel)
set_option maxRecDepth 20000 in
theorem gX0_copy_X3_copy : GoodIn wsX0_copy (wsV RX0 28 RX3 yX3_copy wsX3_copy) := goodIn_app (goodIn_of _ (by decide +kernel)) ggX0_copy_X3_copy
theorem dX0_copy_0 : decode cX0_copy 0 = .ok (.aload_n 1, 1) := by decide +kernel
theorem dX0_copy_1 : decode cX0_copy 1 = .ok (.getfield 9, 3) := by decide +kernel
theorem dX0_copy_4 : decode cX0_copy 4 = .ok (.iconst 0, 1) := by decide +kernel
theorem dX0_copy_5 : decode cX0_copy 5 = .ok (.aload_n 0, 1) := by decide +kernel
theorem dX0_copy_6 : decode cX0_copy 6 = .ok (.getfield 9, 3) := by decide +kernel
theorem dX0_copy_9 : decode cX0_copy 9 = .ok (.iconst 0, 1) := by decide +kernel
theorem dX0_copy_10 : decode cX0_copy 10 = .ok (.aload_n 0, 1) := by decide +kernel
theorem dX0_copy_11 : decode cX0_copy 11 = .ok (.getfield 9, 3) := by decide +kernel
theorem dX0_copy_14 : decode cX0_copy 14 = .ok (.arraylength, 1) := by decide +kernel
theorem dX0_copy_15 : decode cX0_copy 15 = .ok (.invokestatic 22, 3) := by decide +kernel
theorem dX0_copy_18 : decode cX0_copy 18 = .ok (.aload_n 0, 1) := by decide +kernel
theorem dX0_copy_19 : decode cX0_copy 19 = .ok (.getfield 18, 3) := by decide +kernel
theorem dX0_copy_22 : decode cX0_copy 22 = .ok (.aload_n 1, 1) := by decide +kernel
theorem dX0_copy_23 : decode cX0_copy 23 = .ok (.getfield 18, 3) := by decide +kernel
theorem dX0_copy_26 : decode cX0_copy 26 = .ok (.invokevirtual 28, 3) := by decide +kernel
theorem dX0_copy_29 : decode cX0_copy 29 = .ok (.return_, 1) := by decide +kernel
set_option maxRecDepth 20000 in
theorem ggX1_init_X3_init : GoodIn wsX1_init wsX3_init := goodIn_r _ [20, 21, 2, 3, 8, 22, 23, 24, 25] (by decide +kernel) (by decide +kernel)
set_option maxRecDepth 20000 in
theorem gX1_init_X3_init_n11 : GoodIn wsX1_init (wsX3_init) := ggX1_init_X3_init
theorem dX1_init_0 : decode cX1_init 0 = .ok (.aload_n 0, 1) := by decide +kernel
theorem dX1_init_1 : decode cX1_init 1 = .ok (.invokespecial 3, 3) := by decide +kernel
theorem dX1_init_4 : decode cX1_init 4 = .ok (.aload_n 0, 1) := by decide +kernel
theorem dX1_init_5 : decode cX1_init 5 = .ok (.new 9, 3) := by decide +kernel
theorem dX1_init_8 : decode cX1_init 8 = .ok (.dup, 1) := by decide +kernel
theorem dX1_init_9 : decode cX1_init 9 = .ok (.invokespecial 11, 3) := by decide +kernel
theorem dX1_init_12 : decode cX1_init 12 = .ok (.putfield 12, 3) := by decide +kernel
theorem dX1_init_15 : decode cX1_init 15 = .ok (.aload_n 0, 1) := by decide +kernel
theorem dX1_init_16 : decode cX1_init 16 = .ok (.bipush 6, 2) := by decide +kernel
theorem dX1_init_18 : decode cX1_init 18 = .ok (.newarray .int, 2) := by decide +kernel
theorem dX1_init_20 : decode cX1_init 20 = .ok (.putfield 18, 3) := by decide +kernel
theorem dX1_init_23 : decode cX1_init 23 = .ok (.aload_n 0, 1) := by decide +kernel
theorem dX1_init_24 : decode cX1_init 24 = .ok (.iconst 3, 1) := by decide +kernel
theorem dX1_init_25 : decode cX1_init 25 = .ok (.putfield 22, 3) := by decide +kernel
theorem dX1_init_28 : decode cX1_init 28 = .ok (.aload_n 0, 1) := by decide +kernel
theorem dX1_init_29 : decode cX1_init 29 = .ok (.iconst 0, 1) := by decide +kernel
theorem dX1_init_30 : decode cX1_init 30 = .ok (.putfield 26, 3) := by decide +kernel
theorem dX1_init_33 : decode cX1_init 33 = .ok (.aload_n 0, 1) := by decide +kernel
theorem dX1_init_34 : decode cX1_init 34 = .ok (.iconst 5, 1) := by decide +kernel
theorem dX1_init_35 : decode cX1_init 35 = .ok (.putfield 29, 3) := by decide +kernel
theorem dX1_init_38 : decode cX1_init 38 = .ok (.aload_n 0, 1) := by decide +kernel
theorem dX1_init_39 : decode cX1_init 39 = .ok (.sipush 650, 3) := by decide +kernel
theorem dX1_init_42 : decode cX1_init 42 = .ok (.newarray .int, 2) := by decide +kernel
theorem dX1_init_44 : decode cX1_init 44 = .ok (.putfield 32, 3) := by decide +kernel
theorem dX1_init_47 : decode cX1_init 47 = .ok (.aload_n 0, 1) := by decide +kernel
theorem dX1_init_48 : decode cX1_init 48 = .ok (.sipush 650, 3) := by decide +kernel
theorem dX1_init_51 : decode cX1_init 51 = .ok (.newarray .int, 2) := by decide +kernel
theorem dX1_init_53 : decode cX1_init 53 = .ok (.putfield 35, 3) := by decide +kernel
theorem dX1_init_56 : decode cX1_init 56 = .ok (.aload_n 0, 1) := by decide +kernel
theorem dX1_init_57 : decode cX1_init 57 = .ok (.iconst 0, 1) := by decide +kernel
theorem dX1_init_58 : decode cX1_init 58 = .ok (.putfield 38, 3) := by decide +kernel
theorem dX1_init_61 : decode cX1_init 61 = .ok (.aload_n 0, 1) := by decide +kernel
theorem dX1_init_62 : decode cX1_init 62 = .ok (.bipush 18, 2) := by decide +kernel
theorem dX1_init_64 : decode cX1_init 64 = .ok (.newarray .int, 2) := by decide +kernel
theorem dX1_init_66 : decode cX1_init 66 = .ok (.putfield 41, 3) := by decide +kernel
theorem dX1_init_69 : decode cX1_init 69 = .ok (.aload_n 0, 1) := by decide +kernel
theorem dX1_init_70 : decode cX1_init 70 = .ok (.iconst 3, 1) := by decide +kernel
theorem dX1_init_71 : decode cX1_init 71 = .ok (.newarray .int, 2) := by decide +kernel
theorem dX1_init_73 : decode cX1_init 73 = .ok (.putfield 44, 3) := by decide +kernel
theorem dX1_init_76 : decode cX1_init 76 = .ok (.aload_n 0, 1) := by decide +kernel
theorem dX1_init_77 : decode cX1_init 77 = .ok (.iconst 3, 1) := by decide +kernel
theorem dX1_init_78 : decode cX1_init 78 = .ok (.newarray .int, 2) := by decide +kernel
theorem dX1_init_80 : decode cX1_init 80 = .ok (.putfield 47, 3) := by decide +kernel
theorem dX1_init_83 : decode cX1_init 83 = .ok (.return_, 1) := by decide +kernel
set_option maxRecDepth 20000 in
theorem ggX1_start_X3_copy : GoodIn wsX1_start wsX3_copy := goodIn_r _ [11, 12, 13, 14, 15, 16, 17, 37, 38] (by decide +kernel) (by decide +kernel)
set_option maxRecDepth 20000 in
theorem gX1_start_X3_copy : GoodIn wsX1_start (wsV RX1 53 RX3 yX3_copy wsX3_copy) := goodIn_app (goodIn_of _ (by decide +kernel)) ggX1_start_X3_copy
set_option maxRecDepth 20000 in
theorem ggX1_start_X0_told : GoodIn wsX1_start wsX0_told := goodIn_r _ [22, 23, 35, 36] (by decide +kernel) (by decide +kernel)
set_option maxRecDepth 20000 in
theorem gX1_start_X0_told : GoodIn wsX1_start (wsV RX1 57 RX0 yX0_told wsX0_told) := goodIn_app (goodIn_of _ (by decide +kernel)) ggX1_start_X0_told
theorem dX1_start_0 : decode cX1_start 0 = .ok (.aload_n 0, 1) := by decide +kernel
theorem dX1_start_1 : decode cX1_start 1 = .ok (.getfield 12, 3) := by decide +kernel
theorem dX1_start_4 : decode cX1_start 4 = .ok (.aload_n 1, 1) := by decide +kernel
theorem dX1_start_5 : decode cX1_start 5 = .ok (.getfield 50, 3) := by decide +kernel
theorem dX1_start_8 : decode cX1_start 8 = .ok (.invokevirtual 53, 3) := by decide +kernel
theorem dX1_start_11 : decode cX1_start 11 = .ok (.iconst 0, 1) := by decide +kernel
theorem dX1_start_12 : decode cX1_start 12 = .ok (.istore_n 2, 1) := by decide +kernel
theorem dX1_start_13 : decode cX1_start 13 = .ok (.iload_n 2, 1) := by decide +kernel
theorem dX1_start_14 : decode cX1_start 14 = .ok (.aload_n 0, 1) := by decide +kernel
theorem dX1_start_15 : decode cX1_start 15 = .ok (.getfield 18, 3) := by decide +kernel
theorem dX1_start_18 : decode cX1_start 18 = .ok (.arraylength, 1) := by decide +kernel
theorem dX1_start_19 : decode cX1_start 19 = .ok (.if_icmp .ge 16, 3) := by decide +kernel
theorem dX1_start_22 : decode cX1_start 22 = .ok (.aload_n 0, 1) := by decide +kernel
theorem dX1_start_23 : decode cX1_start 23 = .ok (.getfield 18, 3) := by decide +kernel
theorem dX1_start_26 : decode cX1_start 26 = .ok (.iload_n 2, 1) := by decide +kernel
theorem dX1_start_27 : decode cX1_start 27 = .ok (.iconst 0, 1) := by decide +kernel
theorem dX1_start_28 : decode cX1_start 28 = .ok (.iastore, 1) := by decide +kernel
theorem dX1_start_29 : decode cX1_start 29 = .ok (.iinc 2 1, 3) := by decide +kernel
theorem dX1_start_32 : decode cX1_start 32 = .ok (.goto (-19), 3) := by decide +kernel
theorem dX1_start_35 : decode cX1_start 35 = .ok (.aload_n 0, 1) := by decide +kernel
theorem dX1_start_36 : decode cX1_start 36 = .ok (.aload_n 1, 1) := by decide +kernel
theorem dX1_start_37 : decode cX1_start 37 = .ok (.bipush 7, 2) := by decide +kernel
theorem dX1_start_39 : decode cX1_start 39 = .ok (.invokevirtual 57, 3) := by decide +kernel
theorem dX1_start_42 : decode cX1_start 42 = .ok (.putfield 22, 3) := by decide +kernel
theorem dX1_start_45 : decode cX1_start 45 = .ok (.aload_n 0, 1) := by decide +kernel
theorem dX1_start_46 : decode cX1_start 46 = .ok (.aload_n 1, 1) := by decide +kernel
theorem dX1_start_47 : decode cX1_start 47 = .ok (.bipush 8, 2) := by decide +kernel
theorem dX1_start_49 : decode cX1_start 49 = .ok (.invokevirtual 57, 3) := by decide +kernel
theorem dX1_start_52 : decode cX1_start 52 = .ok (.putfield 26, 3) := by decide +kernel
theorem dX1_start_55 : decode cX1_start 55 = .ok (.aload_n 0, 1) := by decide +kernel
theorem dX1_start_56 : decode cX1_start 56 = .ok (.aload_n 1, 1) := by decide +kernel
theorem dX1_start_57 : decode cX1_start 57 = .ok (.bipush 9, 2) := by decide +kernel
theorem dX1_start_59 : decode cX1_start 59 = .ok (.invokevirtual 57, 3) := by decide +kernel
theorem dX1_start_62 : decode cX1_start 62 = .ok (.putfield 29, 3) := by decide +kernel
theorem dX1_start_65 : decode cX1_start 65 = .ok (.aload_n 0, 1) := by decide +kernel
theorem dX1_start_66 : decode cX1_start 66 = .ok (.iconst 0, 1) := by decide +kernel
theorem dX1_start_67 : decode cX1_start 67 = .ok (.putfield 38, 3) := by decide +kernel
theorem dX1_start_70 : decode cX1_start 70 = .ok (.return_, 1) := by decide +kernel
theorem dX1_changeRebound_0 : decode cX1_changeRebound 0 = .ok (.aload_n 0, 1) := by decide +kernel
theorem dX1_changeRebound_1 : decode cX1_changeRebound 1 = .ok (.iload_n 1, 1) := by decide +kernel
theorem dX1_changeRebound_2 : decode cX1_changeRebound 2 = .ok (.putfield 22, 3) := by decide +kernel
theorem dX1_changeRebound_5 : decode cX1_changeRebound 5 = .ok (.return_, 1) := by decide +kernel
theorem dX1_changeLaw_0 : decode cX1_changeLaw 0 = .ok (.aload_n 0, 1) := by decide +kernel
theorem dX1_changeLaw_1 : decode cX1_changeLaw 1 = .ok (.iload_n 1, 1) := by decide +kernel
theorem dX1_changeLaw_2 : decode cX1_changeLaw 2 = .ok (.putfield 26, 3) := by decide +kernel
theorem dX1_changeLaw_5 : decode cX1_changeLaw 5 = .ok (.return_, 1) := by decide +kernel
set_option maxRecDepth 20000 in
theorem ggX1_changeNear_X3_change : GoodIn wsX1_changeNear wsX3_change := goodIn_r _ [6, 7, 19, 20] (by decide +kernel) (by decide +kernel)
set_option maxRecDepth 20000 in
theorem gX1_changeNear_X3_change : GoodIn wsX1_changeNear (wsV RX1 61 RX3 yX3_change wsX3_change) := goodIn_app (goodIn_of _ (by decide +kernel)) ggX1_changeNear_X3_change
theorem dX1_changeNear_0 : decode cX1_changeNear 0 = .ok (.aload_n 0, 1) := by decide +kernel
theorem dX1_changeNear_1 : decode cX1_changeNear 1 = .ok (.getfield 12, 3) := by decide +kernel
theorem dX1_changeNear_4 : decode cX1_changeNear 4 = .ok (.iload_n 1, 1) := by decide +kernel
theorem dX1_changeNear_5 : decode cX1_changeNear 5 = .ok (.iconst 2, 1) := by decide +kernel
theorem dX1_changeNear_6 : decode cX1_changeNear 6 = .ok (.iload_n 2, 1) := by decide +kernel
theorem dX1_changeNear_7 : decode cX1_changeNear 7 = .ok (.invokevirtual 61, 3) := by decide +kernel
theorem dX1_changeNear_10 : decode cX1_changeNear 10 = .ok (.return_, 1) := by decide +kernel
theorem dX1_change_0 : decode cX1_change 0 = .ok (.iload_n 1, 1) := by decide +kernel
theorem dX1_change_1 : decode cX1_change 1 = .ok (.ifCond .lt 19, 3) := by decide +kernel
theorem dX1_change_4 : decode cX1_change 4 = .ok (.iload_n 1, 1) := by decide +kernel
theorem dX1_change_5 : decode cX1_change 5 = .ok (.aload_n 0, 1) := by decide +kernel
theorem dX1_change_6 : decode cX1_change 6 = .ok (.getfield 18, 3) := by decide +kernel
theorem dX1_change_9 : decode cX1_change 9 = .ok (.arraylength, 1) := by decide +kernel
theorem dX1_change_10 : decode cX1_change 10 = .ok (.if_icmp .ge 10, 3) := by decide +kernel
theorem dX1_change_13 : decode cX1_change 13 = .ok (.aload_n 0, 1) := by decide +kernel
theorem dX1_change_14 : decode cX1_change 14 = .ok (.getfield 18, 3) := by decide +kernel
theorem dX1_change_17 : decode cX1_change 17 = .ok (.iload_n 1, 1) := by decide +kernel
theorem dX1_change_18 : decode cX1_change 18 = .ok (.iload_n 2, 1) := by decide +kernel
theorem dX1_change_19 : decode cX1_change 19 = .ok (.iastore, 1) := by decide +kernel
theorem dX1_change_20 : decode cX1_change 20 = .ok (.return_, 1) := by decide +kernel
set_option maxRecDepth 20000 in
theorem ggX1_raiseAll_X3_players : GoodIn wsX1_raiseAll wsX3_players := goodIn_r _ [6, 7, 30, 31] (by decide +kernel) (by decide +kernel)
set_option maxRecDepth 20000 in
theorem gX1_raiseAll_X3_players : GoodIn wsX1_raiseAll (wsV RX1 65 RX3 yX3_players wsX3_players) := goodIn_app (goodIn_of _ (by decide +kernel)) ggX1_raiseAll_X3_players
set_option maxRecDepth 20000 in
theorem ggX1_raiseAll_X3_fact : GoodIn wsX1_raiseAll wsX3_fact := goodIn_r _ [11, 12, 30, 31] (by decide +kernel) (by decide +kernel)
set_option maxRecDepth 20000 in
theorem gX1_raiseAll_X3_fact : GoodIn wsX1_raiseAll (wsV RX1 69 RX3 yX3_fact wsX3_fact) := goodIn_app (goodIn_of _ (by decide +kernel)) ggX1_raiseAll_X3_fact
set_option maxRecDepth 20000 in
theorem ggX1_raiseAll_X1_change : GoodIn wsX1_raiseAll wsX1_change := goodIn_r _ [17, 18, 19, 20, 21, 22, 23, 24, 25, 26, 27, 28, 29] (by decide +kernel) (by decide +kernel)
set_option maxRecDepth 20000 in
theorem gX1_raiseAll_X1_change : GoodIn wsX1_raiseAll (wsV RX1 73 RX1 yX1_change wsX1_change) := goodIn_app (goodIn_of _ (by decide +kernel)) ggX1_raiseAll_X1_change
theorem dX1_raiseAll_0 : decode cX1_raiseAll 0 = .ok (.iconst 0, 1) := by decide +kernel
theorem dX1_raiseAll_1 : decode cX1_raiseAll 1 = .ok (.istore_n 2, 1) := by decide +kernel
theorem dX1_raiseAll_2 : decode cX1_raiseAll 2 = .ok (.iload_n 2, 1) := by decide +kernel
theorem dX1_raiseAll_3 : decode cX1_raiseAll 3 = .ok (.aload_n 0, 1) := by decide +kernel
theorem dX1_raiseAll_4 : decode cX1_raiseAll 4 = .ok (.getfield 12, 3) := by decide +kernel
theorem dX1_raiseAll_7 : decode cX1_raiseAll 7 = .ok (.invokevirtual 65, 3) := by decide +kernel
theorem dX1_raiseAll_10 : decode cX1_raiseAll 10 = .ok (.if_icmp .ge 28, 3) := by decide +kernel
theorem dX1_raiseAll_13 : decode cX1_raiseAll 13 = .ok (.aload_n 0, 1) := by decide +kernel
theorem dX1_raiseAll_14 : decode cX1_raiseAll 14 = .ok (.getfield 12, 3) := by decide +kernel
theorem dX1_raiseAll_17 : decode cX1_raiseAll 17 = .ok (.iload_n 2, 1) := by decide +kernel
theorem dX1_raiseAll_18 : decode cX1_raiseAll 18 = .ok (.iconst 0, 1) := by decide +kernel
theorem dX1_raiseAll_19 : decode cX1_raiseAll 19 = .ok (.invokevirtual 69, 3) := by decide +kernel
theorem dX1_raiseAll_22 : decode cX1_raiseAll 22 = .ok (.iload_n 1, 1) := by decide +kernel
theorem dX1_raiseAll_23 : decode cX1_raiseAll 23 = .ok (.if_icmp .ne 9, 3) := by decide +kernel
theorem dX1_raiseAll_26 : decode cX1_raiseAll 26 = .ok (.aload_n 0, 1) := by decide +kernel
theorem dX1_raiseAll_27 : decode cX1_raiseAll 27 = .ok (.iload_n 2, 1) := by decide +kernel
theorem dX1_raiseAll_28 : decode cX1_raiseAll 28 = .ok (.iconst 2, 1) := by decide +kernel
theorem dX1_raiseAll_29 : decode cX1_raiseAll 29 = .ok (.invokevirtual 73, 3) := by decide +kernel
theorem dX1_raiseAll_32 : decode cX1_raiseAll 32 = .ok (.iinc 2 1, 3) := by decide +kernel
theorem dX1_raiseAll_35 : decode cX1_raiseAll 35 = .ok (.goto (-33), 3) := by decide +kernel
theorem dX1_raiseAll_38 : decode cX1_raiseAll 38 = .ok (.return_, 1) := by decide +kernel
theorem dX1_changeOf_0 : decode cX1_changeOf 0 = .ok (.iload_n 1, 1) := by decide +kernel
theorem dX1_changeOf_1 : decode cX1_changeOf 1 = .ok (.ifCond .lt 12, 3) := by decide +kernel
theorem dX1_changeOf_4 : decode cX1_changeOf 4 = .ok (.iload_n 1, 1) := by decide +kernel
theorem dX1_changeOf_5 : decode cX1_changeOf 5 = .ok (.aload_n 0, 1) := by decide +kernel
theorem dX1_changeOf_6 : decode cX1_changeOf 6 = .ok (.getfield 18, 3) := by decide +kernel
theorem dX1_changeOf_9 : decode cX1_changeOf 9 = .ok (.arraylength, 1) := by decide +kernel
theorem dX1_changeOf_10 : decode cX1_changeOf 10 = .ok (.if_icmp .lt 7, 3) := by decide +kernel
theorem dX1_changeOf_13 : decode cX1_changeOf 13 = .ok (.iconst 0, 1) := by decide +kernel
theorem dX1_changeOf_14 : decode cX1_changeOf 14 = .ok (.goto 9, 3) := by decide +kernel
theorem dX1_changeOf_17 : decode cX1_changeOf 17 = .ok (.aload_n 0, 1) := by decide +kernel
theorem dX1_changeOf_18 : decode cX1_changeOf 18 = .ok (.getfield 18, 3) := by decide +kernel
theorem dX1_changeOf_21 : decode cX1_changeOf 21 = .ok (.iload_n 1, 1) := by decide +kernel
theorem dX1_changeOf_22 : decode cX1_changeOf 22 = .ok (.iaload, 1) := by decide +kernel
theorem dX1_changeOf_23 : decode cX1_changeOf 23 = .ok (.ireturn, 1) := by decide +kernel
set_option maxRecDepth 20000 in
theorem ggX1_tenths_X3_tenths : GoodIn wsX1_tenths wsX3_tenths := goodIn_r _ [10, 11, 3, 4, 5, 12, 13, 14, 15, 16, 17, 9, 18, 19, 37, 38] (by decide +kernel) (by decide +kernel)
set_option maxRecDepth 20000 in
theorem gX1_tenths_X3_tenths : GoodIn wsX1_tenths (wsV RX1 76 RX3 yX3_tenths wsX3_tenths) := goodIn_app (goodIn_of _ (by decide +kernel)) ggX1_tenths_X3_tenths
set_option maxRecDepth 20000 in
theorem ggX1_tenths_X1_changeOf : GoodIn wsX1_tenths wsX1_changeOf := goodIn_r _ [24, 25, 26, 27, 28, 29, 30, 31, 32, 33, 34, 35, 36] (by decide +kernel) (by decide +kernel)
set_option maxRecDepth 20000 in
theorem gX1_tenths_X1_changeOf : GoodIn wsX1_tenths (wsV RX1 80 RX1 yX1_changeOf wsX1_changeOf) := goodIn_app (goodIn_of _ (by decide +kernel)) ggX1_tenths_X1_changeOf
theorem dX1_tenths_0 : decode cX1_tenths 0 = .ok (.aload_n 0, 1) := by decide +kernel
theorem dX1_tenths_1 : decode cX1_tenths 1 = .ok (.getfield 12, 3) := by decide +kernel
theorem dX1_tenths_4 : decode cX1_tenths 4 = .ok (.iload_n 1, 1) := by decide +kernel
theorem dX1_tenths_5 : decode cX1_tenths 5 = .ok (.iload_n 2, 1) := by decide +kernel
theorem dX1_tenths_6 : decode cX1_tenths 6 = .ok (.ifCond .ne 7, 3) := by decide +kernel
theorem dX1_tenths_9 : decode cX1_tenths 9 = .ok (.iconst 0, 1) := by decide +kernel
theorem dX1_tenths_10 : decode cX1_tenths 10 = .ok (.goto 4, 3) := by decide +kernel
theorem dX1_tenths_13 : decode cX1_tenths 13 = .ok (.iconst 1, 1) := by decide +kernel
theorem dX1_tenths_14 : decode cX1_tenths 14 = .ok (.iload_n 3, 1) := by decide +kernel
theorem dX1_tenths_15 : decode cX1_tenths 15 = .ok (.invokevirtual 76, 3) := by decide +kernel
theorem dX1_tenths_18 : decode cX1_tenths 18 = .ok (.istore 4, 2) := by decide +kernel
theorem dX1_tenths_20 : decode cX1_tenths 20 = .ok (.aload_n 0, 1) := by decide +kernel
theorem dX1_tenths_21 : decode cX1_tenths 21 = .ok (.iload_n 1, 1) := by decide +kernel
theorem dX1_tenths_22 : decode cX1_tenths 22 = .ok (.invokevirtual 80, 3) := by decide +kernel
theorem dX1_tenths_25 : decode cX1_tenths 25 = .ok (.iconst 2, 1) := by decide +kernel
theorem dX1_tenths_26 : decode cX1_tenths 26 = .ok (.if_icmp .ne 17, 3) := by decide +kernel
theorem dX1_tenths_29 : decode cX1_tenths 29 = .ok (.iload 4, 2) := by decide +kernel
theorem dX1_tenths_31 : decode cX1_tenths 31 = .ok (.iconst 1, 1) := by decide +kernel
theorem dX1_tenths_32 : decode cX1_tenths 32 = .ok (.iadd, 1) := by decide +kernel
theorem dX1_tenths_33 : decode cX1_tenths 33 = .ok (.bipush 9, 2) := by decide +kernel
theorem dX1_tenths_35 : decode cX1_tenths 35 = .ok (.invokestatic 83, 3) := by decide +kernel
theorem dX1_tenths_38 : decode cX1_tenths 38 = .ok (.istore 4, 2) := by decide +kernel
theorem dX1_tenths_40 : decode cX1_tenths 40 = .ok (.goto 18, 3) := by decide +kernel
theorem dX1_tenths_43 : decode cX1_tenths 43 = .ok (.aload_n 0, 1) := by decide +kernel
theorem dX1_tenths_44 : decode cX1_tenths 44 = .ok (.iload_n 1, 1) := by decide +kernel
theorem dX1_tenths_45 : decode cX1_tenths 45 = .ok (.invokevirtual 80, 3) := by decide +kernel
theorem dX1_tenths_48 : decode cX1_tenths 48 = .ok (.iconst 3, 1) := by decide +kernel
theorem dX1_tenths_49 : decode cX1_tenths 49 = .ok (.if_icmp .ne 9, 3) := by decide +kernel
theorem dX1_tenths_52 : decode cX1_tenths 52 = .ok (.iload 4, 2) := by decide +kernel
theorem dX1_tenths_54 : decode cX1_tenths 54 = .ok (.iconst 2, 1) := by decide +kernel
theorem dX1_tenths_55 : decode cX1_tenths 55 = .ok (.idiv, 1) := by decide +kernel
theorem dX1_tenths_56 : decode cX1_tenths 56 = .ok (.istore 4, 2) := by decide +kernel
theorem dX1_tenths_58 : decode cX1_tenths 58 = .ok (.iload_n 2, 1) := by decide +kernel
theorem dX1_tenths_59 : decode cX1_tenths 59 = .ok (.iconst 2, 1) := by decide +kernel
theorem dX1_tenths_60 : decode cX1_tenths 60 = .ok (.if_icmp .ne 10, 3) := by decide +kernel
theorem dX1_tenths_63 : decode cX1_tenths 63 = .ok (.iload 4, 2) := by decide +kernel
theorem dX1_tenths_65 : decode cX1_tenths 65 = .ok (.iconst 2, 1) := by decide +kernel
theorem dX1_tenths_66 : decode cX1_tenths 66 = .ok (.idiv, 1) := by decide +kernel
theorem dX1_tenths_67 : decode cX1_tenths 67 = .ok (.goto 5, 3) := by decide +kernel
theorem dX1_tenths_70 : decode cX1_tenths 70 = .ok (.iload 4, 2) := by decide +kernel
theorem dX1_tenths_72 : decode cX1_tenths 72 = .ok (.ireturn, 1) := by decide +kernel
theorem dX1_isOver_0 : decode cX1_isOver 0 = .ok (.iload_n 1, 1) := by decide +kernel
theorem dX1_isOver_1 : decode cX1_isOver 1 = .ok (.ifCond .le 22, 3) := by decide +kernel
theorem dX1_isOver_4 : decode cX1_isOver 4 = .ok (.aload_n 0, 1) := by decide +kernel
theorem dX1_isOver_5 : decode cX1_isOver 5 = .ok (.getfield 26, 3) := by decide +kernel
theorem dX1_isOver_8 : decode cX1_isOver 8 = .ok (.iconst 1, 1) := by decide +kernel
theorem dX1_isOver_9 : decode cX1_isOver 9 = .ok (.if_icmp .ne 18, 3) := by decide +kernel
theorem dX1_isOver_12 : decode cX1_isOver 12 = .ok (.iload_n 2, 1) := by decide +kernel
theorem dX1_isOver_13 : decode cX1_isOver 13 = .ok (.bipush 6, 2) := by decide +kernel
theorem dX1_isOver_15 : decode cX1_isOver 15 = .ok (.isub, 1) := by decide +kernel
theorem dX1_isOver_16 : decode cX1_isOver 16 = .ok (.invokestatic 88, 3) := by decide +kernel
theorem dX1_isOver_19 : decode cX1_isOver 19 = .ok (.iconst 3, 1) := by decide +kernel
theorem dX1_isOver_20 : decode cX1_isOver 20 = .ok (.if_icmp .lt 7, 3) := by decide +kernel
theorem dX1_isOver_23 : decode cX1_isOver 23 = .ok (.iconst 1, 1) := by decide +kernel
theorem dX1_isOver_24 : decode cX1_isOver 24 = .ok (.goto 4, 3) := by decide +kernel
theorem dX1_isOver_27 : decode cX1_isOver 27 = .ok (.iconst 0, 1) := by decide +kernel
theorem dX1_isOver_28 : decode cX1_isOver 28 = .ok (.ireturn, 1) := by decide +kernel
theorem dX1_valueOfEnd_0 : decode cX1_valueOfEnd 0 = .ok (.iload_n 1, 1) := by decide +kernel
theorem dX1_valueOfEnd_1 : decode cX1_valueOfEnd 1 = .ok (.bipush 6, 2) := by decide +kernel
theorem dX1_valueOfEnd_3 : decode cX1_valueOfEnd 3 = .ok (.if_icmp .le 6, 3) := by decide +kernel
theorem dX1_valueOfEnd_6 : decode cX1_valueOfEnd 6 = .ok (.ldc 91, 2) := by decide +kernel
theorem dX1_valueOfEnd_8 : decode cX1_valueOfEnd 8 = .ok (.ireturn, 1) := by decide +kernel
theorem dX1_valueOfEnd_9 : decode cX1_valueOfEnd 9 = .ok (.iload_n 1, 1) := by decide +kernel
theorem dX1_valueOfEnd_10 : decode cX1_valueOfEnd 10 = .ok (.bipush 6, 2) := by decide +kernel
theorem dX1_valueOfEnd_12 : decode cX1_valueOfEnd 12 = .ok (.if_icmp .ne 13, 3) := by decide +kernel
theorem dX1_valueOfEnd_15 : decode cX1_valueOfEnd 15 = .ok (.aload_n 0, 1) := by decide +kernel
theorem dX1_valueOfEnd_16 : decode cX1_valueOfEnd 16 = .ok (.getfield 29, 3) := by decide +kernel
theorem dX1_valueOfEnd_19 : decode cX1_valueOfEnd 19 = .ok (.ldc 92, 2) := by decide +kernel
theorem dX1_valueOfEnd_21 : decode cX1_valueOfEnd 21 = .ok (.imul, 1) := by decide +kernel
theorem dX1_valueOfEnd_22 : decode cX1_valueOfEnd 22 = .ok (.goto 4, 3) := by decide +kernel
theorem dX1_valueOfEnd_25 : decode cX1_valueOfEnd 25 = .ok (.iconst 0, 1) := by decide +kernel
theorem dX1_valueOfEnd_26 : decode cX1_valueOfEnd 26 = .ok (.ireturn, 1) := by decide +kernel
theorem dX1_placeOf_0 : decode cX1_placeOf 0 = .ok (.iload_n 0, 1) := by decide +kernel
theorem dX1_placeOf_1 : decode cX1_placeOf 1 = .ok (.ifCond .lt 32, 3) := by decide +kernel
theorem dX1_placeOf_4 : decode cX1_placeOf 4 = .ok (.iload_n 0, 1) := by decide +kernel
theorem dX1_placeOf_5 : decode cX1_placeOf 5 = .ok (.bipush 24, 2) := by decide +kernel
theorem dX1_placeOf_7 : decode cX1_placeOf 7 = .ok (.if_icmp .gt 26, 3) := by decide +kernel
theorem dX1_placeOf_10 : decode cX1_placeOf 10 = .ok (.iload_n 1, 1) := by decide +kernel
theorem dX1_placeOf_11 : decode cX1_placeOf 11 = .ok (.ifCond .lt 22, 3) := by decide +kernel
theorem dX1_placeOf_14 : decode cX1_placeOf 14 = .ok (.iload_n 1, 1) := by decide +kernel
theorem dX1_placeOf_15 : decode cX1_placeOf 15 = .ok (.bipush 12, 2) := by decide +kernel
theorem dX1_placeOf_17 : decode cX1_placeOf 17 = .ok (.if_icmp .gt 16, 3) := by decide +kernel
theorem dX1_placeOf_20 : decode cX1_placeOf 20 = .ok (.iload_n 2, 1) := by decide +kernel
theorem dX1_placeOf_21 : decode cX1_placeOf 21 = .ok (.ifCond .lt 12, 3) := by decide +kernel
theorem dX1_placeOf_24 : decode cX1_placeOf 24 = .ok (.iload_n 2, 1) := by decide +kernel
theorem dX1_placeOf_25 : decode cX1_placeOf 25 = .ok (.iconst 1, 1) := by decide +kernel
theorem dX1_placeOf_26 : decode cX1_placeOf 26 = .ok (.if_icmp .gt 7, 3) := by decide +kernel
theorem dX1_placeOf_29 : decode cX1_placeOf 29 = .ok (.iconst 1, 1) := by decide +kernel
theorem dX1_placeOf_30 : decode cX1_placeOf 30 = .ok (.goto 4, 3) := by decide +kernel
theorem dX1_placeOf_33 : decode cX1_placeOf 33 = .ok (.iconst 0, 1) := by decide +kernel
theorem dX1_placeOf_34 : decode cX1_placeOf 34 = .ok (.istore_n 3, 1) := by decide +kernel
theorem dX1_placeOf_35 : decode cX1_placeOf 35 = .ok (.iload_n 3, 1) := by decide +kernel
theorem dX1_placeOf_36 : decode cX1_placeOf 36 = .ok (.ifCond .eq 16, 3) := by decide +kernel
theorem dX1_placeOf_39 : decode cX1_placeOf 39 = .ok (.iload_n 0, 1) := by decide +kernel
theorem dX1_placeOf_40 : decode cX1_placeOf 40 = .ok (.bipush 13, 2) := by decide +kernel
theorem dX1_placeOf_42 : decode cX1_placeOf 42 = .ok (.imul, 1) := by decide +kernel
theorem dX1_placeOf_43 : decode cX1_placeOf 43 = .ok (.iload_n 1, 1) := by decide +kernel
theorem dX1_placeOf_44 : decode cX1_placeOf 44 = .ok (.iadd, 1) := by decide +kernel
theorem dX1_placeOf_45 : decode cX1_placeOf 45 = .ok (.iconst 2, 1) := by decide +kernel
theorem dX1_placeOf_46 : decode cX1_placeOf 46 = .ok (.imul, 1) := by decide +kernel
theorem dX1_placeOf_47 : decode cX1_placeOf 47 = .ok (.iload_n 2, 1) := by decide +kernel
theorem dX1_placeOf_48 : decode cX1_placeOf 48 = .ok (.iadd, 1) := by decide +kernel
theorem dX1_placeOf_49 : decode cX1_placeOf 49 = .ok (.goto 4, 3) := by decide +kernel
theorem dX1_placeOf_52 : decode cX1_placeOf 52 = .ok (.iconst (-1), 1) := by decide +kernel
theorem dX1_placeOf_53 : decode cX1_placeOf 53 = .ok (.ireturn, 1) := by decide +kernel
set_option maxRecDepth 20000 in
theorem ggX1_valueAt_X1_placeOf : GoodIn wsX1_valueAt wsX1_placeOf := goodIn_r _ [5] (by decide +kernel) (by decide +kernel)
set_option maxRecDepth 20000 in
theorem gX1_valueAt_X1_placeOf : GoodIn wsX1_valueAt (va_wsS RX1 93 yX1_placeOf wsX1_placeOf) := goodIn_app (goodIn_of _ (by decide +kernel)) ggX1_valueAt_X1_placeOf
theorem dX1_valueAt_0 : decode cX1_valueAt 0 = .ok (.iload_n 1, 1) := by decide +kernel
theorem dX1_valueAt_1 : decode cX1_valueAt 1 = .ok (.iload_n 2, 1) := by decide +kernel
theorem dX1_valueAt_2 : decode cX1_valueAt 2 = .ok (.iload_n 3, 1) := by decide +kernel
theorem dX1_valueAt_3 : decode cX1_valueAt 3 = .ok (.invokestatic 93, 3) := by decide +kernel
theorem dX1_valueAt_6 : decode cX1_valueAt 6 = .ok (.istore 4, 2) := by decide +kernel
theorem dX1_valueAt_8 : decode cX1_valueAt 8 = .ok (.iload 4, 2) := by decide +kernel
theorem dX1_valueAt_10 : decode cX1_valueAt 10 = .ok (.ifCond .lt 13, 3) := by decide +kernel
theorem dX1_valueAt_13 : decode cX1_valueAt 13 = .ok (.iload 4, 2) := by decide +kernel
theorem dX1_valueAt_15 : decode cX1_valueAt 15 = .ok (.aload_n 0, 1) := by decide +kernel
theorem dX1_valueAt_16 : decode cX1_valueAt 16 = .ok (.getfield 32, 3) := by decide +kernel
theorem dX1_valueAt_19 : decode cX1_valueAt 19 = .ok (.arraylength, 1) := by decide +kernel
theorem dX1_valueAt_20 : decode cX1_valueAt 20 = .ok (.if_icmp .lt 7, 3) := by decide +kernel
theorem dX1_valueAt_23 : decode cX1_valueAt 23 = .ok (.iconst 0, 1) := by decide +kernel
theorem dX1_valueAt_24 : decode cX1_valueAt 24 = .ok (.goto 10, 3) := by decide +kernel
theorem dX1_valueAt_27 : decode cX1_valueAt 27 = .ok (.aload_n 0, 1) := by decide +kernel
theorem dX1_valueAt_28 : decode cX1_valueAt 28 = .ok (.getfield 32, 3) := by decide +kernel
theorem dX1_valueAt_31 : decode cX1_valueAt 31 = .ok (.iload 4, 2) := by decide +kernel
theorem dX1_valueAt_33 : decode cX1_valueAt 33 = .ok (.iaload, 1) := by decide +kernel
theorem dX1_valueAt_34 : decode cX1_valueAt 34 = .ok (.ireturn, 1) := by decide +kernel
set_option maxRecDepth 20000 in
theorem ggX1_bestAt_X1_placeOf : GoodIn wsX1_bestAt wsX1_placeOf := goodIn_r _ [5] (by decide +kernel) (by decide +kernel)
set_option maxRecDepth 20000 in
theorem gX1_bestAt_X1_placeOf : GoodIn wsX1_bestAt (va_wsS RX1 93 yX1_placeOf wsX1_placeOf) := goodIn_app (goodIn_of _ (by decide +kernel)) ggX1_bestAt_X1_placeOf
theorem dX1_bestAt_0 : decode cX1_bestAt 0 = .ok (.iload_n 1, 1) := by decide +kernel
theorem dX1_bestAt_1 : decode cX1_bestAt 1 = .ok (.iload_n 2, 1) := by decide +kernel
theorem dX1_bestAt_2 : decode cX1_bestAt 2 = .ok (.iload_n 3, 1) := by decide +kernel
theorem dX1_bestAt_3 : decode cX1_bestAt 3 = .ok (.invokestatic 93, 3) := by decide +kernel
theorem dX1_bestAt_6 : decode cX1_bestAt 6 = .ok (.istore 4, 2) := by decide +kernel
theorem dX1_bestAt_8 : decode cX1_bestAt 8 = .ok (.iload 4, 2) := by decide +kernel
theorem dX1_bestAt_10 : decode cX1_bestAt 10 = .ok (.ifCond .lt 13, 3) := by decide +kernel
theorem dX1_bestAt_13 : decode cX1_bestAt 13 = .ok (.iload 4, 2) := by decide +kernel
theorem dX1_bestAt_15 : decode cX1_bestAt 15 = .ok (.aload_n 0, 1) := by decide +kernel
theorem dX1_bestAt_16 : decode cX1_bestAt 16 = .ok (.getfield 35, 3) := by decide +kernel
theorem dX1_bestAt_19 : decode cX1_bestAt 19 = .ok (.arraylength, 1) := by decide +kernel
theorem dX1_bestAt_20 : decode cX1_bestAt 20 = .ok (.if_icmp .lt 8, 3) := by decide +kernel
theorem dX1_bestAt_23 : decode cX1_bestAt 23 = .ok (.bipush (-9), 2) := by decide +kernel
theorem dX1_bestAt_25 : decode cX1_bestAt 25 = .ok (.goto 10, 3) := by decide +kernel
theorem dX1_bestAt_28 : decode cX1_bestAt 28 = .ok (.aload_n 0, 1) := by decide +kernel
theorem dX1_bestAt_29 : decode cX1_bestAt 29 = .ok (.getfield 35, 3) := by decide +kernel
theorem dX1_bestAt_32 : decode cX1_bestAt 32 = .ok (.iload 4, 2) := by decide +kernel
theorem dX1_bestAt_34 : decode cX1_bestAt 34 = .ok (.iaload, 1) := by decide +kernel
theorem dX1_bestAt_35 : decode cX1_bestAt 35 = .ok (.ireturn, 1) := by decide +kernel
theorem dX1_put_0 : decode cX1_put 0 = .ok (.iload_n 1, 1) := by decide +kernel
theorem dX1_put_1 : decode cX1_put 1 = .ok (.ifCond .lt 35, 3) := by decide +kernel
theorem dX1_put_4 : decode cX1_put 4 = .ok (.iload_n 1, 1) := by decide +kernel
theorem dX1_put_5 : decode cX1_put 5 = .ok (.aload_n 0, 1) := by decide +kernel
theorem dX1_put_6 : decode cX1_put 6 = .ok (.getfield 32, 3) := by decide +kernel
theorem dX1_put_9 : decode cX1_put 9 = .ok (.arraylength, 1) := by decide +kernel
theorem dX1_put_10 : decode cX1_put 10 = .ok (.if_icmp .ge 26, 3) := by decide +kernel
theorem dX1_put_13 : decode cX1_put 13 = .ok (.iload_n 1, 1) := by decide +kernel
theorem dX1_put_14 : decode cX1_put 14 = .ok (.aload_n 0, 1) := by decide +kernel
theorem dX1_put_15 : decode cX1_put 15 = .ok (.getfield 35, 3) := by decide +kernel
theorem dX1_put_18 : decode cX1_put 18 = .ok (.arraylength, 1) := by decide +kernel
theorem dX1_put_19 : decode cX1_put 19 = .ok (.if_icmp .ge 17, 3) := by decide +kernel
theorem dX1_put_22 : decode cX1_put 22 = .ok (.aload_n 0, 1) := by decide +kernel
theorem dX1_put_23 : decode cX1_put 23 = .ok (.getfield 32, 3) := by decide +kernel
theorem dX1_put_26 : decode cX1_put 26 = .ok (.iload_n 1, 1) := by decide +kernel
theorem dX1_put_27 : decode cX1_put 27 = .ok (.iload_n 2, 1) := by decide +kernel
theorem dX1_put_28 : decode cX1_put 28 = .ok (.iastore, 1) := by decide +kernel
theorem dX1_put_29 : decode cX1_put 29 = .ok (.aload_n 0, 1) := by decide +kernel
theorem dX1_put_30 : decode cX1_put 30 = .ok (.getfield 35, 3) := by decide +kernel
theorem dX1_put_33 : decode cX1_put 33 = .ok (.iload_n 1, 1) := by decide +kernel
theorem dX1_put_34 : decode cX1_put 34 = .ok (.iload_n 3, 1) := by decide +kernel
theorem dX1_put_35 : decode cX1_put 35 = .ok (.iastore, 1) := by decide +kernel
theorem dX1_put_36 : decode cX1_put 36 = .ok (.return_, 1) := by decide +kernel
set_option maxRecDepth 20000 in
theorem ggX1_leadBehind_X4_heldLead : GoodIn wsX1_leadBehind wsX4_heldLead := goodIn_r _ [4] (by decide +kernel) (by decide +kernel)
set_option maxRecDepth 20000 in
theorem gX1_leadBehind_X4_heldLead_n96 : GoodIn wsX1_leadBehind (wsX4_heldLead) := ggX1_leadBehind_X4_heldLead
theorem dX1_leadBehind_0 : decode cX1_leadBehind 0 = .ok (.iload_n 1, 1) := by decide +kernel
theorem dX1_leadBehind_1 : decode cX1_leadBehind 1 = .ok (.ifCond .eq 11, 3) := by decide +kernel
theorem dX1_leadBehind_4 : decode cX1_leadBehind 4 = .ok (.aload_n 0, 1) := by decide +kernel
theorem dX1_leadBehind_5 : decode cX1_leadBehind 5 = .ok (.getfield 26, 3) := by decide +kernel
theorem dX1_leadBehind_8 : decode cX1_leadBehind 8 = .ok (.iconst 3, 1) := by decide +kernel
theorem dX1_leadBehind_9 : decode cX1_leadBehind 9 = .ok (.if_icmp .ne 7, 3) := by decide +kernel
theorem dX1_leadBehind_12 : decode cX1_leadBehind 12 = .ok (.iconst 2, 1) := by decide +kernel
theorem dX1_leadBehind_13 : decode cX1_leadBehind 13 = .ok (.goto 4, 3) := by decide +kernel
theorem dX1_leadBehind_16 : decode cX1_leadBehind 16 = .ok (.iconst 3, 1) := by decide +kernel
theorem dX1_leadBehind_17 : decode cX1_leadBehind 17 = .ok (.istore 4, 2) := by decide +kernel
theorem dX1_leadBehind_19 : decode cX1_leadBehind 19 = .ok (.iload_n 3, 1) := by decide +kernel
theorem dX1_leadBehind_20 : decode cX1_leadBehind 20 = .ok (.ifCond .ne 10, 3) := by decide +kernel
theorem dX1_leadBehind_23 : decode cX1_leadBehind 23 = .ok (.iload_n 2, 1) := by decide +kernel
theorem dX1_leadBehind_24 : decode cX1_leadBehind 24 = .ok (.iload 4, 2) := by decide +kernel
theorem dX1_leadBehind_26 : decode cX1_leadBehind 26 = .ok (.iadd, 1) := by decide +kernel
theorem dX1_leadBehind_27 : decode cX1_leadBehind 27 = .ok (.goto 7, 3) := by decide +kernel
theorem dX1_leadBehind_30 : decode cX1_leadBehind 30 = .ok (.iload_n 2, 1) := by decide +kernel
theorem dX1_leadBehind_31 : decode cX1_leadBehind 31 = .ok (.iload 4, 2) := by decide +kernel
theorem dX1_leadBehind_33 : decode cX1_leadBehind 33 = .ok (.isub, 1) := by decide +kernel
theorem dX1_leadBehind_34 : decode cX1_leadBehind 34 = .ok (.invokestatic 96, 3) := by decide +kernel
theorem dX1_leadBehind_37 : decode cX1_leadBehind 37 = .ok (.ireturn, 1) := by decide +kernel
set_option maxRecDepth 20000 in
theorem ggX1_secondsBehindHit_X4_takes : GoodIn wsX1_secondsBehindHit wsX4_takes := goodIn_r _ [4, 5] (by decide +kernel) (by decide +kernel)
set_option maxRecDepth 20000 in
theorem gX1_secondsBehindHit_X4_takes_n99 : GoodIn wsX1_secondsBehindHit (wsX4_takes) := ggX1_secondsBehindHit_X4_takes
theorem dX1_secondsBehindHit_0 : decode cX1_secondsBehindHit 0 = .ok (.iload_n 2, 1) := by decide +kernel
theorem dX1_secondsBehindHit_1 : decode cX1_secondsBehindHit 1 = .ok (.aload_n 0, 1) := by decide +kernel
theorem dX1_secondsBehindHit_2 : decode cX1_secondsBehindHit 2 = .ok (.getfield 26, 3) := by decide +kernel
theorem dX1_secondsBehindHit_5 : decode cX1_secondsBehindHit 5 = .ok (.iconst 2, 1) := by decide +kernel
theorem dX1_secondsBehindHit_6 : decode cX1_secondsBehindHit 6 = .ok (.if_icmp .ne 7, 3) := by decide +kernel
theorem dX1_secondsBehindHit_9 : decode cX1_secondsBehindHit 9 = .ok (.iconst 1, 1) := by decide +kernel
theorem dX1_secondsBehindHit_10 : decode cX1_secondsBehindHit 10 = .ok (.goto 7, 3) := by decide +kernel
theorem dX1_secondsBehindHit_13 : decode cX1_secondsBehindHit 13 = .ok (.iload_n 1, 1) := by decide +kernel
theorem dX1_secondsBehindHit_14 : decode cX1_secondsBehindHit 14 = .ok (.invokestatic 99, 3) := by decide +kernel
theorem dX1_secondsBehindHit_17 : decode cX1_secondsBehindHit 17 = .ok (.isub, 1) := by decide +kernel
theorem dX1_secondsBehindHit_18 : decode cX1_secondsBehindHit 18 = .ok (.ireturn, 1) := by decide +kernel
set_option maxRecDepth 20000 in
theorem ggX1_valueBehindHit_X4_takes : GoodIn wsX1_valueBehindHit wsX4_takes := goodIn_r _ [3, 4] (by decide +kernel) (by decide +kernel)
set_option maxRecDepth 20000 in
theorem gX1_valueBehindHit_X4_takes_n99 : GoodIn wsX1_valueBehindHit (wsX4_takes) := ggX1_valueBehindHit_X4_takes
set_option maxRecDepth 20000 in
theorem ggX1_valueBehindHit_X1_valueOfEnd : GoodIn wsX1_valueBehindHit wsX1_valueOfEnd := goodIn_r _ [9, 10, 11, 12, 32, 33, 34, 35, 36, 37, 38, 39, 40, 41, 42] (by decide +kernel) (by decide +kernel)
set_option maxRecDepth 20000 in
theorem gX1_valueBehindHit_X1_valueOfEnd : GoodIn wsX1_valueBehindHit (wsV RX1 102 RX1 yX1_valueOfEnd wsX1_valueOfEnd) := goodIn_app (goodIn_of _ (by decide +kernel)) ggX1_valueBehindHit_X1_valueOfEnd
set_option maxRecDepth 20000 in
theorem ggX1_valueBehindHit_X1_leadBehind : GoodIn wsX1_valueBehindHit wsX1_leadBehind := goodIn_r _ [16, 17, 18, 2, 19, 32, 33, 34, 35, 36, 37, 38, 39, 40, 41, 42] (by decide +kernel) (by decide +kernel)
set_option maxRecDepth 20000 in
theorem gX1_valueBehindHit_X1_leadBehind : GoodIn wsX1_valueBehindHit (wsV RX1 105 RX1 yX1_leadBehind wsX1_leadBehind) := goodIn_app (goodIn_of _ (by decide +kernel)) ggX1_valueBehindHit_X1_leadBehind
set_option maxRecDepth 20000 in
theorem ggX1_valueBehindHit_X1_secondsBehindHit : GoodIn wsX1_valueBehindHit wsX1_secondsBehindHit := goodIn_r _ [23, 17, 1, 2, 3, 4, 32, 33, 34, 35, 36, 37, 38, 39, 40, 41, 42] (by decide +kernel) (by decide +kernel)
set_option maxRecDepth 20000 in
theorem gX1_valueBehindHit_X1_secondsBehindHit : GoodIn wsX1_valueBehindHit (wsV RX1 108 RX1 yX1_secondsBehindHit wsX1_secondsBehindHit) := goodIn_app (goodIn_of _ (by decide +kernel)) ggX1_valueBehindHit_X1_secondsBehindHit
set_option maxRecDepth 20000 in
theorem ggX1_valueBehindHit_X1_valueAt : GoodIn wsX1_valueBehindHit wsX1_valueAt := goodIn_r _ [27, 28, 29, 30, 8, 31, 32, 33, 34, 35, 36, 37, 38, 39, 40, 41, 42] (by decide +kernel) (by decide +kernel)
set_option maxRecDepth 20000 in
theorem gX1_valueBehindHit_X1_valueAt : GoodIn wsX1_valueBehindHit (wsV RX1 111 RX1 yX1_valueAt wsX1_valueAt) := goodIn_app (goodIn_of _ (by decide +kernel)) ggX1_valueBehindHit_X1_valueAt
theorem dX1_valueBehindHit_0 : decode cX1_valueBehindHit 0 = .ok (.iload_n 1, 1) := by decide +kernel
theorem dX1_valueBehindHit_1 : decode cX1_valueBehindHit 1 = .ok (.invokestatic 99, 3) := by decide +kernel
theorem dX1_valueBehindHit_4 : decode cX1_valueBehindHit 4 = .ok (.iload_n 2, 1) := by decide +kernel
theorem dX1_valueBehindHit_5 : decode cX1_valueBehindHit 5 = .ok (.if_icmp .le 9, 3) := by decide +kernel
theorem dX1_valueBehindHit_8 : decode cX1_valueBehindHit 8 = .ok (.aload_n 0, 1) := by decide +kernel
theorem dX1_valueBehindHit_9 : decode cX1_valueBehindHit 9 = .ok (.iload_n 3, 1) := by decide +kernel
theorem dX1_valueBehindHit_10 : decode cX1_valueBehindHit 10 = .ok (.invokevirtual 102, 3) := by decide +kernel
theorem dX1_valueBehindHit_13 : decode cX1_valueBehindHit 13 = .ok (.ireturn, 1) := by decide +kernel
theorem dX1_valueBehindHit_14 : decode cX1_valueBehindHit 14 = .ok (.aload_n 0, 1) := by decide +kernel
theorem dX1_valueBehindHit_15 : decode cX1_valueBehindHit 15 = .ok (.iload_n 1, 1) := by decide +kernel
theorem dX1_valueBehindHit_16 : decode cX1_valueBehindHit 16 = .ok (.iload_n 3, 1) := by decide +kernel
theorem dX1_valueBehindHit_17 : decode cX1_valueBehindHit 17 = .ok (.iload 4, 2) := by decide +kernel
theorem dX1_valueBehindHit_19 : decode cX1_valueBehindHit 19 = .ok (.invokevirtual 105, 3) := by decide +kernel
theorem dX1_valueBehindHit_22 : decode cX1_valueBehindHit 22 = .ok (.istore 5, 2) := by decide +kernel
theorem dX1_valueBehindHit_24 : decode cX1_valueBehindHit 24 = .ok (.aload_n 0, 1) := by decide +kernel
theorem dX1_valueBehindHit_25 : decode cX1_valueBehindHit 25 = .ok (.aload_n 0, 1) := by decide +kernel
theorem dX1_valueBehindHit_26 : decode cX1_valueBehindHit 26 = .ok (.iload_n 1, 1) := by decide +kernel
theorem dX1_valueBehindHit_27 : decode cX1_valueBehindHit 27 = .ok (.iload_n 2, 1) := by decide +kernel
theorem dX1_valueBehindHit_28 : decode cX1_valueBehindHit 28 = .ok (.invokevirtual 108, 3) := by decide +kernel
theorem dX1_valueBehindHit_31 : decode cX1_valueBehindHit 31 = .ok (.iload 5, 2) := by decide +kernel
theorem dX1_valueBehindHit_33 : decode cX1_valueBehindHit 33 = .ok (.iconst 1, 1) := by decide +kernel
theorem dX1_valueBehindHit_34 : decode cX1_valueBehindHit 34 = .ok (.iload 4, 2) := by decide +kernel
theorem dX1_valueBehindHit_36 : decode cX1_valueBehindHit 36 = .ok (.isub, 1) := by decide +kernel
theorem dX1_valueBehindHit_37 : decode cX1_valueBehindHit 37 = .ok (.invokevirtual 111, 3) := by decide +kernel
theorem dX1_valueBehindHit_40 : decode cX1_valueBehindHit 40 = .ok (.ireturn, 1) := by decide +kernel
set_option maxRecDepth 20000 in
theorem ggX1_valueBehindMiss_X4_takes : GoodIn wsX1_valueBehindMiss wsX4_takes := goodIn_r _ [8, 9] (by decide +kernel) (by decide +kernel)
set_option maxRecDepth 20000 in
theorem gX1_valueBehindMiss_X4_takes_n99 : GoodIn wsX1_valueBehindMiss (wsX4_takes) := ggX1_valueBehindMiss_X4_takes
set_option maxRecDepth 20000 in
theorem ggX1_valueBehindMiss_X1_valueAt : GoodIn wsX1_valueBehindMiss wsX1_valueAt := goodIn_r _ [14, 15, 16, 17, 13, 18, 22, 23, 24, 25, 26, 27, 28, 29, 30, 31, 32] (by decide +kernel) (by decide +kernel)
set_option maxRecDepth 20000 in
theorem gX1_valueBehindMiss_X1_valueAt : GoodIn wsX1_valueBehindMiss (wsV RX1 111 RX1 yX1_valueAt wsX1_valueAt) := goodIn_app (goodIn_of _ (by decide +kernel)) ggX1_valueBehindMiss_X1_valueAt
set_option maxRecDepth 20000 in
theorem ggX1_valueBehindMiss_X4_mix : GoodIn wsX1_valueBehindMiss wsX4_mix := goodIn_r _ [20, 21] (by decide +kernel) (by decide +kernel)
set_option maxRecDepth 20000 in
theorem gX1_valueBehindMiss_X4_mix_n117 : GoodIn wsX1_valueBehindMiss (wsX4_mix) := ggX1_valueBehindMiss_X4_mix
theorem dX1_valueBehindMiss_0 : decode cX1_valueBehindMiss 0 = .ok (.iconst 0, 1) := by decide +kernel
theorem dX1_valueBehindMiss_1 : decode cX1_valueBehindMiss 1 = .ok (.iload_n 2, 1) := by decide +kernel
theorem dX1_valueBehindMiss_2 : decode cX1_valueBehindMiss 2 = .ok (.iload_n 1, 1) := by decide +kernel
theorem dX1_valueBehindMiss_3 : decode cX1_valueBehindMiss 3 = .ok (.invokestatic 99, 3) := by decide +kernel
theorem dX1_valueBehindMiss_6 : decode cX1_valueBehindMiss 6 = .ok (.isub, 1) := by decide +kernel
theorem dX1_valueBehindMiss_7 : decode cX1_valueBehindMiss 7 = .ok (.invokestatic 114, 3) := by decide +kernel
theorem dX1_valueBehindMiss_10 : decode cX1_valueBehindMiss 10 = .ok (.istore 5, 2) := by decide +kernel
theorem dX1_valueBehindMiss_12 : decode cX1_valueBehindMiss 12 = .ok (.aload_n 0, 1) := by decide +kernel
theorem dX1_valueBehindMiss_13 : decode cX1_valueBehindMiss 13 = .ok (.iload 5, 2) := by decide +kernel
theorem dX1_valueBehindMiss_15 : decode cX1_valueBehindMiss 15 = .ok (.iload_n 3, 1) := by decide +kernel
theorem dX1_valueBehindMiss_16 : decode cX1_valueBehindMiss 16 = .ok (.iload 4, 2) := by decide +kernel
theorem dX1_valueBehindMiss_18 : decode cX1_valueBehindMiss 18 = .ok (.invokevirtual 111, 3) := by decide +kernel
theorem dX1_valueBehindMiss_21 : decode cX1_valueBehindMiss 21 = .ok (.istore 6, 2) := by decide +kernel
theorem dX1_valueBehindMiss_23 : decode cX1_valueBehindMiss 23 = .ok (.aload_n 0, 1) := by decide +kernel
theorem dX1_valueBehindMiss_24 : decode cX1_valueBehindMiss 24 = .ok (.iload 5, 2) := by decide +kernel
theorem dX1_valueBehindMiss_26 : decode cX1_valueBehindMiss 26 = .ok (.iload_n 3, 1) := by decide +kernel
theorem dX1_valueBehindMiss_27 : decode cX1_valueBehindMiss 27 = .ok (.iconst 1, 1) := by decide +kernel
theorem dX1_valueBehindMiss_28 : decode cX1_valueBehindMiss 28 = .ok (.iload 4, 2) := by decide +kernel
theorem dX1_valueBehindMiss_30 : decode cX1_valueBehindMiss 30 = .ok (.isub, 1) := by decide +kernel
theorem dX1_valueBehindMiss_31 : decode cX1_valueBehindMiss 31 = .ok (.invokevirtual 111, 3) := by decide +kernel
theorem dX1_valueBehindMiss_34 : decode cX1_valueBehindMiss 34 = .ok (.istore 7, 2) := by decide +kernel
theorem dX1_valueBehindMiss_36 : decode cX1_valueBehindMiss 36 = .ok (.aload_n 0, 1) := by decide +kernel
theorem dX1_valueBehindMiss_37 : decode cX1_valueBehindMiss 37 = .ok (.getfield 22, 3) := by decide +kernel
theorem dX1_valueBehindMiss_40 : decode cX1_valueBehindMiss 40 = .ok (.iload 6, 2) := by decide +kernel
theorem dX1_valueBehindMiss_42 : decode cX1_valueBehindMiss 42 = .ok (.iload 7, 2) := by decide +kernel
theorem dX1_valueBehindMiss_44 : decode cX1_valueBehindMiss 44 = .ok (.invokestatic 117, 3) := by decide +kernel
theorem dX1_valueBehindMiss_47 : decode cX1_valueBehindMiss 47 = .ok (.ireturn, 1) := by decide +kernel
set_option maxRecDepth 20000 in
theorem ggX1_valueOfShot_X1_valueBehindHit : GoodIn wsX1_valueOfShot wsX1_valueBehindHit := goodIn_r _ [5, 6, 7, 8, 9, 10, 11, 12, 4, 13, 14, 15, 16, 17, 18, 19, 20, 21, 22, 23, 24, 25, 26, 27, 28, 29, 30, 31, 32, 33, 34, 35, 73, 74, 75, 76, 77, 78, 79, 80, 81, 82, 83] (by decide +kernel) (by decide +kernel)
set_option maxRecDepth 20000 in
theorem gX1_valueOfShot_X1_valueBehindHit : GoodIn wsX1_valueOfShot (wsV RX1 120 RX1 yX1_valueBehindHit wsX1_valueBehindHit) := goodIn_app (goodIn_of _ (by decide +kernel)) ggX1_valueOfShot_X1_valueBehindHit
set_option maxRecDepth 20000 in
theorem ggX1_valueOfShot_X1_valueBehindMiss : GoodIn wsX1_valueOfShot wsX1_valueBehindMiss := goodIn_r _ [39, 40, 41, 42, 43, 44, 6, 7, 8, 9, 28, 29, 30, 4, 31, 32, 33, 34, 35, 45, 46, 47, 73, 74, 75, 76, 77, 78, 79, 80, 81, 82, 83] (by decide +kernel) (by decide +kernel)
set_option maxRecDepth 20000 in
theorem gX1_valueOfShot_X1_valueBehindMiss : GoodIn wsX1_valueOfShot (wsV RX1 124 RX1 yX1_valueBehindMiss wsX1_valueBehindMiss) := goodIn_app (goodIn_of _ (by decide +kernel)) ggX1_valueOfShot_X1_valueBehindMiss
set_option maxRecDepth 20000 in
theorem ggX1_valueOfShot_X1_tenths : GoodIn wsX1_valueOfShot wsX1_tenths := goodIn_r _ [51, 52, 53, 54, 42, 55, 56, 57, 58, 59, 60, 61, 62, 41, 43, 63, 64, 65, 66, 67, 68, 69, 70, 4, 71, 72, 73, 74, 75, 76, 77, 78, 79, 80, 81, 82, 83, 84, 85] (by decide +kernel) (by decide +kernel)
set_option maxRecDepth 20000 in
theorem gX1_valueOfShot_X1_tenths : GoodIn wsX1_valueOfShot (wsV RX1 127 RX1 yX1_tenths wsX1_tenths) := goodIn_app (goodIn_of _ (by decide +kernel)) ggX1_valueOfShot_X1_tenths
set_option maxRecDepth 20000 in
theorem ggX1_valueOfShot_X4_mix : GoodIn wsX1_valueOfShot wsX4_mix := goodIn_r _ [46, 47] (by decide +kernel) (by decide +kernel)
set_option maxRecDepth 20000 in
theorem gX1_valueOfShot_X4_mix_n117 : GoodIn wsX1_valueOfShot (wsX4_mix) := ggX1_valueOfShot_X4_mix
theorem dX1_valueOfShot_0 : decode cX1_valueOfShot 0 = .ok (.aload_n 0, 1) := by decide +kernel
theorem dX1_valueOfShot_1 : decode cX1_valueOfShot 1 = .ok (.iload_n 2, 1) := by decide +kernel
theorem dX1_valueOfShot_2 : decode cX1_valueOfShot 2 = .ok (.iload_n 3, 1) := by decide +kernel
theorem dX1_valueOfShot_3 : decode cX1_valueOfShot 3 = .ok (.iload 4, 2) := by decide +kernel
theorem dX1_valueOfShot_5 : decode cX1_valueOfShot 5 = .ok (.iconst 0, 1) := by decide +kernel
theorem dX1_valueOfShot_6 : decode cX1_valueOfShot 6 = .ok (.invokevirtual 120, 3) := by decide +kernel
theorem dX1_valueOfShot_9 : decode cX1_valueOfShot 9 = .ok (.istore 5, 2) := by decide +kernel
theorem dX1_valueOfShot_11 : decode cX1_valueOfShot 11 = .ok (.aload_n 0, 1) := by decide +kernel
theorem dX1_valueOfShot_12 : decode cX1_valueOfShot 12 = .ok (.iload_n 2, 1) := by decide +kernel
theorem dX1_valueOfShot_13 : decode cX1_valueOfShot 13 = .ok (.iload_n 3, 1) := by decide +kernel
theorem dX1_valueOfShot_14 : decode cX1_valueOfShot 14 = .ok (.iload 4, 2) := by decide +kernel
theorem dX1_valueOfShot_16 : decode cX1_valueOfShot 16 = .ok (.iconst 0, 1) := by decide +kernel
theorem dX1_valueOfShot_17 : decode cX1_valueOfShot 17 = .ok (.invokevirtual 124, 3) := by decide +kernel
theorem dX1_valueOfShot_20 : decode cX1_valueOfShot 20 = .ok (.istore 6, 2) := by decide +kernel
theorem dX1_valueOfShot_22 : decode cX1_valueOfShot 22 = .ok (.aload_n 0, 1) := by decide +kernel
theorem dX1_valueOfShot_23 : decode cX1_valueOfShot 23 = .ok (.iload_n 1, 1) := by decide +kernel
theorem dX1_valueOfShot_24 : decode cX1_valueOfShot 24 = .ok (.iload_n 2, 1) := by decide +kernel
theorem dX1_valueOfShot_25 : decode cX1_valueOfShot 25 = .ok (.iload_n 3, 1) := by decide +kernel
theorem dX1_valueOfShot_26 : decode cX1_valueOfShot 26 = .ok (.invokevirtual 127, 3) := by decide +kernel
theorem dX1_valueOfShot_29 : decode cX1_valueOfShot 29 = .ok (.iload 5, 2) := by decide +kernel
theorem dX1_valueOfShot_31 : decode cX1_valueOfShot 31 = .ok (.iload 6, 2) := by decide +kernel
theorem dX1_valueOfShot_33 : decode cX1_valueOfShot 33 = .ok (.invokestatic 117, 3) := by decide +kernel
theorem dX1_valueOfShot_36 : decode cX1_valueOfShot 36 = .ok (.ireturn, 1) := by decide +kernel
set_option maxRecDepth 20000 in
theorem ggX1_solveTo_X1_fillTenths : GoodIn wsX1_solveTo wsX1_fillTenths := goodIn_r _ [10, 11, 12, 13, 14, 9, 15, 16, 1, 2, 3, 4, 17, 18, 19, 20, 21, 22, 23, 24, 25, 26, 27, 28, 29, 30, 31, 32, 33, 34, 35, 107, 108, 109, 110, 111, 112, 113, 114, 115, 116, 117, 118, 119] (by decide +kernel) (by decide +kernel)
set_option maxRecDepth 20000 in
theorem gX1_solveTo_X1_fillTenths : GoodIn wsX1_solveTo (wsV RX1 128 RX1 yX1_fillTenths wsX1_fillTenths) := goodIn_app (goodIn_of _ (by decide +kernel)) ggX1_solveTo_X1_fillTenths
set_option maxRecDepth 20000 in
theorem ggX1_solveTo_X1_solveState : GoodIn wsX1_solveTo wsX1_solveState := goodIn_r _ [39, 40, 41, 42, 24, 3, 25, 16, 43, 44, 9, 45, 46, 47, 48, 49, 50, 51, 52, 53, 54, 55, 56, 57, 58, 59, 60, 61, 62, 63, 64, 65, 66, 67, 68, 69, 70, 71, 72, 73, 74, 75, 76, 77, 78, 79, 80, 81, 82, 83, 84, 85, 86, 87, 88, 89, 90, 91, 92, 93, 94, 95, 96, 97, 98, 99, 20, 100, 101, 102, 27, 28, 29, 30, 31, 32, 33, 34, 35, 103, 104, 105, 106, 11, 107, 108, 109, 110, 111, 112, 113, 114, 115, 116, 117, 118, 119] (by decide +kernel) (by decide +kernel)
set_option maxRecDepth 20000 in
theorem gX1_solveTo_X1_solveState : GoodIn wsX1_solveTo (wsV RX1 132 RX1 yX1_solveState wsX1_solveState) := goodIn_app (goodIn_of _ (by decide +kernel)) ggX1_solveTo_X1_solveState
theorem dX1_solveTo_0 : decode cX1_solveTo 0 = .ok (.iload_n 1, 1) := by decide +kernel
theorem dX1_solveTo_1 : decode cX1_solveTo 1 = .ok (.bipush 24, 2) := by decide +kernel
theorem dX1_solveTo_3 : decode cX1_solveTo 3 = .ok (.invokestatic 83, 3) := by decide +kernel
theorem dX1_solveTo_6 : decode cX1_solveTo 6 = .ok (.istore_n 2, 1) := by decide +kernel
theorem dX1_solveTo_7 : decode cX1_solveTo 7 = .ok (.aload_n 0, 1) := by decide +kernel
theorem dX1_solveTo_8 : decode cX1_solveTo 8 = .ok (.getfield 38, 3) := by decide +kernel
theorem dX1_solveTo_11 : decode cX1_solveTo 11 = .ok (.istore_n 3, 1) := by decide +kernel
theorem dX1_solveTo_12 : decode cX1_solveTo 12 = .ok (.iload_n 3, 1) := by decide +kernel
theorem dX1_solveTo_13 : decode cX1_solveTo 13 = .ok (.iload_n 2, 1) := by decide +kernel
theorem dX1_solveTo_14 : decode cX1_solveTo 14 = .ok (.if_icmp .gt 53, 3) := by decide +kernel
theorem dX1_solveTo_17 : decode cX1_solveTo 17 = .ok (.aload_n 0, 1) := by decide +kernel
theorem dX1_solveTo_18 : decode cX1_solveTo 18 = .ok (.iload_n 3, 1) := by decide +kernel
theorem dX1_solveTo_19 : decode cX1_solveTo 19 = .ok (.invokevirtual 128, 3) := by decide +kernel
theorem dX1_solveTo_22 : decode cX1_solveTo 22 = .ok (.iconst 0, 1) := by decide +kernel
theorem dX1_solveTo_23 : decode cX1_solveTo 23 = .ok (.istore 4, 2) := by decide +kernel
theorem dX1_solveTo_25 : decode cX1_solveTo 25 = .ok (.iload 4, 2) := by decide +kernel
theorem dX1_solveTo_27 : decode cX1_solveTo 27 = .ok (.bipush 12, 2) := by decide +kernel
theorem dX1_solveTo_29 : decode cX1_solveTo 29 = .ok (.if_icmp .gt 25, 3) := by decide +kernel
theorem dX1_solveTo_32 : decode cX1_solveTo 32 = .ok (.aload_n 0, 1) := by decide +kernel
theorem dX1_solveTo_33 : decode cX1_solveTo 33 = .ok (.iload_n 3, 1) := by decide +kernel
theorem dX1_solveTo_34 : decode cX1_solveTo 34 = .ok (.iload 4, 2) := by decide +kernel
theorem dX1_solveTo_36 : decode cX1_solveTo 36 = .ok (.iconst 0, 1) := by decide +kernel
theorem dX1_solveTo_37 : decode cX1_solveTo 37 = .ok (.invokevirtual 132, 3) := by decide +kernel
theorem dX1_solveTo_40 : decode cX1_solveTo 40 = .ok (.aload_n 0, 1) := by decide +kernel
theorem dX1_solveTo_41 : decode cX1_solveTo 41 = .ok (.iload_n 3, 1) := by decide +kernel
theorem dX1_solveTo_42 : decode cX1_solveTo 42 = .ok (.iload 4, 2) := by decide +kernel
theorem dX1_solveTo_44 : decode cX1_solveTo 44 = .ok (.iconst 1, 1) := by decide +kernel
theorem dX1_solveTo_45 : decode cX1_solveTo 45 = .ok (.invokevirtual 132, 3) := by decide +kernel
theorem dX1_solveTo_48 : decode cX1_solveTo 48 = .ok (.iinc 4 1, 3) := by decide +kernel
theorem dX1_solveTo_51 : decode cX1_solveTo 51 = .ok (.goto (-26), 3) := by decide +kernel
theorem dX1_solveTo_54 : decode cX1_solveTo 54 = .ok (.aload_n 0, 1) := by decide +kernel
theorem dX1_solveTo_55 : decode cX1_solveTo 55 = .ok (.iload_n 3, 1) := by decide +kernel
theorem dX1_solveTo_56 : decode cX1_solveTo 56 = .ok (.iconst 1, 1) := by decide +kernel
theorem dX1_solveTo_57 : decode cX1_solveTo 57 = .ok (.iadd, 1) := by decide +kernel
theorem dX1_solveTo_58 : decode cX1_solveTo 58 = .ok (.putfield 38, 3) := by decide +kernel
theorem dX1_solveTo_61 : decode cX1_solveTo 61 = .ok (.iinc 3 1, 3) := by decide +kernel
theorem dX1_solveTo_64 : decode cX1_solveTo 64 = .ok (.goto (-52), 3) := by decide +kernel
theorem dX1_solveTo_67 : decode cX1_solveTo 67 = .ok (.return_, 1) := by decide +kernel
set_option maxRecDepth 20000 in
theorem ggX1_fillTenths_X1_tenths : GoodIn wsX1_fillTenths wsX1_tenths := goodIn_r _ [6, 7, 8, 9, 10, 11, 12, 13, 14, 15, 16, 17, 18, 19, 20, 21, 22, 23, 24, 25, 26, 27, 28, 5, 29, 30, 31, 32, 33, 34, 35, 36, 37, 38, 39, 40, 41, 42, 43] (by decide +kernel) (by decide +kernel)
set_option maxRecDepth 20000 in
theorem gX1_fillTenths_X1_tenths : GoodIn wsX1_fillTenths (wsV RX1 127 RX1 yX1_tenths wsX1_tenths) := goodIn_app (goodIn_of _ (by decide +kernel)) ggX1_fillTenths_X1_tenths
theorem dX1_fillTenths_0 : decode cX1_fillTenths 0 = .ok (.iconst 0, 1) := by decide +kernel
theorem dX1_fillTenths_1 : decode cX1_fillTenths 1 = .ok (.istore_n 2, 1) := by decide +kernel
theorem dX1_fillTenths_2 : decode cX1_fillTenths 2 = .ok (.iload_n 2, 1) := by decide +kernel
theorem dX1_fillTenths_3 : decode cX1_fillTenths 3 = .ok (.aload_n 0, 1) := by decide +kernel
theorem dX1_fillTenths_4 : decode cX1_fillTenths 4 = .ok (.getfield 41, 3) := by decide +kernel
theorem dX1_fillTenths_7 : decode cX1_fillTenths 7 = .ok (.arraylength, 1) := by decide +kernel
theorem dX1_fillTenths_8 : decode cX1_fillTenths 8 = .ok (.if_icmp .ge 26, 3) := by decide +kernel
theorem dX1_fillTenths_11 : decode cX1_fillTenths 11 = .ok (.aload_n 0, 1) := by decide +kernel
theorem dX1_fillTenths_12 : decode cX1_fillTenths 12 = .ok (.getfield 41, 3) := by decide +kernel
theorem dX1_fillTenths_15 : decode cX1_fillTenths 15 = .ok (.iload_n 2, 1) := by decide +kernel
theorem dX1_fillTenths_16 : decode cX1_fillTenths 16 = .ok (.aload_n 0, 1) := by decide +kernel
theorem dX1_fillTenths_17 : decode cX1_fillTenths 17 = .ok (.iload_n 2, 1) := by decide +kernel
theorem dX1_fillTenths_18 : decode cX1_fillTenths 18 = .ok (.iconst 3, 1) := by decide +kernel
theorem dX1_fillTenths_19 : decode cX1_fillTenths 19 = .ok (.idiv, 1) := by decide +kernel
theorem dX1_fillTenths_20 : decode cX1_fillTenths 20 = .ok (.iload_n 2, 1) := by decide +kernel
theorem dX1_fillTenths_21 : decode cX1_fillTenths 21 = .ok (.iconst 3, 1) := by decide +kernel
theorem dX1_fillTenths_22 : decode cX1_fillTenths 22 = .ok (.irem, 1) := by decide +kernel
theorem dX1_fillTenths_23 : decode cX1_fillTenths 23 = .ok (.iload_n 1, 1) := by decide +kernel
theorem dX1_fillTenths_24 : decode cX1_fillTenths 24 = .ok (.invokevirtual 127, 3) := by decide +kernel
theorem dX1_fillTenths_27 : decode cX1_fillTenths 27 = .ok (.iastore, 1) := by decide +kernel
theorem dX1_fillTenths_28 : decode cX1_fillTenths 28 = .ok (.iinc 2 1, 3) := by decide +kernel
theorem dX1_fillTenths_31 : decode cX1_fillTenths 31 = .ok (.goto (-29), 3) := by decide +kernel
theorem dX1_fillTenths_34 : decode cX1_fillTenths 34 = .ok (.return_, 1) := by decide +kernel
set_option maxRecDepth 20000 in
theorem ggX1_solveState_X1_placeOf : GoodIn wsX1_solveState wsX1_placeOf := goodIn_r _ [11] (by decide +kernel) (by decide +kernel)
set_option maxRecDepth 20000 in
theorem gX1_solveState_X1_placeOf : GoodIn wsX1_solveState (va_wsS RX1 93 yX1_placeOf wsX1_placeOf) := goodIn_app (goodIn_of _ (by decide +kernel)) ggX1_solveState_X1_placeOf
set_option maxRecDepth 20000 in
theorem ggX1_solveState_X1_isOver : GoodIn wsX1_solveState wsX1_isOver := goodIn_r _ [15, 16, 17, 18, 5, 19, 84, 85, 86, 87, 88, 89, 90, 91, 92, 93, 94] (by decide +kernel) (by decide +kernel)
set_option maxRecDepth 20000 in
theorem gX1_solveState_X1_isOver : GoodIn wsX1_solveState (wsV RX1 135 RX1 yX1_isOver wsX1_isOver) := goodIn_app (goodIn_of _ (by decide +kernel)) ggX1_solveState_X1_isOver
set_option maxRecDepth 20000 in
theorem ggX1_solveState_X1_valueOfEnd : GoodIn wsX1_solveState wsX1_valueOfEnd := goodIn_r _ [23, 24, 25, 26, 84, 85, 86, 87, 88, 89, 90, 91, 92, 93, 94] (by decide +kernel) (by decide +kernel)
set_option maxRecDepth 20000 in
theorem gX1_solveState_X1_valueOfEnd : GoodIn wsX1_solveState (wsV RX1 102 RX1 yX1_valueOfEnd wsX1_valueOfEnd) := goodIn_app (goodIn_of _ (by decide +kernel)) ggX1_solveState_X1_valueOfEnd
set_option maxRecDepth 20000 in
theorem ggX1_solveState_X1_put : GoodIn wsX1_solveState wsX1_put := goodIn_r _ [30, 31, 32, 84, 85, 86, 87, 88, 89, 90, 91, 92, 93, 94] (by decide +kernel) (by decide +kernel)
set_option maxRecDepth 20000 in
theorem gX1_solveState_X1_put : GoodIn wsX1_solveState (wsV RX1 139 RX1 yX1_put wsX1_put) := goodIn_app (goodIn_of _ (by decide +kernel)) ggX1_solveState_X1_put
set_option maxRecDepth 20000 in
theorem ggX1_solveState_X1_valueBehindHit : GoodIn wsX1_solveState wsX1_valueBehindHit := goodIn_r _ [36, 37, 38, 39, 40, 20, 21, 22, 10, 23, 24, 25, 26, 41, 42, 43, 44, 16, 45, 46, 47, 48, 49, 50, 51, 52, 53, 54, 31, 8, 9, 11, 84, 85, 86, 87, 88, 89, 90, 91, 92, 93, 94] (by decide +kernel) (by decide +kernel)
set_option maxRecDepth 20000 in
theorem gX1_solveState_X1_valueBehindHit : GoodIn wsX1_solveState (wsV RX1 120 RX1 yX1_valueBehindHit wsX1_valueBehindHit) := goodIn_app (goodIn_of _ (by decide +kernel)) ggX1_solveState_X1_valueBehindHit
set_option maxRecDepth 20000 in
theorem ggX1_solveState_X1_valueBehindMiss : GoodIn wsX1_solveState wsX1_valueBehindMiss := goodIn_r _ [58, 3, 4, 5, 6, 59, 37, 38, 39, 40, 51, 52, 53, 10, 54, 31, 8, 9, 11, 60, 61, 62, 84, 85, 86, 87, 88, 89, 90, 91, 92, 93, 94] (by decide +kernel) (by decide +kernel)
set_option maxRecDepth 20000 in
theorem gX1_solveState_X1_valueBehindMiss : GoodIn wsX1_solveState (wsV RX1 124 RX1 yX1_valueBehindMiss wsX1_valueBehindMiss) := goodIn_app (goodIn_of _ (by decide +kernel)) ggX1_solveState_X1_valueBehindMiss
set_option maxRecDepth 20000 in
theorem ggX1_solveState_X4_takes : GoodIn wsX1_solveState wsX4_takes := goodIn_r _ [39, 40] (by decide +kernel) (by decide +kernel)
set_option maxRecDepth 20000 in
theorem gX1_solveState_X4_takes_n99 : GoodIn wsX1_solveState (wsX4_takes) := ggX1_solveState_X4_takes
set_option maxRecDepth 20000 in
theorem ggX1_solveState_X1_valueAt : GoodIn wsX1_solveState wsX1_valueAt := goodIn_r _ [54, 31, 8, 9, 10, 11, 84, 85, 86, 87, 88, 89, 90, 91, 92, 93, 94] (by decide +kernel) (by decide +kernel)
set_option maxRecDepth 20000 in
theorem gX1_solveState_X1_valueAt : GoodIn wsX1_solveState (wsV RX1 111 RX1 yX1_valueAt wsX1_valueAt) := goodIn_app (goodIn_of _ (by decide +kernel)) ggX1_solveState_X1_valueAt
set_option maxRecDepth 20000 in
theorem ggX1_solveState_X3_players : GoodIn wsX1_solveState wsX3_players := goodIn_r _ [67, 68, 95, 96] (by decide +kernel) (by decide +kernel)
set_option maxRecDepth 20000 in
theorem gX1_solveState_X3_players : GoodIn wsX1_solveState (wsV RX1 65 RX3 yX3_players wsX3_players) := goodIn_app (goodIn_of _ (by decide +kernel)) ggX1_solveState_X3_players
set_option maxRecDepth 20000 in
theorem ggX1_solveState_X3_fact : GoodIn wsX1_solveState wsX3_fact := goodIn_r _ [72, 73, 95, 96] (by decide +kernel) (by decide +kernel)
set_option maxRecDepth 20000 in
theorem gX1_solveState_X3_fact : GoodIn wsX1_solveState (wsV RX1 69 RX3 yX3_fact wsX3_fact) := goodIn_app (goodIn_of _ (by decide +kernel)) ggX1_solveState_X3_fact
set_option maxRecDepth 20000 in
theorem ggX1_solveState_X1_changeOf : GoodIn wsX1_solveState wsX1_changeOf := goodIn_r _ [77, 78, 84, 85, 86, 87, 88, 89, 90, 91, 92, 93, 94] (by decide +kernel) (by decide +kernel)
set_option maxRecDepth 20000 in
theorem gX1_solveState_X1_changeOf : GoodIn wsX1_solveState (wsV RX1 80 RX1 yX1_changeOf wsX1_changeOf) := goodIn_app (goodIn_of _ (by decide +kernel)) ggX1_solveState_X1_changeOf
set_option maxRecDepth 20000 in
theorem ggX1_solveState_X1_valueInRow : GoodIn wsX1_solveState wsX1_valueInRow := goodIn_r _ [82, 83, 1, 2, 60, 38, 61, 62, 84, 85, 86, 87, 88, 89, 90, 91, 92, 93, 94] (by decide +kernel) (by decide +kernel)
set_option maxRecDepth 20000 in
theorem gX1_solveState_X1_valueInRow : GoodIn wsX1_solveState (wsV RX1 142 RX1 yX1_valueInRow wsX1_valueInRow) := goodIn_app (goodIn_of _ (by decide +kernel)) ggX1_solveState_X1_valueInRow
theorem dX1_solveState_0 : decode cX1_solveState 0 = .ok (.iload_n 1, 1) := by decide +kernel
theorem dX1_solveState_1 : decode cX1_solveState 1 = .ok (.iload_n 2, 1) := by decide +kernel
theorem dX1_solveState_2 : decode cX1_solveState 2 = .ok (.iload_n 3, 1) := by decide +kernel
theorem dX1_solveState_3 : decode cX1_solveState 3 = .ok (.invokestatic 93, 3) := by decide +kernel
theorem dX1_solveState_6 : decode cX1_solveState 6 = .ok (.istore 4, 2) := by decide +kernel
theorem dX1_solveState_8 : decode cX1_solveState 8 = .ok (.aload_n 0, 1) := by decide +kernel
theorem dX1_solveState_9 : decode cX1_solveState 9 = .ok (.iload_n 1, 1) := by decide +kernel
theorem dX1_solveState_10 : decode cX1_solveState 10 = .ok (.iload_n 2, 1) := by decide +kernel
theorem dX1_solveState_11 : decode cX1_solveState 11 = .ok (.invokevirtual 135, 3) := by decide +kernel
theorem dX1_solveState_14 : decode cX1_solveState 14 = .ok (.ifCond .eq 17, 3) := by decide +kernel
theorem dX1_solveState_17 : decode cX1_solveState 17 = .ok (.aload_n 0, 1) := by decide +kernel
theorem dX1_solveState_18 : decode cX1_solveState 18 = .ok (.iload 4, 2) := by decide +kernel
theorem dX1_solveState_20 : decode cX1_solveState 20 = .ok (.aload_n 0, 1) := by decide +kernel
theorem dX1_solveState_21 : decode cX1_solveState 21 = .ok (.iload_n 2, 1) := by decide +kernel
theorem dX1_solveState_22 : decode cX1_solveState 22 = .ok (.invokevirtual 102, 3) := by decide +kernel
theorem dX1_solveState_25 : decode cX1_solveState 25 = .ok (.bipush (-9), 2) := by decide +kernel
theorem dX1_solveState_27 : decode cX1_solveState 27 = .ok (.invokevirtual 139, 3) := by decide +kernel
theorem dX1_solveState_30 : decode cX1_solveState 30 = .ok (.return_, 1) := by decide +kernel
theorem dX1_solveState_31 : decode cX1_solveState 31 = .ok (.iconst 0, 1) := by decide +kernel
theorem dX1_solveState_32 : decode cX1_solveState 32 = .ok (.istore 5, 2) := by decide +kernel
theorem dX1_solveState_34 : decode cX1_solveState 34 = .ok (.iload 5, 2) := by decide +kernel
theorem dX1_solveState_36 : decode cX1_solveState 36 = .ok (.iconst 3, 1) := by decide +kernel
theorem dX1_solveState_37 : decode cX1_solveState 37 = .ok (.if_icmp .ge 41, 3) := by decide +kernel
theorem dX1_solveState_40 : decode cX1_solveState 40 = .ok (.aload_n 0, 1) := by decide +kernel
theorem dX1_solveState_41 : decode cX1_solveState 41 = .ok (.getfield 44, 3) := by decide +kernel
theorem dX1_solveState_44 : decode cX1_solveState 44 = .ok (.iload 5, 2) := by decide +kernel
theorem dX1_solveState_46 : decode cX1_solveState 46 = .ok (.aload_n 0, 1) := by decide +kernel
theorem dX1_solveState_47 : decode cX1_solveState 47 = .ok (.iload 5, 2) := by decide +kernel
theorem dX1_solveState_49 : decode cX1_solveState 49 = .ok (.iload_n 1, 1) := by decide +kernel
theorem dX1_solveState_50 : decode cX1_solveState 50 = .ok (.iload_n 2, 1) := by decide +kernel
theorem dX1_solveState_51 : decode cX1_solveState 51 = .ok (.iload_n 3, 1) := by decide +kernel
theorem dX1_solveState_52 : decode cX1_solveState 52 = .ok (.invokevirtual 120, 3) := by decide +kernel
theorem dX1_solveState_55 : decode cX1_solveState 55 = .ok (.iastore, 1) := by decide +kernel
theorem dX1_solveState_56 : decode cX1_solveState 56 = .ok (.aload_n 0, 1) := by decide +kernel
theorem dX1_solveState_57 : decode cX1_solveState 57 = .ok (.getfield 47, 3) := by decide +kernel
theorem dX1_solveState_60 : decode cX1_solveState 60 = .ok (.iload 5, 2) := by decide +kernel
theorem dX1_solveState_62 : decode cX1_solveState 62 = .ok (.aload_n 0, 1) := by decide +kernel
theorem dX1_solveState_63 : decode cX1_solveState 63 = .ok (.iload 5, 2) := by decide +kernel
theorem dX1_solveState_65 : decode cX1_solveState 65 = .ok (.iload_n 1, 1) := by decide +kernel
theorem dX1_solveState_66 : decode cX1_solveState 66 = .ok (.iload_n 2, 1) := by decide +kernel
theorem dX1_solveState_67 : decode cX1_solveState 67 = .ok (.iload_n 3, 1) := by decide +kernel
theorem dX1_solveState_68 : decode cX1_solveState 68 = .ok (.invokevirtual 124, 3) := by decide +kernel
theorem dX1_solveState_71 : decode cX1_solveState 71 = .ok (.iastore, 1) := by decide +kernel
theorem dX1_solveState_72 : decode cX1_solveState 72 = .ok (.iinc 5 1, 3) := by decide +kernel
theorem dX1_solveState_75 : decode cX1_solveState 75 = .ok (.goto (-41), 3) := by decide +kernel
theorem dX1_solveState_78 : decode cX1_solveState 78 = .ok (.aload_n 0, 1) := by decide +kernel
theorem dX1_solveState_79 : decode cX1_solveState 79 = .ok (.iconst 0, 1) := by decide +kernel
theorem dX1_solveState_80 : decode cX1_solveState 80 = .ok (.iload_n 1, 1) := by decide +kernel
theorem dX1_solveState_81 : decode cX1_solveState 81 = .ok (.iconst 3, 1) := by decide +kernel
theorem dX1_solveState_82 : decode cX1_solveState 82 = .ok (.invokestatic 99, 3) := by decide +kernel
theorem dX1_solveState_85 : decode cX1_solveState 85 = .ok (.isub, 1) := by decide +kernel
theorem dX1_solveState_86 : decode cX1_solveState 86 = .ok (.invokestatic 114, 3) := by decide +kernel
theorem dX1_solveState_89 : decode cX1_solveState 89 = .ok (.iload_n 2, 1) := by decide +kernel
theorem dX1_solveState_90 : decode cX1_solveState 90 = .ok (.iload_n 3, 1) := by decide +kernel
theorem dX1_solveState_91 : decode cX1_solveState 91 = .ok (.invokevirtual 111, 3) := by decide +kernel
theorem dX1_solveState_94 : decode cX1_solveState 94 = .ok (.istore 5, 2) := by decide +kernel
theorem dX1_solveState_96 : decode cX1_solveState 96 = .ok (.bipush 93, 2) := by decide +kernel
theorem dX1_solveState_98 : decode cX1_solveState 98 = .ok (.istore 6, 2) := by decide +kernel
theorem dX1_solveState_100 : decode cX1_solveState 100 = .ok (.aload_n 0, 1) := by decide +kernel
theorem dX1_solveState_101 : decode cX1_solveState 101 = .ok (.getfield 12, 3) := by decide +kernel
theorem dX1_solveState_104 : decode cX1_solveState 104 = .ok (.invokevirtual 65, 3) := by decide +kernel
theorem dX1_solveState_107 : decode cX1_solveState 107 = .ok (.iconst 1, 1) := by decide +kernel
theorem dX1_solveState_108 : decode cX1_solveState 108 = .ok (.isub, 1) := by decide +kernel
theorem dX1_solveState_109 : decode cX1_solveState 109 = .ok (.istore 7, 2) := by decide +kernel
theorem dX1_solveState_111 : decode cX1_solveState 111 = .ok (.iload 7, 2) := by decide +kernel
theorem dX1_solveState_113 : decode cX1_solveState 113 = .ok (.ifCond .lt 104, 3) := by decide +kernel
theorem dX1_solveState_116 : decode cX1_solveState 116 = .ok (.aload_n 0, 1) := by decide +kernel
theorem dX1_solveState_117 : decode cX1_solveState 117 = .ok (.getfield 12, 3) := by decide +kernel
theorem dX1_solveState_120 : decode cX1_solveState 120 = .ok (.iload 7, 2) := by decide +kernel
theorem dX1_solveState_122 : decode cX1_solveState 122 = .ok (.iconst 0, 1) := by decide +kernel
theorem dX1_solveState_123 : decode cX1_solveState 123 = .ok (.invokevirtual 69, 3) := by decide +kernel
theorem dX1_solveState_126 : decode cX1_solveState 126 = .ok (.iload_n 3, 1) := by decide +kernel
theorem dX1_solveState_127 : decode cX1_solveState 127 = .ok (.if_icmp .ne 17, 3) := by decide +kernel
theorem dX1_solveState_130 : decode cX1_solveState 130 = .ok (.aload_n 0, 1) := by decide +kernel
theorem dX1_solveState_131 : decode cX1_solveState 131 = .ok (.iload 7, 2) := by decide +kernel
theorem dX1_solveState_133 : decode cX1_solveState 133 = .ok (.invokevirtual 80, 3) := by decide +kernel
theorem dX1_solveState_136 : decode cX1_solveState 136 = .ok (.iconst 1, 1) := by decide +kernel
theorem dX1_solveState_137 : decode cX1_solveState 137 = .ok (.if_icmp .eq 7, 3) := by decide +kernel
theorem dX1_solveState_140 : decode cX1_solveState 140 = .ok (.iconst 1, 1) := by decide +kernel
theorem dX1_solveState_141 : decode cX1_solveState 141 = .ok (.goto 4, 3) := by decide +kernel
theorem dX1_solveState_144 : decode cX1_solveState 144 = .ok (.iconst 0, 1) := by decide +kernel
theorem dX1_solveState_145 : decode cX1_solveState 145 = .ok (.istore 8, 2) := by decide +kernel
theorem dX1_solveState_147 : decode cX1_solveState 147 = .ok (.iconst 2, 1) := by decide +kernel
theorem dX1_solveState_148 : decode cX1_solveState 148 = .ok (.istore 9, 2) := by decide +kernel
theorem dX1_solveState_150 : decode cX1_solveState 150 = .ok (.iload 9, 2) := by decide +kernel
theorem dX1_solveState_152 : decode cX1_solveState 152 = .ok (.ifCond .lt 59, 3) := by decide +kernel
theorem dX1_solveState_155 : decode cX1_solveState 155 = .ok (.iload 8, 2) := by decide +kernel
theorem dX1_solveState_157 : decode cX1_solveState 157 = .ok (.ifCond .eq 54, 3) := by decide +kernel
theorem dX1_solveState_160 : decode cX1_solveState 160 = .ok (.aload_n 0, 1) := by decide +kernel
theorem dX1_solveState_161 : decode cX1_solveState 161 = .ok (.iload 7, 2) := by decide +kernel
theorem dX1_solveState_163 : decode cX1_solveState 163 = .ok (.iload 9, 2) := by decide +kernel
theorem dX1_solveState_165 : decode cX1_solveState 165 = .ok (.invokevirtual 142, 3) := by decide +kernel
theorem dX1_solveState_168 : decode cX1_solveState 168 = .ok (.istore 10, 2) := by decide +kernel
theorem dX1_solveState_170 : decode cX1_solveState 170 = .ok (.iload_n 3, 1) := by decide +kernel
theorem dX1_solveState_171 : decode cX1_solveState 171 = .ok (.ifCond .ne 13, 3) := by decide +kernel
theorem dX1_solveState_174 : decode cX1_solveState 174 = .ok (.iload 10, 2) := by decide +kernel
theorem dX1_solveState_176 : decode cX1_solveState 176 = .ok (.iload 5, 2) := by decide +kernel
theorem dX1_solveState_178 : decode cX1_solveState 178 = .ok (.if_icmp .lt 27, 3) := by decide +kernel
theorem dX1_solveState_181 : decode cX1_solveState 181 = .ok (.goto 10, 3) := by decide +kernel
theorem dX1_solveState_184 : decode cX1_solveState 184 = .ok (.iload 10, 2) := by decide +kernel
theorem dX1_solveState_186 : decode cX1_solveState 186 = .ok (.iload 5, 2) := by decide +kernel
theorem dX1_solveState_188 : decode cX1_solveState 188 = .ok (.if_icmp .gt 17, 3) := by decide +kernel
theorem dX1_solveState_191 : decode cX1_solveState 191 = .ok (.iload 10, 2) := by decide +kernel
theorem dX1_solveState_193 : decode cX1_solveState 193 = .ok (.istore 5, 2) := by decide +kernel
theorem dX1_solveState_195 : decode cX1_solveState 195 = .ok (.iload 7, 2) := by decide +kernel
theorem dX1_solveState_197 : decode cX1_solveState 197 = .ok (.bipush 10, 2) := by decide +kernel
theorem dX1_solveState_199 : decode cX1_solveState 199 = .ok (.imul, 1) := by decide +kernel
theorem dX1_solveState_200 : decode cX1_solveState 200 = .ok (.iload 9, 2) := by decide +kernel
theorem dX1_solveState_202 : decode cX1_solveState 202 = .ok (.iadd, 1) := by decide +kernel
theorem dX1_solveState_203 : decode cX1_solveState 203 = .ok (.istore 6, 2) := by decide +kernel
theorem dX1_solveState_205 : decode cX1_solveState 205 = .ok (.iinc 9 (-1), 3) := by decide +kernel
theorem dX1_solveState_208 : decode cX1_solveState 208 = .ok (.goto (-58), 3) := by decide +kernel
theorem dX1_solveState_211 : decode cX1_solveState 211 = .ok (.iinc 7 (-1), 3) := by decide +kernel
theorem dX1_solveState_214 : decode cX1_solveState 214 = .ok (.goto (-103), 3) := by decide +kernel
theorem dX1_solveState_217 : decode cX1_solveState 217 = .ok (.aload_n 0, 1) := by decide +kernel
theorem dX1_solveState_218 : decode cX1_solveState 218 = .ok (.iload 4, 2) := by decide +kernel
theorem dX1_solveState_220 : decode cX1_solveState 220 = .ok (.iload 5, 2) := by decide +kernel
theorem dX1_solveState_222 : decode cX1_solveState 222 = .ok (.iload 6, 2) := by decide +kernel
theorem dX1_solveState_224 : decode cX1_solveState 224 = .ok (.invokevirtual 139, 3) := by decide +kernel
theorem dX1_solveState_227 : decode cX1_solveState 227 = .ok (.return_, 1) := by decide +kernel
set_option maxRecDepth 20000 in
theorem ggX1_valueInRow_X4_mix : GoodIn wsX1_valueInRow wsX4_mix := goodIn_r _ [6, 7] (by decide +kernel) (by decide +kernel)
set_option maxRecDepth 20000 in
theorem gX1_valueInRow_X4_mix_n117 : GoodIn wsX1_valueInRow (wsX4_mix) := ggX1_valueInRow_X4_mix
theorem dX1_valueInRow_0 : decode cX1_valueInRow 0 = .ok (.iload_n 1, 1) := by decide +kernel
theorem dX1_valueInRow_1 : decode cX1_valueInRow 1 = .ok (.iconst 3, 1) := by decide +kernel
theorem dX1_valueInRow_2 : decode cX1_valueInRow 2 = .ok (.imul, 1) := by decide +kernel
theorem dX1_valueInRow_3 : decode cX1_valueInRow 3 = .ok (.iload_n 2, 1) := by decide +kernel
theorem dX1_valueInRow_4 : decode cX1_valueInRow 4 = .ok (.iadd, 1) := by decide +kernel
theorem dX1_valueInRow_5 : decode cX1_valueInRow 5 = .ok (.istore_n 3, 1) := by decide +kernel
theorem dX1_valueInRow_6 : decode cX1_valueInRow 6 = .ok (.iload_n 3, 1) := by decide +kernel
theorem dX1_valueInRow_7 : decode cX1_valueInRow 7 = .ok (.ifCond .lt 21, 3) := by decide +kernel
theorem dX1_valueInRow_10 : decode cX1_valueInRow 10 = .ok (.iload_n 3, 1) := by decide +kernel
theorem dX1_valueInRow_11 : decode cX1_valueInRow 11 = .ok (.aload_n 0, 1) := by decide +kernel
theorem dX1_valueInRow_12 : decode cX1_valueInRow 12 = .ok (.getfield 41, 3) := by decide +kernel
theorem dX1_valueInRow_15 : decode cX1_valueInRow 15 = .ok (.arraylength, 1) := by decide +kernel
theorem dX1_valueInRow_16 : decode cX1_valueInRow 16 = .ok (.if_icmp .ge 12, 3) := by decide +kernel
theorem dX1_valueInRow_19 : decode cX1_valueInRow 19 = .ok (.iload_n 2, 1) := by decide +kernel
theorem dX1_valueInRow_20 : decode cX1_valueInRow 20 = .ok (.ifCond .lt 8, 3) := by decide +kernel
theorem dX1_valueInRow_23 : decode cX1_valueInRow 23 = .ok (.iload_n 2, 1) := by decide +kernel
theorem dX1_valueInRow_24 : decode cX1_valueInRow 24 = .ok (.iconst 3, 1) := by decide +kernel
theorem dX1_valueInRow_25 : decode cX1_valueInRow 25 = .ok (.if_icmp .lt 5, 3) := by decide +kernel
theorem dX1_valueInRow_28 : decode cX1_valueInRow 28 = .ok (.iconst 0, 1) := by decide +kernel
theorem dX1_valueInRow_29 : decode cX1_valueInRow 29 = .ok (.ireturn, 1) := by decide +kernel
theorem dX1_valueInRow_30 : decode cX1_valueInRow 30 = .ok (.aload_n 0, 1) := by decide +kernel
theorem dX1_valueInRow_31 : decode cX1_valueInRow 31 = .ok (.getfield 41, 3) := by decide +kernel
theorem dX1_valueInRow_34 : decode cX1_valueInRow 34 = .ok (.iload_n 3, 1) := by decide +kernel
theorem dX1_valueInRow_35 : decode cX1_valueInRow 35 = .ok (.iaload, 1) := by decide +kernel
theorem dX1_valueInRow_36 : decode cX1_valueInRow 36 = .ok (.aload_n 0, 1) := by decide +kernel
theorem dX1_valueInRow_37 : decode cX1_valueInRow 37 = .ok (.getfield 44, 3) := by decide +kernel
theorem dX1_valueInRow_40 : decode cX1_valueInRow 40 = .ok (.iload_n 2, 1) := by decide +kernel
theorem dX1_valueInRow_41 : decode cX1_valueInRow 41 = .ok (.iaload, 1) := by decide +kernel
theorem dX1_valueInRow_42 : decode cX1_valueInRow 42 = .ok (.aload_n 0, 1) := by decide +kernel
theorem dX1_valueInRow_43 : decode cX1_valueInRow 43 = .ok (.getfield 47, 3) := by decide +kernel
theorem dX1_valueInRow_46 : decode cX1_valueInRow 46 = .ok (.iload_n 2, 1) := by decide +kernel
theorem dX1_valueInRow_47 : decode cX1_valueInRow 47 = .ok (.iaload, 1) := by decide +kernel
theorem dX1_valueInRow_48 : decode cX1_valueInRow 48 = .ok (.invokestatic 117, 3) := by decide +kernel
theorem dX1_valueInRow_51 : decode cX1_valueInRow 51 = .ok (.ireturn, 1) := by decide +kernel
theorem dX2_init_0 : decode cX2_init 0 = .ok (.aload_n 0, 1) := by decide +kernel
theorem dX2_init_1 : decode cX2_init 1 = .ok (.invokespecial 3, 3) := by decide +kernel
theorem dX2_init_4 : decode cX2_init 4 = .ok (.aload_n 0, 1) := by decide +kernel
theorem dX2_init_5 : decode cX2_init 5 = .ok (.bipush 96, 2) := by decide +kernel
theorem dX2_init_7 : decode cX2_init 7 = .ok (.newarray .int, 2) := by decide +kernel
theorem dX2_init_9 : decode cX2_init 9 = .ok (.putfield 9, 3) := by decide +kernel
theorem dX2_init_12 : decode cX2_init 12 = .ok (.aload_n 0, 1) := by decide +kernel
theorem dX2_init_13 : decode cX2_init 13 = .ok (.iconst 0, 1) := by decide +kernel
theorem dX2_init_14 : decode cX2_init 14 = .ok (.putfield 15, 3) := by decide +kernel
theorem dX2_init_17 : decode cX2_init 17 = .ok (.aload_n 0, 1) := by decide +kernel
theorem dX2_init_18 : decode cX2_init 18 = .ok (.bipush 96, 2) := by decide +kernel
theorem dX2_init_20 : decode cX2_init 20 = .ok (.newarray .int, 2) := by decide +kernel
theorem dX2_init_22 : decode cX2_init 22 = .ok (.putfield 19, 3) := by decide +kernel
theorem dX2_init_25 : decode cX2_init 25 = .ok (.aload_n 0, 1) := by decide +kernel
theorem dX2_init_26 : decode cX2_init 26 = .ok (.iconst 0, 1) := by decide +kernel
theorem dX2_init_27 : decode cX2_init 27 = .ok (.putfield 22, 3) := by decide +kernel
theorem dX2_init_30 : decode cX2_init 30 = .ok (.return_, 1) := by decide +kernel
theorem dX2_size_0 : decode cX2_size 0 = .ok (.aload_n 0, 1) := by decide +kernel
theorem dX2_size_1 : decode cX2_size 1 = .ok (.getfield 15, 3) := by decide +kernel
theorem dX2_size_4 : decode cX2_size 4 = .ok (.ireturn, 1) := by decide +kernel
theorem dX2_isFull_0 : decode cX2_isFull 0 = .ok (.aload_n 0, 1) := by decide +kernel
theorem dX2_isFull_1 : decode cX2_isFull 1 = .ok (.getfield 15, 3) := by decide +kernel
theorem dX2_isFull_4 : decode cX2_isFull 4 = .ok (.aload_n 0, 1) := by decide +kernel
theorem dX2_isFull_5 : decode cX2_isFull 5 = .ok (.getfield 9, 3) := by decide +kernel
theorem dX2_isFull_8 : decode cX2_isFull 8 = .ok (.arraylength, 1) := by decide +kernel
theorem dX2_isFull_9 : decode cX2_isFull 9 = .ok (.if_icmp .lt 7, 3) := by decide +kernel
theorem dX2_isFull_12 : decode cX2_isFull 12 = .ok (.iconst 1, 1) := by decide +kernel
theorem dX2_isFull_13 : decode cX2_isFull 13 = .ok (.goto 4, 3) := by decide +kernel
theorem dX2_isFull_16 : decode cX2_isFull 16 = .ok (.iconst 0, 1) := by decide +kernel
theorem dX2_isFull_17 : decode cX2_isFull 17 = .ok (.ireturn, 1) := by decide +kernel
theorem dX2_add_0 : decode cX2_add 0 = .ok (.aload_n 0, 1) := by decide +kernel
theorem dX2_add_1 : decode cX2_add 1 = .ok (.getfield 15, 3) := by decide +kernel
theorem dX2_add_4 : decode cX2_add 4 = .ok (.ifCond .lt 35, 3) := by decide +kernel
theorem dX2_add_7 : decode cX2_add 7 = .ok (.aload_n 0, 1) := by decide +kernel
theorem dX2_add_8 : decode cX2_add 8 = .ok (.getfield 15, 3) := by decide +kernel
theorem dX2_add_11 : decode cX2_add 11 = .ok (.aload_n 0, 1) := by decide +kernel
theorem dX2_add_12 : decode cX2_add 12 = .ok (.getfield 9, 3) := by decide +kernel
theorem dX2_add_15 : decode cX2_add 15 = .ok (.arraylength, 1) := by decide +kernel
theorem dX2_add_16 : decode cX2_add 16 = .ok (.if_icmp .ge 23, 3) := by decide +kernel
theorem dX2_add_19 : decode cX2_add 19 = .ok (.aload_n 0, 1) := by decide +kernel
theorem dX2_add_20 : decode cX2_add 20 = .ok (.getfield 9, 3) := by decide +kernel
theorem dX2_add_23 : decode cX2_add 23 = .ok (.aload_n 0, 1) := by decide +kernel
theorem dX2_add_24 : decode cX2_add 24 = .ok (.getfield 15, 3) := by decide +kernel
theorem dX2_add_27 : decode cX2_add 27 = .ok (.iload_n 1, 1) := by decide +kernel
theorem dX2_add_28 : decode cX2_add 28 = .ok (.iastore, 1) := by decide +kernel
theorem dX2_add_29 : decode cX2_add 29 = .ok (.aload_n 0, 1) := by decide +kernel
theorem dX2_add_30 : decode cX2_add 30 = .ok (.dup, 1) := by decide +kernel
theorem dX2_add_31 : decode cX2_add 31 = .ok (.getfield 15, 3) := by decide +kernel
theorem dX2_add_34 : decode cX2_add 34 = .ok (.iconst 1, 1) := by decide +kernel
theorem dX2_add_35 : decode cX2_add 35 = .ok (.iadd, 1) := by decide +kernel
theorem dX2_add_36 : decode cX2_add 36 = .ok (.putfield 15, 3) := by decide +kernel
theorem dX2_add_39 : decode cX2_add 39 = .ok (.aload_n 0, 1) := by decide +kernel
theorem dX2_add_40 : decode cX2_add 40 = .ok (.getfield 15, 3) := by decide +kernel
theorem dX2_add_43 : decode cX2_add 43 = .ok (.ireturn, 1) := by decide +kernel
theorem dX2_clear_0 : decode cX2_clear 0 = .ok (.aload_n 0, 1) := by decide +kernel
theorem dX2_clear_1 : decode cX2_clear 1 = .ok (.iconst 0, 1) := by decide +kernel
theorem dX2_clear_2 : decode cX2_clear 2 = .ok (.putfield 15, 3) := by decide +kernel
theorem dX2_clear_5 : decode cX2_clear 5 = .ok (.return_, 1) := by decide +kernel
set_option maxRecDepth 20000 in
theorem ggX2_fault_X2_placeOfForm : GoodIn wsX2_fault wsX2_placeOfForm := goodIn_r _ [5, 6, 7, 8, 9, 10, 11, 12, 13, 14, 15, 16, 17, 18, 19, 20, 21, 22, 23, 24, 25, 26, 27, 28, 29, 30, 31, 32, 33, 34, 35, 36, 37, 38, 39, 40, 41, 42, 43, 44, 45, 46, 47, 48, 49, 50, 51, 52, 53, 54, 55, 56, 57, 58, 59, 4, 60, 61, 62, 63, 64, 65, 66, 67, 68, 69, 70, 71, 72, 73, 74, 75, 76, 77, 78, 79, 100, 101, 102, 103] (by decide +kernel) (by decide +kernel)
set_option maxRecDepth 20000 in
theorem gX2_fault_X2_placeOfForm : GoodIn wsX2_fault (wsV RX2 25 RX2 yX2_placeOfForm wsX2_placeOfForm) := goodIn_app (goodIn_of _ (by decide +kernel)) ggX2_fault_X2_placeOfForm
set_option maxRecDepth 20000 in
theorem ggX2_fault_X2_placeOfRange : GoodIn wsX2_fault wsX2_placeOfRange := goodIn_r _ [83, 6, 79, 57, 58, 59, 4, 60, 7, 61, 84, 85, 86, 87, 88, 89, 90, 91, 92, 93, 94, 95, 96, 97, 98, 99, 100, 101, 102, 103] (by decide +kernel) (by decide +kernel)
set_option maxRecDepth 20000 in
theorem gX2_fault_X2_placeOfRange : GoodIn wsX2_fault (wsV RX2 29 RX2 yX2_placeOfRange wsX2_placeOfRange) := goodIn_app (goodIn_of _ (by decide +kernel)) ggX2_fault_X2_placeOfRange
theorem dX2_fault_0 : decode cX2_fault 0 = .ok (.aload_n 0, 1) := by decide +kernel
theorem dX2_fault_1 : decode cX2_fault 1 = .ok (.invokevirtual 25, 3) := by decide +kernel
theorem dX2_fault_4 : decode cX2_fault 4 = .ok (.istore_n 2, 1) := by decide +kernel
theorem dX2_fault_5 : decode cX2_fault 5 = .ok (.iload_n 2, 1) := by decide +kernel
theorem dX2_fault_6 : decode cX2_fault 6 = .ok (.ifCond .lt 9, 3) := by decide +kernel
theorem dX2_fault_9 : decode cX2_fault 9 = .ok (.sipush (-1000), 3) := by decide +kernel
theorem dX2_fault_12 : decode cX2_fault 12 = .ok (.iload_n 2, 1) := by decide +kernel
theorem dX2_fault_13 : decode cX2_fault 13 = .ok (.isub, 1) := by decide +kernel
theorem dX2_fault_14 : decode cX2_fault 14 = .ok (.ireturn, 1) := by decide +kernel
theorem dX2_fault_15 : decode cX2_fault 15 = .ok (.aload_n 0, 1) := by decide +kernel
theorem dX2_fault_16 : decode cX2_fault 16 = .ok (.iload_n 1, 1) := by decide +kernel
theorem dX2_fault_17 : decode cX2_fault 17 = .ok (.invokevirtual 29, 3) := by decide +kernel
theorem dX2_fault_20 : decode cX2_fault 20 = .ok (.istore_n 2, 1) := by decide +kernel
theorem dX2_fault_21 : decode cX2_fault 21 = .ok (.iload_n 2, 1) := by decide +kernel
theorem dX2_fault_22 : decode cX2_fault 22 = .ok (.ifCond .lt 11, 3) := by decide +kernel
theorem dX2_fault_25 : decode cX2_fault 25 = .ok (.sipush (-2000), 3) := by decide +kernel
theorem dX2_fault_28 : decode cX2_fault 28 = .ok (.iload_n 2, 1) := by decide +kernel
theorem dX2_fault_29 : decode cX2_fault 29 = .ok (.isub, 1) := by decide +kernel
theorem dX2_fault_30 : decode cX2_fault 30 = .ok (.goto 4, 3) := by decide +kernel
theorem dX2_fault_33 : decode cX2_fault 33 = .ok (.iconst 0, 1) := by decide +kernel
theorem dX2_fault_34 : decode cX2_fault 34 = .ok (.ireturn, 1) := by decide +kernel
set_option maxRecDepth 20000 in
theorem ggX2_tellAll_X2_sign : GoodIn wsX2_tellAll wsX2_sign := goodIn_r _ [7, 8, 9, 50, 51, 52, 53] (by decide +kernel) (by decide +kernel)
set_option maxRecDepth 20000 in
theorem gX2_tellAll_X2_sign : GoodIn wsX2_tellAll (wsV RX2 33 RX2 yX2_sign wsX2_sign) := goodIn_app (goodIn_of _ (by decide +kernel)) ggX2_tellAll_X2_sign
set_option maxRecDepth 20000 in
theorem ggX2_tellAll_X2_tellPlayer : GoodIn wsX2_tellAll wsX2_tellPlayer := goodIn_r _ [13, 14, 15, 16, 17, 18, 19, 20, 21, 22, 23, 24, 25, 26, 6, 27, 3, 4, 5, 7, 8, 9, 28, 29, 30, 31, 32, 33, 34, 35, 56, 57, 50, 51, 52, 53] (by decide +kernel) (by decide +kernel)
set_option maxRecDepth 20000 in
theorem gX2_tellAll_X2_tellPlayer : GoodIn wsX2_tellAll (wsV RX2 42 RX2 yX2_tellPlayer wsX2_tellPlayer) := goodIn_app (goodIn_of _ (by decide +kernel)) ggX2_tellAll_X2_tellPlayer
set_option maxRecDepth 20000 in
theorem ggX2_tellAll_X2_target : GoodIn wsX2_tellAll wsX2_target := goodIn_r _ [39, 3, 4, 5, 6, 7, 8, 9, 24, 25, 26, 27, 50, 51, 52, 53] (by decide +kernel) (by decide +kernel)
set_option maxRecDepth 20000 in
theorem gX2_tellAll_X2_target : GoodIn wsX2_tellAll (wsV RX2 46 RX2 yX2_target wsX2_target) := goodIn_app (goodIn_of _ (by decide +kernel)) ggX2_tellAll_X2_target
set_option maxRecDepth 20000 in
theorem ggX2_tellAll_X2_number : GoodIn wsX2_tellAll wsX2_number := goodIn_r _ [43, 3, 4, 5, 6, 7, 8, 9, 24, 25, 26, 27, 50, 51, 52, 53] (by decide +kernel) (by decide +kernel)
set_option maxRecDepth 20000 in
theorem gX2_tellAll_X2_number : GoodIn wsX2_tellAll (wsV RX2 49 RX2 yX2_number wsX2_number) := goodIn_app (goodIn_of _ (by decide +kernel)) ggX2_tellAll_X2_number
set_option maxRecDepth 20000 in
theorem ggX2_tellAll_X0_tell : GoodIn wsX2_tellAll wsX0_tell := goodIn_r _ [48, 49, 54, 55] (by decide +kernel) (by decide +kernel)
set_option maxRecDepth 20000 in
theorem gX2_tellAll_X0_tell : GoodIn wsX2_tellAll (wsV RX2 52 RX0 yX0_tell wsX0_tell) := goodIn_app (goodIn_of _ (by decide +kernel)) ggX2_tellAll_X0_tell
theorem dX2_tellAll_0 : decode cX2_tellAll 0 = .ok (.iconst 0, 1) := by decide +kernel
theorem dX2_tellAll_1 : decode cX2_tellAll 1 = .ok (.istore_n 2, 1) := by decide +kernel
theorem dX2_tellAll_2 : decode cX2_tellAll 2 = .ok (.iload_n 2, 1) := by decide +kernel
theorem dX2_tellAll_3 : decode cX2_tellAll 3 = .ok (.aload_n 0, 1) := by decide +kernel
theorem dX2_tellAll_4 : decode cX2_tellAll 4 = .ok (.getfield 22, 3) := by decide +kernel
theorem dX2_tellAll_7 : decode cX2_tellAll 7 = .ok (.if_icmp .ge 74, 3) := by decide +kernel
theorem dX2_tellAll_10 : decode cX2_tellAll 10 = .ok (.iload_n 2, 1) := by decide +kernel
theorem dX2_tellAll_11 : decode cX2_tellAll 11 = .ok (.aload_n 0, 1) := by decide +kernel
theorem dX2_tellAll_12 : decode cX2_tellAll 12 = .ok (.getfield 19, 3) := by decide +kernel
theorem dX2_tellAll_15 : decode cX2_tellAll 15 = .ok (.arraylength, 1) := by decide +kernel
theorem dX2_tellAll_16 : decode cX2_tellAll 16 = .ok (.if_icmp .ge 65, 3) := by decide +kernel
theorem dX2_tellAll_19 : decode cX2_tellAll 19 = .ok (.aload_n 0, 1) := by decide +kernel
theorem dX2_tellAll_20 : decode cX2_tellAll 20 = .ok (.aload_n 0, 1) := by decide +kernel
theorem dX2_tellAll_21 : decode cX2_tellAll 21 = .ok (.getfield 19, 3) := by decide +kernel
theorem dX2_tellAll_24 : decode cX2_tellAll 24 = .ok (.iload_n 2, 1) := by decide +kernel
theorem dX2_tellAll_25 : decode cX2_tellAll 25 = .ok (.iaload, 1) := by decide +kernel
theorem dX2_tellAll_26 : decode cX2_tellAll 26 = .ok (.invokevirtual 33, 3) := by decide +kernel
theorem dX2_tellAll_29 : decode cX2_tellAll 29 = .ok (.bipush 112, 2) := by decide +kernel
theorem dX2_tellAll_31 : decode cX2_tellAll 31 = .ok (.if_icmp .ne 20, 3) := by decide +kernel
theorem dX2_tellAll_34 : decode cX2_tellAll 34 = .ok (.aload_n 0, 1) := by decide +kernel
theorem dX2_tellAll_35 : decode cX2_tellAll 35 = .ok (.aload_n 1, 1) := by decide +kernel
theorem dX2_tellAll_36 : decode cX2_tellAll 36 = .ok (.getfield 36, 3) := by decide +kernel
theorem dX2_tellAll_39 : decode cX2_tellAll 39 = .ok (.aload_n 0, 1) := by decide +kernel
theorem dX2_tellAll_40 : decode cX2_tellAll 40 = .ok (.getfield 19, 3) := by decide +kernel
theorem dX2_tellAll_43 : decode cX2_tellAll 43 = .ok (.iload_n 2, 1) := by decide +kernel
theorem dX2_tellAll_44 : decode cX2_tellAll 44 = .ok (.iaload, 1) := by decide +kernel
theorem dX2_tellAll_45 : decode cX2_tellAll 45 = .ok (.invokevirtual 42, 3) := by decide +kernel
theorem dX2_tellAll_48 : decode cX2_tellAll 48 = .ok (.goto 27, 3) := by decide +kernel
theorem dX2_tellAll_51 : decode cX2_tellAll 51 = .ok (.aload_n 1, 1) := by decide +kernel
theorem dX2_tellAll_52 : decode cX2_tellAll 52 = .ok (.aload_n 0, 1) := by decide +kernel
theorem dX2_tellAll_53 : decode cX2_tellAll 53 = .ok (.aload_n 0, 1) := by decide +kernel
theorem dX2_tellAll_54 : decode cX2_tellAll 54 = .ok (.getfield 19, 3) := by decide +kernel
theorem dX2_tellAll_57 : decode cX2_tellAll 57 = .ok (.iload_n 2, 1) := by decide +kernel
theorem dX2_tellAll_58 : decode cX2_tellAll 58 = .ok (.iaload, 1) := by decide +kernel
theorem dX2_tellAll_59 : decode cX2_tellAll 59 = .ok (.invokevirtual 46, 3) := by decide +kernel
theorem dX2_tellAll_62 : decode cX2_tellAll 62 = .ok (.aload_n 0, 1) := by decide +kernel
theorem dX2_tellAll_63 : decode cX2_tellAll 63 = .ok (.aload_n 0, 1) := by decide +kernel
theorem dX2_tellAll_64 : decode cX2_tellAll 64 = .ok (.getfield 19, 3) := by decide +kernel
theorem dX2_tellAll_67 : decode cX2_tellAll 67 = .ok (.iload_n 2, 1) := by decide +kernel
theorem dX2_tellAll_68 : decode cX2_tellAll 68 = .ok (.iaload, 1) := by decide +kernel
theorem dX2_tellAll_69 : decode cX2_tellAll 69 = .ok (.invokevirtual 49, 3) := by decide +kernel
theorem dX2_tellAll_72 : decode cX2_tellAll 72 = .ok (.invokevirtual 52, 3) := by decide +kernel
theorem dX2_tellAll_75 : decode cX2_tellAll 75 = .ok (.iinc 2 1, 3) := by decide +kernel
theorem dX2_tellAll_78 : decode cX2_tellAll 78 = .ok (.goto (-76), 3) := by decide +kernel
theorem dX2_tellAll_81 : decode cX2_tellAll 81 = .ok (.aload_n 0, 1) := by decide +kernel
theorem dX2_tellAll_82 : decode cX2_tellAll 82 = .ok (.getfield 22, 3) := by decide +kernel
theorem dX2_tellAll_85 : decode cX2_tellAll 85 = .ok (.ireturn, 1) := by decide +kernel
set_option maxRecDepth 20000 in
theorem ggX2_tellPlayer_X3_add : GoodIn wsX2_tellPlayer wsX3_add := goodIn_r _ [5, 6, 7, 8, 9, 10, 30, 31] (by decide +kernel) (by decide +kernel)
set_option maxRecDepth 20000 in
theorem gX2_tellPlayer_X3_add : GoodIn wsX2_tellPlayer (wsV RX2 56 RX3 yX3_add wsX3_add) := goodIn_app (goodIn_of _ (by decide +kernel)) ggX2_tellPlayer_X3_add
set_option maxRecDepth 20000 in
theorem ggX2_tellPlayer_X2_digit : GoodIn wsX2_tellPlayer wsX2_digit := goodIn_r _ [15, 16, 17, 18, 14, 19, 20, 21, 32, 33, 34, 35] (by decide +kernel) (by decide +kernel)
set_option maxRecDepth 20000 in
theorem gX2_tellPlayer_X2_digit : GoodIn wsX2_tellPlayer (wsV RX2 61 RX2 yX2_digit wsX2_digit) := goodIn_app (goodIn_of _ (by decide +kernel)) ggX2_tellPlayer_X2_digit
set_option maxRecDepth 20000 in
theorem ggX2_tellPlayer_X3_change : GoodIn wsX2_tellPlayer wsX3_change := goodIn_r _ [25, 26, 30, 31] (by decide +kernel) (by decide +kernel)
set_option maxRecDepth 20000 in
theorem gX2_tellPlayer_X3_change : GoodIn wsX2_tellPlayer (wsV RX2 64 RX3 yX3_change wsX3_change) := goodIn_app (goodIn_of _ (by decide +kernel)) ggX2_tellPlayer_X3_change
set_option maxRecDepth 20000 in
theorem ggX2_tellPlayer_X2_sign : GoodIn wsX2_tellPlayer wsX2_sign := goodIn_r _ [19, 20, 21, 32, 33, 34, 35] (by decide +kernel) (by decide +kernel)
set_option maxRecDepth 20000 in
theorem gX2_tellPlayer_X2_sign : GoodIn wsX2_tellPlayer (wsV RX2 33 RX2 yX2_sign wsX2_sign) := goodIn_app (goodIn_of _ (by decide +kernel)) ggX2_tellPlayer_X2_sign
set_option maxRecDepth 20000 in
theorem ggX2_tellPlayer_X2_kind : GoodIn wsX2_tellPlayer wsX2_kind := goodIn_r _ [29] (by decide +kernel) (by decide +kernel)
set_option maxRecDepth 20000 in
theorem gX2_tellPlayer_X2_kind : GoodIn wsX2_tellPlayer (va_wsS RX2 68 yX2_kind wsX2_kind) := goodIn_app (goodIn_of _ (by decide +kernel)) ggX2_tellPlayer_X2_kind
theorem dX2_tellPlayer_0 : decode cX2_tellPlayer 0 = .ok (.aload_n 1, 1) := by decide +kernel
theorem dX2_tellPlayer_1 : decode cX2_tellPlayer 1 = .ok (.invokevirtual 56, 3) := by decide +kernel
theorem dX2_tellPlayer_4 : decode cX2_tellPlayer 4 = .ok (.istore_n 3, 1) := by decide +kernel
theorem dX2_tellPlayer_5 : decode cX2_tellPlayer 5 = .ok (.aload_n 1, 1) := by decide +kernel
theorem dX2_tellPlayer_6 : decode cX2_tellPlayer 6 = .ok (.iload_n 3, 1) := by decide +kernel
theorem dX2_tellPlayer_7 : decode cX2_tellPlayer 7 = .ok (.iconst 0, 1) := by decide +kernel
theorem dX2_tellPlayer_8 : decode cX2_tellPlayer 8 = .ok (.aload_n 0, 1) := by decide +kernel
theorem dX2_tellPlayer_9 : decode cX2_tellPlayer 9 = .ok (.iload_n 2, 1) := by decide +kernel
theorem dX2_tellPlayer_10 : decode cX2_tellPlayer 10 = .ok (.iconst 1, 1) := by decide +kernel
theorem dX2_tellPlayer_11 : decode cX2_tellPlayer 11 = .ok (.iadd, 1) := by decide +kernel
theorem dX2_tellPlayer_12 : decode cX2_tellPlayer 12 = .ok (.invokevirtual 61, 3) := by decide +kernel
theorem dX2_tellPlayer_15 : decode cX2_tellPlayer 15 = .ok (.invokevirtual 64, 3) := by decide +kernel
theorem dX2_tellPlayer_18 : decode cX2_tellPlayer 18 = .ok (.aload_n 1, 1) := by decide +kernel
theorem dX2_tellPlayer_19 : decode cX2_tellPlayer 19 = .ok (.iload_n 3, 1) := by decide +kernel
theorem dX2_tellPlayer_20 : decode cX2_tellPlayer 20 = .ok (.iconst 1, 1) := by decide +kernel
theorem dX2_tellPlayer_21 : decode cX2_tellPlayer 21 = .ok (.aload_n 0, 1) := by decide +kernel
theorem dX2_tellPlayer_22 : decode cX2_tellPlayer 22 = .ok (.iload_n 2, 1) := by decide +kernel
theorem dX2_tellPlayer_23 : decode cX2_tellPlayer 23 = .ok (.iconst 2, 1) := by decide +kernel
theorem dX2_tellPlayer_24 : decode cX2_tellPlayer 24 = .ok (.iadd, 1) := by decide +kernel
theorem dX2_tellPlayer_25 : decode cX2_tellPlayer 25 = .ok (.invokevirtual 33, 3) := by decide +kernel
theorem dX2_tellPlayer_28 : decode cX2_tellPlayer 28 = .ok (.invokestatic 68, 3) := by decide +kernel
theorem dX2_tellPlayer_31 : decode cX2_tellPlayer 31 = .ok (.invokevirtual 64, 3) := by decide +kernel
theorem dX2_tellPlayer_34 : decode cX2_tellPlayer 34 = .ok (.aload_n 1, 1) := by decide +kernel
theorem dX2_tellPlayer_35 : decode cX2_tellPlayer 35 = .ok (.iload_n 3, 1) := by decide +kernel
theorem dX2_tellPlayer_36 : decode cX2_tellPlayer 36 = .ok (.iconst 2, 1) := by decide +kernel
theorem dX2_tellPlayer_37 : decode cX2_tellPlayer 37 = .ok (.aload_n 0, 1) := by decide +kernel
theorem dX2_tellPlayer_38 : decode cX2_tellPlayer 38 = .ok (.iload_n 2, 1) := by decide +kernel
theorem dX2_tellPlayer_39 : decode cX2_tellPlayer 39 = .ok (.iconst 3, 1) := by decide +kernel
theorem dX2_tellPlayer_40 : decode cX2_tellPlayer 40 = .ok (.iadd, 1) := by decide +kernel
theorem dX2_tellPlayer_41 : decode cX2_tellPlayer 41 = .ok (.invokevirtual 61, 3) := by decide +kernel
theorem dX2_tellPlayer_44 : decode cX2_tellPlayer 44 = .ok (.invokevirtual 64, 3) := by decide +kernel
theorem dX2_tellPlayer_47 : decode cX2_tellPlayer 47 = .ok (.aload_n 1, 1) := by decide +kernel
theorem dX2_tellPlayer_48 : decode cX2_tellPlayer 48 = .ok (.iload_n 3, 1) := by decide +kernel
theorem dX2_tellPlayer_49 : decode cX2_tellPlayer 49 = .ok (.iconst 3, 1) := by decide +kernel
theorem dX2_tellPlayer_50 : decode cX2_tellPlayer 50 = .ok (.aload_n 0, 1) := by decide +kernel
theorem dX2_tellPlayer_51 : decode cX2_tellPlayer 51 = .ok (.iload_n 2, 1) := by decide +kernel
