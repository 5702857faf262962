theorem dX2_tellPlayer_52 : decode cX2_tellPlayer 52 = .ok (.iconst 4, 1) := by decide +kernel
theorem dX2_tellPlayer_53 : decode cX2_tellPlayer 53 = .ok (.iadd, 1) := by decide +kernel
theorem dX2_tellPlayer_54 : decode cX2_tellPlayer 54 = .ok (.invokevirtual 61, 3) := by decide +kernel
theorem dX2_tellPlayer_57 : decode cX2_tellPlayer 57 = .ok (.invokevirtual 64, 3) := by decide +kernel
theorem dX2_tellPlayer_60 : decode cX2_tellPlayer 60 = .ok (.aload_n 1, 1) := by decide +kernel
theorem dX2_tellPlayer_61 : decode cX2_tellPlayer 61 = .ok (.iload_n 3, 1) := by decide +kernel
theorem dX2_tellPlayer_62 : decode cX2_tellPlayer 62 = .ok (.iconst 4, 1) := by decide +kernel
theorem dX2_tellPlayer_63 : decode cX2_tellPlayer 63 = .ok (.aload_n 0, 1) := by decide +kernel
theorem dX2_tellPlayer_64 : decode cX2_tellPlayer 64 = .ok (.iload_n 2, 1) := by decide +kernel
theorem dX2_tellPlayer_65 : decode cX2_tellPlayer 65 = .ok (.iconst 5, 1) := by decide +kernel
theorem dX2_tellPlayer_66 : decode cX2_tellPlayer 66 = .ok (.iadd, 1) := by decide +kernel
theorem dX2_tellPlayer_67 : decode cX2_tellPlayer 67 = .ok (.invokevirtual 61, 3) := by decide +kernel
theorem dX2_tellPlayer_70 : decode cX2_tellPlayer 70 = .ok (.invokevirtual 64, 3) := by decide +kernel
theorem dX2_tellPlayer_73 : decode cX2_tellPlayer 73 = .ok (.return_, 1) := by decide +kernel
theorem dX2_sign_0 : decode cX2_sign 0 = .ok (.iload_n 1, 1) := by decide +kernel
theorem dX2_sign_1 : decode cX2_sign 1 = .ok (.ifCond .lt 29, 3) := by decide +kernel
theorem dX2_sign_4 : decode cX2_sign 4 = .ok (.iload_n 1, 1) := by decide +kernel
theorem dX2_sign_5 : decode cX2_sign 5 = .ok (.aload_n 0, 1) := by decide +kernel
theorem dX2_sign_6 : decode cX2_sign 6 = .ok (.getfield 15, 3) := by decide +kernel
theorem dX2_sign_9 : decode cX2_sign 9 = .ok (.if_icmp .ge 21, 3) := by decide +kernel
theorem dX2_sign_12 : decode cX2_sign 12 = .ok (.iload_n 1, 1) := by decide +kernel
theorem dX2_sign_13 : decode cX2_sign 13 = .ok (.aload_n 0, 1) := by decide +kernel
theorem dX2_sign_14 : decode cX2_sign 14 = .ok (.getfield 9, 3) := by decide +kernel
theorem dX2_sign_17 : decode cX2_sign 17 = .ok (.arraylength, 1) := by decide +kernel
theorem dX2_sign_18 : decode cX2_sign 18 = .ok (.if_icmp .ge 12, 3) := by decide +kernel
theorem dX2_sign_21 : decode cX2_sign 21 = .ok (.aload_n 0, 1) := by decide +kernel
theorem dX2_sign_22 : decode cX2_sign 22 = .ok (.getfield 9, 3) := by decide +kernel
theorem dX2_sign_25 : decode cX2_sign 25 = .ok (.iload_n 1, 1) := by decide +kernel
theorem dX2_sign_26 : decode cX2_sign 26 = .ok (.iaload, 1) := by decide +kernel
theorem dX2_sign_27 : decode cX2_sign 27 = .ok (.goto 4, 3) := by decide +kernel
theorem dX2_sign_30 : decode cX2_sign 30 = .ok (.iconst (-1), 1) := by decide +kernel
theorem dX2_sign_31 : decode cX2_sign 31 = .ok (.ireturn, 1) := by decide +kernel
set_option maxRecDepth 20000 in
theorem ggX2_digit_X2_sign : GoodIn wsX2_digit wsX2_sign := goodIn_r _ [5, 6, 7, 8, 9, 10, 11] (by decide +kernel) (by decide +kernel)
set_option maxRecDepth 20000 in
theorem gX2_digit_X2_sign : GoodIn wsX2_digit (wsV RX2 33 RX2 yX2_sign wsX2_sign) := goodIn_app (goodIn_of _ (by decide +kernel)) ggX2_digit_X2_sign
theorem dX2_digit_0 : decode cX2_digit 0 = .ok (.aload_n 0, 1) := by decide +kernel
theorem dX2_digit_1 : decode cX2_digit 1 = .ok (.iload_n 1, 1) := by decide +kernel
theorem dX2_digit_2 : decode cX2_digit 2 = .ok (.invokevirtual 33, 3) := by decide +kernel
theorem dX2_digit_5 : decode cX2_digit 5 = .ok (.bipush 48, 2) := by decide +kernel
theorem dX2_digit_7 : decode cX2_digit 7 = .ok (.isub, 1) := by decide +kernel
theorem dX2_digit_8 : decode cX2_digit 8 = .ok (.ireturn, 1) := by decide +kernel
theorem dX2_shape_0 : decode cX2_shape 0 = .ok (.iload_n 0, 1) := by decide +kernel
theorem dX2_shape_1 : decode cX2_shape 1 = .ok (.tableswitch 115 98 119 #[112, 106, 112, 115, 106, 115, 115, 115, 115, 115, 109, 115, 115, 106, 103, 115, 112, 115, 115, 115, 115, 112], 103) := by decide +kernel
theorem dX2_shape_104 : decode cX2_shape 104 = .ok (.ldc 71, 2) := by decide +kernel
theorem dX2_shape_106 : decode cX2_shape 106 = .ok (.areturn, 1) := by decide +kernel
theorem dX2_shape_107 : decode cX2_shape 107 = .ok (.ldc 73, 2) := by decide +kernel
theorem dX2_shape_109 : decode cX2_shape 109 = .ok (.areturn, 1) := by decide +kernel
theorem dX2_shape_110 : decode cX2_shape 110 = .ok (.ldc 75, 2) := by decide +kernel
theorem dX2_shape_112 : decode cX2_shape 112 = .ok (.areturn, 1) := by decide +kernel
theorem dX2_shape_113 : decode cX2_shape 113 = .ok (.ldc 77, 2) := by decide +kernel
theorem dX2_shape_115 : decode cX2_shape 115 = .ok (.areturn, 1) := by decide +kernel
theorem dX2_shape_116 : decode cX2_shape 116 = .ok (.ldc 79, 2) := by decide +kernel
theorem dX2_shape_118 : decode cX2_shape 118 = .ok (.areturn, 1) := by decide +kernel
set_option maxRecDepth 20000 in
theorem ggX2_fits_X2_kind : GoodIn wsX2_fits wsX2_kind := goodIn_r _ [4] (by decide +kernel) (by decide +kernel)
set_option maxRecDepth 20000 in
theorem gX2_fits_X2_kind : GoodIn wsX2_fits (va_wsS RX2 68 yX2_kind wsX2_kind) := goodIn_app (goodIn_of _ (by decide +kernel)) ggX2_fits_X2_kind
theorem dX2_fits_0 : decode cX2_fits 0 = .ok (.iload_n 0, 1) := by decide +kernel
theorem dX2_fits_1 : decode cX2_fits 1 = .ok (.lookupswitch 84 #[(100, 35), (107, 53), (115, 66)], 35) := by decide +kernel
theorem dX2_fits_36 : decode cX2_fits 36 = .ok (.iload_n 1, 1) := by decide +kernel
theorem dX2_fits_37 : decode cX2_fits 37 = .ok (.bipush 48, 2) := by decide +kernel
theorem dX2_fits_39 : decode cX2_fits 39 = .ok (.if_icmp .lt 13, 3) := by decide +kernel
theorem dX2_fits_42 : decode cX2_fits 42 = .ok (.iload_n 1, 1) := by decide +kernel
theorem dX2_fits_43 : decode cX2_fits 43 = .ok (.bipush 57, 2) := by decide +kernel
theorem dX2_fits_45 : decode cX2_fits 45 = .ok (.if_icmp .gt 7, 3) := by decide +kernel
theorem dX2_fits_48 : decode cX2_fits 48 = .ok (.iconst 1, 1) := by decide +kernel
theorem dX2_fits_49 : decode cX2_fits 49 = .ok (.goto 4, 3) := by decide +kernel
theorem dX2_fits_52 : decode cX2_fits 52 = .ok (.iconst 0, 1) := by decide +kernel
theorem dX2_fits_53 : decode cX2_fits 53 = .ok (.ireturn, 1) := by decide +kernel
theorem dX2_fits_54 : decode cX2_fits 54 = .ok (.iload_n 1, 1) := by decide +kernel
theorem dX2_fits_55 : decode cX2_fits 55 = .ok (.invokestatic 68, 3) := by decide +kernel
theorem dX2_fits_58 : decode cX2_fits 58 = .ok (.ifCond .lt 7, 3) := by decide +kernel
theorem dX2_fits_61 : decode cX2_fits 61 = .ok (.iconst 1, 1) := by decide +kernel
theorem dX2_fits_62 : decode cX2_fits 62 = .ok (.goto 4, 3) := by decide +kernel
theorem dX2_fits_65 : decode cX2_fits 65 = .ok (.iconst 0, 1) := by decide +kernel
theorem dX2_fits_66 : decode cX2_fits 66 = .ok (.ireturn, 1) := by decide +kernel
theorem dX2_fits_67 : decode cX2_fits 67 = .ok (.iload_n 1, 1) := by decide +kernel
theorem dX2_fits_68 : decode cX2_fits 68 = .ok (.bipush 43, 2) := by decide +kernel
theorem dX2_fits_70 : decode cX2_fits 70 = .ok (.if_icmp .eq 9, 3) := by decide +kernel
theorem dX2_fits_73 : decode cX2_fits 73 = .ok (.iload_n 1, 1) := by decide +kernel
theorem dX2_fits_74 : decode cX2_fits 74 = .ok (.bipush 45, 2) := by decide +kernel
theorem dX2_fits_76 : decode cX2_fits 76 = .ok (.if_icmp .ne 7, 3) := by decide +kernel
theorem dX2_fits_79 : decode cX2_fits 79 = .ok (.iconst 1, 1) := by decide +kernel
theorem dX2_fits_80 : decode cX2_fits 80 = .ok (.goto 4, 3) := by decide +kernel
theorem dX2_fits_83 : decode cX2_fits 83 = .ok (.iconst 0, 1) := by decide +kernel
theorem dX2_fits_84 : decode cX2_fits 84 = .ok (.ireturn, 1) := by decide +kernel
theorem dX2_fits_85 : decode cX2_fits 85 = .ok (.iload_n 1, 1) := by decide +kernel
theorem dX2_fits_86 : decode cX2_fits 86 = .ok (.iload_n 0, 1) := by decide +kernel
theorem dX2_fits_87 : decode cX2_fits 87 = .ok (.if_icmp .ne 7, 3) := by decide +kernel
theorem dX2_fits_90 : decode cX2_fits 90 = .ok (.iconst 1, 1) := by decide +kernel
theorem dX2_fits_91 : decode cX2_fits 91 = .ok (.goto 4, 3) := by decide +kernel
theorem dX2_fits_94 : decode cX2_fits 94 = .ok (.iconst 0, 1) := by decide +kernel
theorem dX2_fits_95 : decode cX2_fits 95 = .ok (.ireturn, 1) := by decide +kernel
theorem dX2_kind_0 : decode cX2_kind 0 = .ok (.iload_n 0, 1) := by decide +kernel
theorem dX2_kind_1 : decode cX2_kind 1 = .ok (.tableswitch 103 98 116 #[97, 103, 103, 103, 103, 103, 93, 103, 103, 101, 103, 103, 103, 99, 103, 103, 103, 91, 95], 91) := by decide +kernel
theorem dX2_kind_92 : decode cX2_kind 92 = .ok (.iconst 0, 1) := by decide +kernel
theorem dX2_kind_93 : decode cX2_kind 93 = .ok (.ireturn, 1) := by decide +kernel
theorem dX2_kind_94 : decode cX2_kind 94 = .ok (.iconst 1, 1) := by decide +kernel
theorem dX2_kind_95 : decode cX2_kind 95 = .ok (.ireturn, 1) := by decide +kernel
theorem dX2_kind_96 : decode cX2_kind 96 = .ok (.iconst 2, 1) := by decide +kernel
theorem dX2_kind_97 : decode cX2_kind 97 = .ok (.ireturn, 1) := by decide +kernel
theorem dX2_kind_98 : decode cX2_kind 98 = .ok (.iconst 3, 1) := by decide +kernel
theorem dX2_kind_99 : decode cX2_kind 99 = .ok (.ireturn, 1) := by decide +kernel
theorem dX2_kind_100 : decode cX2_kind 100 = .ok (.iconst 4, 1) := by decide +kernel
theorem dX2_kind_101 : decode cX2_kind 101 = .ok (.ireturn, 1) := by decide +kernel
theorem dX2_kind_102 : decode cX2_kind 102 = .ok (.iconst 5, 1) := by decide +kernel
theorem dX2_kind_103 : decode cX2_kind 103 = .ok (.ireturn, 1) := by decide +kernel
theorem dX2_kind_104 : decode cX2_kind 104 = .ok (.iconst (-1), 1) := by decide +kernel
theorem dX2_kind_105 : decode cX2_kind 105 = .ok (.ireturn, 1) := by decide +kernel
set_option maxRecDepth 20000 in
theorem ggX2_placeOfForm_J0_length_8abf5 : GoodIn wsX2_placeOfForm wsJ0_length_8abf5 := goodIn_r _ [7, 8, 9, 10, 11, 6, 12, 13, 14] (by decide +kernel) (by decide +kernel)
set_option maxRecDepth 20000 in
theorem gX2_placeOfForm_J0_length_8abf5 : GoodIn wsX2_placeOfForm (wsV RX2 81 RJ0 yJ0_length_8abf5 wsJ0_length_8abf5) := goodIn_app (goodIn_of _ (by decide +kernel)) ggX2_placeOfForm_J0_length_8abf5
set_option maxRecDepth 20000 in
theorem ggX2_placeOfForm_J0_charAt_5068e : GoodIn wsX2_placeOfForm wsJ0_charAt_5068e := goodIn_r _ [18, 8, 19, 20, 21, 6, 22, 13, 14, 23, 24, 25, 26, 27, 28, 29, 30, 31, 32, 33, 34, 35, 36, 37, 38, 39, 40, 41, 42, 43, 44, 45, 46, 47, 48, 49, 50, 51] (by decide +kernel) (by decide +kernel)
set_option maxRecDepth 20000 in
theorem gX2_placeOfForm_J0_charAt_5068e : GoodIn wsX2_placeOfForm (wsV RX2 86 RJ0 yJ0_charAt_5068e wsJ0_charAt_5068e) := goodIn_app (goodIn_of _ (by decide +kernel)) ggX2_placeOfForm_J0_charAt_5068e
set_option maxRecDepth 20000 in
theorem ggX2_placeOfForm_X2_sign : GoodIn wsX2_placeOfForm wsX2_sign := goodIn_r _ [56, 2, 57, 76, 77, 78, 79] (by decide +kernel) (by decide +kernel)
set_option maxRecDepth 20000 in
theorem gX2_placeOfForm_X2_sign : GoodIn wsX2_placeOfForm (wsV RX2 33 RX2 yX2_sign wsX2_sign) := goodIn_app (goodIn_of _ (by decide +kernel)) ggX2_placeOfForm_X2_sign
set_option maxRecDepth 20000 in
theorem ggX2_placeOfForm_X2_fits : GoodIn wsX2_placeOfForm wsX2_fits := goodIn_r _ [60, 61, 62, 55, 63] (by decide +kernel) (by decide +kernel)
set_option maxRecDepth 20000 in
theorem gX2_placeOfForm_X2_fits : GoodIn wsX2_placeOfForm (va_wsS RX2 90 yX2_fits wsX2_fits) := goodIn_app (goodIn_of _ (by decide +kernel)) ggX2_placeOfForm_X2_fits
set_option maxRecDepth 20000 in
theorem ggX2_placeOfForm_X2_shape : GoodIn wsX2_placeOfForm wsX2_shape := goodIn_r _ [66] (by decide +kernel) (by decide +kernel)
set_option maxRecDepth 20000 in
theorem gX2_placeOfForm_X2_shape : GoodIn wsX2_placeOfForm (va_wsS RX2 94 yX2_shape wsX2_shape) := goodIn_app (goodIn_of _ (by decide +kernel)) ggX2_placeOfForm_X2_shape
set_option maxRecDepth 20000 in
theorem ggX2_placeOfForm_J0_isEmpty_aae02 : GoodIn wsX2_placeOfForm wsJ0_isEmpty_aae02 := goodIn_r _ [70, 8] (by decide +kernel) (by decide +kernel)
set_option maxRecDepth 20000 in
theorem gX2_placeOfForm_J0_isEmpty_aae02 : GoodIn wsX2_placeOfForm (wsV RX2 98 RJ0 yJ0_isEmpty_aae02 wsJ0_isEmpty_aae02) := goodIn_app (goodIn_of _ (by decide +kernel)) ggX2_placeOfForm_J0_isEmpty_aae02
set_option maxRecDepth 20000 in
theorem ggX2_placeOfForm_X2_addStart : GoodIn wsX2_placeOfForm wsX2_addStart := goodIn_r _ [74, 1, 75, 76, 77, 78, 79] (by decide +kernel) (by decide +kernel)
set_option maxRecDepth 20000 in
theorem gX2_placeOfForm_X2_addStart : GoodIn wsX2_placeOfForm (wsV RX2 102 RX2 yX2_addStart wsX2_addStart) := goodIn_app (goodIn_of _ (by decide +kernel)) ggX2_placeOfForm_X2_addStart
theorem dX2_placeOfForm_0 : decode cX2_placeOfForm 0 = .ok (.ldc 79, 2) := by decide +kernel
theorem dX2_placeOfForm_2 : decode cX2_placeOfForm 2 = .ok (.astore_n 1, 1) := by decide +kernel
theorem dX2_placeOfForm_3 : decode cX2_placeOfForm 3 = .ok (.iconst 0, 1) := by decide +kernel
theorem dX2_placeOfForm_4 : decode cX2_placeOfForm 4 = .ok (.istore_n 2, 1) := by decide +kernel
theorem dX2_placeOfForm_5 : decode cX2_placeOfForm 5 = .ok (.aload_n 0, 1) := by decide +kernel
theorem dX2_placeOfForm_6 : decode cX2_placeOfForm 6 = .ok (.iconst 0, 1) := by decide +kernel
theorem dX2_placeOfForm_7 : decode cX2_placeOfForm 7 = .ok (.putfield 22, 3) := by decide +kernel
theorem dX2_placeOfForm_10 : decode cX2_placeOfForm 10 = .ok (.iconst 0, 1) := by decide +kernel
theorem dX2_placeOfForm_11 : decode cX2_placeOfForm 11 = .ok (.istore_n 3, 1) := by decide +kernel
theorem dX2_placeOfForm_12 : decode cX2_placeOfForm 12 = .ok (.iload_n 3, 1) := by decide +kernel
theorem dX2_placeOfForm_13 : decode cX2_placeOfForm 13 = .ok (.aload_n 0, 1) := by decide +kernel
theorem dX2_placeOfForm_14 : decode cX2_placeOfForm 14 = .ok (.getfield 15, 3) := by decide +kernel
theorem dX2_placeOfForm_17 : decode cX2_placeOfForm 17 = .ok (.if_icmp .ge 66, 3) := by decide +kernel
theorem dX2_placeOfForm_20 : decode cX2_placeOfForm 20 = .ok (.iload_n 2, 1) := by decide +kernel
theorem dX2_placeOfForm_21 : decode cX2_placeOfForm 21 = .ok (.aload_n 1, 1) := by decide +kernel
theorem dX2_placeOfForm_22 : decode cX2_placeOfForm 22 = .ok (.invokevirtual 81, 3) := by decide +kernel
theorem dX2_placeOfForm_25 : decode cX2_placeOfForm 25 = .ok (.if_icmp .ge 27, 3) := by decide +kernel
theorem dX2_placeOfForm_28 : decode cX2_placeOfForm 28 = .ok (.aload_n 1, 1) := by decide +kernel
theorem dX2_placeOfForm_29 : decode cX2_placeOfForm 29 = .ok (.iload_n 2, 1) := by decide +kernel
theorem dX2_placeOfForm_30 : decode cX2_placeOfForm 30 = .ok (.invokevirtual 86, 3) := by decide +kernel
theorem dX2_placeOfForm_33 : decode cX2_placeOfForm 33 = .ok (.aload_n 0, 1) := by decide +kernel
theorem dX2_placeOfForm_34 : decode cX2_placeOfForm 34 = .ok (.iload_n 3, 1) := by decide +kernel
theorem dX2_placeOfForm_35 : decode cX2_placeOfForm 35 = .ok (.invokevirtual 33, 3) := by decide +kernel
theorem dX2_placeOfForm_38 : decode cX2_placeOfForm 38 = .ok (.invokestatic 90, 3) := by decide +kernel
theorem dX2_placeOfForm_41 : decode cX2_placeOfForm 41 = .ok (.ifCond .ne 5, 3) := by decide +kernel
theorem dX2_placeOfForm_44 : decode cX2_placeOfForm 44 = .ok (.iload_n 3, 1) := by decide +kernel
theorem dX2_placeOfForm_45 : decode cX2_placeOfForm 45 = .ok (.ireturn, 1) := by decide +kernel
theorem dX2_placeOfForm_46 : decode cX2_placeOfForm 46 = .ok (.iinc 2 1, 3) := by decide +kernel
theorem dX2_placeOfForm_49 : decode cX2_placeOfForm 49 = .ok (.goto 28, 3) := by decide +kernel
theorem dX2_placeOfForm_52 : decode cX2_placeOfForm 52 = .ok (.aload_n 0, 1) := by decide +kernel
theorem dX2_placeOfForm_53 : decode cX2_placeOfForm 53 = .ok (.iload_n 3, 1) := by decide +kernel
theorem dX2_placeOfForm_54 : decode cX2_placeOfForm 54 = .ok (.invokevirtual 33, 3) := by decide +kernel
theorem dX2_placeOfForm_57 : decode cX2_placeOfForm 57 = .ok (.invokestatic 94, 3) := by decide +kernel
theorem dX2_placeOfForm_60 : decode cX2_placeOfForm 60 = .ok (.astore_n 1, 1) := by decide +kernel
theorem dX2_placeOfForm_61 : decode cX2_placeOfForm 61 = .ok (.aload_n 1, 1) := by decide +kernel
theorem dX2_placeOfForm_62 : decode cX2_placeOfForm 62 = .ok (.invokevirtual 98, 3) := by decide +kernel
theorem dX2_placeOfForm_65 : decode cX2_placeOfForm 65 = .ok (.ifCond .eq 5, 3) := by decide +kernel
theorem dX2_placeOfForm_68 : decode cX2_placeOfForm 68 = .ok (.iload_n 3, 1) := by decide +kernel
theorem dX2_placeOfForm_69 : decode cX2_placeOfForm 69 = .ok (.ireturn, 1) := by decide +kernel
theorem dX2_placeOfForm_70 : decode cX2_placeOfForm 70 = .ok (.iconst 0, 1) := by decide +kernel
theorem dX2_placeOfForm_71 : decode cX2_placeOfForm 71 = .ok (.istore_n 2, 1) := by decide +kernel
theorem dX2_placeOfForm_72 : decode cX2_placeOfForm 72 = .ok (.aload_n 0, 1) := by decide +kernel
theorem dX2_placeOfForm_73 : decode cX2_placeOfForm 73 = .ok (.iload_n 3, 1) := by decide +kernel
theorem dX2_placeOfForm_74 : decode cX2_placeOfForm 74 = .ok (.invokevirtual 102, 3) := by decide +kernel
theorem dX2_placeOfForm_77 : decode cX2_placeOfForm 77 = .ok (.iinc 3 1, 3) := by decide +kernel
theorem dX2_placeOfForm_80 : decode cX2_placeOfForm 80 = .ok (.goto (-68), 3) := by decide +kernel
theorem dX2_placeOfForm_83 : decode cX2_placeOfForm 83 = .ok (.aload_n 0, 1) := by decide +kernel
theorem dX2_placeOfForm_84 : decode cX2_placeOfForm 84 = .ok (.getfield 15, 3) := by decide +kernel
theorem dX2_placeOfForm_87 : decode cX2_placeOfForm 87 = .ok (.ifCond .eq 11, 3) := by decide +kernel
theorem dX2_placeOfForm_90 : decode cX2_placeOfForm 90 = .ok (.iload_n 2, 1) := by decide +kernel
theorem dX2_placeOfForm_91 : decode cX2_placeOfForm 91 = .ok (.aload_n 1, 1) := by decide +kernel
theorem dX2_placeOfForm_92 : decode cX2_placeOfForm 92 = .ok (.invokevirtual 81, 3) := by decide +kernel
theorem dX2_placeOfForm_95 : decode cX2_placeOfForm 95 = .ok (.if_icmp .ge 10, 3) := by decide +kernel
theorem dX2_placeOfForm_98 : decode cX2_placeOfForm 98 = .ok (.aload_n 0, 1) := by decide +kernel
theorem dX2_placeOfForm_99 : decode cX2_placeOfForm 99 = .ok (.getfield 15, 3) := by decide +kernel
theorem dX2_placeOfForm_102 : decode cX2_placeOfForm 102 = .ok (.goto 4, 3) := by decide +kernel
theorem dX2_placeOfForm_105 : decode cX2_placeOfForm 105 = .ok (.iconst (-1), 1) := by decide +kernel
theorem dX2_placeOfForm_106 : decode cX2_placeOfForm 106 = .ok (.ireturn, 1) := by decide +kernel
theorem dX2_addStart_0 : decode cX2_addStart 0 = .ok (.aload_n 0, 1) := by decide +kernel
theorem dX2_addStart_1 : decode cX2_addStart 1 = .ok (.getfield 22, 3) := by decide +kernel
theorem dX2_addStart_4 : decode cX2_addStart 4 = .ok (.ifCond .lt 35, 3) := by decide +kernel
theorem dX2_addStart_7 : decode cX2_addStart 7 = .ok (.aload_n 0, 1) := by decide +kernel
theorem dX2_addStart_8 : decode cX2_addStart 8 = .ok (.getfield 22, 3) := by decide +kernel
theorem dX2_addStart_11 : decode cX2_addStart 11 = .ok (.aload_n 0, 1) := by decide +kernel
theorem dX2_addStart_12 : decode cX2_addStart 12 = .ok (.getfield 19, 3) := by decide +kernel
theorem dX2_addStart_15 : decode cX2_addStart 15 = .ok (.arraylength, 1) := by decide +kernel
theorem dX2_addStart_16 : decode cX2_addStart 16 = .ok (.if_icmp .ge 23, 3) := by decide +kernel
theorem dX2_addStart_19 : decode cX2_addStart 19 = .ok (.aload_n 0, 1) := by decide +kernel
theorem dX2_addStart_20 : decode cX2_addStart 20 = .ok (.getfield 19, 3) := by decide +kernel
theorem dX2_addStart_23 : decode cX2_addStart 23 = .ok (.aload_n 0, 1) := by decide +kernel
theorem dX2_addStart_24 : decode cX2_addStart 24 = .ok (.getfield 22, 3) := by decide +kernel
theorem dX2_addStart_27 : decode cX2_addStart 27 = .ok (.iload_n 1, 1) := by decide +kernel
theorem dX2_addStart_28 : decode cX2_addStart 28 = .ok (.iastore, 1) := by decide +kernel
theorem dX2_addStart_29 : decode cX2_addStart 29 = .ok (.aload_n 0, 1) := by decide +kernel
theorem dX2_addStart_30 : decode cX2_addStart 30 = .ok (.dup, 1) := by decide +kernel
theorem dX2_addStart_31 : decode cX2_addStart 31 = .ok (.getfield 22, 3) := by decide +kernel
theorem dX2_addStart_34 : decode cX2_addStart 34 = .ok (.iconst 1, 1) := by decide +kernel
theorem dX2_addStart_35 : decode cX2_addStart 35 = .ok (.iadd, 1) := by decide +kernel
theorem dX2_addStart_36 : decode cX2_addStart 36 = .ok (.putfield 22, 3) := by decide +kernel
theorem dX2_addStart_39 : decode cX2_addStart 39 = .ok (.return_, 1) := by decide +kernel
set_option maxRecDepth 20000 in
theorem ggX2_placeOfRange_X2_sign : GoodIn wsX2_placeOfRange wsX2_sign := goodIn_r _ [7, 8, 9, 26, 27, 28, 29] (by decide +kernel) (by decide +kernel)
set_option maxRecDepth 20000 in
theorem gX2_placeOfRange_X2_sign : GoodIn wsX2_placeOfRange (wsV RX2 33 RX2 yX2_sign wsX2_sign) := goodIn_app (goodIn_of _ (by decide +kernel)) ggX2_placeOfRange_X2_sign
set_option maxRecDepth 20000 in
theorem ggX2_placeOfRange_X2_isInRange : GoodIn wsX2_placeOfRange wsX2_isInRange := goodIn_r _ [13, 3, 4, 5, 6, 7, 8, 9, 14, 15, 16, 17, 18, 19, 20, 21, 22, 23, 24, 25, 26, 27, 28, 29] (by decide +kernel) (by decide +kernel)
set_option maxRecDepth 20000 in
theorem gX2_placeOfRange_X2_isInRange : GoodIn wsX2_placeOfRange (wsV RX2 106 RX2 yX2_isInRange wsX2_isInRange) := goodIn_app (goodIn_of _ (by decide +kernel)) ggX2_placeOfRange_X2_isInRange
theorem dX2_placeOfRange_0 : decode cX2_placeOfRange 0 = .ok (.bipush 6, 2) := by decide +kernel
theorem dX2_placeOfRange_2 : decode cX2_placeOfRange 2 = .ok (.iload_n 1, 1) := by decide +kernel
theorem dX2_placeOfRange_3 : decode cX2_placeOfRange 3 = .ok (.isub, 1) := by decide +kernel
theorem dX2_placeOfRange_4 : decode cX2_placeOfRange 4 = .ok (.istore_n 2, 1) := by decide +kernel
theorem dX2_placeOfRange_5 : decode cX2_placeOfRange 5 = .ok (.iconst 0, 1) := by decide +kernel
theorem dX2_placeOfRange_6 : decode cX2_placeOfRange 6 = .ok (.istore_n 3, 1) := by decide +kernel
theorem dX2_placeOfRange_7 : decode cX2_placeOfRange 7 = .ok (.iload_n 3, 1) := by decide +kernel
theorem dX2_placeOfRange_8 : decode cX2_placeOfRange 8 = .ok (.aload_n 0, 1) := by decide +kernel
theorem dX2_placeOfRange_9 : decode cX2_placeOfRange 9 = .ok (.getfield 22, 3) := by decide +kernel
theorem dX2_placeOfRange_12 : decode cX2_placeOfRange 12 = .ok (.if_icmp .ge 60, 3) := by decide +kernel
theorem dX2_placeOfRange_15 : decode cX2_placeOfRange 15 = .ok (.iload_n 3, 1) := by decide +kernel
theorem dX2_placeOfRange_16 : decode cX2_placeOfRange 16 = .ok (.aload_n 0, 1) := by decide +kernel
theorem dX2_placeOfRange_17 : decode cX2_placeOfRange 17 = .ok (.getfield 19, 3) := by decide +kernel
theorem dX2_placeOfRange_20 : decode cX2_placeOfRange 20 = .ok (.arraylength, 1) := by decide +kernel
theorem dX2_placeOfRange_21 : decode cX2_placeOfRange 21 = .ok (.if_icmp .ge 51, 3) := by decide +kernel
theorem dX2_placeOfRange_24 : decode cX2_placeOfRange 24 = .ok (.aload_n 0, 1) := by decide +kernel
theorem dX2_placeOfRange_25 : decode cX2_placeOfRange 25 = .ok (.aload_n 0, 1) := by decide +kernel
theorem dX2_placeOfRange_26 : decode cX2_placeOfRange 26 = .ok (.getfield 19, 3) := by decide +kernel
theorem dX2_placeOfRange_29 : decode cX2_placeOfRange 29 = .ok (.iload_n 3, 1) := by decide +kernel
theorem dX2_placeOfRange_30 : decode cX2_placeOfRange 30 = .ok (.iaload, 1) := by decide +kernel
theorem dX2_placeOfRange_31 : decode cX2_placeOfRange 31 = .ok (.invokevirtual 33, 3) := by decide +kernel
theorem dX2_placeOfRange_34 : decode cX2_placeOfRange 34 = .ok (.bipush 112, 2) := by decide +kernel
theorem dX2_placeOfRange_36 : decode cX2_placeOfRange 36 = .ok (.if_icmp .ne 6, 3) := by decide +kernel
theorem dX2_placeOfRange_39 : decode cX2_placeOfRange 39 = .ok (.iinc 2 (-1), 3) := by decide +kernel
theorem dX2_placeOfRange_42 : decode cX2_placeOfRange 42 = .ok (.iload_n 2, 1) := by decide +kernel
theorem dX2_placeOfRange_43 : decode cX2_placeOfRange 43 = .ok (.ifCond .lt 16, 3) := by decide +kernel
theorem dX2_placeOfRange_46 : decode cX2_placeOfRange 46 = .ok (.aload_n 0, 1) := by decide +kernel
theorem dX2_placeOfRange_47 : decode cX2_placeOfRange 47 = .ok (.aload_n 0, 1) := by decide +kernel
theorem dX2_placeOfRange_48 : decode cX2_placeOfRange 48 = .ok (.getfield 19, 3) := by decide +kernel
theorem dX2_placeOfRange_51 : decode cX2_placeOfRange 51 = .ok (.iload_n 3, 1) := by decide +kernel
theorem dX2_placeOfRange_52 : decode cX2_placeOfRange 52 = .ok (.iaload, 1) := by decide +kernel
theorem dX2_placeOfRange_53 : decode cX2_placeOfRange 53 = .ok (.invokevirtual 106, 3) := by decide +kernel
theorem dX2_placeOfRange_56 : decode cX2_placeOfRange 56 = .ok (.ifCond .ne 10, 3) := by decide +kernel
theorem dX2_placeOfRange_59 : decode cX2_placeOfRange 59 = .ok (.aload_n 0, 1) := by decide +kernel
theorem dX2_placeOfRange_60 : decode cX2_placeOfRange 60 = .ok (.getfield 19, 3) := by decide +kernel
theorem dX2_placeOfRange_63 : decode cX2_placeOfRange 63 = .ok (.iload_n 3, 1) := by decide +kernel
theorem dX2_placeOfRange_64 : decode cX2_placeOfRange 64 = .ok (.iaload, 1) := by decide +kernel
theorem dX2_placeOfRange_65 : decode cX2_placeOfRange 65 = .ok (.ireturn, 1) := by decide +kernel
theorem dX2_placeOfRange_66 : decode cX2_placeOfRange 66 = .ok (.iinc 3 1, 3) := by decide +kernel
theorem dX2_placeOfRange_69 : decode cX2_placeOfRange 69 = .ok (.goto (-62), 3) := by decide +kernel
theorem dX2_placeOfRange_72 : decode cX2_placeOfRange 72 = .ok (.iconst (-1), 1) := by decide +kernel
theorem dX2_placeOfRange_73 : decode cX2_placeOfRange 73 = .ok (.ireturn, 1) := by decide +kernel
set_option maxRecDepth 20000 in
theorem ggX2_isInRange_X2_sign : GoodIn wsX2_isInRange wsX2_sign := goodIn_r _ [5, 6, 7, 20, 21, 22, 23] (by decide +kernel) (by decide +kernel)
set_option maxRecDepth 20000 in
theorem gX2_isInRange_X2_sign : GoodIn wsX2_isInRange (wsV RX2 33 RX2 yX2_sign wsX2_sign) := goodIn_app (goodIn_of _ (by decide +kernel)) ggX2_isInRange_X2_sign
set_option maxRecDepth 20000 in
theorem ggX2_isInRange_X2_digit : GoodIn wsX2_isInRange wsX2_digit := goodIn_r _ [11, 1, 2, 3, 4, 5, 6, 7, 20, 21, 22, 23] (by decide +kernel) (by decide +kernel)
set_option maxRecDepth 20000 in
theorem gX2_isInRange_X2_digit : GoodIn wsX2_isInRange (wsV RX2 61 RX2 yX2_digit wsX2_digit) := goodIn_app (goodIn_of _ (by decide +kernel)) ggX2_isInRange_X2_digit
set_option maxRecDepth 20000 in
theorem ggX2_isInRange_X2_target : GoodIn wsX2_isInRange wsX2_target := goodIn_r _ [15, 1, 2, 3, 4, 5, 6, 7, 8, 9, 10, 11, 20, 21, 22, 23] (by decide +kernel) (by decide +kernel)
set_option maxRecDepth 20000 in
theorem gX2_isInRange_X2_target : GoodIn wsX2_isInRange (wsV RX2 46 RX2 yX2_target wsX2_target) := goodIn_app (goodIn_of _ (by decide +kernel)) ggX2_isInRange_X2_target
set_option maxRecDepth 20000 in
theorem ggX2_isInRange_X2_number : GoodIn wsX2_isInRange wsX2_number := goodIn_r _ [19, 1, 2, 3, 4, 5, 6, 7, 8, 9, 10, 11, 20, 21, 22, 23] (by decide +kernel) (by decide +kernel)
set_option maxRecDepth 20000 in
theorem gX2_isInRange_X2_number : GoodIn wsX2_isInRange (wsV RX2 49 RX2 yX2_number wsX2_number) := goodIn_app (goodIn_of _ (by decide +kernel)) ggX2_isInRange_X2_number
theorem dX2_isInRange_0 : decode cX2_isInRange 0 = .ok (.aload_n 0, 1) := by decide +kernel
theorem dX2_isInRange_1 : decode cX2_isInRange 1 = .ok (.iload_n 1, 1) := by decide +kernel
theorem dX2_isInRange_2 : decode cX2_isInRange 2 = .ok (.invokevirtual 33, 3) := by decide +kernel
theorem dX2_isInRange_5 : decode cX2_isInRange 5 = .ok (.istore_n 2, 1) := by decide +kernel
theorem dX2_isInRange_6 : decode cX2_isInRange 6 = .ok (.iload_n 2, 1) := by decide +kernel
theorem dX2_isInRange_7 : decode cX2_isInRange 7 = .ok (.bipush 112, 2) := by decide +kernel
theorem dX2_isInRange_9 : decode cX2_isInRange 9 = .ok (.if_icmp .eq 15, 3) := by decide +kernel
theorem dX2_isInRange_12 : decode cX2_isInRange 12 = .ok (.iload_n 2, 1) := by decide +kernel
theorem dX2_isInRange_13 : decode cX2_isInRange 13 = .ok (.bipush 102, 2) := by decide +kernel
theorem dX2_isInRange_15 : decode cX2_isInRange 15 = .ok (.if_icmp .eq 9, 3) := by decide +kernel
theorem dX2_isInRange_18 : decode cX2_isInRange 18 = .ok (.iload_n 2, 1) := by decide +kernel
theorem dX2_isInRange_19 : decode cX2_isInRange 19 = .ok (.bipush 111, 2) := by decide +kernel
theorem dX2_isInRange_21 : decode cX2_isInRange 21 = .ok (.if_icmp .ne 16, 3) := by decide +kernel
theorem dX2_isInRange_24 : decode cX2_isInRange 24 = .ok (.aload_n 0, 1) := by decide +kernel
theorem dX2_isInRange_25 : decode cX2_isInRange 25 = .ok (.iload_n 1, 1) := by decide +kernel
theorem dX2_isInRange_26 : decode cX2_isInRange 26 = .ok (.iconst 1, 1) := by decide +kernel
theorem dX2_isInRange_27 : decode cX2_isInRange 27 = .ok (.iadd, 1) := by decide +kernel
theorem dX2_isInRange_28 : decode cX2_isInRange 28 = .ok (.invokevirtual 61, 3) := by decide +kernel
theorem dX2_isInRange_31 : decode cX2_isInRange 31 = .ok (.iconst 1, 1) := by decide +kernel
theorem dX2_isInRange_32 : decode cX2_isInRange 32 = .ok (.if_icmp .le 5, 3) := by decide +kernel
theorem dX2_isInRange_35 : decode cX2_isInRange 35 = .ok (.iconst 0, 1) := by decide +kernel
theorem dX2_isInRange_36 : decode cX2_isInRange 36 = .ok (.ireturn, 1) := by decide +kernel
theorem dX2_isInRange_37 : decode cX2_isInRange 37 = .ok (.aload_n 0, 1) := by decide +kernel
theorem dX2_isInRange_38 : decode cX2_isInRange 38 = .ok (.iload_n 1, 1) := by decide +kernel
theorem dX2_isInRange_39 : decode cX2_isInRange 39 = .ok (.invokevirtual 46, 3) := by decide +kernel
theorem dX2_isInRange_42 : decode cX2_isInRange 42 = .ok (.istore_n 3, 1) := by decide +kernel
theorem dX2_isInRange_43 : decode cX2_isInRange 43 = .ok (.iload_n 3, 1) := by decide +kernel
theorem dX2_isInRange_44 : decode cX2_isInRange 44 = .ok (.ifCond .lt 11, 3) := by decide +kernel
theorem dX2_isInRange_47 : decode cX2_isInRange 47 = .ok (.iload_n 3, 1) := by decide +kernel
theorem dX2_isInRange_48 : decode cX2_isInRange 48 = .ok (.getstatic 110, 3) := by decide +kernel
theorem dX2_isInRange_51 : decode cX2_isInRange 51 = .ok (.arraylength, 1) := by decide +kernel
theorem dX2_isInRange_52 : decode cX2_isInRange 52 = .ok (.if_icmp .lt 5, 3) := by decide +kernel
theorem dX2_isInRange_55 : decode cX2_isInRange 55 = .ok (.iconst 1, 1) := by decide +kernel
theorem dX2_isInRange_56 : decode cX2_isInRange 56 = .ok (.ireturn, 1) := by decide +kernel
theorem dX2_isInRange_57 : decode cX2_isInRange 57 = .ok (.aload_n 0, 1) := by decide +kernel
theorem dX2_isInRange_58 : decode cX2_isInRange 58 = .ok (.iload_n 1, 1) := by decide +kernel
theorem dX2_isInRange_59 : decode cX2_isInRange 59 = .ok (.invokevirtual 49, 3) := by decide +kernel
theorem dX2_isInRange_62 : decode cX2_isInRange 62 = .ok (.ifCond .lt 20, 3) := by decide +kernel
theorem dX2_isInRange_65 : decode cX2_isInRange 65 = .ok (.aload_n 0, 1) := by decide +kernel
theorem dX2_isInRange_66 : decode cX2_isInRange 66 = .ok (.iload_n 1, 1) := by decide +kernel
theorem dX2_isInRange_67 : decode cX2_isInRange 67 = .ok (.invokevirtual 49, 3) := by decide +kernel
theorem dX2_isInRange_70 : decode cX2_isInRange 70 = .ok (.getstatic 110, 3) := by decide +kernel
theorem dX2_isInRange_73 : decode cX2_isInRange 73 = .ok (.iload_n 3, 1) := by decide +kernel
theorem dX2_isInRange_74 : decode cX2_isInRange 74 = .ok (.iaload, 1) := by decide +kernel
theorem dX2_isInRange_75 : decode cX2_isInRange 75 = .ok (.if_icmp .gt 7, 3) := by decide +kernel
theorem dX2_isInRange_78 : decode cX2_isInRange 78 = .ok (.iconst 1, 1) := by decide +kernel
theorem dX2_isInRange_79 : decode cX2_isInRange 79 = .ok (.goto 4, 3) := by decide +kernel
theorem dX2_isInRange_82 : decode cX2_isInRange 82 = .ok (.iconst 0, 1) := by decide +kernel
theorem dX2_isInRange_83 : decode cX2_isInRange 83 = .ok (.ireturn, 1) := by decide +kernel
set_option maxRecDepth 20000 in
theorem ggX2_target_X2_sign : GoodIn wsX2_target wsX2_sign := goodIn_r _ [5, 6, 7, 12, 13, 14, 15] (by decide +kernel) (by decide +kernel)
set_option maxRecDepth 20000 in
theorem gX2_target_X2_sign : GoodIn wsX2_target (wsV RX2 33 RX2 yX2_sign wsX2_sign) := goodIn_app (goodIn_of _ (by decide +kernel)) ggX2_target_X2_sign
set_option maxRecDepth 20000 in
theorem ggX2_target_X2_digit : GoodIn wsX2_target wsX2_digit := goodIn_r _ [11, 1, 2, 3, 4, 5, 6, 7, 12, 13, 14, 15] (by decide +kernel) (by decide +kernel)
set_option maxRecDepth 20000 in
theorem gX2_target_X2_digit : GoodIn wsX2_target (wsV RX2 61 RX2 yX2_digit wsX2_digit) := goodIn_app (goodIn_of _ (by decide +kernel)) ggX2_target_X2_digit
theorem dX2_target_0 : decode cX2_target 0 = .ok (.aload_n 0, 1) := by decide +kernel
theorem dX2_target_1 : decode cX2_target 1 = .ok (.iload_n 1, 1) := by decide +kernel
theorem dX2_target_2 : decode cX2_target 2 = .ok (.invokevirtual 33, 3) := by decide +kernel
theorem dX2_target_5 : decode cX2_target 5 = .ok (.tableswitch 138 98 119 #[107, 103, 135, 138, 109, 138, 138, 138, 138, 138, 105, 138, 138, 119, 138, 138, 129, 138, 138, 138, 138, 132], 103) := by decide +kernel
theorem dX2_target_108 : decode cX2_target 108 = .ok (.iconst 0, 1) := by decide +kernel
theorem dX2_target_109 : decode cX2_target 109 = .ok (.ireturn, 1) := by decide +kernel
theorem dX2_target_110 : decode cX2_target 110 = .ok (.iconst 1, 1) := by decide +kernel
theorem dX2_target_111 : decode cX2_target 111 = .ok (.ireturn, 1) := by decide +kernel
theorem dX2_target_112 : decode cX2_target 112 = .ok (.iconst 2, 1) := by decide +kernel
theorem dX2_target_113 : decode cX2_target 113 = .ok (.ireturn, 1) := by decide +kernel
theorem dX2_target_114 : decode cX2_target 114 = .ok (.iconst 3, 1) := by decide +kernel
theorem dX2_target_115 : decode cX2_target 115 = .ok (.aload_n 0, 1) := by decide +kernel
theorem dX2_target_116 : decode cX2_target 116 = .ok (.iload_n 1, 1) := by decide +kernel
theorem dX2_target_117 : decode cX2_target 117 = .ok (.iconst 1, 1) := by decide +kernel
theorem dX2_target_118 : decode cX2_target 118 = .ok (.iadd, 1) := by decide +kernel
theorem dX2_target_119 : decode cX2_target 119 = .ok (.invokevirtual 61, 3) := by decide +kernel
theorem dX2_target_122 : decode cX2_target 122 = .ok (.iadd, 1) := by decide +kernel
theorem dX2_target_123 : decode cX2_target 123 = .ok (.ireturn, 1) := by decide +kernel
theorem dX2_target_124 : decode cX2_target 124 = .ok (.iconst 5, 1) := by decide +kernel
theorem dX2_target_125 : decode cX2_target 125 = .ok (.aload_n 0, 1) := by decide +kernel
theorem dX2_target_126 : decode cX2_target 126 = .ok (.iload_n 1, 1) := by decide +kernel
theorem dX2_target_127 : decode cX2_target 127 = .ok (.iconst 1, 1) := by decide +kernel
theorem dX2_target_128 : decode cX2_target 128 = .ok (.iadd, 1) := by decide +kernel
theorem dX2_target_129 : decode cX2_target 129 = .ok (.invokevirtual 61, 3) := by decide +kernel
theorem dX2_target_132 : decode cX2_target 132 = .ok (.iadd, 1) := by decide +kernel
theorem dX2_target_133 : decode cX2_target 133 = .ok (.ireturn, 1) := by decide +kernel
theorem dX2_target_134 : decode cX2_target 134 = .ok (.bipush 7, 2) := by decide +kernel
theorem dX2_target_136 : decode cX2_target 136 = .ok (.ireturn, 1) := by decide +kernel
theorem dX2_target_137 : decode cX2_target 137 = .ok (.bipush 8, 2) := by decide +kernel
theorem dX2_target_139 : decode cX2_target 139 = .ok (.ireturn, 1) := by decide +kernel
theorem dX2_target_140 : decode cX2_target 140 = .ok (.bipush 9, 2) := by decide +kernel
theorem dX2_target_142 : decode cX2_target 142 = .ok (.ireturn, 1) := by decide +kernel
theorem dX2_target_143 : decode cX2_target 143 = .ok (.iconst (-1), 1) := by decide +kernel
theorem dX2_target_144 : decode cX2_target 144 = .ok (.ireturn, 1) := by decide +kernel
set_option maxRecDepth 20000 in
theorem ggX2_number_X2_sign : GoodIn wsX2_number wsX2_sign := goodIn_r _ [5, 6, 7, 12, 13, 14, 15] (by decide +kernel) (by decide +kernel)
set_option maxRecDepth 20000 in
theorem gX2_number_X2_sign : GoodIn wsX2_number (wsV RX2 33 RX2 yX2_sign wsX2_sign) := goodIn_app (goodIn_of _ (by decide +kernel)) ggX2_number_X2_sign
set_option maxRecDepth 20000 in
theorem ggX2_number_X2_digit : GoodIn wsX2_number wsX2_digit := goodIn_r _ [11, 1, 2, 3, 4, 5, 6, 7, 12, 13, 14, 15] (by decide +kernel) (by decide +kernel)
set_option maxRecDepth 20000 in
theorem gX2_number_X2_digit : GoodIn wsX2_number (wsV RX2 61 RX2 yX2_digit wsX2_digit) := goodIn_app (goodIn_of _ (by decide +kernel)) ggX2_number_X2_digit
theorem dX2_number_0 : decode cX2_number 0 = .ok (.aload_n 0, 1) := by decide +kernel
theorem dX2_number_1 : decode cX2_number 1 = .ok (.iload_n 1, 1) := by decide +kernel
theorem dX2_number_2 : decode cX2_number 2 = .ok (.invokevirtual 33, 3) := by decide +kernel
theorem dX2_number_5 : decode cX2_number 5 = .ok (.lookupswitch 104 #[(99, 43), (102, 96), (108, 62), (111, 96)], 43) := by decide +kernel
theorem dX2_number_48 : decode cX2_number 48 = .ok (.aload_n 0, 1) := by decide +kernel
theorem dX2_number_49 : decode cX2_number 49 = .ok (.iload_n 1, 1) := by decide +kernel
theorem dX2_number_50 : decode cX2_number 50 = .ok (.iconst 1, 1) := by decide +kernel
theorem dX2_number_51 : decode cX2_number 51 = .ok (.iadd, 1) := by decide +kernel
theorem dX2_number_52 : decode cX2_number 52 = .ok (.invokevirtual 61, 3) := by decide +kernel
theorem dX2_number_55 : decode cX2_number 55 = .ok (.bipush 10, 2) := by decide +kernel
theorem dX2_number_57 : decode cX2_number 57 = .ok (.imul, 1) := by decide +kernel
theorem dX2_number_58 : decode cX2_number 58 = .ok (.aload_n 0, 1) := by decide +kernel
theorem dX2_number_59 : decode cX2_number 59 = .ok (.iload_n 1, 1) := by decide +kernel
theorem dX2_number_60 : decode cX2_number 60 = .ok (.iconst 2, 1) := by decide +kernel
theorem dX2_number_61 : decode cX2_number 61 = .ok (.iadd, 1) := by decide +kernel
theorem dX2_number_62 : decode cX2_number 62 = .ok (.invokevirtual 61, 3) := by decide +kernel
theorem dX2_number_65 : decode cX2_number 65 = .ok (.iadd, 1) := by decide +kernel
theorem dX2_number_66 : decode cX2_number 66 = .ok (.ireturn, 1) := by decide +kernel
theorem dX2_number_67 : decode cX2_number 67 = .ok (.bipush 6, 2) := by decide +kernel
theorem dX2_number_69 : decode cX2_number 69 = .ok (.aload_n 0, 1) := by decide +kernel
theorem dX2_number_70 : decode cX2_number 70 = .ok (.iload_n 1, 1) := by decide +kernel
theorem dX2_number_71 : decode cX2_number 71 = .ok (.iconst 1, 1) := by decide +kernel
theorem dX2_number_72 : decode cX2_number 72 = .ok (.iadd, 1) := by decide +kernel
theorem dX2_number_73 : decode cX2_number 73 = .ok (.invokevirtual 33, 3) := by decide +kernel
theorem dX2_number_76 : decode cX2_number 76 = .ok (.bipush 43, 2) := by decide +kernel
theorem dX2_number_78 : decode cX2_number 78 = .ok (.if_icmp .ne 13, 3) := by decide +kernel
theorem dX2_number_81 : decode cX2_number 81 = .ok (.aload_n 0, 1) := by decide +kernel
theorem dX2_number_82 : decode cX2_number 82 = .ok (.iload_n 1, 1) := by decide +kernel
theorem dX2_number_83 : decode cX2_number 83 = .ok (.iconst 2, 1) := by decide +kernel
theorem dX2_number_84 : decode cX2_number 84 = .ok (.iadd, 1) := by decide +kernel
theorem dX2_number_85 : decode cX2_number 85 = .ok (.invokevirtual 61, 3) := by decide +kernel
theorem dX2_number_88 : decode cX2_number 88 = .ok (.goto 11, 3) := by decide +kernel
theorem dX2_number_91 : decode cX2_number 91 = .ok (.aload_n 0, 1) := by decide +kernel
theorem dX2_number_92 : decode cX2_number 92 = .ok (.iload_n 1, 1) := by decide +kernel
theorem dX2_number_93 : decode cX2_number 93 = .ok (.iconst 2, 1) := by decide +kernel
theorem dX2_number_94 : decode cX2_number 94 = .ok (.iadd, 1) := by decide +kernel
theorem dX2_number_95 : decode cX2_number 95 = .ok (.invokevirtual 61, 3) := by decide +kernel
theorem dX2_number_98 : decode cX2_number 98 = .ok (.ineg, 1) := by decide +kernel
theorem dX2_number_99 : decode cX2_number 99 = .ok (.iadd, 1) := by decide +kernel
theorem dX2_number_100 : decode cX2_number 100 = .ok (.ireturn, 1) := by decide +kernel
theorem dX2_number_101 : decode cX2_number 101 = .ok (.aload_n 0, 1) := by decide +kernel
theorem dX2_number_102 : decode cX2_number 102 = .ok (.iload_n 1, 1) := by decide +kernel
theorem dX2_number_103 : decode cX2_number 103 = .ok (.iconst 2, 1) := by decide +kernel
theorem dX2_number_104 : decode cX2_number 104 = .ok (.iadd, 1) := by decide +kernel
theorem dX2_number_105 : decode cX2_number 105 = .ok (.invokevirtual 61, 3) := by decide +kernel
theorem dX2_number_108 : decode cX2_number 108 = .ok (.ireturn, 1) := by decide +kernel
theorem dX2_number_109 : decode cX2_number 109 = .ok (.aload_n 0, 1) := by decide +kernel
theorem dX2_number_110 : decode cX2_number 110 = .ok (.iload_n 1, 1) := by decide +kernel
theorem dX2_number_111 : decode cX2_number 111 = .ok (.iconst 1, 1) := by decide +kernel
theorem dX2_number_112 : decode cX2_number 112 = .ok (.iadd, 1) := by decide +kernel
theorem dX2_number_113 : decode cX2_number 113 = .ok (.invokevirtual 61, 3) := by decide +kernel
theorem dX2_number_116 : decode cX2_number 116 = .ok (.ireturn, 1) := by decide +kernel
theorem dX3_init_0 : decode cX3_init 0 = .ok (.aload_n 0, 1) := by decide +kernel
theorem dX3_init_1 : decode cX3_init 1 = .ok (.invokespecial 3, 3) := by decide +kernel
theorem dX3_init_4 : decode cX3_init 4 = .ok (.aload_n 0, 1) := by decide +kernel
theorem dX3_init_5 : decode cX3_init 5 = .ok (.bipush 30, 2) := by decide +kernel
theorem dX3_init_7 : decode cX3_init 7 = .ok (.newarray .int, 2) := by decide +kernel
theorem dX3_init_9 : decode cX3_init 9 = .ok (.putfield 9, 3) := by decide +kernel
theorem dX3_init_12 : decode cX3_init 12 = .ok (.aload_n 0, 1) := by decide +kernel
theorem dX3_init_13 : decode cX3_init 13 = .ok (.iconst 0, 1) := by decide +kernel
theorem dX3_init_14 : decode cX3_init 14 = .ok (.putfield 15, 3) := by decide +kernel
theorem dX3_init_17 : decode cX3_init 17 = .ok (.return_, 1) := by decide +kernel
theorem dX3_players_0 : decode cX3_players 0 = .ok (.aload_n 0, 1) := by decide +kernel
theorem dX3_players_1 : decode cX3_players 1 = .ok (.getfield 15, 3) := by decide +kernel
theorem dX3_players_4 : decode cX3_players 4 = .ok (.ireturn, 1) := by decide +kernel
theorem dX3_has_0 : decode cX3_has 0 = .ok (.iload_n 1, 1) := by decide +kernel
theorem dX3_has_1 : decode cX3_has 1 = .ok (.ifCond .lt 15, 3) := by decide +kernel
theorem dX3_has_4 : decode cX3_has 4 = .ok (.iload_n 1, 1) := by decide +kernel
theorem dX3_has_5 : decode cX3_has 5 = .ok (.aload_n 0, 1) := by decide +kernel
theorem dX3_has_6 : decode cX3_has 6 = .ok (.getfield 15, 3) := by decide +kernel
theorem dX3_has_9 : decode cX3_has 9 = .ok (.if_icmp .ge 7, 3) := by decide +kernel
theorem dX3_has_12 : decode cX3_has 12 = .ok (.iconst 1, 1) := by decide +kernel
theorem dX3_has_13 : decode cX3_has 13 = .ok (.goto 4, 3) := by decide +kernel
theorem dX3_has_16 : decode cX3_has 16 = .ok (.iconst 0, 1) := by decide +kernel
theorem dX3_has_17 : decode cX3_has 17 = .ok (.ireturn, 1) := by decide +kernel
set_option maxRecDepth 20000 in
theorem ggX3_ofSide_X3_fact : GoodIn wsX3_ofSide wsX3_fact := goodIn_r _ [6, 7, 8, 9] (by decide +kernel) (by decide +kernel)
set_option maxRecDepth 20000 in
theorem gX3_ofSide_X3_fact : GoodIn wsX3_ofSide (wsV RX3 19 RX3 yX3_fact wsX3_fact) := goodIn_app (goodIn_of _ (by decide +kernel)) ggX3_ofSide_X3_fact
theorem dX3_ofSide_0 : decode cX3_ofSide 0 = .ok (.iconst 0, 1) := by decide +kernel
theorem dX3_ofSide_1 : decode cX3_ofSide 1 = .ok (.istore_n 2, 1) := by decide +kernel
theorem dX3_ofSide_2 : decode cX3_ofSide 2 = .ok (.iconst 0, 1) := by decide +kernel
theorem dX3_ofSide_3 : decode cX3_ofSide 3 = .ok (.istore_n 3, 1) := by decide +kernel
theorem dX3_ofSide_4 : decode cX3_ofSide 4 = .ok (.iload_n 3, 1) := by decide +kernel
theorem dX3_ofSide_5 : decode cX3_ofSide 5 = .ok (.aload_n 0, 1) := by decide +kernel
theorem dX3_ofSide_6 : decode cX3_ofSide 6 = .ok (.getfield 15, 3) := by decide +kernel
theorem dX3_ofSide_9 : decode cX3_ofSide 9 = .ok (.if_icmp .ge 27, 3) := by decide +kernel
theorem dX3_ofSide_12 : decode cX3_ofSide 12 = .ok (.iload_n 2, 1) := by decide +kernel
theorem dX3_ofSide_13 : decode cX3_ofSide 13 = .ok (.aload_n 0, 1) := by decide +kernel
theorem dX3_ofSide_14 : decode cX3_ofSide 14 = .ok (.iload_n 3, 1) := by decide +kernel
theorem dX3_ofSide_15 : decode cX3_ofSide 15 = .ok (.iconst 0, 1) := by decide +kernel
theorem dX3_ofSide_16 : decode cX3_ofSide 16 = .ok (.invokevirtual 19, 3) := by decide +kernel
theorem dX3_ofSide_19 : decode cX3_ofSide 19 = .ok (.iload_n 1, 1) := by decide +kernel
theorem dX3_ofSide_20 : decode cX3_ofSide 20 = .ok (.if_icmp .ne 7, 3) := by decide +kernel
theorem dX3_ofSide_23 : decode cX3_ofSide 23 = .ok (.iconst 1, 1) := by decide +kernel
theorem dX3_ofSide_24 : decode cX3_ofSide 24 = .ok (.goto 4, 3) := by decide +kernel
theorem dX3_ofSide_27 : decode cX3_ofSide 27 = .ok (.iconst 0, 1) := by decide +kernel
theorem dX3_ofSide_28 : decode cX3_ofSide 28 = .ok (.iadd, 1) := by decide +kernel
theorem dX3_ofSide_29 : decode cX3_ofSide 29 = .ok (.istore_n 2, 1) := by decide +kernel
theorem dX3_ofSide_30 : decode cX3_ofSide 30 = .ok (.iinc 3 1, 3) := by decide +kernel
theorem dX3_ofSide_33 : decode cX3_ofSide 33 = .ok (.goto (-29), 3) := by decide +kernel
theorem dX3_ofSide_36 : decode cX3_ofSide 36 = .ok (.iload_n 2, 1) := by decide +kernel
theorem dX3_ofSide_37 : decode cX3_ofSide 37 = .ok (.ireturn, 1) := by decide +kernel
theorem dX3_fact_0 : decode cX3_fact 0 = .ok (.iload_n 1, 1) := by decide +kernel
theorem dX3_fact_1 : decode cX3_fact 1 = .ok (.iconst 5, 1) := by decide +kernel
theorem dX3_fact_2 : decode cX3_fact 2 = .ok (.imul, 1) := by decide +kernel
theorem dX3_fact_3 : decode cX3_fact 3 = .ok (.iload_n 2, 1) := by decide +kernel
theorem dX3_fact_4 : decode cX3_fact 4 = .ok (.iadd, 1) := by decide +kernel
theorem dX3_fact_5 : decode cX3_fact 5 = .ok (.istore_n 3, 1) := by decide +kernel
theorem dX3_fact_6 : decode cX3_fact 6 = .ok (.iload_n 3, 1) := by decide +kernel
theorem dX3_fact_7 : decode cX3_fact 7 = .ok (.ifCond .lt 12, 3) := by decide +kernel
theorem dX3_fact_10 : decode cX3_fact 10 = .ok (.iload_n 3, 1) := by decide +kernel
theorem dX3_fact_11 : decode cX3_fact 11 = .ok (.aload_n 0, 1) := by decide +kernel
theorem dX3_fact_12 : decode cX3_fact 12 = .ok (.getfield 9, 3) := by decide +kernel
theorem dX3_fact_15 : decode cX3_fact 15 = .ok (.arraylength, 1) := by decide +kernel
theorem dX3_fact_16 : decode cX3_fact 16 = .ok (.if_icmp .lt 7, 3) := by decide +kernel
theorem dX3_fact_19 : decode cX3_fact 19 = .ok (.iconst 0, 1) := by decide +kernel
theorem dX3_fact_20 : decode cX3_fact 20 = .ok (.goto 9, 3) := by decide +kernel
theorem dX3_fact_23 : decode cX3_fact 23 = .ok (.aload_n 0, 1) := by decide +kernel
theorem dX3_fact_24 : decode cX3_fact 24 = .ok (.getfield 9, 3) := by decide +kernel
theorem dX3_fact_27 : decode cX3_fact 27 = .ok (.iload_n 3, 1) := by decide +kernel
theorem dX3_fact_28 : decode cX3_fact 28 = .ok (.iaload, 1) := by decide +kernel
theorem dX3_fact_29 : decode cX3_fact 29 = .ok (.ireturn, 1) := by decide +kernel
theorem dX3_change_0 : decode cX3_change 0 = .ok (.iload_n 1, 1) := by decide +kernel
theorem dX3_change_1 : decode cX3_change 1 = .ok (.iconst 5, 1) := by decide +kernel
theorem dX3_change_2 : decode cX3_change 2 = .ok (.imul, 1) := by decide +kernel
theorem dX3_change_3 : decode cX3_change 3 = .ok (.iload_n 2, 1) := by decide +kernel
theorem dX3_change_4 : decode cX3_change 4 = .ok (.iadd, 1) := by decide +kernel
theorem dX3_change_5 : decode cX3_change 5 = .ok (.istore 4, 2) := by decide +kernel
theorem dX3_change_7 : decode cX3_change 7 = .ok (.iload 4, 2) := by decide +kernel
theorem dX3_change_9 : decode cX3_change 9 = .ok (.ifCond .lt 21, 3) := by decide +kernel
theorem dX3_change_12 : decode cX3_change 12 = .ok (.iload 4, 2) := by decide +kernel
theorem dX3_change_14 : decode cX3_change 14 = .ok (.aload_n 0, 1) := by decide +kernel
theorem dX3_change_15 : decode cX3_change 15 = .ok (.getfield 9, 3) := by decide +kernel
theorem dX3_change_18 : decode cX3_change 18 = .ok (.arraylength, 1) := by decide +kernel
theorem dX3_change_19 : decode cX3_change 19 = .ok (.if_icmp .ge 11, 3) := by decide +kernel
theorem dX3_change_22 : decode cX3_change 22 = .ok (.aload_n 0, 1) := by decide +kernel
theorem dX3_change_23 : decode cX3_change 23 = .ok (.getfield 9, 3) := by decide +kernel
theorem dX3_change_26 : decode cX3_change 26 = .ok (.iload 4, 2) := by decide +kernel
theorem dX3_change_28 : decode cX3_change 28 = .ok (.iload_n 3, 1) := by decide +kernel
theorem dX3_change_29 : decode cX3_change 29 = .ok (.iastore, 1) := by decide +kernel
theorem dX3_change_30 : decode cX3_change 30 = .ok (.return_, 1) := by decide +kernel
theorem dX3_add_0 : decode cX3_add 0 = .ok (.aload_n 0, 1) := by decide +kernel
theorem dX3_add_1 : decode cX3_add 1 = .ok (.aload_n 0, 1) := by decide +kernel
theorem dX3_add_2 : decode cX3_add 2 = .ok (.getfield 15, 3) := by decide +kernel
theorem dX3_add_5 : decode cX3_add 5 = .ok (.iconst 1, 1) := by decide +kernel
theorem dX3_add_6 : decode cX3_add 6 = .ok (.iadd, 1) := by decide +kernel
theorem dX3_add_7 : decode cX3_add 7 = .ok (.bipush 6, 2) := by decide +kernel
theorem dX3_add_9 : decode cX3_add 9 = .ok (.invokestatic 23, 3) := by decide +kernel
theorem dX3_add_12 : decode cX3_add 12 = .ok (.putfield 15, 3) := by decide +kernel
theorem dX3_add_15 : decode cX3_add 15 = .ok (.aload_n 0, 1) := by decide +kernel
theorem dX3_add_16 : decode cX3_add 16 = .ok (.getfield 15, 3) := by decide +kernel
theorem dX3_add_19 : decode cX3_add 19 = .ok (.iconst 1, 1) := by decide +kernel
theorem dX3_add_20 : decode cX3_add 20 = .ok (.isub, 1) := by decide +kernel
theorem dX3_add_21 : decode cX3_add 21 = .ok (.ireturn, 1) := by decide +kernel
theorem dX3_copy_0 : decode cX3_copy 0 = .ok (.aload_n 0, 1) := by decide +kernel
theorem dX3_copy_1 : decode cX3_copy 1 = .ok (.aload_n 1, 1) := by decide +kernel
theorem dX3_copy_2 : decode cX3_copy 2 = .ok (.getfield 15, 3) := by decide +kernel
theorem dX3_copy_5 : decode cX3_copy 5 = .ok (.putfield 15, 3) := by decide +kernel
theorem dX3_copy_8 : decode cX3_copy 8 = .ok (.aload_n 1, 1) := by decide +kernel
theorem dX3_copy_9 : decode cX3_copy 9 = .ok (.getfield 9, 3) := by decide +kernel
theorem dX3_copy_12 : decode cX3_copy 12 = .ok (.iconst 0, 1) := by decide +kernel
theorem dX3_copy_13 : decode cX3_copy 13 = .ok (.aload_n 0, 1) := by decide +kernel
theorem dX3_copy_14 : decode cX3_copy 14 = .ok (.getfield 9, 3) := by decide +kernel
theorem dX3_copy_17 : decode cX3_copy 17 = .ok (.iconst 0, 1) := by decide +kernel
theorem dX3_copy_18 : decode cX3_copy 18 = .ok (.aload_n 0, 1) := by decide +kernel
theorem dX3_copy_19 : decode cX3_copy 19 = .ok (.getfield 9, 3) := by decide +kernel
theorem dX3_copy_22 : decode cX3_copy 22 = .ok (.arraylength, 1) := by decide +kernel
theorem dX3_copy_23 : decode cX3_copy 23 = .ok (.invokestatic 28, 3) := by decide +kernel
theorem dX3_copy_26 : decode cX3_copy 26 = .ok (.return_, 1) := by decide +kernel
set_option maxRecDepth 20000 in
theorem ggX3_tenths_X3_fact : GoodIn wsX3_tenths wsX3_fact := goodIn_r _ [12, 13, 14, 15] (by decide +kernel) (by decide +kernel)
set_option maxRecDepth 20000 in
theorem gX3_tenths_X3_fact : GoodIn wsX3_tenths (wsV RX3 19 RX3 yX3_fact wsX3_fact) := goodIn_app (goodIn_of _ (by decide +kernel)) ggX3_tenths_X3_fact
theorem dX3_tenths_0 : decode cX3_tenths 0 = .ok (.aload_n 0, 1) := by decide +kernel
theorem dX3_tenths_1 : decode cX3_tenths 1 = .ok (.iload_n 1, 1) := by decide +kernel
theorem dX3_tenths_2 : decode cX3_tenths 2 = .ok (.iconst 2, 1) := by decide +kernel
theorem dX3_tenths_3 : decode cX3_tenths 3 = .ok (.iload_n 2, 1) := by decide +kernel
theorem dX3_tenths_4 : decode cX3_tenths 4 = .ok (.iadd, 1) := by decide +kernel
theorem dX3_tenths_5 : decode cX3_tenths 5 = .ok (.invokevirtual 19, 3) := by decide +kernel
theorem dX3_tenths_8 : decode cX3_tenths 8 = .ok (.istore 4, 2) := by decide +kernel
theorem dX3_tenths_10 : decode cX3_tenths 10 = .ok (.iload 4, 2) := by decide +kernel
theorem dX3_tenths_12 : decode cX3_tenths 12 = .ok (.iconst 1, 1) := by decide +kernel
theorem dX3_tenths_13 : decode cX3_tenths 13 = .ok (.iadd, 1) := by decide +kernel
theorem dX3_tenths_14 : decode cX3_tenths 14 = .ok (.bipush 9, 2) := by decide +kernel
theorem dX3_tenths_16 : decode cX3_tenths 16 = .ok (.invokestatic 23, 3) := by decide +kernel
theorem dX3_tenths_19 : decode cX3_tenths 19 = .ok (.istore 5, 2) := by decide +kernel
theorem dX3_tenths_21 : decode cX3_tenths 21 = .ok (.iload 4, 2) := by decide +kernel
theorem dX3_tenths_23 : decode cX3_tenths 23 = .ok (.iconst 1, 1) := by decide +kernel
theorem dX3_tenths_24 : decode cX3_tenths 24 = .ok (.isub, 1) := by decide +kernel
theorem dX3_tenths_25 : decode cX3_tenths 25 = .ok (.iconst 0, 1) := by decide +kernel
theorem dX3_tenths_26 : decode cX3_tenths 26 = .ok (.invokestatic 34, 3) := by decide +kernel
theorem dX3_tenths_29 : decode cX3_tenths 29 = .ok (.istore 6, 2) := by decide +kernel
theorem dX3_tenths_31 : decode cX3_tenths 31 = .ok (.aload_n 0, 1) := by decide +kernel
theorem dX3_tenths_32 : decode cX3_tenths 32 = .ok (.iload_n 1, 1) := by decide +kernel
theorem dX3_tenths_33 : decode cX3_tenths 33 = .ok (.iconst 1, 1) := by decide +kernel
theorem dX3_tenths_34 : decode cX3_tenths 34 = .ok (.invokevirtual 19, 3) := by decide +kernel
theorem dX3_tenths_37 : decode cX3_tenths 37 = .ok (.tableswitch 107 1 5 #[35, 38, 41, 69, 83], 35) := by decide +kernel
theorem dX3_tenths_72 : decode cX3_tenths 72 = .ok (.iload 5, 2) := by decide +kernel
theorem dX3_tenths_74 : decode cX3_tenths 74 = .ok (.ireturn, 1) := by decide +kernel
theorem dX3_tenths_75 : decode cX3_tenths 75 = .ok (.iload 6, 2) := by decide +kernel
theorem dX3_tenths_77 : decode cX3_tenths 77 = .ok (.ireturn, 1) := by decide +kernel
theorem dX3_tenths_78 : decode cX3_tenths 78 = .ok (.iload_n 2, 1) := by decide +kernel
theorem dX3_tenths_79 : decode cX3_tenths 79 = .ok (.ifCond .ne 15, 3) := by decide +kernel
theorem dX3_tenths_82 : decode cX3_tenths 82 = .ok (.iload 4, 2) := by decide +kernel
theorem dX3_tenths_84 : decode cX3_tenths 84 = .ok (.iconst 2, 1) := by decide +kernel
theorem dX3_tenths_85 : decode cX3_tenths 85 = .ok (.iadd, 1) := by decide +kernel
theorem dX3_tenths_86 : decode cX3_tenths 86 = .ok (.bipush 9, 2) := by decide +kernel
theorem dX3_tenths_88 : decode cX3_tenths 88 = .ok (.invokestatic 23, 3) := by decide +kernel
theorem dX3_tenths_91 : decode cX3_tenths 91 = .ok (.goto 14, 3) := by decide +kernel
theorem dX3_tenths_94 : decode cX3_tenths 94 = .ok (.iload_n 2, 1) := by decide +kernel
theorem dX3_tenths_95 : decode cX3_tenths 95 = .ok (.iconst 1, 1) := by decide +kernel
theorem dX3_tenths_96 : decode cX3_tenths 96 = .ok (.if_icmp .ne 7, 3) := by decide +kernel
theorem dX3_tenths_99 : decode cX3_tenths 99 = .ok (.iconst 0, 1) := by decide +kernel
theorem dX3_tenths_100 : decode cX3_tenths 100 = .ok (.goto 5, 3) := by decide +kernel
theorem dX3_tenths_103 : decode cX3_tenths 103 = .ok (.iload 4, 2) := by decide +kernel
theorem dX3_tenths_105 : decode cX3_tenths 105 = .ok (.ireturn, 1) := by decide +kernel
theorem dX3_tenths_106 : decode cX3_tenths 106 = .ok (.iload_n 3, 1) := by decide +kernel
theorem dX3_tenths_107 : decode cX3_tenths 107 = .ok (.bipush 9, 2) := by decide +kernel
theorem dX3_tenths_109 : decode cX3_tenths 109 = .ok (.if_icmp .le 8, 3) := by decide +kernel
theorem dX3_tenths_112 : decode cX3_tenths 112 = .ok (.iload 4, 2) := by decide +kernel
theorem dX3_tenths_114 : decode cX3_tenths 114 = .ok (.goto 5, 3) := by decide +kernel
theorem dX3_tenths_117 : decode cX3_tenths 117 = .ok (.iload 6, 2) := by decide +kernel
theorem dX3_tenths_119 : decode cX3_tenths 119 = .ok (.ireturn, 1) := by decide +kernel
theorem dX3_tenths_120 : decode cX3_tenths 120 = .ok (.iload_n 2, 1) := by decide +kernel
theorem dX3_tenths_121 : decode cX3_tenths 121 = .ok (.ifCond .ne 8, 3) := by decide +kernel
theorem dX3_tenths_124 : decode cX3_tenths 124 = .ok (.iload 5, 2) := by decide +kernel
theorem dX3_tenths_126 : decode cX3_tenths 126 = .ok (.goto 17, 3) := by decide +kernel
theorem dX3_tenths_129 : decode cX3_tenths 129 = .ok (.iload_n 2, 1) := by decide +kernel
theorem dX3_tenths_130 : decode cX3_tenths 130 = .ok (.iconst 1, 1) := by decide +kernel
theorem dX3_tenths_131 : decode cX3_tenths 131 = .ok (.if_icmp .ne 10, 3) := by decide +kernel
theorem dX3_tenths_134 : decode cX3_tenths 134 = .ok (.iload 5, 2) := by decide +kernel
theorem dX3_tenths_136 : decode cX3_tenths 136 = .ok (.iconst 2, 1) := by decide +kernel
theorem dX3_tenths_137 : decode cX3_tenths 137 = .ok (.idiv, 1) := by decide +kernel
theorem dX3_tenths_138 : decode cX3_tenths 138 = .ok (.goto 5, 3) := by decide +kernel
theorem dX3_tenths_141 : decode cX3_tenths 141 = .ok (.iload 4, 2) := by decide +kernel
theorem dX3_tenths_143 : decode cX3_tenths 143 = .ok (.ireturn, 1) := by decide +kernel
theorem dX3_tenths_144 : decode cX3_tenths 144 = .ok (.iload 4, 2) := by decide +kernel
theorem dX3_tenths_146 : decode cX3_tenths 146 = .ok (.ireturn, 1) := by decide +kernel
set_option maxRecDepth 20000 in
theorem ggX4_init_X0_init : GoodIn wsX4_init wsX0_init := goodIn_r _ [25, 26, 2, 3, 14, 27, 28, 29, 30, 31, 32, 33, 34, 35, 36, 59, 60, 86, 87] (by decide +kernel) (by decide +kernel)
set_option maxRecDepth 20000 in
theorem gX4_init_X0_init_n9 : GoodIn wsX4_init (wsX0_init) := ggX4_init_X0_init
set_option maxRecDepth 20000 in
theorem ggX4_init_X2_init : GoodIn wsX4_init wsX2_init := goodIn_r _ [38, 39, 2, 3, 14, 40, 41, 42, 43, 71, 72, 73, 74] (by decide +kernel) (by decide +kernel)
set_option maxRecDepth 20000 in
theorem gX4_init_X2_init_n25 : GoodIn wsX4_init (wsX2_init) := ggX4_init_X2_init
set_option maxRecDepth 20000 in
theorem ggX4_init_X1_init : GoodIn wsX4_init wsX1_init := goodIn_r _ [45, 46, 2, 3, 47, 29, 30, 48, 14, 49, 50, 51, 52, 53, 54, 55, 56, 57, 58, 32, 33, 34, 35, 36, 86, 87, 75, 76, 77, 78, 79, 80, 81, 82, 83, 84, 85] (by decide +kernel) (by decide +kernel)
set_option maxRecDepth 20000 in
theorem gX4_init_X1_init_n43 : GoodIn wsX4_init (wsX1_init) := ggX4_init_X1_init
theorem dX4_init_0 : decode cX4_init 0 = .ok (.aload_n 0, 1) := by decide +kernel
theorem dX4_init_1 : decode cX4_init 1 = .ok (.invokespecial 1, 3) := by decide +kernel
theorem dX4_init_4 : decode cX4_init 4 = .ok (.aload_n 0, 1) := by decide +kernel
theorem dX4_init_5 : decode cX4_init 5 = .ok (.new 7, 3) := by decide +kernel
theorem dX4_init_8 : decode cX4_init 8 = .ok (.dup, 1) := by decide +kernel
theorem dX4_init_9 : decode cX4_init 9 = .ok (.invokespecial 9, 3) := by decide +kernel
theorem dX4_init_12 : decode cX4_init 12 = .ok (.putfield 10, 3) := by decide +kernel
theorem dX4_init_15 : decode cX4_init 15 = .ok (.aload_n 0, 1) := by decide +kernel
theorem dX4_init_16 : decode cX4_init 16 = .ok (.new 7, 3) := by decide +kernel
theorem dX4_init_19 : decode cX4_init 19 = .ok (.dup, 1) := by decide +kernel
theorem dX4_init_20 : decode cX4_init 20 = .ok (.invokespecial 9, 3) := by decide +kernel
theorem dX4_init_23 : decode cX4_init 23 = .ok (.putfield 16, 3) := by decide +kernel
theorem dX4_init_26 : decode cX4_init 26 = .ok (.aload_n 0, 1) := by decide +kernel
theorem dX4_init_27 : decode cX4_init 27 = .ok (.iconst 0, 1) := by decide +kernel
theorem dX4_init_28 : decode cX4_init 28 = .ok (.putfield 19, 3) := by decide +kernel
theorem dX4_init_31 : decode cX4_init 31 = .ok (.aload_n 0, 1) := by decide +kernel
theorem dX4_init_32 : decode cX4_init 32 = .ok (.new 23, 3) := by decide +kernel
theorem dX4_init_35 : decode cX4_init 35 = .ok (.dup, 1) := by decide +kernel
theorem dX4_init_36 : decode cX4_init 36 = .ok (.invokespecial 25, 3) := by decide +kernel
theorem dX4_init_39 : decode cX4_init 39 = .ok (.putfield 26, 3) := by decide +kernel
theorem dX4_init_42 : decode cX4_init 42 = .ok (.aload_n 0, 1) := by decide +kernel
theorem dX4_init_43 : decode cX4_init 43 = .ok (.bipush 20, 2) := by decide +kernel
theorem dX4_init_45 : decode cX4_init 45 = .ok (.newarray .int, 2) := by decide +kernel
theorem dX4_init_47 : decode cX4_init 47 = .ok (.putfield 30, 3) := by decide +kernel
theorem dX4_init_50 : decode cX4_init 50 = .ok (.aload_n 0, 1) := by decide +kernel
theorem dX4_init_51 : decode cX4_init 51 = .ok (.iconst 0, 1) := by decide +kernel
theorem dX4_init_52 : decode cX4_init 52 = .ok (.putfield 34, 3) := by decide +kernel
theorem dX4_init_55 : decode cX4_init 55 = .ok (.aload_n 0, 1) := by decide +kernel
theorem dX4_init_56 : decode cX4_init 56 = .ok (.bipush 7, 2) := by decide +kernel
theorem dX4_init_58 : decode cX4_init 58 = .ok (.newarray .int, 2) := by decide +kernel
theorem dX4_init_60 : decode cX4_init 60 = .ok (.putfield 38, 3) := by decide +kernel
theorem dX4_init_63 : decode cX4_init 63 = .ok (.aload_n 0, 1) := by decide +kernel
theorem dX4_init_64 : decode cX4_init 64 = .ok (.new 41, 3) := by decide +kernel
theorem dX4_init_67 : decode cX4_init 67 = .ok (.dup, 1) := by decide +kernel
theorem dX4_init_68 : decode cX4_init 68 = .ok (.invokespecial 43, 3) := by decide +kernel
theorem dX4_init_71 : decode cX4_init 71 = .ok (.putfield 44, 3) := by decide +kernel
theorem dX4_init_74 : decode cX4_init 74 = .ok (.aload_n 0, 1) := by decide +kernel
theorem dX4_init_75 : decode cX4_init 75 = .ok (.new 41, 3) := by decide +kernel
theorem dX4_init_78 : decode cX4_init 78 = .ok (.dup, 1) := by decide +kernel
theorem dX4_init_79 : decode cX4_init 79 = .ok (.invokespecial 43, 3) := by decide +kernel
theorem dX4_init_82 : decode cX4_init 82 = .ok (.putfield 48, 3) := by decide +kernel
theorem dX4_init_85 : decode cX4_init 85 = .ok (.aload_n 0, 1) := by decide +kernel
theorem dX4_init_86 : decode cX4_init 86 = .ok (.iconst 0, 1) := by decide +kernel
theorem dX4_init_87 : decode cX4_init 87 = .ok (.putfield 51, 3) := by decide +kernel
theorem dX4_init_90 : decode cX4_init 90 = .ok (.return_, 1) := by decide +kernel
set_option maxRecDepth 20000 in
theorem ggX4_letter_X4_outside : GoodIn wsX4_letter wsX4_outside := goodIn_r _ [5] (by decide +kernel) (by decide +kernel)
set_option maxRecDepth 20000 in
theorem gX4_letter_X4_outside : GoodIn wsX4_letter (va_wsS RX4 54 yX4_outside wsX4_outside) := goodIn_app (goodIn_of _ (by decide +kernel)) ggX4_letter_X4_outside
set_option maxRecDepth 20000 in
theorem ggX4_letter_X2_isFull : GoodIn wsX4_letter wsX2_isFull := goodIn_r _ [10, 11, 12, 32, 33, 34, 35] (by decide +kernel) (by decide +kernel)
set_option maxRecDepth 20000 in
theorem gX4_letter_X2_isFull : GoodIn wsX4_letter (wsV RX4 58 RX2 yX2_isFull wsX2_isFull) := goodIn_app (goodIn_of _ (by decide +kernel)) ggX4_letter_X2_isFull
set_option maxRecDepth 20000 in
theorem ggX4_letter_X4_refused : GoodIn wsX4_letter wsX4_refused := goodIn_r _ [16, 17, 22, 23, 24, 25, 26, 27, 28, 29, 30, 31] (by decide +kernel) (by decide +kernel)
set_option maxRecDepth 20000 in
theorem gX4_letter_X4_refused : GoodIn wsX4_letter (wsV RX4 62 RX4 yX4_refused wsX4_refused) := goodIn_app (goodIn_of _ (by decide +kernel)) ggX4_letter_X4_refused
set_option maxRecDepth 20000 in
theorem ggX4_letter_X2_add : GoodIn wsX4_letter wsX2_add := goodIn_r _ [21, 11, 12, 32, 33, 34, 35] (by decide +kernel) (by decide +kernel)
set_option maxRecDepth 20000 in
theorem gX4_letter_X2_add : GoodIn wsX4_letter (wsV RX4 66 RX2 yX2_add wsX2_add) := goodIn_app (goodIn_of _ (by decide +kernel)) ggX4_letter_X2_add
theorem dX4_letter_0 : decode cX4_letter 0 = .ok (.iload_n 1, 1) := by decide +kernel
theorem dX4_letter_1 : decode cX4_letter 1 = .ok (.sipush 255, 3) := by decide +kernel
theorem dX4_letter_4 : decode cX4_letter 4 = .ok (.invokestatic 54, 3) := by decide +kernel
theorem dX4_letter_7 : decode cX4_letter 7 = .ok (.istore_n 2, 1) := by decide +kernel
theorem dX4_letter_8 : decode cX4_letter 8 = .ok (.iload_n 2, 1) := by decide +kernel
theorem dX4_letter_9 : decode cX4_letter 9 = .ok (.ifCond .ne 16, 3) := by decide +kernel
theorem dX4_letter_12 : decode cX4_letter 12 = .ok (.aload_n 0, 1) := by decide +kernel
theorem dX4_letter_13 : decode cX4_letter 13 = .ok (.getfield 26, 3) := by decide +kernel
theorem dX4_letter_16 : decode cX4_letter 16 = .ok (.invokevirtual 58, 3) := by decide +kernel
theorem dX4_letter_19 : decode cX4_letter 19 = .ok (.ifCond .eq 6, 3) := by decide +kernel
theorem dX4_letter_22 : decode cX4_letter 22 = .ok (.bipush (-6), 2) := by decide +kernel
theorem dX4_letter_24 : decode cX4_letter 24 = .ok (.istore_n 2, 1) := by decide +kernel
theorem dX4_letter_25 : decode cX4_letter 25 = .ok (.iload_n 2, 1) := by decide +kernel
theorem dX4_letter_26 : decode cX4_letter 26 = .ok (.ifCond .eq 11, 3) := by decide +kernel
theorem dX4_letter_29 : decode cX4_letter 29 = .ok (.aload_n 0, 1) := by decide +kernel
theorem dX4_letter_30 : decode cX4_letter 30 = .ok (.iload_n 2, 1) := by decide +kernel
theorem dX4_letter_31 : decode cX4_letter 31 = .ok (.invokevirtual 62, 3) := by decide +kernel
theorem dX4_letter_34 : decode cX4_letter 34 = .ok (.goto 11, 3) := by decide +kernel
theorem dX4_letter_37 : decode cX4_letter 37 = .ok (.aload_n 0, 1) := by decide +kernel
theorem dX4_letter_38 : decode cX4_letter 38 = .ok (.getfield 26, 3) := by decide +kernel
theorem dX4_letter_41 : decode cX4_letter 41 = .ok (.iload_n 1, 1) := by decide +kernel
theorem dX4_letter_42 : decode cX4_letter 42 = .ok (.invokevirtual 66, 3) := by decide +kernel
theorem dX4_letter_45 : decode cX4_letter 45 = .ok (.ireturn, 1) := by decide +kernel
set_option maxRecDepth 20000 in
theorem ggX4_hall_X3_players : GoodIn wsX4_hall wsX3_players := goodIn_r _ [8, 9, 179, 180] (by decide +kernel) (by decide +kernel)
set_option maxRecDepth 20000 in
theorem gX4_hall_X3_players : GoodIn wsX4_hall (wsV RX4 73 RX3 yX3_players wsX3_players) := goodIn_app (goodIn_of _ (by decide +kernel)) ggX4_hall_X3_players
set_option maxRecDepth 20000 in
theorem ggX4_hall_X2_fault : GoodIn wsX4_hall wsX2_fault := goodIn_r _ [14, 15, 16, 17, 13, 18, 19, 20, 21, 22, 23, 24, 25, 26, 27, 28, 29, 30, 31, 32, 33, 34, 35, 36, 37, 38, 39, 40, 41, 42, 43, 44, 45, 46, 47, 48, 49, 50, 51, 52, 53, 54, 55, 56, 57, 58, 59, 60, 61, 62, 63, 64, 65, 66, 67, 68, 69, 70, 71, 72, 73, 74, 75, 76, 77, 78, 79, 80, 81, 82, 83, 84, 85, 86, 87, 88, 89, 90, 91, 92, 93, 94, 95, 96, 97, 98, 99, 100, 101, 102, 103, 104, 105, 106, 107, 108, 109, 110, 111, 112, 181, 182, 183, 184] (by decide +kernel) (by decide +kernel)
set_option maxRecDepth 20000 in
theorem gX4_hall_X2_fault : GoodIn wsX4_hall (wsV RX4 79 RX2 yX2_fault wsX2_fault) := goodIn_app (goodIn_of _ (by decide +kernel)) ggX4_hall_X2_fault
set_option maxRecDepth 20000 in
theorem ggX4_hall_X2_tellAll : GoodIn wsX4_hall wsX2_tellAll := goodIn_r _ [116, 19, 92, 70, 71, 72, 13, 73, 20, 74, 117, 118, 119, 120, 121, 122, 123, 7, 124, 9, 125, 126, 127, 128, 101, 102, 103, 104, 129, 130, 131, 132, 133, 78, 79, 80, 105, 106, 107, 108, 109, 110, 111, 112, 134, 135, 136, 137, 138, 139, 181, 182, 183, 184, 177, 178, 179, 180] (by decide +kernel) (by decide +kernel)
set_option maxRecDepth 20000 in
theorem gX4_hall_X2_tellAll : GoodIn wsX4_hall (wsV RX4 82 RX2 yX2_tellAll wsX2_tellAll) := goodIn_app (goodIn_of _ (by decide +kernel)) ggX4_hall_X2_tellAll
set_option maxRecDepth 20000 in
theorem ggX4_hall_X1_start : GoodIn wsX4_hall wsX1_start := goodIn_r _ [144, 145, 146, 147, 148, 149, 150, 151, 152, 153, 7, 154, 9, 133, 155, 156, 157, 158, 159, 160, 161, 137, 162, 139, 185, 186, 187, 188, 189, 190, 191, 192, 193, 194, 195, 177, 178, 179, 180] (by decide +kernel) (by decide +kernel)
set_option maxRecDepth 20000 in
theorem gX4_hall_X1_start : GoodIn wsX4_hall (wsV RX4 86 RX1 yX1_start wsX1_start) := goodIn_app (goodIn_of _ (by decide +kernel)) ggX4_hall_X1_start
set_option maxRecDepth 20000 in
theorem ggX4_hall_X2_clear : GoodIn wsX4_hall wsX2_clear := goodIn_r _ [166, 20, 181, 182, 183, 184] (by decide +kernel) (by decide +kernel)
set_option maxRecDepth 20000 in
theorem gX4_hall_X2_clear : GoodIn wsX4_hall (wsV RX4 90 RX2 yX2_clear wsX2_clear) := goodIn_app (goodIn_of _ (by decide +kernel)) ggX4_hall_X2_clear
theorem dX4_hall_0 : decode cX4_hall 0 = .ok (.aload_n 0, 1) := by decide +kernel
theorem dX4_hall_1 : decode cX4_hall 1 = .ok (.getfield 26, 3) := by decide +kernel
theorem dX4_hall_4 : decode cX4_hall 4 = .ok (.aload_n 0, 1) := by decide +kernel
theorem dX4_hall_5 : decode cX4_hall 5 = .ok (.getfield 10, 3) := by decide +kernel
theorem dX4_hall_8 : decode cX4_hall 8 = .ok (.getfield 69, 3) := by decide +kernel
theorem dX4_hall_11 : decode cX4_hall 11 = .ok (.invokevirtual 73, 3) := by decide +kernel
theorem dX4_hall_14 : decode cX4_hall 14 = .ok (.invokevirtual 79, 3) := by decide +kernel
theorem dX4_hall_17 : decode cX4_hall 17 = .ok (.istore_n 1, 1) := by decide +kernel
theorem dX4_hall_18 : decode cX4_hall 18 = .ok (.iload_n 1, 1) := by decide +kernel
theorem dX4_hall_19 : decode cX4_hall 19 = .ok (.ifCond .ne 26, 3) := by decide +kernel
theorem dX4_hall_22 : decode cX4_hall 22 = .ok (.aload_n 0, 1) := by decide +kernel
theorem dX4_hall_23 : decode cX4_hall 23 = .ok (.getfield 26, 3) := by decide +kernel
theorem dX4_hall_26 : decode cX4_hall 26 = .ok (.aload_n 0, 1) := by decide +kernel
theorem dX4_hall_27 : decode cX4_hall 27 = .ok (.getfield 10, 3) := by decide +kernel
theorem dX4_hall_30 : decode cX4_hall 30 = .ok (.invokevirtual 82, 3) := by decide +kernel
theorem dX4_hall_33 : decode cX4_hall 33 = .ok (.istore_n 1, 1) := by decide +kernel
theorem dX4_hall_34 : decode cX4_hall 34 = .ok (.aload_n 0, 1) := by decide +kernel
theorem dX4_hall_35 : decode cX4_hall 35 = .ok (.getfield 44, 3) := by decide +kernel
theorem dX4_hall_38 : decode cX4_hall 38 = .ok (.aload_n 0, 1) := by decide +kernel
theorem dX4_hall_39 : decode cX4_hall 39 = .ok (.getfield 10, 3) := by decide +kernel
theorem dX4_hall_42 : decode cX4_hall 42 = .ok (.invokevirtual 86, 3) := by decide +kernel
theorem dX4_hall_45 : decode cX4_hall 45 = .ok (.aload_n 0, 1) := by decide +kernel
theorem dX4_hall_46 : decode cX4_hall 46 = .ok (.getfield 26, 3) := by decide +kernel
theorem dX4_hall_49 : decode cX4_hall 49 = .ok (.invokevirtual 90, 3) := by decide +kernel
theorem dX4_hall_52 : decode cX4_hall 52 = .ok (.iload_n 1, 1) := by decide +kernel
theorem dX4_hall_53 : decode cX4_hall 53 = .ok (.ireturn, 1) := by decide +kernel
set_option maxRecDepth 20000 in
theorem ggX4_player_X3_has : GoodIn wsX4_player wsX3_has := goodIn_r _ [6, 7, 31, 32] (by decide +kernel) (by decide +kernel)
set_option maxRecDepth 20000 in
theorem gX4_player_X3_has : GoodIn wsX4_player (wsV RX4 93 RX3 yX3_has wsX3_has) := goodIn_app (goodIn_of _ (by decide +kernel)) ggX4_player_X3_has
set_option maxRecDepth 20000 in
theorem ggX4_player_X4_refused : GoodIn wsX4_player wsX4_refused := goodIn_r _ [12, 13, 19, 20, 21, 22, 23, 24, 25, 26, 27, 28] (by decide +kernel) (by decide +kernel)
set_option maxRecDepth 20000 in
theorem gX4_player_X4_refused : GoodIn wsX4_player (wsV RX4 62 RX4 yX4_refused wsX4_refused) := goodIn_app (goodIn_of _ (by decide +kernel)) ggX4_player_X4_refused
set_option maxRecDepth 20000 in
theorem ggX4_player_X3_fact : GoodIn wsX4_player wsX3_fact := goodIn_r _ [17, 18, 31, 32] (by decide +kernel) (by decide +kernel)
set_option maxRecDepth 20000 in
theorem gX4_player_X3_fact : GoodIn wsX4_player (wsV RX4 97 RX3 yX3_fact wsX3_fact) := goodIn_app (goodIn_of _ (by decide +kernel)) ggX4_player_X3_fact
theorem dX4_player_0 : decode cX4_player 0 = .ok (.aload_n 0, 1) := by decide +kernel
theorem dX4_player_1 : decode cX4_player 1 = .ok (.getfield 10, 3) := by decide +kernel
theorem dX4_player_4 : decode cX4_player 4 = .ok (.getfield 69, 3) := by decide +kernel
theorem dX4_player_7 : decode cX4_player 7 = .ok (.iload_n 1, 1) := by decide +kernel
theorem dX4_player_8 : decode cX4_player 8 = .ok (.invokevirtual 93, 3) := by decide +kernel
theorem dX4_player_11 : decode cX4_player 11 = .ok (.ifCond .ne 9, 3) := by decide +kernel
theorem dX4_player_14 : decode cX4_player 14 = .ok (.aload_n 0, 1) := by decide +kernel
theorem dX4_player_15 : decode cX4_player 15 = .ok (.iconst (-1), 1) := by decide +kernel
theorem dX4_player_16 : decode cX4_player 16 = .ok (.invokevirtual 62, 3) := by decide +kernel
theorem dX4_player_19 : decode cX4_player 19 = .ok (.ireturn, 1) := by decide +kernel
theorem dX4_player_20 : decode cX4_player 20 = .ok (.iload_n 2, 1) := by decide +kernel
theorem dX4_player_21 : decode cX4_player 21 = .ok (.ifCond .lt 8, 3) := by decide +kernel
theorem dX4_player_24 : decode cX4_player 24 = .ok (.iload_n 2, 1) := by decide +kernel
theorem dX4_player_25 : decode cX4_player 25 = .ok (.iconst 5, 1) := by decide +kernel
theorem dX4_player_26 : decode cX4_player 26 = .ok (.if_icmp .lt 10, 3) := by decide +kernel
theorem dX4_player_29 : decode cX4_player 29 = .ok (.aload_n 0, 1) := by decide +kernel
theorem dX4_player_30 : decode cX4_player 30 = .ok (.bipush (-2), 2) := by decide +kernel
theorem dX4_player_32 : decode cX4_player 32 = .ok (.invokevirtual 62, 3) := by decide +kernel
theorem dX4_player_35 : decode cX4_player 35 = .ok (.ireturn, 1) := by decide +kernel
theorem dX4_player_36 : decode cX4_player 36 = .ok (.aload_n 0, 1) := by decide +kernel
theorem dX4_player_37 : decode cX4_player 37 = .ok (.getfield 10, 3) := by decide +kernel
theorem dX4_player_40 : decode cX4_player 40 = .ok (.getfield 69, 3) := by decide +kernel
theorem dX4_player_43 : decode cX4_player 43 = .ok (.iload_n 1, 1) := by decide +kernel
theorem dX4_player_44 : decode cX4_player 44 = .ok (.iload_n 2, 1) := by decide +kernel
theorem dX4_player_45 : decode cX4_player 45 = .ok (.invokevirtual 97, 3) := by decide +kernel
theorem dX4_player_48 : decode cX4_player 48 = .ok (.ireturn, 1) := by decide +kernel
set_option maxRecDepth 20000 in
theorem ggX4_hits_X3_has : GoodIn wsX4_hits wsX3_has := goodIn_r _ [6, 7, 45, 46] (by decide +kernel) (by decide +kernel)
set_option maxRecDepth 20000 in
theorem gX4_hits_X3_has : GoodIn wsX4_hits (wsV RX4 93 RX3 yX3_has wsX3_has) := goodIn_app (goodIn_of _ (by decide +kernel)) ggX4_hits_X3_has
set_option maxRecDepth 20000 in
theorem ggX4_hits_X4_refused : GoodIn wsX4_hits wsX4_refused := goodIn_r _ [12, 13, 33, 34, 35, 36, 37, 38, 39, 40, 41, 42] (by decide +kernel) (by decide +kernel)
set_option maxRecDepth 20000 in
theorem gX4_hits_X4_refused : GoodIn wsX4_hits (wsV RX4 62 RX4 yX4_refused wsX4_refused) := goodIn_app (goodIn_of _ (by decide +kernel)) ggX4_hits_X4_refused
set_option maxRecDepth 20000 in
theorem ggX4_hits_X4_outside : GoodIn wsX4_hits wsX4_outside := goodIn_r _ [16] (by decide +kernel) (by decide +kernel)
set_option maxRecDepth 20000 in
theorem gX4_hits_X4_outside : GoodIn wsX4_hits (va_wsS RX4 54 yX4_outside wsX4_outside) := goodIn_app (goodIn_of _ (by decide +kernel)) ggX4_hits_X4_outside
set_option maxRecDepth 20000 in
theorem ggX4_hits_X3_tenths : GoodIn wsX4_hits wsX3_tenths := goodIn_r _ [20, 21, 22, 23, 24, 25, 26, 27, 28, 29, 30, 5, 31, 32, 45, 46] (by decide +kernel) (by decide +kernel)
set_option maxRecDepth 20000 in
theorem gX4_hits_X3_tenths : GoodIn wsX4_hits (wsV RX4 100 RX3 yX3_tenths wsX3_tenths) := goodIn_app (goodIn_of _ (by decide +kernel)) ggX4_hits_X3_tenths
theorem dX4_hits_0 : decode cX4_hits 0 = .ok (.aload_n 0, 1) := by decide +kernel
theorem dX4_hits_1 : decode cX4_hits 1 = .ok (.getfield 10, 3) := by decide +kernel
theorem dX4_hits_4 : decode cX4_hits 4 = .ok (.getfield 69, 3) := by decide +kernel
theorem dX4_hits_7 : decode cX4_hits 7 = .ok (.iload_n 1, 1) := by decide +kernel
theorem dX4_hits_8 : decode cX4_hits 8 = .ok (.invokevirtual 93, 3) := by decide +kernel
theorem dX4_hits_11 : decode cX4_hits 11 = .ok (.ifCond .ne 9, 3) := by decide +kernel
theorem dX4_hits_14 : decode cX4_hits 14 = .ok (.aload_n 0, 1) := by decide +kernel
theorem dX4_hits_15 : decode cX4_hits 15 = .ok (.iconst (-1), 1) := by decide +kernel
theorem dX4_hits_16 : decode cX4_hits 16 = .ok (.invokevirtual 62, 3) := by decide +kernel
theorem dX4_hits_19 : decode cX4_hits 19 = .ok (.ireturn, 1) := by decide +kernel
theorem dX4_hits_20 : decode cX4_hits 20 = .ok (.iload_n 2, 1) := by decide +kernel
theorem dX4_hits_21 : decode cX4_hits 21 = .ok (.ifCond .lt 8, 3) := by decide +kernel
theorem dX4_hits_24 : decode cX4_hits 24 = .ok (.iload_n 2, 1) := by decide +kernel
theorem dX4_hits_25 : decode cX4_hits 25 = .ok (.iconst 2, 1) := by decide +kernel
theorem dX4_hits_26 : decode cX4_hits 26 = .ok (.if_icmp .le 10, 3) := by decide +kernel
theorem dX4_hits_29 : decode cX4_hits 29 = .ok (.aload_n 0, 1) := by decide +kernel
theorem dX4_hits_30 : decode cX4_hits 30 = .ok (.bipush (-2), 2) := by decide +kernel
theorem dX4_hits_32 : decode cX4_hits 32 = .ok (.invokevirtual 62, 3) := by decide +kernel
theorem dX4_hits_35 : decode cX4_hits 35 = .ok (.ireturn, 1) := by decide +kernel
theorem dX4_hits_36 : decode cX4_hits 36 = .ok (.iload_n 3, 1) := by decide +kernel
theorem dX4_hits_37 : decode cX4_hits 37 = .ok (.bipush 24, 2) := by decide +kernel
theorem dX4_hits_39 : decode cX4_hits 39 = .ok (.invokestatic 54, 3) := by decide +kernel
theorem dX4_hits_42 : decode cX4_hits 42 = .ok (.istore 4, 2) := by decide +kernel
theorem dX4_hits_44 : decode cX4_hits 44 = .ok (.iload 4, 2) := by decide +kernel
theorem dX4_hits_46 : decode cX4_hits 46 = .ok (.ifCond .eq 12, 3) := by decide +kernel
theorem dX4_hits_49 : decode cX4_hits 49 = .ok (.aload_n 0, 1) := by decide +kernel
theorem dX4_hits_50 : decode cX4_hits 50 = .ok (.iload 4, 2) := by decide +kernel
theorem dX4_hits_52 : decode cX4_hits 52 = .ok (.invokevirtual 62, 3) := by decide +kernel
theorem dX4_hits_55 : decode cX4_hits 55 = .ok (.goto 16, 3) := by decide +kernel
theorem dX4_hits_58 : decode cX4_hits 58 = .ok (.aload_n 0, 1) := by decide +kernel
theorem dX4_hits_59 : decode cX4_hits 59 = .ok (.getfield 10, 3) := by decide +kernel
theorem dX4_hits_62 : decode cX4_hits 62 = .ok (.getfield 69, 3) := by decide +kernel
theorem dX4_hits_65 : decode cX4_hits 65 = .ok (.iload_n 1, 1) := by decide +kernel
theorem dX4_hits_66 : decode cX4_hits 66 = .ok (.iload_n 2, 1) := by decide +kernel
theorem dX4_hits_67 : decode cX4_hits 67 = .ok (.iload_n 3, 1) := by decide +kernel
theorem dX4_hits_68 : decode cX4_hits 68 = .ok (.invokevirtual 100, 3) := by decide +kernel
theorem dX4_hits_71 : decode cX4_hits 71 = .ok (.ireturn, 1) := by decide +kernel
set_option maxRecDepth 20000 in
theorem ggX4_set_X4_refused : GoodIn wsX4_set wsX4_refused := goodIn_r _ [8, 9, 46, 47, 48, 49, 50, 51, 52, 53, 54, 55] (by decide +kernel) (by decide +kernel)
set_option maxRecDepth 20000 in
theorem gX4_set_X4_refused : GoodIn wsX4_set (wsV RX4 62 RX4 yX4_refused wsX4_refused) := goodIn_app (goodIn_of _ (by decide +kernel)) ggX4_set_X4_refused
set_option maxRecDepth 20000 in
theorem ggX4_set_X4_outside : GoodIn wsX4_set wsX4_outside := goodIn_r _ [12] (by decide +kernel) (by decide +kernel)
set_option maxRecDepth 20000 in
theorem gX4_set_X4_outside : GoodIn wsX4_set (va_wsS RX4 54 yX4_outside wsX4_outside) := goodIn_app (goodIn_of _ (by decide +kernel)) ggX4_set_X4_outside
set_option maxRecDepth 20000 in
theorem ggX4_set_X0_told : GoodIn wsX4_set wsX0_told := goodIn_r _ [17, 18, 56, 57] (by decide +kernel) (by decide +kernel)
set_option maxRecDepth 20000 in
theorem gX4_set_X0_told : GoodIn wsX4_set (wsV RX4 107 RX0 yX0_told wsX0_told) := goodIn_app (goodIn_of _ (by decide +kernel)) ggX4_set_X0_told
set_option maxRecDepth 20000 in
theorem ggX4_set_X0_tell : GoodIn wsX4_set wsX0_tell := goodIn_r _ [22, 18, 56, 57] (by decide +kernel) (by decide +kernel)
set_option maxRecDepth 20000 in
theorem gX4_set_X0_tell : GoodIn wsX4_set (wsV RX4 110 RX0 yX0_tell wsX0_tell) := goodIn_app (goodIn_of _ (by decide +kernel)) ggX4_set_X0_tell
set_option maxRecDepth 20000 in
theorem ggX4_set_X1_start : GoodIn wsX4_set wsX1_start := goodIn_r _ [27, 28, 29, 30, 31, 32, 33, 34, 35, 36, 37, 38, 39, 40, 41, 42, 43, 44, 45, 14, 15, 16, 17, 18, 58, 59, 60, 61, 62, 63, 64, 65, 66, 67, 68, 56, 57, 69, 70] (by decide +kernel) (by decide +kernel)
set_option maxRecDepth 20000 in
theorem gX4_set_X1_start : GoodIn wsX4_set (wsV RX4 86 RX1 yX1_start wsX1_start) := goodIn_app (goodIn_of _ (by decide +kernel)) ggX4_set_X1_start
theorem dX4_set_0 : decode cX4_set 0 = .ok (.iload_n 1, 1) := by decide +kernel
theorem dX4_set_1 : decode cX4_set 1 = .ok (.ifCond .lt 11, 3) := by decide +kernel
theorem dX4_set_4 : decode cX4_set 4 = .ok (.iload_n 1, 1) := by decide +kernel
theorem dX4_set_5 : decode cX4_set 5 = .ok (.getstatic 104, 3) := by decide +kernel
theorem dX4_set_8 : decode cX4_set 8 = .ok (.arraylength, 1) := by decide +kernel
theorem dX4_set_9 : decode cX4_set 9 = .ok (.if_icmp .lt 10, 3) := by decide +kernel
theorem dX4_set_12 : decode cX4_set 12 = .ok (.aload_n 0, 1) := by decide +kernel
theorem dX4_set_13 : decode cX4_set 13 = .ok (.bipush (-2), 2) := by decide +kernel
theorem dX4_set_15 : decode cX4_set 15 = .ok (.invokevirtual 62, 3) := by decide +kernel
theorem dX4_set_18 : decode cX4_set 18 = .ok (.ireturn, 1) := by decide +kernel
theorem dX4_set_19 : decode cX4_set 19 = .ok (.iload_n 2, 1) := by decide +kernel
theorem dX4_set_20 : decode cX4_set 20 = .ok (.getstatic 104, 3) := by decide +kernel
theorem dX4_set_23 : decode cX4_set 23 = .ok (.iload_n 1, 1) := by decide +kernel
theorem dX4_set_24 : decode cX4_set 24 = .ok (.iaload, 1) := by decide +kernel
theorem dX4_set_25 : decode cX4_set 25 = .ok (.invokestatic 54, 3) := by decide +kernel
theorem dX4_set_28 : decode cX4_set 28 = .ok (.istore_n 3, 1) := by decide +kernel
theorem dX4_set_29 : decode cX4_set 29 = .ok (.iload_n 3, 1) := by decide +kernel
theorem dX4_set_30 : decode cX4_set 30 = .ok (.ifCond .eq 9, 3) := by decide +kernel
theorem dX4_set_33 : decode cX4_set 33 = .ok (.aload_n 0, 1) := by decide +kernel
theorem dX4_set_34 : decode cX4_set 34 = .ok (.iload_n 3, 1) := by decide +kernel
theorem dX4_set_35 : decode cX4_set 35 = .ok (.invokevirtual 62, 3) := by decide +kernel
theorem dX4_set_38 : decode cX4_set 38 = .ok (.ireturn, 1) := by decide +kernel
theorem dX4_set_39 : decode cX4_set 39 = .ok (.aload_n 0, 1) := by decide +kernel
theorem dX4_set_40 : decode cX4_set 40 = .ok (.getfield 10, 3) := by decide +kernel
theorem dX4_set_43 : decode cX4_set 43 = .ok (.iload_n 1, 1) := by decide +kernel
theorem dX4_set_44 : decode cX4_set 44 = .ok (.invokevirtual 107, 3) := by decide +kernel
theorem dX4_set_47 : decode cX4_set 47 = .ok (.istore 4, 2) := by decide +kernel
theorem dX4_set_49 : decode cX4_set 49 = .ok (.aload_n 0, 1) := by decide +kernel
theorem dX4_set_50 : decode cX4_set 50 = .ok (.getfield 10, 3) := by decide +kernel
theorem dX4_set_53 : decode cX4_set 53 = .ok (.iload_n 1, 1) := by decide +kernel
theorem dX4_set_54 : decode cX4_set 54 = .ok (.iload_n 2, 1) := by decide +kernel
theorem dX4_set_55 : decode cX4_set 55 = .ok (.invokevirtual 110, 3) := by decide +kernel
theorem dX4_set_58 : decode cX4_set 58 = .ok (.iload_n 1, 1) := by decide +kernel
theorem dX4_set_59 : decode cX4_set 59 = .ok (.bipush 7, 2) := by decide +kernel
theorem dX4_set_61 : decode cX4_set 61 = .ok (.if_icmp .lt 14, 3) := by decide +kernel
theorem dX4_set_64 : decode cX4_set 64 = .ok (.aload_n 0, 1) := by decide +kernel
theorem dX4_set_65 : decode cX4_set 65 = .ok (.getfield 44, 3) := by decide +kernel
theorem dX4_set_68 : decode cX4_set 68 = .ok (.aload_n 0, 1) := by decide +kernel
theorem dX4_set_69 : decode cX4_set 69 = .ok (.getfield 10, 3) := by decide +kernel
theorem dX4_set_72 : decode cX4_set 72 = .ok (.invokevirtual 86, 3) := by decide +kernel
theorem dX4_set_75 : decode cX4_set 75 = .ok (.iload 4, 2) := by decide +kernel
theorem dX4_set_77 : decode cX4_set 77 = .ok (.ireturn, 1) := by decide +kernel
set_option maxRecDepth 20000 in
theorem ggX4_here_X4_valueNow : GoodIn wsX4_here wsX4_valueNow := goodIn_r _ [5, 6, 7, 8, 9, 10, 11, 12, 13, 14, 15, 16, 17, 18, 19, 20, 21, 22, 23, 24, 25, 26, 27, 28, 29, 30, 31, 32, 33, 34, 35, 36, 37, 38, 39, 40, 41, 42, 43, 44, 45, 46, 47, 48, 49, 50, 51, 52, 53, 54, 55, 56, 57, 58, 59, 60, 61, 62, 63, 64, 65, 66, 67, 68, 69, 70, 71, 72, 73, 74, 75, 76, 77, 78, 79, 80, 81, 82, 83, 84, 85, 86, 87, 88, 4, 89, 90, 91, 92, 93, 94, 95, 96, 97, 98, 99, 100, 101, 102, 103, 104, 105, 106, 107, 108, 109, 110, 111, 112, 113, 114, 115, 116, 117, 118, 119, 120, 121, 122, 123, 124, 125, 126, 127, 128, 129, 130, 131, 132, 133, 134, 135, 136, 137, 138, 139, 140, 141, 142, 143, 144, 145, 146, 147, 148] (by decide +kernel) (by decide +kernel)
set_option maxRecDepth 20000 in
theorem gX4_here_X4_valueNow : GoodIn wsX4_here (wsV RX4 114 RX4 yX4_valueNow wsX4_valueNow) := goodIn_app (goodIn_of _ (by decide +kernel)) ggX4_here_X4_valueNow
theorem dX4_here_0 : decode cX4_here 0 = .ok (.aload_n 0, 1) := by decide +kernel
theorem dX4_here_1 : decode cX4_here 1 = .ok (.invokevirtual 114, 3) := by decide +kernel
theorem dX4_here_4 : decode cX4_here 4 = .ok (.ireturn, 1) := by decide +kernel
set_option maxRecDepth 20000 in
theorem ggX4_of_X4_outsideState : GoodIn wsX4_of wsX4_outsideState := goodIn_r _ [5] (by decide +kernel) (by decide +kernel)
set_option maxRecDepth 20000 in
theorem gX4_of_X4_outsideState : GoodIn wsX4_of (va_wsS RX4 117 yX4_outsideState wsX4_outsideState) := goodIn_app (goodIn_of _ (by decide +kernel)) ggX4_of_X4_outsideState
set_option maxRecDepth 20000 in
theorem ggX4_of_X4_refused : GoodIn wsX4_of wsX4_refused := goodIn_r _ [9, 10, 121, 122, 123, 124, 125, 126, 127, 128, 129, 130] (by decide +kernel) (by decide +kernel)
set_option maxRecDepth 20000 in
theorem gX4_of_X4_refused : GoodIn wsX4_of (wsV RX4 62 RX4 yX4_refused wsX4_refused) := goodIn_app (goodIn_of _ (by decide +kernel)) ggX4_of_X4_refused
set_option maxRecDepth 20000 in
theorem ggX4_of_X1_solveTo : GoodIn wsX4_of wsX1_solveTo := goodIn_r _ [15, 16, 17, 18, 19, 20, 21, 22, 23, 14, 24, 25, 26, 27, 28, 29, 30, 31, 32, 33, 34, 35, 36, 37, 38, 39, 40, 41, 42, 43, 44, 45, 46, 47, 48, 49, 50, 51, 52, 53, 54, 55, 56, 57, 58, 59, 60, 61, 62, 63, 64, 65, 66, 67, 68, 69, 70, 71, 72, 73, 74, 75, 76, 77, 78, 79, 80, 81, 82, 83, 84, 85, 4, 86, 87, 88, 89, 90, 91, 92, 93, 94, 95, 96, 97, 98, 99, 100, 101, 102, 103, 104, 105, 106, 107, 108, 109, 110, 111, 112, 113, 114, 115, 116, 117, 118, 119, 131, 132, 133, 134, 135, 136, 137, 138, 139, 140, 141, 142, 143] (by decide +kernel) (by decide +kernel)
set_option maxRecDepth 20000 in
theorem gX4_of_X1_solveTo : GoodIn wsX4_of (wsV RX4 120 RX1 yX1_solveTo wsX1_solveTo) := goodIn_app (goodIn_of _ (by decide +kernel)) ggX4_of_X1_solveTo
set_option maxRecDepth 20000 in
theorem ggX4_of_X1_valueAt : GoodIn wsX4_of wsX1_valueAt := goodIn_r _ [101, 79, 57, 58, 14, 59, 131, 132, 133, 134, 135, 136, 137, 138, 139, 140, 141] (by decide +kernel) (by decide +kernel)
set_option maxRecDepth 20000 in
theorem gX4_of_X1_valueAt : GoodIn wsX4_of (wsV RX4 124 RX1 yX1_valueAt wsX1_valueAt) := goodIn_app (goodIn_of _ (by decide +kernel)) ggX4_of_X1_valueAt
theorem dX4_of_0 : decode cX4_of 0 = .ok (.iload_n 1, 1) := by decide +kernel
theorem dX4_of_1 : decode cX4_of 1 = .ok (.iload_n 2, 1) := by decide +kernel
theorem dX4_of_2 : decode cX4_of 2 = .ok (.iload_n 3, 1) := by decide +kernel
theorem dX4_of_3 : decode cX4_of 3 = .ok (.invokestatic 117, 3) := by decide +kernel
theorem dX4_of_6 : decode cX4_of 6 = .ok (.istore 4, 2) := by decide +kernel
theorem dX4_of_8 : decode cX4_of 8 = .ok (.iload 4, 2) := by decide +kernel
theorem dX4_of_10 : decode cX4_of 10 = .ok (.ifCond .eq 10, 3) := by decide +kernel
theorem dX4_of_13 : decode cX4_of 13 = .ok (.aload_n 0, 1) := by decide +kernel
theorem dX4_of_14 : decode cX4_of 14 = .ok (.iload 4, 2) := by decide +kernel
theorem dX4_of_16 : decode cX4_of 16 = .ok (.invokevirtual 62, 3) := by decide +kernel
theorem dX4_of_19 : decode cX4_of 19 = .ok (.ireturn, 1) := by decide +kernel
theorem dX4_of_20 : decode cX4_of 20 = .ok (.aload_n 0, 1) := by decide +kernel
theorem dX4_of_21 : decode cX4_of 21 = .ok (.getfield 44, 3) := by decide +kernel
theorem dX4_of_24 : decode cX4_of 24 = .ok (.iload_n 1, 1) := by decide +kernel
theorem dX4_of_25 : decode cX4_of 25 = .ok (.invokevirtual 120, 3) := by decide +kernel
theorem dX4_of_28 : decode cX4_of 28 = .ok (.aload_n 0, 1) := by decide +kernel
theorem dX4_of_29 : decode cX4_of 29 = .ok (.getfield 44, 3) := by decide +kernel
theorem dX4_of_32 : decode cX4_of 32 = .ok (.iload_n 1, 1) := by decide +kernel
theorem dX4_of_33 : decode cX4_of 33 = .ok (.iload_n 2, 1) := by decide +kernel
theorem dX4_of_34 : decode cX4_of 34 = .ok (.iload_n 3, 1) := by decide +kernel
theorem dX4_of_35 : decode cX4_of 35 = .ok (.invokevirtual 124, 3) := by decide +kernel
theorem dX4_of_38 : decode cX4_of 38 = .ok (.ireturn, 1) := by decide +kernel
set_option maxRecDepth 20000 in
theorem ggX4_best_X4_outsideState : GoodIn wsX4_best wsX4_outsideState := goodIn_r _ [5] (by decide +kernel) (by decide +kernel)
set_option maxRecDepth 20000 in
theorem gX4_best_X4_outsideState : GoodIn wsX4_best (va_wsS RX4 117 yX4_outsideState wsX4_outsideState) := goodIn_app (goodIn_of _ (by decide +kernel)) ggX4_best_X4_outsideState
set_option maxRecDepth 20000 in
theorem ggX4_best_X4_refused : GoodIn wsX4_best wsX4_refused := goodIn_r _ [9, 10, 124, 125, 126, 127, 128, 129, 130, 131, 132, 133] (by decide +kernel) (by decide +kernel)
set_option maxRecDepth 20000 in
theorem gX4_best_X4_refused : GoodIn wsX4_best (wsV RX4 62 RX4 yX4_refused wsX4_refused) := goodIn_app (goodIn_of _ (by decide +kernel)) ggX4_best_X4_refused
set_option maxRecDepth 20000 in
theorem ggX4_best_X1_solveTo : GoodIn wsX4_best wsX1_solveTo := goodIn_r _ [15, 16, 17, 18, 19, 20, 21, 22, 23, 14, 24, 25, 26, 27, 28, 29, 30, 31, 32, 33, 34, 35, 36, 37, 38, 39, 40, 41, 42, 43, 44, 45, 46, 47, 48, 49, 50, 51, 52, 53, 54, 55, 56, 57, 58, 59, 60, 61, 62, 63, 64, 65, 66, 67, 68, 69, 70, 71, 72, 73, 74, 75, 76, 77, 78, 79, 80, 81, 82, 83, 84, 85, 4, 86, 87, 88, 89, 90, 91, 92, 93, 94, 95, 96, 97, 98, 99, 100, 101, 102, 103, 104, 105, 106, 107, 108, 109, 110, 111, 112, 113, 114, 115, 116, 117, 118, 119, 134, 135, 136, 137, 138, 139, 140, 141, 142, 143, 144, 145, 146] (by decide +kernel) (by decide +kernel)
set_option maxRecDepth 20000 in
theorem gX4_best_X1_solveTo : GoodIn wsX4_best (wsV RX4 120 RX1 yX1_solveTo wsX1_solveTo) := goodIn_app (goodIn_of _ (by decide +kernel)) ggX4_best_X1_solveTo
set_option maxRecDepth 20000 in
theorem ggX4_best_X1_bestAt : GoodIn wsX4_best wsX1_bestAt := goodIn_r _ [123, 80, 57, 58, 14, 59, 134, 135, 136, 137, 138, 139, 140, 141, 142, 143, 144] (by decide +kernel) (by decide +kernel)
set_option maxRecDepth 20000 in
theorem gX4_best_X1_bestAt : GoodIn wsX4_best (wsV RX4 127 RX1 yX1_bestAt wsX1_bestAt) := goodIn_app (goodIn_of _ (by decide +kernel)) ggX4_best_X1_bestAt
theorem dX4_best_0 : decode cX4_best 0 = .ok (.iload_n 1, 1) := by decide +kernel
theorem dX4_best_1 : decode cX4_best 1 = .ok (.iload_n 2, 1) := by decide +kernel
theorem dX4_best_2 : decode cX4_best 2 = .ok (.iload_n 3, 1) := by decide +kernel
theorem dX4_best_3 : decode cX4_best 3 = .ok (.invokestatic 117, 3) := by decide +kernel
theorem dX4_best_6 : decode cX4_best 6 = .ok (.istore 4, 2) := by decide +kernel
theorem dX4_best_8 : decode cX4_best 8 = .ok (.iload 4, 2) := by decide +kernel
theorem dX4_best_10 : decode cX4_best 10 = .ok (.ifCond .eq 10, 3) := by decide +kernel
theorem dX4_best_13 : decode cX4_best 13 = .ok (.aload_n 0, 1) := by decide +kernel
theorem dX4_best_14 : decode cX4_best 14 = .ok (.iload 4, 2) := by decide +kernel
theorem dX4_best_16 : decode cX4_best 16 = .ok (.invokevirtual 62, 3) := by decide +kernel
theorem dX4_best_19 : decode cX4_best 19 = .ok (.ireturn, 1) := by decide +kernel
theorem dX4_best_20 : decode cX4_best 20 = .ok (.aload_n 0, 1) := by decide +kernel
theorem dX4_best_21 : decode cX4_best 21 = .ok (.getfield 44, 3) := by decide +kernel
theorem dX4_best_24 : decode cX4_best 24 = .ok (.iload_n 1, 1) := by decide +kernel
theorem dX4_best_25 : decode cX4_best 25 = .ok (.invokevirtual 120, 3) := by decide +kernel
theorem dX4_best_28 : decode cX4_best 28 = .ok (.aload_n 0, 1) := by decide +kernel
theorem dX4_best_29 : decode cX4_best 29 = .ok (.getfield 44, 3) := by decide +kernel
theorem dX4_best_32 : decode cX4_best 32 = .ok (.iload_n 1, 1) := by decide +kernel
theorem dX4_best_33 : decode cX4_best 33 = .ok (.iload_n 2, 1) := by decide +kernel
theorem dX4_best_34 : decode cX4_best 34 = .ok (.iload_n 3, 1) := by decide +kernel
theorem dX4_best_35 : decode cX4_best 35 = .ok (.invokevirtual 127, 3) := by decide +kernel
theorem dX4_best_38 : decode cX4_best 38 = .ok (.ireturn, 1) := by decide +kernel
set_option maxRecDepth 20000 in
theorem ggX4_from_X4_outsideState : GoodIn wsX4_from wsX4_outsideState := goodIn_r _ [5] (by decide +kernel) (by decide +kernel)
set_option maxRecDepth 20000 in
theorem gX4_from_X4_outsideState : GoodIn wsX4_from (va_wsS RX4 117 yX4_outsideState wsX4_outsideState) := goodIn_app (goodIn_of _ (by decide +kernel)) ggX4_from_X4_outsideState
set_option maxRecDepth 20000 in
theorem ggX4_from_X4_refused : GoodIn wsX4_from wsX4_refused := goodIn_r _ [9, 10, 128, 129, 130, 131, 132, 133, 134, 135, 136, 137] (by decide +kernel) (by decide +kernel)
set_option maxRecDepth 20000 in
theorem gX4_from_X4_refused : GoodIn wsX4_from (wsV RX4 62 RX4 yX4_refused wsX4_refused) := goodIn_app (goodIn_of _ (by decide +kernel)) ggX4_from_X4_refused
set_option maxRecDepth 20000 in
theorem ggX4_from_X1_solveTo : GoodIn wsX4_from wsX1_solveTo := goodIn_r _ [15, 16, 17, 18, 19, 20, 21, 22, 23, 14, 24, 25, 26, 27, 28, 29, 30, 31, 32, 33, 34, 35, 36, 37, 38, 39, 40, 41, 42, 43, 44, 45, 46, 47, 48, 49, 50, 51, 52, 53, 54, 55, 56, 57, 58, 59, 60, 61, 62, 63, 64, 65, 66, 67, 68, 69, 70, 71, 72, 73, 74, 75, 76, 77, 78, 79, 80, 81, 82, 83, 84, 85, 4, 86, 87, 88, 89, 90, 91, 92, 93, 94, 95, 96, 97, 98, 99, 100, 101, 102, 103, 104, 105, 106, 107, 108, 109, 110, 111, 112, 113, 114, 115, 116, 117, 118, 119, 138, 139, 140, 141, 142, 143, 144, 145, 146, 147, 148, 149, 150] (by decide +kernel) (by decide +kernel)
set_option maxRecDepth 20000 in
theorem gX4_from_X1_solveTo : GoodIn wsX4_from (wsV RX4 120 RX1 yX1_solveTo wsX1_solveTo) := goodIn_app (goodIn_of _ (by decide +kernel)) ggX4_from_X1_solveTo
set_option maxRecDepth 20000 in
theorem ggX4_from_X4_isShotBest : GoodIn wsX4_from wsX4_isShotBest := goodIn_r _ [123, 1, 124, 125, 126, 14, 127, 80, 57, 58, 59, 128, 129, 130, 131, 132, 133, 134, 135, 136, 137, 138, 139, 140, 141, 142, 143, 144, 145, 146, 147, 148] (by decide +kernel) (by decide +kernel)
set_option maxRecDepth 20000 in
theorem gX4_from_X4_isShotBest : GoodIn wsX4_from (wsV RX4 130 RX4 yX4_isShotBest wsX4_isShotBest) := goodIn_app (goodIn_of _ (by decide +kernel)) ggX4_from_X4_isShotBest
theorem dX4_from_0 : decode cX4_from 0 = .ok (.iconst 0, 1) := by decide +kernel
theorem dX4_from_1 : decode cX4_from 1 = .ok (.iload_n 1, 1) := by decide +kernel
theorem dX4_from_2 : decode cX4_from 2 = .ok (.iload_n 2, 1) := by decide +kernel
theorem dX4_from_3 : decode cX4_from 3 = .ok (.invokestatic 117, 3) := by decide +kernel
theorem dX4_from_6 : decode cX4_from 6 = .ok (.istore_n 3, 1) := by decide +kernel
theorem dX4_from_7 : decode cX4_from 7 = .ok (.iload_n 3, 1) := by decide +kernel
theorem dX4_from_8 : decode cX4_from 8 = .ok (.ifCond .eq 9, 3) := by decide +kernel
theorem dX4_from_11 : decode cX4_from 11 = .ok (.aload_n 0, 1) := by decide +kernel
theorem dX4_from_12 : decode cX4_from 12 = .ok (.iload_n 3, 1) := by decide +kernel
theorem dX4_from_13 : decode cX4_from 13 = .ok (.invokevirtual 62, 3) := by decide +kernel
theorem dX4_from_16 : decode cX4_from 16 = .ok (.ireturn, 1) := by decide +kernel
theorem dX4_from_17 : decode cX4_from 17 = .ok (.aload_n 0, 1) := by decide +kernel
theorem dX4_from_18 : decode cX4_from 18 = .ok (.getfield 44, 3) := by decide +kernel
theorem dX4_from_21 : decode cX4_from 21 = .ok (.bipush 24, 2) := by decide +kernel
theorem dX4_from_23 : decode cX4_from 23 = .ok (.invokevirtual 120, 3) := by decide +kernel
theorem dX4_from_26 : decode cX4_from 26 = .ok (.iconst 0, 1) := by decide +kernel
theorem dX4_from_27 : decode cX4_from 27 = .ok (.istore 4, 2) := by decide +kernel
theorem dX4_from_29 : decode cX4_from 29 = .ok (.iload 4, 2) := by decide +kernel
theorem dX4_from_31 : decode cX4_from 31 = .ok (.bipush 24, 2) := by decide +kernel
theorem dX4_from_33 : decode cX4_from 33 = .ok (.if_icmp .ge 22, 3) := by decide +kernel
theorem dX4_from_36 : decode cX4_from 36 = .ok (.aload_n 0, 1) := by decide +kernel
theorem dX4_from_37 : decode cX4_from 37 = .ok (.iload 4, 2) := by decide +kernel
theorem dX4_from_39 : decode cX4_from 39 = .ok (.iconst 1, 1) := by decide +kernel
theorem dX4_from_40 : decode cX4_from 40 = .ok (.iadd, 1) := by decide +kernel
theorem dX4_from_41 : decode cX4_from 41 = .ok (.iload_n 1, 1) := by decide +kernel
theorem dX4_from_42 : decode cX4_from 42 = .ok (.iload_n 2, 1) := by decide +kernel
theorem dX4_from_43 : decode cX4_from 43 = .ok (.invokevirtual 130, 3) := by decide +kernel
theorem dX4_from_46 : decode cX4_from 46 = .ok (.ifCond .eq 9, 3) := by decide +kernel
theorem dX4_from_49 : decode cX4_from 49 = .ok (.iinc 4 1, 3) := by decide +kernel
theorem dX4_from_52 : decode cX4_from 52 = .ok (.goto (-23), 3) := by decide +kernel
theorem dX4_from_55 : decode cX4_from 55 = .ok (.iload 4, 2) := by decide +kernel
theorem dX4_from_57 : decode cX4_from 57 = .ok (.ireturn, 1) := by decide +kernel
set_option maxRecDepth 20000 in
theorem ggX4_point_X4_valueNow : GoodIn wsX4_point wsX4_valueNow := goodIn_r _ [7, 1, 2, 8, 9, 10, 11, 12, 13, 14, 15, 16, 17, 18, 19, 20, 21, 22, 23, 24, 25, 26, 27, 28, 29, 30, 31, 32, 33, 34, 35, 36, 37, 38, 39, 40, 41, 42, 43, 44, 45, 46, 47, 48, 49, 50, 51, 52, 53, 54, 55, 56, 57, 58, 59, 60, 61, 62, 63, 64, 65, 66, 67, 68, 69, 70, 71, 72, 73, 74, 75, 76, 77, 78, 79, 80, 81, 82, 83, 84, 85, 86, 87, 88, 6, 89, 90, 91, 92, 93, 94, 95, 96, 97, 98, 99, 100, 101, 102, 103, 104, 105, 106, 107, 108, 109, 110, 111, 112, 113, 114, 115, 116, 117, 118, 119, 120, 121, 122, 123, 125, 126, 127, 128, 129, 130, 131, 132, 133, 134, 135, 136, 137, 138, 139, 140, 141, 142, 143, 144, 145, 146, 147, 148, 149] (by decide +kernel) (by decide +kernel)
set_option maxRecDepth 20000 in
theorem gX4_point_X4_valueNow : GoodIn wsX4_point (wsV RX4 114 RX4 yX4_valueNow wsX4_valueNow) := goodIn_app (goodIn_of _ (by decide +kernel)) ggX4_point_X4_valueNow
set_option maxRecDepth 20000 in
theorem ggX4_point_X0_told : GoodIn wsX4_point wsX0_told := goodIn_r _ [12, 13, 135, 136] (by decide +kernel) (by decide +kernel)
set_option maxRecDepth 20000 in
theorem gX4_point_X0_told : GoodIn wsX4_point (wsV RX4 107 RX0 yX0_told wsX0_told) := goodIn_app (goodIn_of _ (by decide +kernel)) ggX4_point_X0_told
set_option maxRecDepth 20000 in
theorem ggX4_point_X4_heldLead : GoodIn wsX4_point wsX4_heldLead := goodIn_r _ [96] (by decide +kernel) (by decide +kernel)
set_option maxRecDepth 20000 in
theorem gX4_point_X4_heldLead : GoodIn wsX4_point (va_wsS RX4 134 yX4_heldLead wsX4_heldLead) := goodIn_app (goodIn_of _ (by decide +kernel)) ggX4_point_X4_heldLead
set_option maxRecDepth 20000 in
theorem ggX4_point_X1_valueAt : GoodIn wsX4_point wsX1_valueAt := goodIn_r _ [104, 82, 60, 61, 17, 62, 137, 138, 139, 140, 141, 142, 143, 144, 145, 146, 147] (by decide +kernel) (by decide +kernel)
set_option maxRecDepth 20000 in
theorem gX4_point_X1_valueAt : GoodIn wsX4_point (wsV RX4 124 RX1 yX1_valueAt wsX1_valueAt) := goodIn_app (goodIn_of _ (by decide +kernel)) ggX4_point_X1_valueAt
theorem dX4_point_0 : decode cX4_point 0 = .ok (.aload_n 0, 1) := by decide +kernel
theorem dX4_point_1 : decode cX4_point 1 = .ok (.invokevirtual 114, 3) := by decide +kernel
theorem dX4_point_4 : decode cX4_point 4 = .ok (.istore_n 1, 1) := by decide +kernel
theorem dX4_point_5 : decode cX4_point 5 = .ok (.aload_n 0, 1) := by decide +kernel
theorem dX4_point_6 : decode cX4_point 6 = .ok (.getfield 10, 3) := by decide +kernel
theorem dX4_point_9 : decode cX4_point 9 = .ok (.iconst 1, 1) := by decide +kernel
theorem dX4_point_10 : decode cX4_point 10 = .ok (.invokevirtual 107, 3) := by decide +kernel
theorem dX4_point_13 : decode cX4_point 13 = .ok (.iconst 1, 1) := by decide +kernel
theorem dX4_point_14 : decode cX4_point 14 = .ok (.iadd, 1) := by decide +kernel
theorem dX4_point_15 : decode cX4_point 15 = .ok (.invokestatic 134, 3) := by decide +kernel
theorem dX4_point_18 : decode cX4_point 18 = .ok (.istore_n 2, 1) := by decide +kernel
theorem dX4_point_19 : decode cX4_point 19 = .ok (.aload_n 0, 1) := by decide +kernel
theorem dX4_point_20 : decode cX4_point 20 = .ok (.getfield 44, 3) := by decide +kernel
theorem dX4_point_23 : decode cX4_point 23 = .ok (.aload_n 0, 1) := by decide +kernel
theorem dX4_point_24 : decode cX4_point 24 = .ok (.getfield 10, 3) := by decide +kernel
theorem dX4_point_27 : decode cX4_point 27 = .ok (.iconst 0, 1) := by decide +kernel
theorem dX4_point_28 : decode cX4_point 28 = .ok (.invokevirtual 107, 3) := by decide +kernel
theorem dX4_point_31 : decode cX4_point 31 = .ok (.iload_n 2, 1) := by decide +kernel
theorem dX4_point_32 : decode cX4_point 32 = .ok (.aload_n 0, 1) := by decide +kernel
theorem dX4_point_33 : decode cX4_point 33 = .ok (.getfield 10, 3) := by decide +kernel
theorem dX4_point_36 : decode cX4_point 36 = .ok (.iconst 2, 1) := by decide +kernel
theorem dX4_point_37 : decode cX4_point 37 = .ok (.invokevirtual 107, 3) := by decide +kernel
theorem dX4_point_40 : decode cX4_point 40 = .ok (.invokevirtual 124, 3) := by decide +kernel
theorem dX4_point_43 : decode cX4_point 43 = .ok (.iload_n 1, 1) := by decide +kernel
theorem dX4_point_44 : decode cX4_point 44 = .ok (.isub, 1) := by decide +kernel
theorem dX4_point_45 : decode cX4_point 45 = .ok (.ireturn, 1) := by decide +kernel
set_option maxRecDepth 20000 in
theorem ggX4_twoOrThree_X0_told : GoodIn wsX4_twoOrThree wsX0_told := goodIn_r _ [6, 7, 159, 160] (by decide +kernel) (by decide +kernel)
set_option maxRecDepth 20000 in
theorem gX4_twoOrThree_X0_told : GoodIn wsX4_twoOrThree (wsV RX4 107 RX0 yX0_told wsX0_told) := goodIn_app (goodIn_of _ (by decide +kernel)) ggX4_twoOrThree_X0_told
set_option maxRecDepth 20000 in
theorem ggX4_twoOrThree_X4_isOverNow : GoodIn wsX4_twoOrThree wsX4_isOverNow := goodIn_r _ [12, 13, 1, 2, 3, 4, 5, 6, 7, 14, 15, 16, 17, 18, 19, 20, 21, 22, 23, 149, 150, 151, 152, 153, 154, 155, 156, 157, 158, 159, 160, 161, 162, 163, 164, 165, 166, 167, 168, 169, 170, 171] (by decide +kernel) (by decide +kernel)
set_option maxRecDepth 20000 in
theorem gX4_twoOrThree_X4_isOverNow : GoodIn wsX4_twoOrThree (wsV RX4 137 RX4 yX4_isOverNow wsX4_isOverNow) := goodIn_app (goodIn_of _ (by decide +kernel)) ggX4_twoOrThree_X4_isOverNow
set_option maxRecDepth 20000 in
theorem ggX4_twoOrThree_X3_ofSide : GoodIn wsX4_twoOrThree wsX3_ofSide := goodIn_r _ [28, 29, 30, 31, 32, 27, 33, 34, 172, 173] (by decide +kernel) (by decide +kernel)
set_option maxRecDepth 20000 in
theorem gX4_twoOrThree_X3_ofSide : GoodIn wsX4_twoOrThree (wsV RX4 140 RX3 yX3_ofSide wsX3_ofSide) := goodIn_app (goodIn_of _ (by decide +kernel)) ggX4_twoOrThree_X3_ofSide
set_option maxRecDepth 20000 in
theorem ggX4_twoOrThree_X4_refusedFarAbove : GoodIn wsX4_twoOrThree wsX4_refusedFarAbove := goodIn_r _ [38, 39, 40, 41, 42, 11, 43, 44, 149, 150, 151, 152, 153, 154, 155, 156, 157, 158] (by decide +kernel) (by decide +kernel)
set_option maxRecDepth 20000 in
theorem gX4_twoOrThree_X4_refusedFarAbove : GoodIn wsX4_twoOrThree (wsV RX4 143 RX4 yX4_refusedFarAbove wsX4_refusedFarAbove) := goodIn_app (goodIn_of _ (by decide +kernel)) ggX4_twoOrThree_X4_refusedFarAbove
set_option maxRecDepth 20000 in
theorem ggX4_twoOrThree_X4_bestOfOurs : GoodIn wsX4_twoOrThree wsX4_bestOfOurs := goodIn_r _ [48, 1, 13, 49, 50, 22, 51, 2, 3, 4, 5, 6, 7, 52, 53, 54, 17, 55, 56, 57, 58, 59, 60, 61, 62, 63, 64, 65, 66, 67, 68, 69, 70, 71, 72, 27, 73, 74, 75, 30, 31, 32, 33, 34, 76, 77, 78, 79, 80, 81, 82, 83, 84, 85, 86, 87, 88, 89, 90, 91, 15, 16, 18, 19, 20, 21, 23, 92, 93, 94, 95, 96, 97, 98, 99, 100, 101, 102, 103, 104, 105, 106, 107, 108, 109, 11, 110, 111, 112, 113, 114, 115, 116, 117, 118, 119, 120, 121, 122, 123, 124, 125, 126, 127, 128, 129, 130, 131, 132, 133, 134, 135, 136, 137, 29, 138, 139, 140, 141, 142, 143, 144, 145, 146, 147, 148, 149, 150, 151, 152, 153, 154, 155, 156, 157, 158, 159, 160, 161, 162, 163, 164, 165, 166, 167, 168, 169, 170, 171, 172, 173] (by decide +kernel) (by decide +kernel)
set_option maxRecDepth 20000 in
theorem gX4_twoOrThree_X4_bestOfOurs : GoodIn wsX4_twoOrThree (wsV RX4 146 RX4 yX4_bestOfOurs wsX4_bestOfOurs) := goodIn_app (goodIn_of _ (by decide +kernel)) ggX4_twoOrThree_X4_bestOfOurs
theorem dX4_twoOrThree_0 : decode cX4_twoOrThree 0 = .ok (.aload_n 0, 1) := by decide +kernel
theorem dX4_twoOrThree_1 : decode cX4_twoOrThree 1 = .ok (.getfield 10, 3) := by decide +kernel
theorem dX4_twoOrThree_4 : decode cX4_twoOrThree 4 = .ok (.iconst 2, 1) := by decide +kernel
theorem dX4_twoOrThree_5 : decode cX4_twoOrThree 5 = .ok (.invokevirtual 107, 3) := by decide +kernel
theorem dX4_twoOrThree_8 : decode cX4_twoOrThree 8 = .ok (.ifCond .ne 24, 3) := by decide +kernel
theorem dX4_twoOrThree_11 : decode cX4_twoOrThree 11 = .ok (.aload_n 0, 1) := by decide +kernel
theorem dX4_twoOrThree_12 : decode cX4_twoOrThree 12 = .ok (.invokevirtual 137, 3) := by decide +kernel
theorem dX4_twoOrThree_15 : decode cX4_twoOrThree 15 = .ok (.ifCond .ne 17, 3) := by decide +kernel
theorem dX4_twoOrThree_18 : decode cX4_twoOrThree 18 = .ok (.aload_n 0, 1) := by decide +kernel
theorem dX4_twoOrThree_19 : decode cX4_twoOrThree 19 = .ok (.getfield 10, 3) := by decide +kernel
theorem dX4_twoOrThree_22 : decode cX4_twoOrThree 22 = .ok (.getfield 69, 3) := by decide +kernel
theorem dX4_twoOrThree_25 : decode cX4_twoOrThree 25 = .ok (.iconst 0, 1) := by decide +kernel
theorem dX4_twoOrThree_26 : decode cX4_twoOrThree 26 = .ok (.invokevirtual 140, 3) := by decide +kernel
theorem dX4_twoOrThree_29 : decode cX4_twoOrThree 29 = .ok (.ifCond .ne 10, 3) := by decide +kernel
theorem dX4_twoOrThree_32 : decode cX4_twoOrThree 32 = .ok (.aload_n 0, 1) := by decide +kernel
theorem dX4_twoOrThree_33 : decode cX4_twoOrThree 33 = .ok (.bipush (-3), 2) := by decide +kernel
theorem dX4_twoOrThree_35 : decode cX4_twoOrThree 35 = .ok (.invokevirtual 143, 3) := by decide +kernel
theorem dX4_twoOrThree_38 : decode cX4_twoOrThree 38 = .ok (.ireturn, 1) := by decide +kernel
theorem dX4_twoOrThree_39 : decode cX4_twoOrThree 39 = .ok (.aload_n 0, 1) := by decide +kernel
theorem dX4_twoOrThree_40 : decode cX4_twoOrThree 40 = .ok (.iconst 0, 1) := by decide +kernel
theorem dX4_twoOrThree_41 : decode cX4_twoOrThree 41 = .ok (.invokevirtual 146, 3) := by decide +kernel
theorem dX4_twoOrThree_44 : decode cX4_twoOrThree 44 = .ok (.aload_n 0, 1) := by decide +kernel
theorem dX4_twoOrThree_45 : decode cX4_twoOrThree 45 = .ok (.iconst 1, 1) := by decide +kernel
theorem dX4_twoOrThree_46 : decode cX4_twoOrThree 46 = .ok (.invokevirtual 146, 3) := by decide +kernel
