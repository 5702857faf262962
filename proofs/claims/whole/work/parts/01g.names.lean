theorem goodIn_q {big : List Cond} (ws : List Cond) (pc pn : List Nat) (hp : ws.filter k2_isCode = pc.filterMap (fun i => big[i]?)) (hn : ws.filter (fun w => !k2_isCode w) = pn.filterMap (fun i => big[i]?)) (h : ws.all goodWord = true) : GoodIn big ws := by
  intro w hw
  have hg := good_of_word (List.all_eq_true.mp h w hw)
  have key : ∀ (l : List Cond) (ps : List Nat), l = ps.filterMap (fun i => big[i]?) → w ∈ l → w ∈ big := by
    intro l ps e q
    rw [e] at q
    obtain ⟨i, -, hi⟩ := List.mem_filterMap.mp q
    exact List.mem_of_getElem? hi
  by_cases hc : k2_isCode w = true
  · exact ⟨key _ _ hp (List.mem_filter.mpr ⟨hw, hc⟩), hg⟩
  · exact ⟨key _ _ hn (List.mem_filter.mpr ⟨hw, by simp [hc]⟩), hg⟩
theorem dX5_statement_570 : decode cX5_statement 570 = .ok (.iload_n 2, 1) := by decide +kernel
theorem dX5_statement_571 : decode cX5_statement 571 = .ok (.bipush 98, 2) := by decide +kernel
theorem dX5_statement_573 : decode cX5_statement 573 = .ok (.if_icmp .ne 7, 3) := by decide +kernel
theorem dX5_statement_576 : decode cX5_statement 576 = .ok (.iconst 1, 1) := by decide +kernel
theorem dX5_statement_577 : decode cX5_statement 577 = .ok (.goto 15, 3) := by decide +kernel
theorem dX5_statement_580 : decode cX5_statement 580 = .ok (.iload_n 2, 1) := by decide +kernel
theorem dX5_statement_581 : decode cX5_statement 581 = .ok (.bipush 119, 2) := by decide +kernel
theorem dX5_statement_583 : decode cX5_statement 583 = .ok (.if_icmp .ne 7, 3) := by decide +kernel
theorem dX5_statement_586 : decode cX5_statement 586 = .ok (.iconst 3, 1) := by decide +kernel
theorem dX5_statement_587 : decode cX5_statement 587 = .ok (.goto 5, 3) := by decide +kernel
theorem dX5_statement_590 : decode cX5_statement 590 = .ok (.bipush 9, 2) := by decide +kernel
theorem dX5_statement_592 : decode cX5_statement 592 = .ok (.if_icmp .le 5, 3) := by decide +kernel
theorem dX5_statement_595 : decode cX5_statement 595 = .ok (.iconst 0, 1) := by decide +kernel
theorem dX5_statement_596 : decode cX5_statement 596 = .ok (.ireturn, 1) := by decide +kernel
theorem dX5_statement_597 : decode cX5_statement 597 = .ok (.iload_n 2, 1) := by decide +kernel
theorem dX5_statement_598 : decode cX5_statement 598 = .ok (.bipush 98, 2) := by decide +kernel
theorem dX5_statement_600 : decode cX5_statement 600 = .ok (.if_icmp .ne 13, 3) := by decide +kernel
theorem dX5_statement_603 : decode cX5_statement 603 = .ok (.aload_n 0, 1) := by decide +kernel
theorem dX5_statement_604 : decode cX5_statement 604 = .ok (.aload_n 0, 1) := by decide +kernel
theorem dX5_statement_605 : decode cX5_statement 605 = .ok (.getfield 34, 3) := by decide +kernel
theorem dX5_statement_608 : decode cX5_statement 608 = .ok (.iconst 0, 1) := by decide +kernel
theorem dX5_statement_609 : decode cX5_statement 609 = .ok (.iaload, 1) := by decide +kernel
theorem dX5_statement_610 : decode cX5_statement 610 = .ok (.putfield 101, 3) := by decide +kernel
theorem dX5_statement_613 : decode cX5_statement 613 = .ok (.iload_n 2, 1) := by decide +kernel
theorem dX5_statement_614 : decode cX5_statement 614 = .ok (.bipush 114, 2) := by decide +kernel
theorem dX5_statement_616 : decode cX5_statement 616 = .ok (.if_icmp .ne 13, 3) := by decide +kernel
theorem dX5_statement_619 : decode cX5_statement 619 = .ok (.aload_n 0, 1) := by decide +kernel
theorem dX5_statement_620 : decode cX5_statement 620 = .ok (.aload_n 0, 1) := by decide +kernel
theorem dX5_statement_621 : decode cX5_statement 621 = .ok (.getfield 34, 3) := by decide +kernel
theorem dX5_statement_624 : decode cX5_statement 624 = .ok (.iconst 0, 1) := by decide +kernel
theorem dX5_statement_625 : decode cX5_statement 625 = .ok (.iaload, 1) := by decide +kernel
theorem dX5_statement_626 : decode cX5_statement 626 = .ok (.putfield 62, 3) := by decide +kernel
theorem dX5_statement_629 : decode cX5_statement 629 = .ok (.iload_n 2, 1) := by decide +kernel
theorem dX5_statement_630 : decode cX5_statement 630 = .ok (.bipush 119, 2) := by decide +kernel
theorem dX5_statement_632 : decode cX5_statement 632 = .ok (.if_icmp .ne 13, 3) := by decide +kernel
theorem dX5_statement_635 : decode cX5_statement 635 = .ok (.aload_n 0, 1) := by decide +kernel
theorem dX5_statement_636 : decode cX5_statement 636 = .ok (.aload_n 0, 1) := by decide +kernel
theorem dX5_statement_637 : decode cX5_statement 637 = .ok (.getfield 34, 3) := by decide +kernel
theorem dX5_statement_640 : decode cX5_statement 640 = .ok (.iconst 0, 1) := by decide +kernel
theorem dX5_statement_641 : decode cX5_statement 641 = .ok (.iaload, 1) := by decide +kernel
theorem dX5_statement_642 : decode cX5_statement 642 = .ok (.putfield 104, 3) := by decide +kernel
theorem dX5_statement_645 : decode cX5_statement 645 = .ok (.iload_n 2, 1) := by decide +kernel
theorem dX5_statement_646 : decode cX5_statement 646 = .ok (.bipush 100, 2) := by decide +kernel
theorem dX5_statement_648 : decode cX5_statement 648 = .ok (.if_icmp .ne 13, 3) := by decide +kernel
theorem dX5_statement_651 : decode cX5_statement 651 = .ok (.aload_n 0, 1) := by decide +kernel
theorem dX5_statement_652 : decode cX5_statement 652 = .ok (.aload_n 0, 1) := by decide +kernel
theorem dX5_statement_653 : decode cX5_statement 653 = .ok (.getfield 34, 3) := by decide +kernel
theorem dX5_statement_656 : decode cX5_statement 656 = .ok (.iconst 0, 1) := by decide +kernel
theorem dX5_statement_657 : decode cX5_statement 657 = .ok (.iaload, 1) := by decide +kernel
theorem dX5_statement_658 : decode cX5_statement 658 = .ok (.putfield 65, 3) := by decide +kernel
theorem dX5_statement_661 : decode cX5_statement 661 = .ok (.iconst 1, 1) := by decide +kernel
theorem dX5_statement_662 : decode cX5_statement 662 = .ok (.ireturn, 1) := by decide +kernel
set_option maxRecDepth 20000 in
theorem ggX5_hall_X5_statement : GoodIn wsX5_hall wsX5_statement := goodIn_q _ [8, 28, 32, 37, 41, 46, 52, 56, 60, 64, 67, 70, 73, 77, 83, 86, 89, 92, 97, 100, 103, 109, 113, 116, 120] [1, 2, 9, 10, 11, 12, 13, 14, 15, 16, 17, 18, 19, 20, 21, 22, 23, 24, 25, 26, 27, 7, 29, 30, 31, 33, 34, 35, 36, 38, 39, 40, 42, 43, 44, 45, 47, 48, 49, 50, 51, 53, 54, 55, 57, 58, 59, 61, 62, 63, 65, 66, 68, 69, 71, 72, 74, 75, 76, 78, 79, 80, 81, 82, 84, 85, 87, 88, 90, 91, 93, 94, 95, 96, 98, 99, 101, 102, 104, 105, 106, 107, 108, 110, 111, 112, 114, 115, 117, 118, 119, 121, 130, 131, 132, 133, 134, 135, 136, 137, 138, 139, 140, 141, 142, 143, 144, 145, 146, 147, 148, 149, 150, 151, 152, 153, 154, 155] rfl (by decide +kernel) (by decide +kernel)
set_option maxRecDepth 20000 in
theorem gX5_hall_X5_statement : GoodIn wsX5_hall (wsV RX5 107 RX5 yX5_statement wsX5_statement) := goodIn_app (goodIn_of _ (by decide +kernel)) ggX5_hall_X5_statement
set_option maxRecDepth 20000 in
theorem ggX5_hall_X5_is : GoodIn wsX5_hall wsX5_is := goodIn_r _ [28, 1, 2, 9, 130, 131, 132, 133, 134, 135, 136, 137, 138, 139, 140, 141, 142, 143, 144, 145, 146, 147, 148, 149, 150, 151, 152, 153, 154, 155] (by decide +kernel) (by decide +kernel)
set_option maxRecDepth 20000 in
theorem gX5_hall_X5_is : GoodIn wsX5_hall (wsV RX5 86 RX5 yX5_is wsX5_is) := goodIn_app (goodIn_of _ (by decide +kernel)) ggX5_hall_X5_is
set_option maxRecDepth 20000 in
theorem ggX5_hall_X5_keep : GoodIn wsX5_hall wsX5_keep := goodIn_r _ [125, 12, 13, 14, 15, 16, 11, 17, 18, 21, 19, 20, 22, 23, 24, 130, 131, 132, 133, 134, 135, 136, 137, 138, 139, 140, 141, 142, 143, 144, 145, 146, 147, 148, 149, 150, 151, 152, 153, 154, 155] (by decide +kernel) (by decide +kernel)
set_option maxRecDepth 20000 in
theorem gX5_hall_X5_keep : GoodIn wsX5_hall (wsV RX5 111 RX5 yX5_keep wsX5_keep) := goodIn_app (goodIn_of _ (by decide +kernel)) ggX5_hall_X5_keep
set_option maxRecDepth 20000 in
theorem ggX5_hall_X5_again : GoodIn wsX5_hall wsX5_again := goodIn_r _ [129, 12, 13, 14, 15, 16, 11, 17, 18, 21, 19, 20, 22, 23, 24, 130, 131, 132, 133, 134, 135, 136, 137, 138, 139, 140, 141, 142, 143, 144, 145, 146, 147, 148, 149, 150, 151, 152, 153, 154, 155] (by decide +kernel) (by decide +kernel)
set_option maxRecDepth 20000 in
theorem gX5_hall_X5_again : GoodIn wsX5_hall (wsV RX5 115 RX5 yX5_again wsX5_again) := goodIn_app (goodIn_of _ (by decide +kernel)) ggX5_hall_X5_again
theorem dX5_hall_0 : decode cX5_hall 0 = .ok (.aload_n 0, 1) := by decide +kernel
theorem dX5_hall_1 : decode cX5_hall 1 = .ok (.iconst 0, 1) := by decide +kernel
theorem dX5_hall_2 : decode cX5_hall 2 = .ok (.putfield 83, 3) := by decide +kernel
theorem dX5_hall_5 : decode cX5_hall 5 = .ok (.iconst 1, 1) := by decide +kernel
theorem dX5_hall_6 : decode cX5_hall 6 = .ok (.istore_n 1, 1) := by decide +kernel
theorem dX5_hall_7 : decode cX5_hall 7 = .ok (.iload_n 1, 1) := by decide +kernel
theorem dX5_hall_8 : decode cX5_hall 8 = .ok (.ifCond .eq 45, 3) := by decide +kernel
theorem dX5_hall_11 : decode cX5_hall 11 = .ok (.aload_n 0, 1) := by decide +kernel
theorem dX5_hall_12 : decode cX5_hall 12 = .ok (.iconst 0, 1) := by decide +kernel
theorem dX5_hall_13 : decode cX5_hall 13 = .ok (.invokevirtual 107, 3) := by decide +kernel
theorem dX5_hall_16 : decode cX5_hall 16 = .ok (.iconst 1, 1) := by decide +kernel
theorem dX5_hall_17 : decode cX5_hall 17 = .ok (.if_icmp .ne 16, 3) := by decide +kernel
theorem dX5_hall_20 : decode cX5_hall 20 = .ok (.aload_n 0, 1) := by decide +kernel
theorem dX5_hall_21 : decode cX5_hall 21 = .ok (.bipush 59, 2) := by decide +kernel
theorem dX5_hall_23 : decode cX5_hall 23 = .ok (.invokevirtual 86, 3) := by decide +kernel
theorem dX5_hall_26 : decode cX5_hall 26 = .ok (.ifCond .eq 7, 3) := by decide +kernel
theorem dX5_hall_29 : decode cX5_hall 29 = .ok (.iconst 1, 1) := by decide +kernel
theorem dX5_hall_30 : decode cX5_hall 30 = .ok (.goto 4, 3) := by decide +kernel
theorem dX5_hall_33 : decode cX5_hall 33 = .ok (.iconst 0, 1) := by decide +kernel
theorem dX5_hall_34 : decode cX5_hall 34 = .ok (.istore_n 1, 1) := by decide +kernel
theorem dX5_hall_35 : decode cX5_hall 35 = .ok (.iload_n 1, 1) := by decide +kernel
theorem dX5_hall_36 : decode cX5_hall 36 = .ok (.ifCond .eq (-29), 3) := by decide +kernel
theorem dX5_hall_39 : decode cX5_hall 39 = .ok (.aload_n 0, 1) := by decide +kernel
theorem dX5_hall_40 : decode cX5_hall 40 = .ok (.getfield 83, 3) := by decide +kernel
theorem dX5_hall_43 : decode cX5_hall 43 = .ok (.aload_n 0, 1) := by decide +kernel
theorem dX5_hall_44 : decode cX5_hall 44 = .ok (.getfield 80, 3) := by decide +kernel
theorem dX5_hall_47 : decode cX5_hall 47 = .ok (.if_icmp .ne (-40), 3) := by decide +kernel
theorem dX5_hall_50 : decode cX5_hall 50 = .ok (.goto 3, 3) := by decide +kernel
theorem dX5_hall_53 : decode cX5_hall 53 = .ok (.iload_n 1, 1) := by decide +kernel
theorem dX5_hall_54 : decode cX5_hall 54 = .ok (.ifCond .ne 17, 3) := by decide +kernel
theorem dX5_hall_57 : decode cX5_hall 57 = .ok (.aload_n 0, 1) := by decide +kernel
theorem dX5_hall_58 : decode cX5_hall 58 = .ok (.iconst 0, 1) := by decide +kernel
theorem dX5_hall_59 : decode cX5_hall 59 = .ok (.putfield 80, 3) := by decide +kernel
theorem dX5_hall_62 : decode cX5_hall 62 = .ok (.sipush (-1000), 3) := by decide +kernel
theorem dX5_hall_65 : decode cX5_hall 65 = .ok (.aload_n 0, 1) := by decide +kernel
theorem dX5_hall_66 : decode cX5_hall 66 = .ok (.getfield 83, 3) := by decide +kernel
theorem dX5_hall_69 : decode cX5_hall 69 = .ok (.isub, 1) := by decide +kernel
theorem dX5_hall_70 : decode cX5_hall 70 = .ok (.ireturn, 1) := by decide +kernel
theorem dX5_hall_71 : decode cX5_hall 71 = .ok (.aload_n 0, 1) := by decide +kernel
theorem dX5_hall_72 : decode cX5_hall 72 = .ok (.aload_n 0, 1) := by decide +kernel
theorem dX5_hall_73 : decode cX5_hall 73 = .ok (.getfield 46, 3) := by decide +kernel
theorem dX5_hall_76 : decode cX5_hall 76 = .ok (.invokevirtual 111, 3) := by decide +kernel
theorem dX5_hall_79 : decode cX5_hall 79 = .ok (.aload_n 0, 1) := by decide +kernel
theorem dX5_hall_80 : decode cX5_hall 80 = .ok (.iconst 0, 1) := by decide +kernel
theorem dX5_hall_81 : decode cX5_hall 81 = .ok (.putfield 83, 3) := by decide +kernel
theorem dX5_hall_84 : decode cX5_hall 84 = .ok (.iconst 0, 1) := by decide +kernel
theorem dX5_hall_85 : decode cX5_hall 85 = .ok (.istore_n 2, 1) := by decide +kernel
theorem dX5_hall_86 : decode cX5_hall 86 = .ok (.aload_n 0, 1) := by decide +kernel
theorem dX5_hall_87 : decode cX5_hall 87 = .ok (.getfield 83, 3) := by decide +kernel
theorem dX5_hall_90 : decode cX5_hall 90 = .ok (.aload_n 0, 1) := by decide +kernel
theorem dX5_hall_91 : decode cX5_hall 91 = .ok (.getfield 80, 3) := by decide +kernel
theorem dX5_hall_94 : decode cX5_hall 94 = .ok (.if_icmp .ge 48, 3) := by decide +kernel
theorem dX5_hall_97 : decode cX5_hall 97 = .ok (.aload_n 0, 1) := by decide +kernel
theorem dX5_hall_98 : decode cX5_hall 98 = .ok (.getfield 83, 3) := by decide +kernel
theorem dX5_hall_101 : decode cX5_hall 101 = .ok (.istore_n 3, 1) := by decide +kernel
theorem dX5_hall_102 : decode cX5_hall 102 = .ok (.aload_n 0, 1) := by decide +kernel
theorem dX5_hall_103 : decode cX5_hall 103 = .ok (.iconst 1, 1) := by decide +kernel
theorem dX5_hall_104 : decode cX5_hall 104 = .ok (.invokevirtual 107, 3) := by decide +kernel
theorem dX5_hall_107 : decode cX5_hall 107 = .ok (.ifCond .ne 22, 3) := by decide +kernel
theorem dX5_hall_110 : decode cX5_hall 110 = .ok (.aload_n 0, 1) := by decide +kernel
theorem dX5_hall_111 : decode cX5_hall 111 = .ok (.aload_n 0, 1) := by decide +kernel
theorem dX5_hall_112 : decode cX5_hall 112 = .ok (.getfield 46, 3) := by decide +kernel
theorem dX5_hall_115 : decode cX5_hall 115 = .ok (.invokevirtual 115, 3) := by decide +kernel
theorem dX5_hall_118 : decode cX5_hall 118 = .ok (.aload_n 0, 1) := by decide +kernel
theorem dX5_hall_119 : decode cX5_hall 119 = .ok (.iconst 0, 1) := by decide +kernel
theorem dX5_hall_120 : decode cX5_hall 120 = .ok (.putfield 80, 3) := by decide +kernel
theorem dX5_hall_123 : decode cX5_hall 123 = .ok (.sipush (-2000), 3) := by decide +kernel
theorem dX5_hall_126 : decode cX5_hall 126 = .ok (.iload_n 3, 1) := by decide +kernel
theorem dX5_hall_127 : decode cX5_hall 127 = .ok (.isub, 1) := by decide +kernel
theorem dX5_hall_128 : decode cX5_hall 128 = .ok (.ireturn, 1) := by decide +kernel
theorem dX5_hall_129 : decode cX5_hall 129 = .ok (.aload_n 0, 1) := by decide +kernel
theorem dX5_hall_130 : decode cX5_hall 130 = .ok (.bipush 59, 2) := by decide +kernel
theorem dX5_hall_132 : decode cX5_hall 132 = .ok (.invokevirtual 86, 3) := by decide +kernel
theorem dX5_hall_135 : decode cX5_hall 135 = .ok (.pop, 1) := by decide +kernel
theorem dX5_hall_136 : decode cX5_hall 136 = .ok (.iinc 2 1, 3) := by decide +kernel
theorem dX5_hall_139 : decode cX5_hall 139 = .ok (.goto (-53), 3) := by decide +kernel
theorem dX5_hall_142 : decode cX5_hall 142 = .ok (.aload_n 0, 1) := by decide +kernel
theorem dX5_hall_143 : decode cX5_hall 143 = .ok (.iconst 0, 1) := by decide +kernel
theorem dX5_hall_144 : decode cX5_hall 144 = .ok (.putfield 80, 3) := by decide +kernel
theorem dX5_hall_147 : decode cX5_hall 147 = .ok (.iload_n 2, 1) := by decide +kernel
theorem dX5_hall_148 : decode cX5_hall 148 = .ok (.ireturn, 1) := by decide +kernel
theorem dX5_tenths_0 : decode cX5_tenths 0 = .ok (.iload_n 2, 1) := by decide +kernel
theorem dX5_tenths_1 : decode cX5_tenths 1 = .ok (.ifCond .ne 12, 3) := by decide +kernel
theorem dX5_tenths_4 : decode cX5_tenths 4 = .ok (.aload_n 0, 1) := by decide +kernel
theorem dX5_tenths_5 : decode cX5_tenths 5 = .ok (.getfield 22, 3) := by decide +kernel
theorem dX5_tenths_8 : decode cX5_tenths 8 = .ok (.iload_n 1, 1) := by decide +kernel
theorem dX5_tenths_9 : decode cX5_tenths 9 = .ok (.iaload, 1) := by decide +kernel
theorem dX5_tenths_10 : decode cX5_tenths 10 = .ok (.goto 23, 3) := by decide +kernel
theorem dX5_tenths_13 : decode cX5_tenths 13 = .ok (.iload_n 2, 1) := by decide +kernel
theorem dX5_tenths_14 : decode cX5_tenths 14 = .ok (.iconst 1, 1) := by decide +kernel
theorem dX5_tenths_15 : decode cX5_tenths 15 = .ok (.if_icmp .ne 12, 3) := by decide +kernel
theorem dX5_tenths_18 : decode cX5_tenths 18 = .ok (.aload_n 0, 1) := by decide +kernel
theorem dX5_tenths_19 : decode cX5_tenths 19 = .ok (.getfield 25, 3) := by decide +kernel
theorem dX5_tenths_22 : decode cX5_tenths 22 = .ok (.iload_n 1, 1) := by decide +kernel
theorem dX5_tenths_23 : decode cX5_tenths 23 = .ok (.iaload, 1) := by decide +kernel
theorem dX5_tenths_24 : decode cX5_tenths 24 = .ok (.goto 9, 3) := by decide +kernel
theorem dX5_tenths_27 : decode cX5_tenths 27 = .ok (.aload_n 0, 1) := by decide +kernel
theorem dX5_tenths_28 : decode cX5_tenths 28 = .ok (.getfield 28, 3) := by decide +kernel
theorem dX5_tenths_31 : decode cX5_tenths 31 = .ok (.iload_n 1, 1) := by decide +kernel
theorem dX5_tenths_32 : decode cX5_tenths 32 = .ok (.iaload, 1) := by decide +kernel
theorem dX5_tenths_33 : decode cX5_tenths 33 = .ok (.istore 4, 2) := by decide +kernel
theorem dX5_tenths_35 : decode cX5_tenths 35 = .ok (.aload_n 0, 1) := by decide +kernel
theorem dX5_tenths_36 : decode cX5_tenths 36 = .ok (.getfield 19, 3) := by decide +kernel
theorem dX5_tenths_39 : decode cX5_tenths 39 = .ok (.iload_n 1, 1) := by decide +kernel
theorem dX5_tenths_40 : decode cX5_tenths 40 = .ok (.iaload, 1) := by decide +kernel
theorem dX5_tenths_41 : decode cX5_tenths 41 = .ok (.tableswitch 140 1 5 #[35, 45, 54, 82, 102], 35) := by decide +kernel
theorem dX5_tenths_76 : decode cX5_tenths 76 = .ok (.bipush 9, 2) := by decide +kernel
theorem dX5_tenths_78 : decode cX5_tenths 78 = .ok (.iload 4, 2) := by decide +kernel
theorem dX5_tenths_80 : decode cX5_tenths 80 = .ok (.iconst 1, 1) := by decide +kernel
theorem dX5_tenths_81 : decode cX5_tenths 81 = .ok (.iadd, 1) := by decide +kernel
theorem dX5_tenths_82 : decode cX5_tenths 82 = .ok (.invokestatic 118, 3) := by decide +kernel
theorem dX5_tenths_85 : decode cX5_tenths 85 = .ok (.ireturn, 1) := by decide +kernel
theorem dX5_tenths_86 : decode cX5_tenths 86 = .ok (.iconst 0, 1) := by decide +kernel
theorem dX5_tenths_87 : decode cX5_tenths 87 = .ok (.iload 4, 2) := by decide +kernel
theorem dX5_tenths_89 : decode cX5_tenths 89 = .ok (.iconst 1, 1) := by decide +kernel
theorem dX5_tenths_90 : decode cX5_tenths 90 = .ok (.isub, 1) := by decide +kernel
theorem dX5_tenths_91 : decode cX5_tenths 91 = .ok (.invokestatic 124, 3) := by decide +kernel
theorem dX5_tenths_94 : decode cX5_tenths 94 = .ok (.ireturn, 1) := by decide +kernel
theorem dX5_tenths_95 : decode cX5_tenths 95 = .ok (.iload_n 2, 1) := by decide +kernel
theorem dX5_tenths_96 : decode cX5_tenths 96 = .ok (.ifCond .ne 15, 3) := by decide +kernel
theorem dX5_tenths_99 : decode cX5_tenths 99 = .ok (.bipush 9, 2) := by decide +kernel
theorem dX5_tenths_101 : decode cX5_tenths 101 = .ok (.iload 4, 2) := by decide +kernel
theorem dX5_tenths_103 : decode cX5_tenths 103 = .ok (.iconst 2, 1) := by decide +kernel
theorem dX5_tenths_104 : decode cX5_tenths 104 = .ok (.iadd, 1) := by decide +kernel
theorem dX5_tenths_105 : decode cX5_tenths 105 = .ok (.invokestatic 118, 3) := by decide +kernel
theorem dX5_tenths_108 : decode cX5_tenths 108 = .ok (.goto 14, 3) := by decide +kernel
theorem dX5_tenths_111 : decode cX5_tenths 111 = .ok (.iload_n 2, 1) := by decide +kernel
theorem dX5_tenths_112 : decode cX5_tenths 112 = .ok (.iconst 1, 1) := by decide +kernel
theorem dX5_tenths_113 : decode cX5_tenths 113 = .ok (.if_icmp .ne 7, 3) := by decide +kernel
theorem dX5_tenths_116 : decode cX5_tenths 116 = .ok (.iconst 0, 1) := by decide +kernel
theorem dX5_tenths_117 : decode cX5_tenths 117 = .ok (.goto 5, 3) := by decide +kernel
theorem dX5_tenths_120 : decode cX5_tenths 120 = .ok (.iload 4, 2) := by decide +kernel
theorem dX5_tenths_122 : decode cX5_tenths 122 = .ok (.ireturn, 1) := by decide +kernel
theorem dX5_tenths_123 : decode cX5_tenths 123 = .ok (.iload_n 3, 1) := by decide +kernel
theorem dX5_tenths_124 : decode cX5_tenths 124 = .ok (.bipush 9, 2) := by decide +kernel
theorem dX5_tenths_126 : decode cX5_tenths 126 = .ok (.if_icmp .le 8, 3) := by decide +kernel
theorem dX5_tenths_129 : decode cX5_tenths 129 = .ok (.iload 4, 2) := by decide +kernel
theorem dX5_tenths_131 : decode cX5_tenths 131 = .ok (.goto 11, 3) := by decide +kernel
theorem dX5_tenths_134 : decode cX5_tenths 134 = .ok (.iconst 0, 1) := by decide +kernel
theorem dX5_tenths_135 : decode cX5_tenths 135 = .ok (.iload 4, 2) := by decide +kernel
theorem dX5_tenths_137 : decode cX5_tenths 137 = .ok (.iconst 1, 1) := by decide +kernel
theorem dX5_tenths_138 : decode cX5_tenths 138 = .ok (.isub, 1) := by decide +kernel
theorem dX5_tenths_139 : decode cX5_tenths 139 = .ok (.invokestatic 124, 3) := by decide +kernel
theorem dX5_tenths_142 : decode cX5_tenths 142 = .ok (.ireturn, 1) := by decide +kernel
theorem dX5_tenths_143 : decode cX5_tenths 143 = .ok (.iload_n 2, 1) := by decide +kernel
theorem dX5_tenths_144 : decode cX5_tenths 144 = .ok (.ifCond .ne 15, 3) := by decide +kernel
theorem dX5_tenths_147 : decode cX5_tenths 147 = .ok (.bipush 9, 2) := by decide +kernel
theorem dX5_tenths_149 : decode cX5_tenths 149 = .ok (.iload 4, 2) := by decide +kernel
theorem dX5_tenths_151 : decode cX5_tenths 151 = .ok (.iconst 1, 1) := by decide +kernel
theorem dX5_tenths_152 : decode cX5_tenths 152 = .ok (.iadd, 1) := by decide +kernel
theorem dX5_tenths_153 : decode cX5_tenths 153 = .ok (.invokestatic 118, 3) := by decide +kernel
theorem dX5_tenths_156 : decode cX5_tenths 156 = .ok (.goto 24, 3) := by decide +kernel
theorem dX5_tenths_159 : decode cX5_tenths 159 = .ok (.iload_n 2, 1) := by decide +kernel
theorem dX5_tenths_160 : decode cX5_tenths 160 = .ok (.iconst 1, 1) := by decide +kernel
theorem dX5_tenths_161 : decode cX5_tenths 161 = .ok (.if_icmp .ne 17, 3) := by decide +kernel
theorem dX5_tenths_164 : decode cX5_tenths 164 = .ok (.bipush 9, 2) := by decide +kernel
theorem dX5_tenths_166 : decode cX5_tenths 166 = .ok (.iload 4, 2) := by decide +kernel
theorem dX5_tenths_168 : decode cX5_tenths 168 = .ok (.iconst 1, 1) := by decide +kernel
theorem dX5_tenths_169 : decode cX5_tenths 169 = .ok (.iadd, 1) := by decide +kernel
theorem dX5_tenths_170 : decode cX5_tenths 170 = .ok (.invokestatic 118, 3) := by decide +kernel
theorem dX5_tenths_173 : decode cX5_tenths 173 = .ok (.iconst 2, 1) := by decide +kernel
theorem dX5_tenths_174 : decode cX5_tenths 174 = .ok (.idiv, 1) := by decide +kernel
theorem dX5_tenths_175 : decode cX5_tenths 175 = .ok (.goto 5, 3) := by decide +kernel
theorem dX5_tenths_178 : decode cX5_tenths 178 = .ok (.iload 4, 2) := by decide +kernel
theorem dX5_tenths_180 : decode cX5_tenths 180 = .ok (.ireturn, 1) := by decide +kernel
theorem dX5_tenths_181 : decode cX5_tenths 181 = .ok (.iload 4, 2) := by decide +kernel
theorem dX5_tenths_183 : decode cX5_tenths 183 = .ok (.ireturn, 1) := by decide +kernel
set_option maxRecDepth 20000 in
theorem ggX5_odds_X5_tenths : GoodIn wsX5_odds wsX5_tenths := goodIn_r _ [10, 11, 12, 13, 14, 2, 3, 4, 5, 15, 16, 17, 18, 19, 20, 21, 22, 23, 24, 25, 26, 27, 28, 29, 30, 31, 32, 33, 34, 35, 36, 37, 38, 39, 40, 41, 42, 43] (by decide +kernel) (by decide +kernel)
set_option maxRecDepth 20000 in
theorem gX5_odds_X5_tenths : GoodIn wsX5_odds (wsV RX5 127 RX5 yX5_tenths wsX5_tenths) := goodIn_app (goodIn_of _ (by decide +kernel)) ggX5_odds_X5_tenths
theorem dX5_odds_0 : decode cX5_odds 0 = .ok (.aload_n 0, 1) := by decide +kernel
theorem dX5_odds_1 : decode cX5_odds 1 = .ok (.iload_n 1, 1) := by decide +kernel
theorem dX5_odds_2 : decode cX5_odds 2 = .ok (.iload_n 2, 1) := by decide +kernel
theorem dX5_odds_3 : decode cX5_odds 3 = .ok (.iload_n 3, 1) := by decide +kernel
theorem dX5_odds_4 : decode cX5_odds 4 = .ok (.invokevirtual 127, 3) := by decide +kernel
theorem dX5_odds_7 : decode cX5_odds 7 = .ok (.istore 4, 2) := by decide +kernel
theorem dX5_odds_9 : decode cX5_odds 9 = .ok (.aload_n 0, 1) := by decide +kernel
theorem dX5_odds_10 : decode cX5_odds 10 = .ok (.getfield 49, 3) := by decide +kernel
theorem dX5_odds_13 : decode cX5_odds 13 = .ok (.iload_n 1, 1) := by decide +kernel
theorem dX5_odds_14 : decode cX5_odds 14 = .ok (.iaload, 1) := by decide +kernel
theorem dX5_odds_15 : decode cX5_odds 15 = .ok (.iconst 1, 1) := by decide +kernel
theorem dX5_odds_16 : decode cX5_odds 16 = .ok (.if_icmp .ne 15, 3) := by decide +kernel
theorem dX5_odds_19 : decode cX5_odds 19 = .ok (.bipush 9, 2) := by decide +kernel
theorem dX5_odds_21 : decode cX5_odds 21 = .ok (.iload 4, 2) := by decide +kernel
theorem dX5_odds_23 : decode cX5_odds 23 = .ok (.iconst 1, 1) := by decide +kernel
theorem dX5_odds_24 : decode cX5_odds 24 = .ok (.iadd, 1) := by decide +kernel
theorem dX5_odds_25 : decode cX5_odds 25 = .ok (.invokestatic 118, 3) := by decide +kernel
theorem dX5_odds_28 : decode cX5_odds 28 = .ok (.goto 22, 3) := by decide +kernel
theorem dX5_odds_31 : decode cX5_odds 31 = .ok (.aload_n 0, 1) := by decide +kernel
theorem dX5_odds_32 : decode cX5_odds 32 = .ok (.getfield 49, 3) := by decide +kernel
theorem dX5_odds_35 : decode cX5_odds 35 = .ok (.iload_n 1, 1) := by decide +kernel
theorem dX5_odds_36 : decode cX5_odds 36 = .ok (.iaload, 1) := by decide +kernel
theorem dX5_odds_37 : decode cX5_odds 37 = .ok (.iconst 2, 1) := by decide +kernel
theorem dX5_odds_38 : decode cX5_odds 38 = .ok (.if_icmp .ne 10, 3) := by decide +kernel
theorem dX5_odds_41 : decode cX5_odds 41 = .ok (.iload 4, 2) := by decide +kernel
theorem dX5_odds_43 : decode cX5_odds 43 = .ok (.iconst 2, 1) := by decide +kernel
theorem dX5_odds_44 : decode cX5_odds 44 = .ok (.idiv, 1) := by decide +kernel
theorem dX5_odds_45 : decode cX5_odds 45 = .ok (.goto 5, 3) := by decide +kernel
theorem dX5_odds_48 : decode cX5_odds 48 = .ok (.iload 4, 2) := by decide +kernel
theorem dX5_odds_50 : decode cX5_odds 50 = .ok (.ireturn, 1) := by decide +kernel
set_option maxRecDepth 20000 in
theorem ggX5_player_X5_isOne : GoodIn wsX5_player wsX5_isOne := goodIn_r _ [10, 11, 12, 13, 9, 14, 20, 21, 22, 23, 24, 25, 26, 27, 28, 29, 30, 31, 32, 33, 34, 35, 36, 37, 38, 39, 40, 41, 42, 43, 44, 45] (by decide +kernel) (by decide +kernel)
set_option maxRecDepth 20000 in
theorem gX5_player_X5_isOne : GoodIn wsX5_player (wsV RX5 131 RX5 yX5_isOne wsX5_isOne) := goodIn_app (goodIn_of _ (by decide +kernel)) ggX5_player_X5_isOne
set_option maxRecDepth 20000 in
theorem ggX5_player_X5_no : GoodIn wsX5_player wsX5_no := goodIn_r _ [18, 19, 20, 21, 22, 23, 24, 25, 26, 27, 28, 29, 30, 31, 32, 33, 34, 35, 36, 37, 38, 39, 40, 41, 42, 43, 44, 45] (by decide +kernel) (by decide +kernel)
set_option maxRecDepth 20000 in
theorem gX5_player_X5_no : GoodIn wsX5_player (wsV RX5 69 RX5 yX5_no wsX5_no) := goodIn_app (goodIn_of _ (by decide +kernel)) ggX5_player_X5_no
theorem dX5_player_0 : decode cX5_player 0 = .ok (.aload_n 0, 1) := by decide +kernel
theorem dX5_player_1 : decode cX5_player 1 = .ok (.iload_n 1, 1) := by decide +kernel
theorem dX5_player_2 : decode cX5_player 2 = .ok (.invokevirtual 131, 3) := by decide +kernel
theorem dX5_player_5 : decode cX5_player 5 = .ok (.ifCond .ne 9, 3) := by decide +kernel
theorem dX5_player_8 : decode cX5_player 8 = .ok (.aload_n 0, 1) := by decide +kernel
theorem dX5_player_9 : decode cX5_player 9 = .ok (.iconst (-1), 1) := by decide +kernel
theorem dX5_player_10 : decode cX5_player 10 = .ok (.invokevirtual 69, 3) := by decide +kernel
theorem dX5_player_13 : decode cX5_player 13 = .ok (.ireturn, 1) := by decide +kernel
theorem dX5_player_14 : decode cX5_player 14 = .ok (.iload_n 2, 1) := by decide +kernel
theorem dX5_player_15 : decode cX5_player 15 = .ok (.tableswitch 68 0 4 #[33, 40, 47, 54, 61], 33) := by decide +kernel
theorem dX5_player_48 : decode cX5_player 48 = .ok (.aload_n 0, 1) := by decide +kernel
theorem dX5_player_49 : decode cX5_player 49 = .ok (.getfield 16, 3) := by decide +kernel
theorem dX5_player_52 : decode cX5_player 52 = .ok (.iload_n 1, 1) := by decide +kernel
theorem dX5_player_53 : decode cX5_player 53 = .ok (.iaload, 1) := by decide +kernel
theorem dX5_player_54 : decode cX5_player 54 = .ok (.ireturn, 1) := by decide +kernel
theorem dX5_player_55 : decode cX5_player 55 = .ok (.aload_n 0, 1) := by decide +kernel
theorem dX5_player_56 : decode cX5_player 56 = .ok (.getfield 19, 3) := by decide +kernel
theorem dX5_player_59 : decode cX5_player 59 = .ok (.iload_n 1, 1) := by decide +kernel
theorem dX5_player_60 : decode cX5_player 60 = .ok (.iaload, 1) := by decide +kernel
theorem dX5_player_61 : decode cX5_player 61 = .ok (.ireturn, 1) := by decide +kernel
theorem dX5_player_62 : decode cX5_player 62 = .ok (.aload_n 0, 1) := by decide +kernel
theorem dX5_player_63 : decode cX5_player 63 = .ok (.getfield 22, 3) := by decide +kernel
theorem dX5_player_66 : decode cX5_player 66 = .ok (.iload_n 1, 1) := by decide +kernel
theorem dX5_player_67 : decode cX5_player 67 = .ok (.iaload, 1) := by decide +kernel
theorem dX5_player_68 : decode cX5_player 68 = .ok (.ireturn, 1) := by decide +kernel
theorem dX5_player_69 : decode cX5_player 69 = .ok (.aload_n 0, 1) := by decide +kernel
theorem dX5_player_70 : decode cX5_player 70 = .ok (.getfield 25, 3) := by decide +kernel
theorem dX5_player_73 : decode cX5_player 73 = .ok (.iload_n 1, 1) := by decide +kernel
theorem dX5_player_74 : decode cX5_player 74 = .ok (.iaload, 1) := by decide +kernel
theorem dX5_player_75 : decode cX5_player 75 = .ok (.ireturn, 1) := by decide +kernel
theorem dX5_player_76 : decode cX5_player 76 = .ok (.aload_n 0, 1) := by decide +kernel
theorem dX5_player_77 : decode cX5_player 77 = .ok (.getfield 28, 3) := by decide +kernel
theorem dX5_player_80 : decode cX5_player 80 = .ok (.iload_n 1, 1) := by decide +kernel
theorem dX5_player_81 : decode cX5_player 81 = .ok (.iaload, 1) := by decide +kernel
theorem dX5_player_82 : decode cX5_player 82 = .ok (.ireturn, 1) := by decide +kernel
theorem dX5_player_83 : decode cX5_player 83 = .ok (.aload_n 0, 1) := by decide +kernel
theorem dX5_player_84 : decode cX5_player 84 = .ok (.bipush (-2), 2) := by decide +kernel
theorem dX5_player_86 : decode cX5_player 86 = .ok (.invokevirtual 69, 3) := by decide +kernel
theorem dX5_player_89 : decode cX5_player 89 = .ok (.ireturn, 1) := by decide +kernel
set_option maxRecDepth 20000 in
theorem ggX5_hits_X5_isOne : GoodIn wsX5_hits wsX5_isOne := goodIn_r _ [5, 6, 7, 8, 4, 9, 30, 31, 32, 33, 34, 35, 36, 37, 38, 39, 40, 41, 42, 43, 44, 45, 46, 47, 48, 49, 50, 51, 52, 53, 54, 55] (by decide +kernel) (by decide +kernel)
set_option maxRecDepth 20000 in
theorem gX5_hits_X5_isOne : GoodIn wsX5_hits (wsV RX5 131 RX5 yX5_isOne wsX5_isOne) := goodIn_app (goodIn_of _ (by decide +kernel)) ggX5_hits_X5_isOne
set_option maxRecDepth 20000 in
theorem ggX5_hits_X5_no : GoodIn wsX5_hits wsX5_no := goodIn_r _ [13, 14, 30, 31, 32, 33, 34, 35, 36, 37, 38, 39, 40, 41, 42, 43, 44, 45, 46, 47, 48, 49, 50, 51, 52, 53, 54, 55] (by decide +kernel) (by decide +kernel)
set_option maxRecDepth 20000 in
theorem gX5_hits_X5_no : GoodIn wsX5_hits (wsV RX5 69 RX5 yX5_no wsX5_no) := goodIn_app (goodIn_of _ (by decide +kernel)) ggX5_hits_X5_no
set_option maxRecDepth 20000 in
theorem ggX5_hits_X5_within : GoodIn wsX5_hits wsX5_within := goodIn_r _ [9] (by decide +kernel) (by decide +kernel)
set_option maxRecDepth 20000 in
theorem gX5_hits_X5_within : GoodIn wsX5_hits (va_wsS RX5 76 yX5_within wsX5_within) := goodIn_app (goodIn_of _ (by decide +kernel)) ggX5_hits_X5_within
set_option maxRecDepth 20000 in
theorem ggX5_hits_X5_tenths : GoodIn wsX5_hits wsX5_tenths := goodIn_r _ [18, 19, 20, 21, 22, 23, 24, 25, 26, 27, 28, 29, 30, 31, 32, 33, 34, 35, 36, 37, 38, 39, 40, 41, 42, 43, 44, 45, 46, 47, 48, 49, 50, 51, 52, 53, 54, 55] (by decide +kernel) (by decide +kernel)
set_option maxRecDepth 20000 in
theorem gX5_hits_X5_tenths : GoodIn wsX5_hits (wsV RX5 127 RX5 yX5_tenths wsX5_tenths) := goodIn_app (goodIn_of _ (by decide +kernel)) ggX5_hits_X5_tenths
theorem dX5_hits_0 : decode cX5_hits 0 = .ok (.aload_n 0, 1) := by decide +kernel
theorem dX5_hits_1 : decode cX5_hits 1 = .ok (.iload_n 1, 1) := by decide +kernel
theorem dX5_hits_2 : decode cX5_hits 2 = .ok (.invokevirtual 131, 3) := by decide +kernel
theorem dX5_hits_5 : decode cX5_hits 5 = .ok (.ifCond .ne 9, 3) := by decide +kernel
theorem dX5_hits_8 : decode cX5_hits 8 = .ok (.aload_n 0, 1) := by decide +kernel
theorem dX5_hits_9 : decode cX5_hits 9 = .ok (.iconst (-1), 1) := by decide +kernel
theorem dX5_hits_10 : decode cX5_hits 10 = .ok (.invokevirtual 69, 3) := by decide +kernel
theorem dX5_hits_13 : decode cX5_hits 13 = .ok (.ireturn, 1) := by decide +kernel
theorem dX5_hits_14 : decode cX5_hits 14 = .ok (.iload_n 2, 1) := by decide +kernel
theorem dX5_hits_15 : decode cX5_hits 15 = .ok (.iconst 0, 1) := by decide +kernel
theorem dX5_hits_16 : decode cX5_hits 16 = .ok (.iconst 2, 1) := by decide +kernel
theorem dX5_hits_17 : decode cX5_hits 17 = .ok (.invokestatic 76, 3) := by decide +kernel
theorem dX5_hits_20 : decode cX5_hits 20 = .ok (.ifCond .ne 10, 3) := by decide +kernel
theorem dX5_hits_23 : decode cX5_hits 23 = .ok (.aload_n 0, 1) := by decide +kernel
theorem dX5_hits_24 : decode cX5_hits 24 = .ok (.bipush (-2), 2) := by decide +kernel
theorem dX5_hits_26 : decode cX5_hits 26 = .ok (.invokevirtual 69, 3) := by decide +kernel
theorem dX5_hits_29 : decode cX5_hits 29 = .ok (.ireturn, 1) := by decide +kernel
theorem dX5_hits_30 : decode cX5_hits 30 = .ok (.iload_n 3, 1) := by decide +kernel
theorem dX5_hits_31 : decode cX5_hits 31 = .ok (.ifCond .ge 10, 3) := by decide +kernel
theorem dX5_hits_34 : decode cX5_hits 34 = .ok (.aload_n 0, 1) := by decide +kernel
theorem dX5_hits_35 : decode cX5_hits 35 = .ok (.bipush (-4), 2) := by decide +kernel
theorem dX5_hits_37 : decode cX5_hits 37 = .ok (.invokevirtual 69, 3) := by decide +kernel
theorem dX5_hits_40 : decode cX5_hits 40 = .ok (.ireturn, 1) := by decide +kernel
theorem dX5_hits_41 : decode cX5_hits 41 = .ok (.iload_n 3, 1) := by decide +kernel
theorem dX5_hits_42 : decode cX5_hits 42 = .ok (.bipush 24, 2) := by decide +kernel
theorem dX5_hits_44 : decode cX5_hits 44 = .ok (.if_icmp .le 12, 3) := by decide +kernel
theorem dX5_hits_47 : decode cX5_hits 47 = .ok (.aload_n 0, 1) := by decide +kernel
theorem dX5_hits_48 : decode cX5_hits 48 = .ok (.bipush (-6), 2) := by decide +kernel
theorem dX5_hits_50 : decode cX5_hits 50 = .ok (.invokevirtual 69, 3) := by decide +kernel
theorem dX5_hits_53 : decode cX5_hits 53 = .ok (.goto 10, 3) := by decide +kernel
theorem dX5_hits_56 : decode cX5_hits 56 = .ok (.aload_n 0, 1) := by decide +kernel
theorem dX5_hits_57 : decode cX5_hits 57 = .ok (.iload_n 1, 1) := by decide +kernel
theorem dX5_hits_58 : decode cX5_hits 58 = .ok (.iload_n 2, 1) := by decide +kernel
theorem dX5_hits_59 : decode cX5_hits 59 = .ok (.iload_n 3, 1) := by decide +kernel
theorem dX5_hits_60 : decode cX5_hits 60 = .ok (.invokevirtual 127, 3) := by decide +kernel
theorem dX5_hits_63 : decode cX5_hits 63 = .ok (.ireturn, 1) := by decide +kernel
set_option maxRecDepth 20000 in
theorem ggX5_set_X5_within : GoodIn wsX5_set wsX5_within := goodIn_r _ [12] (by decide +kernel) (by decide +kernel)
set_option maxRecDepth 20000 in
theorem gX5_set_X5_within : GoodIn wsX5_set (va_wsS RX5 76 yX5_within wsX5_within) := goodIn_app (goodIn_of _ (by decide +kernel)) ggX5_set_X5_within
set_option maxRecDepth 20000 in
theorem ggX5_set_X5_no : GoodIn wsX5_set wsX5_no := goodIn_r _ [16, 17, 18, 19, 20, 21, 22, 23, 24, 25, 26, 27, 28, 29, 30, 31, 32, 33, 34, 35, 36, 37, 38, 39, 40, 41, 42, 43] (by decide +kernel) (by decide +kernel)
set_option maxRecDepth 20000 in
theorem gX5_set_X5_no : GoodIn wsX5_set (wsV RX5 69 RX5 yX5_no wsX5_no) := goodIn_app (goodIn_of _ (by decide +kernel)) ggX5_set_X5_no
theorem dX5_set_0 : decode cX5_set 0 = .ok (.iload_n 1, 1) := by decide +kernel
theorem dX5_set_1 : decode cX5_set 1 = .ok (.iconst 0, 1) := by decide +kernel
theorem dX5_set_2 : decode cX5_set 2 = .ok (.bipush 9, 2) := by decide +kernel
theorem dX5_set_4 : decode cX5_set 4 = .ok (.invokestatic 76, 3) := by decide +kernel
theorem dX5_set_7 : decode cX5_set 7 = .ok (.ifCond .ne 10, 3) := by decide +kernel
theorem dX5_set_10 : decode cX5_set 10 = .ok (.aload_n 0, 1) := by decide +kernel
theorem dX5_set_11 : decode cX5_set 11 = .ok (.bipush (-2), 2) := by decide +kernel
theorem dX5_set_13 : decode cX5_set 13 = .ok (.invokevirtual 69, 3) := by decide +kernel
theorem dX5_set_16 : decode cX5_set 16 = .ok (.ireturn, 1) := by decide +kernel
theorem dX5_set_17 : decode cX5_set 17 = .ok (.iload_n 2, 1) := by decide +kernel
theorem dX5_set_18 : decode cX5_set 18 = .ok (.ifCond .ge 10, 3) := by decide +kernel
theorem dX5_set_21 : decode cX5_set 21 = .ok (.aload_n 0, 1) := by decide +kernel
theorem dX5_set_22 : decode cX5_set 22 = .ok (.bipush (-4), 2) := by decide +kernel
theorem dX5_set_24 : decode cX5_set 24 = .ok (.invokevirtual 69, 3) := by decide +kernel
theorem dX5_set_27 : decode cX5_set 27 = .ok (.ireturn, 1) := by decide +kernel
theorem dX5_set_28 : decode cX5_set 28 = .ok (.iload_n 1, 1) := by decide +kernel
theorem dX5_set_29 : decode cX5_set 29 = .ok (.ifCond .ne 8, 3) := by decide +kernel
theorem dX5_set_32 : decode cX5_set 32 = .ok (.bipush 24, 2) := by decide +kernel
theorem dX5_set_34 : decode cX5_set 34 = .ok (.goto 53, 3) := by decide +kernel
theorem dX5_set_37 : decode cX5_set 37 = .ok (.iload_n 1, 1) := by decide +kernel
theorem dX5_set_38 : decode cX5_set 38 = .ok (.iconst 1, 1) := by decide +kernel
theorem dX5_set_39 : decode cX5_set 39 = .ok (.if_icmp .ne 8, 3) := by decide +kernel
theorem dX5_set_42 : decode cX5_set 42 = .ok (.bipush 12, 2) := by decide +kernel
theorem dX5_set_44 : decode cX5_set 44 = .ok (.goto 43, 3) := by decide +kernel
theorem dX5_set_47 : decode cX5_set 47 = .ok (.iload_n 1, 1) := by decide +kernel
theorem dX5_set_48 : decode cX5_set 48 = .ok (.iconst 2, 1) := by decide +kernel
theorem dX5_set_49 : decode cX5_set 49 = .ok (.if_icmp .ne 7, 3) := by decide +kernel
theorem dX5_set_52 : decode cX5_set 52 = .ok (.iconst 1, 1) := by decide +kernel
theorem dX5_set_53 : decode cX5_set 53 = .ok (.goto 34, 3) := by decide +kernel
theorem dX5_set_56 : decode cX5_set 56 = .ok (.iload_n 1, 1) := by decide +kernel
theorem dX5_set_57 : decode cX5_set 57 = .ok (.iconst 5, 1) := by decide +kernel
theorem dX5_set_58 : decode cX5_set 58 = .ok (.if_icmp .ge 7, 3) := by decide +kernel
theorem dX5_set_61 : decode cX5_set 61 = .ok (.iconst 5, 1) := by decide +kernel
theorem dX5_set_62 : decode cX5_set 62 = .ok (.goto 25, 3) := by decide +kernel
theorem dX5_set_65 : decode cX5_set 65 = .ok (.iload_n 1, 1) := by decide +kernel
theorem dX5_set_66 : decode cX5_set 66 = .ok (.bipush 7, 2) := by decide +kernel
theorem dX5_set_68 : decode cX5_set 68 = .ok (.if_icmp .ge 7, 3) := by decide +kernel
theorem dX5_set_71 : decode cX5_set 71 = .ok (.iconst 2, 1) := by decide +kernel
theorem dX5_set_72 : decode cX5_set 72 = .ok (.goto 15, 3) := by decide +kernel
theorem dX5_set_75 : decode cX5_set 75 = .ok (.iload_n 1, 1) := by decide +kernel
theorem dX5_set_76 : decode cX5_set 76 = .ok (.bipush 8, 2) := by decide +kernel
theorem dX5_set_78 : decode cX5_set 78 = .ok (.if_icmp .ne 7, 3) := by decide +kernel
theorem dX5_set_81 : decode cX5_set 81 = .ok (.iconst 3, 1) := by decide +kernel
theorem dX5_set_82 : decode cX5_set 82 = .ok (.goto 5, 3) := by decide +kernel
theorem dX5_set_85 : decode cX5_set 85 = .ok (.bipush 9, 2) := by decide +kernel
theorem dX5_set_87 : decode cX5_set 87 = .ok (.istore_n 3, 1) := by decide +kernel
theorem dX5_set_88 : decode cX5_set 88 = .ok (.iload_n 2, 1) := by decide +kernel
theorem dX5_set_89 : decode cX5_set 89 = .ok (.iload_n 3, 1) := by decide +kernel
theorem dX5_set_90 : decode cX5_set 90 = .ok (.if_icmp .le 10, 3) := by decide +kernel
theorem dX5_set_93 : decode cX5_set 93 = .ok (.aload_n 0, 1) := by decide +kernel
theorem dX5_set_94 : decode cX5_set 94 = .ok (.bipush (-6), 2) := by decide +kernel
theorem dX5_set_96 : decode cX5_set 96 = .ok (.invokevirtual 69, 3) := by decide +kernel
theorem dX5_set_99 : decode cX5_set 99 = .ok (.ireturn, 1) := by decide +kernel
theorem dX5_set_100 : decode cX5_set 100 = .ok (.iload_n 1, 1) := by decide +kernel
theorem dX5_set_101 : decode cX5_set 101 = .ok (.tableswitch 165 0 8 #[51, 65, 79, 93, 93, 115, 115, 137, 151], 51) := by decide +kernel
theorem dX5_set_152 : decode cX5_set 152 = .ok (.aload_n 0, 1) := by decide +kernel
theorem dX5_set_153 : decode cX5_set 153 = .ok (.getfield 55, 3) := by decide +kernel
theorem dX5_set_156 : decode cX5_set 156 = .ok (.istore 4, 2) := by decide +kernel
theorem dX5_set_158 : decode cX5_set 158 = .ok (.aload_n 0, 1) := by decide +kernel
theorem dX5_set_159 : decode cX5_set 159 = .ok (.iload_n 2, 1) := by decide +kernel
theorem dX5_set_160 : decode cX5_set 160 = .ok (.putfield 55, 3) := by decide +kernel
theorem dX5_set_163 : decode cX5_set 163 = .ok (.iload 4, 2) := by decide +kernel
theorem dX5_set_165 : decode cX5_set 165 = .ok (.ireturn, 1) := by decide +kernel
theorem dX5_set_166 : decode cX5_set 166 = .ok (.aload_n 0, 1) := by decide +kernel
theorem dX5_set_167 : decode cX5_set 167 = .ok (.getfield 59, 3) := by decide +kernel
theorem dX5_set_170 : decode cX5_set 170 = .ok (.istore 4, 2) := by decide +kernel
theorem dX5_set_172 : decode cX5_set 172 = .ok (.aload_n 0, 1) := by decide +kernel
theorem dX5_set_173 : decode cX5_set 173 = .ok (.iload_n 2, 1) := by decide +kernel
theorem dX5_set_174 : decode cX5_set 174 = .ok (.putfield 59, 3) := by decide +kernel
theorem dX5_set_177 : decode cX5_set 177 = .ok (.iload 4, 2) := by decide +kernel
theorem dX5_set_179 : decode cX5_set 179 = .ok (.ireturn, 1) := by decide +kernel
theorem dX5_set_180 : decode cX5_set 180 = .ok (.aload_n 0, 1) := by decide +kernel
theorem dX5_set_181 : decode cX5_set 181 = .ok (.getfield 101, 3) := by decide +kernel
theorem dX5_set_184 : decode cX5_set 184 = .ok (.istore 4, 2) := by decide +kernel
theorem dX5_set_186 : decode cX5_set 186 = .ok (.aload_n 0, 1) := by decide +kernel
theorem dX5_set_187 : decode cX5_set 187 = .ok (.iload_n 2, 1) := by decide +kernel
theorem dX5_set_188 : decode cX5_set 188 = .ok (.putfield 101, 3) := by decide +kernel
theorem dX5_set_191 : decode cX5_set 191 = .ok (.iload 4, 2) := by decide +kernel
theorem dX5_set_193 : decode cX5_set 193 = .ok (.ireturn, 1) := by decide +kernel
theorem dX5_set_194 : decode cX5_set 194 = .ok (.aload_n 0, 1) := by decide +kernel
theorem dX5_set_195 : decode cX5_set 195 = .ok (.getfield 7, 3) := by decide +kernel
theorem dX5_set_198 : decode cX5_set 198 = .ok (.iload_n 1, 1) := by decide +kernel
theorem dX5_set_199 : decode cX5_set 199 = .ok (.iconst 3, 1) := by decide +kernel
theorem dX5_set_200 : decode cX5_set 200 = .ok (.isub, 1) := by decide +kernel
theorem dX5_set_201 : decode cX5_set 201 = .ok (.iaload, 1) := by decide +kernel
theorem dX5_set_202 : decode cX5_set 202 = .ok (.istore 4, 2) := by decide +kernel
theorem dX5_set_204 : decode cX5_set 204 = .ok (.aload_n 0, 1) := by decide +kernel
theorem dX5_set_205 : decode cX5_set 205 = .ok (.getfield 7, 3) := by decide +kernel
theorem dX5_set_208 : decode cX5_set 208 = .ok (.iload_n 1, 1) := by decide +kernel
theorem dX5_set_209 : decode cX5_set 209 = .ok (.iconst 3, 1) := by decide +kernel
theorem dX5_set_210 : decode cX5_set 210 = .ok (.isub, 1) := by decide +kernel
theorem dX5_set_211 : decode cX5_set 211 = .ok (.iload_n 2, 1) := by decide +kernel
theorem dX5_set_212 : decode cX5_set 212 = .ok (.iastore, 1) := by decide +kernel
theorem dX5_set_213 : decode cX5_set 213 = .ok (.iload 4, 2) := by decide +kernel
theorem dX5_set_215 : decode cX5_set 215 = .ok (.ireturn, 1) := by decide +kernel
theorem dX5_set_216 : decode cX5_set 216 = .ok (.aload_n 0, 1) := by decide +kernel
theorem dX5_set_217 : decode cX5_set 217 = .ok (.getfield 13, 3) := by decide +kernel
theorem dX5_set_220 : decode cX5_set 220 = .ok (.iload_n 1, 1) := by decide +kernel
theorem dX5_set_221 : decode cX5_set 221 = .ok (.iconst 5, 1) := by decide +kernel
theorem dX5_set_222 : decode cX5_set 222 = .ok (.isub, 1) := by decide +kernel
theorem dX5_set_223 : decode cX5_set 223 = .ok (.iaload, 1) := by decide +kernel
theorem dX5_set_224 : decode cX5_set 224 = .ok (.istore 4, 2) := by decide +kernel
theorem dX5_set_226 : decode cX5_set 226 = .ok (.aload_n 0, 1) := by decide +kernel
theorem dX5_set_227 : decode cX5_set 227 = .ok (.getfield 13, 3) := by decide +kernel
theorem dX5_set_230 : decode cX5_set 230 = .ok (.iload_n 1, 1) := by decide +kernel
theorem dX5_set_231 : decode cX5_set 231 = .ok (.iconst 5, 1) := by decide +kernel
theorem dX5_set_232 : decode cX5_set 232 = .ok (.isub, 1) := by decide +kernel
theorem dX5_set_233 : decode cX5_set 233 = .ok (.iload_n 2, 1) := by decide +kernel
theorem dX5_set_234 : decode cX5_set 234 = .ok (.iastore, 1) := by decide +kernel
theorem dX5_set_235 : decode cX5_set 235 = .ok (.iload 4, 2) := by decide +kernel
theorem dX5_set_237 : decode cX5_set 237 = .ok (.ireturn, 1) := by decide +kernel
theorem dX5_set_238 : decode cX5_set 238 = .ok (.aload_n 0, 1) := by decide +kernel
theorem dX5_set_239 : decode cX5_set 239 = .ok (.getfield 62, 3) := by decide +kernel
theorem dX5_set_242 : decode cX5_set 242 = .ok (.istore 4, 2) := by decide +kernel
theorem dX5_set_244 : decode cX5_set 244 = .ok (.aload_n 0, 1) := by decide +kernel
theorem dX5_set_245 : decode cX5_set 245 = .ok (.iload_n 2, 1) := by decide +kernel
theorem dX5_set_246 : decode cX5_set 246 = .ok (.putfield 62, 3) := by decide +kernel
theorem dX5_set_249 : decode cX5_set 249 = .ok (.iload 4, 2) := by decide +kernel
theorem dX5_set_251 : decode cX5_set 251 = .ok (.ireturn, 1) := by decide +kernel
theorem dX5_set_252 : decode cX5_set 252 = .ok (.aload_n 0, 1) := by decide +kernel
theorem dX5_set_253 : decode cX5_set 253 = .ok (.getfield 104, 3) := by decide +kernel
theorem dX5_set_256 : decode cX5_set 256 = .ok (.istore 4, 2) := by decide +kernel
theorem dX5_set_258 : decode cX5_set 258 = .ok (.aload_n 0, 1) := by decide +kernel
theorem dX5_set_259 : decode cX5_set 259 = .ok (.iload_n 2, 1) := by decide +kernel
theorem dX5_set_260 : decode cX5_set 260 = .ok (.putfield 104, 3) := by decide +kernel
theorem dX5_set_263 : decode cX5_set 263 = .ok (.iload 4, 2) := by decide +kernel
theorem dX5_set_265 : decode cX5_set 265 = .ok (.ireturn, 1) := by decide +kernel
theorem dX5_set_266 : decode cX5_set 266 = .ok (.aload_n 0, 1) := by decide +kernel
theorem dX5_set_267 : decode cX5_set 267 = .ok (.getfield 65, 3) := by decide +kernel
theorem dX5_set_270 : decode cX5_set 270 = .ok (.istore 4, 2) := by decide +kernel
theorem dX5_set_272 : decode cX5_set 272 = .ok (.aload_n 0, 1) := by decide +kernel
theorem dX5_set_273 : decode cX5_set 273 = .ok (.iload_n 2, 1) := by decide +kernel
theorem dX5_set_274 : decode cX5_set 274 = .ok (.putfield 65, 3) := by decide +kernel
theorem dX5_set_277 : decode cX5_set 277 = .ok (.iload 4, 2) := by decide +kernel
theorem dX5_set_279 : decode cX5_set 279 = .ok (.ireturn, 1) := by decide +kernel
theorem dX5_ended_0 : decode cX5_ended 0 = .ok (.iload_n 1, 1) := by decide +kernel
theorem dX5_ended_1 : decode cX5_ended 1 = .ok (.ifCond .eq 22, 3) := by decide +kernel
theorem dX5_ended_4 : decode cX5_ended 4 = .ok (.aload_n 0, 1) := by decide +kernel
theorem dX5_ended_5 : decode cX5_ended 5 = .ok (.getfield 104, 3) := by decide +kernel
theorem dX5_ended_8 : decode cX5_ended 8 = .ok (.iconst 1, 1) := by decide +kernel
theorem dX5_ended_9 : decode cX5_ended 9 = .ok (.if_icmp .ne 18, 3) := by decide +kernel
theorem dX5_ended_12 : decode cX5_ended 12 = .ok (.iload_n 2, 1) := by decide +kernel
theorem dX5_ended_13 : decode cX5_ended 13 = .ok (.bipush 8, 2) := by decide +kernel
theorem dX5_ended_15 : decode cX5_ended 15 = .ok (.if_icmp .gt 8, 3) := by decide +kernel
theorem dX5_ended_18 : decode cX5_ended 18 = .ok (.iload_n 2, 1) := by decide +kernel
theorem dX5_ended_19 : decode cX5_ended 19 = .ok (.iconst 4, 1) := by decide +kernel
theorem dX5_ended_20 : decode cX5_ended 20 = .ok (.if_icmp .ge 7, 3) := by decide +kernel
theorem dX5_ended_23 : decode cX5_ended 23 = .ok (.iconst 1, 1) := by decide +kernel
theorem dX5_ended_24 : decode cX5_ended 24 = .ok (.goto 4, 3) := by decide +kernel
theorem dX5_ended_27 : decode cX5_ended 27 = .ok (.iconst 0, 1) := by decide +kernel
theorem dX5_ended_28 : decode cX5_ended 28 = .ok (.ireturn, 1) := by decide +kernel
theorem dX5_atEnd_0 : decode cX5_atEnd 0 = .ok (.iload_n 1, 1) := by decide +kernel
theorem dX5_atEnd_1 : decode cX5_atEnd 1 = .ok (.bipush 6, 2) := by decide +kernel
theorem dX5_atEnd_3 : decode cX5_atEnd 3 = .ok (.if_icmp .le 8, 3) := by decide +kernel
theorem dX5_atEnd_6 : decode cX5_atEnd 6 = .ok (.ldc 134, 2) := by decide +kernel
theorem dX5_atEnd_8 : decode cX5_atEnd 8 = .ok (.goto 20, 3) := by decide +kernel
theorem dX5_atEnd_11 : decode cX5_atEnd 11 = .ok (.iload_n 1, 1) := by decide +kernel
theorem dX5_atEnd_12 : decode cX5_atEnd 12 = .ok (.bipush 6, 2) := by decide +kernel
theorem dX5_atEnd_14 : decode cX5_atEnd 14 = .ok (.if_icmp .ne 13, 3) := by decide +kernel
theorem dX5_atEnd_17 : decode cX5_atEnd 17 = .ok (.ldc 135, 2) := by decide +kernel
theorem dX5_atEnd_19 : decode cX5_atEnd 19 = .ok (.aload_n 0, 1) := by decide +kernel
theorem dX5_atEnd_20 : decode cX5_atEnd 20 = .ok (.getfield 65, 3) := by decide +kernel
theorem dX5_atEnd_23 : decode cX5_atEnd 23 = .ok (.imul, 1) := by decide +kernel
theorem dX5_atEnd_24 : decode cX5_atEnd 24 = .ok (.goto 4, 3) := by decide +kernel
theorem dX5_atEnd_27 : decode cX5_atEnd 27 = .ok (.iconst 0, 1) := by decide +kernel
theorem dX5_atEnd_28 : decode cX5_atEnd 28 = .ok (.ireturn, 1) := by decide +kernel
theorem dX5_valueOf_0 : decode cX5_valueOf 0 = .ok (.aload_n 0, 1) := by decide +kernel
theorem dX5_valueOf_1 : decode cX5_valueOf 1 = .ok (.getfield 52, 3) := by decide +kernel
theorem dX5_valueOf_4 : decode cX5_valueOf 4 = .ok (.bipush 26, 2) := by decide +kernel
theorem dX5_valueOf_6 : decode cX5_valueOf 6 = .ok (.iload_n 1, 1) := by decide +kernel
theorem dX5_valueOf_7 : decode cX5_valueOf 7 = .ok (.imul, 1) := by decide +kernel
theorem dX5_valueOf_8 : decode cX5_valueOf 8 = .ok (.iconst 2, 1) := by decide +kernel
theorem dX5_valueOf_9 : decode cX5_valueOf 9 = .ok (.iload_n 2, 1) := by decide +kernel
theorem dX5_valueOf_10 : decode cX5_valueOf 10 = .ok (.imul, 1) := by decide +kernel
theorem dX5_valueOf_11 : decode cX5_valueOf 11 = .ok (.iadd, 1) := by decide +kernel
theorem dX5_valueOf_12 : decode cX5_valueOf 12 = .ok (.iload_n 3, 1) := by decide +kernel
theorem dX5_valueOf_13 : decode cX5_valueOf 13 = .ok (.iadd, 1) := by decide +kernel
theorem dX5_valueOf_14 : decode cX5_valueOf 14 = .ok (.iaload, 1) := by decide +kernel
theorem dX5_valueOf_15 : decode cX5_valueOf 15 = .ok (.ireturn, 1) := by decide +kernel
theorem dX5_takes_0 : decode cX5_takes 0 = .ok (.iload_n 0, 1) := by decide +kernel
theorem dX5_takes_1 : decode cX5_takes 1 = .ok (.ifCond .ne 7, 3) := by decide +kernel
theorem dX5_takes_4 : decode cX5_takes 4 = .ok (.iconst 4, 1) := by decide +kernel
theorem dX5_takes_5 : decode cX5_takes 5 = .ok (.goto 22, 3) := by decide +kernel
theorem dX5_takes_8 : decode cX5_takes 8 = .ok (.iload_n 0, 1) := by decide +kernel
theorem dX5_takes_9 : decode cX5_takes 9 = .ok (.iconst 1, 1) := by decide +kernel
theorem dX5_takes_10 : decode cX5_takes 10 = .ok (.if_icmp .ne 7, 3) := by decide +kernel
theorem dX5_takes_13 : decode cX5_takes 13 = .ok (.iconst 3, 1) := by decide +kernel
theorem dX5_takes_14 : decode cX5_takes 14 = .ok (.goto 13, 3) := by decide +kernel
theorem dX5_takes_17 : decode cX5_takes 17 = .ok (.iload_n 0, 1) := by decide +kernel
theorem dX5_takes_18 : decode cX5_takes 18 = .ok (.iconst 2, 1) := by decide +kernel
theorem dX5_takes_19 : decode cX5_takes 19 = .ok (.if_icmp .ne 7, 3) := by decide +kernel
theorem dX5_takes_22 : decode cX5_takes 22 = .ok (.iconst 1, 1) := by decide +kernel
theorem dX5_takes_23 : decode cX5_takes 23 = .ok (.goto 4, 3) := by decide +kernel
theorem dX5_takes_26 : decode cX5_takes 26 = .ok (.iconst 5, 1) := by decide +kernel
theorem dX5_takes_27 : decode cX5_takes 27 = .ok (.ireturn, 1) := by decide +kernel
set_option maxRecDepth 20000 in
theorem ggX5_ofShot_X5_takes : GoodIn wsX5_ofShot wsX5_takes := goodIn_r _ [14] (by decide +kernel) (by decide +kernel)
set_option maxRecDepth 20000 in
theorem gX5_ofShot_X5_takes : GoodIn wsX5_ofShot (va_wsS RX5 136 yX5_takes wsX5_takes) := goodIn_app (goodIn_of _ (by decide +kernel)) ggX5_ofShot_X5_takes
set_option maxRecDepth 20000 in
theorem ggX5_ofShot_X5_atEnd : GoodIn wsX5_ofShot wsX5_atEnd := goodIn_r _ [18, 19, 20, 21, 40, 41, 42, 43, 44, 45, 46, 47, 48, 49, 50, 51, 52, 53, 54, 55, 56, 57, 58, 59, 60, 61, 62, 63, 64, 65] (by decide +kernel) (by decide +kernel)
set_option maxRecDepth 20000 in
theorem gX5_ofShot_X5_atEnd : GoodIn wsX5_ofShot (wsV RX5 139 RX5 yX5_atEnd wsX5_atEnd) := goodIn_app (goodIn_of _ (by decide +kernel)) ggX5_ofShot_X5_atEnd
set_option maxRecDepth 20000 in
theorem ggX5_ofShot_X5_odds : GoodIn wsX5_ofShot wsX5_odds := goodIn_r _ [25, 26, 2, 3, 4, 5, 27, 28, 29, 13, 30, 31, 32, 33, 34, 6, 7, 8, 40, 41, 42, 43, 44, 45, 46, 47, 48, 49, 50, 51, 52, 53, 54, 55, 56, 57, 58, 59, 60, 61, 62, 63, 64, 65] (by decide +kernel) (by decide +kernel)
set_option maxRecDepth 20000 in
theorem gX5_ofShot_X5_odds : GoodIn wsX5_ofShot (wsV RX5 142 RX5 yX5_odds wsX5_odds) := goodIn_app (goodIn_of _ (by decide +kernel)) ggX5_ofShot_X5_odds
set_option maxRecDepth 20000 in
theorem ggX5_ofShot_X5_valueOf : GoodIn wsX5_ofShot wsX5_valueOf := goodIn_r _ [38, 39, 40, 41, 42, 43, 44, 45, 46, 47, 48, 49, 50, 51, 52, 53, 54, 55, 56, 57, 58, 59, 60, 61, 62, 63, 64, 65] (by decide +kernel) (by decide +kernel)
set_option maxRecDepth 20000 in
theorem gX5_ofShot_X5_valueOf : GoodIn wsX5_ofShot (wsV RX5 145 RX5 yX5_valueOf wsX5_valueOf) := goodIn_app (goodIn_of _ (by decide +kernel)) ggX5_ofShot_X5_valueOf
theorem dX5_ofShot_0 : decode cX5_ofShot 0 = .ok (.iload_n 2, 1) := by decide +kernel
theorem dX5_ofShot_1 : decode cX5_ofShot 1 = .ok (.invokestatic 136, 3) := by decide +kernel
theorem dX5_ofShot_4 : decode cX5_ofShot 4 = .ok (.iload_n 3, 1) := by decide +kernel
theorem dX5_ofShot_5 : decode cX5_ofShot 5 = .ok (.if_icmp .le 10, 3) := by decide +kernel
theorem dX5_ofShot_8 : decode cX5_ofShot 8 = .ok (.aload_n 0, 1) := by decide +kernel
theorem dX5_ofShot_9 : decode cX5_ofShot 9 = .ok (.iload 4, 2) := by decide +kernel
theorem dX5_ofShot_11 : decode cX5_ofShot 11 = .ok (.invokevirtual 139, 3) := by decide +kernel
theorem dX5_ofShot_14 : decode cX5_ofShot 14 = .ok (.ireturn, 1) := by decide +kernel
theorem dX5_ofShot_15 : decode cX5_ofShot 15 = .ok (.aload_n 0, 1) := by decide +kernel
theorem dX5_ofShot_16 : decode cX5_ofShot 16 = .ok (.iload_n 1, 1) := by decide +kernel
theorem dX5_ofShot_17 : decode cX5_ofShot 17 = .ok (.iload_n 2, 1) := by decide +kernel
theorem dX5_ofShot_18 : decode cX5_ofShot 18 = .ok (.ifCond .ne 7, 3) := by decide +kernel
theorem dX5_ofShot_21 : decode cX5_ofShot 21 = .ok (.iconst 0, 1) := by decide +kernel
theorem dX5_ofShot_22 : decode cX5_ofShot 22 = .ok (.goto 4, 3) := by decide +kernel
theorem dX5_ofShot_25 : decode cX5_ofShot 25 = .ok (.iconst 1, 1) := by decide +kernel
theorem dX5_ofShot_26 : decode cX5_ofShot 26 = .ok (.iload_n 3, 1) := by decide +kernel
theorem dX5_ofShot_27 : decode cX5_ofShot 27 = .ok (.invokevirtual 142, 3) := by decide +kernel
theorem dX5_ofShot_30 : decode cX5_ofShot 30 = .ok (.istore 6, 2) := by decide +kernel
theorem dX5_ofShot_32 : decode cX5_ofShot 32 = .ok (.iload_n 2, 1) := by decide +kernel
theorem dX5_ofShot_33 : decode cX5_ofShot 33 = .ok (.iconst 2, 1) := by decide +kernel
theorem dX5_ofShot_34 : decode cX5_ofShot 34 = .ok (.if_icmp .ne 9, 3) := by decide +kernel
theorem dX5_ofShot_37 : decode cX5_ofShot 37 = .ok (.iload 6, 2) := by decide +kernel
theorem dX5_ofShot_39 : decode cX5_ofShot 39 = .ok (.iconst 2, 1) := by decide +kernel
theorem dX5_ofShot_40 : decode cX5_ofShot 40 = .ok (.idiv, 1) := by decide +kernel
theorem dX5_ofShot_41 : decode cX5_ofShot 41 = .ok (.istore 6, 2) := by decide +kernel
theorem dX5_ofShot_43 : decode cX5_ofShot 43 = .ok (.iload_n 2, 1) := by decide +kernel
theorem dX5_ofShot_44 : decode cX5_ofShot 44 = .ok (.ifCond .eq 11, 3) := by decide +kernel
theorem dX5_ofShot_47 : decode cX5_ofShot 47 = .ok (.aload_n 0, 1) := by decide +kernel
theorem dX5_ofShot_48 : decode cX5_ofShot 48 = .ok (.getfield 104, 3) := by decide +kernel
theorem dX5_ofShot_51 : decode cX5_ofShot 51 = .ok (.iconst 3, 1) := by decide +kernel
theorem dX5_ofShot_52 : decode cX5_ofShot 52 = .ok (.if_icmp .ne 7, 3) := by decide +kernel
theorem dX5_ofShot_55 : decode cX5_ofShot 55 = .ok (.iconst 2, 1) := by decide +kernel
theorem dX5_ofShot_56 : decode cX5_ofShot 56 = .ok (.goto 4, 3) := by decide +kernel
theorem dX5_ofShot_59 : decode cX5_ofShot 59 = .ok (.iconst 3, 1) := by decide +kernel
theorem dX5_ofShot_60 : decode cX5_ofShot 60 = .ok (.istore 7, 2) := by decide +kernel
theorem dX5_ofShot_62 : decode cX5_ofShot 62 = .ok (.iload 5, 2) := by decide +kernel
theorem dX5_ofShot_64 : decode cX5_ofShot 64 = .ok (.ifCond .ne 16, 3) := by decide +kernel
theorem dX5_ofShot_67 : decode cX5_ofShot 67 = .ok (.bipush 12, 2) := by decide +kernel
theorem dX5_ofShot_69 : decode cX5_ofShot 69 = .ok (.iload 4, 2) := by decide +kernel
theorem dX5_ofShot_71 : decode cX5_ofShot 71 = .ok (.iload 7, 2) := by decide +kernel
theorem dX5_ofShot_73 : decode cX5_ofShot 73 = .ok (.iadd, 1) := by decide +kernel
theorem dX5_ofShot_74 : decode cX5_ofShot 74 = .ok (.invokestatic 118, 3) := by decide +kernel
theorem dX5_ofShot_77 : decode cX5_ofShot 77 = .ok (.goto 12, 3) := by decide +kernel
theorem dX5_ofShot_80 : decode cX5_ofShot 80 = .ok (.iconst 0, 1) := by decide +kernel
theorem dX5_ofShot_81 : decode cX5_ofShot 81 = .ok (.iload 4, 2) := by decide +kernel
theorem dX5_ofShot_83 : decode cX5_ofShot 83 = .ok (.iload 7, 2) := by decide +kernel
theorem dX5_ofShot_85 : decode cX5_ofShot 85 = .ok (.isub, 1) := by decide +kernel
theorem dX5_ofShot_86 : decode cX5_ofShot 86 = .ok (.invokestatic 124, 3) := by decide +kernel
theorem dX5_ofShot_89 : decode cX5_ofShot 89 = .ok (.istore 8, 2) := by decide +kernel
theorem dX5_ofShot_91 : decode cX5_ofShot 91 = .ok (.iload_n 3, 1) := by decide +kernel
theorem dX5_ofShot_92 : decode cX5_ofShot 92 = .ok (.iload_n 2, 1) := by decide +kernel
theorem dX5_ofShot_93 : decode cX5_ofShot 93 = .ok (.invokestatic 136, 3) := by decide +kernel
theorem dX5_ofShot_96 : decode cX5_ofShot 96 = .ok (.isub, 1) := by decide +kernel
theorem dX5_ofShot_97 : decode cX5_ofShot 97 = .ok (.istore 9, 2) := by decide +kernel
theorem dX5_ofShot_99 : decode cX5_ofShot 99 = .ok (.aload_n 0, 1) := by decide +kernel
theorem dX5_ofShot_100 : decode cX5_ofShot 100 = .ok (.aload_n 0, 1) := by decide +kernel
theorem dX5_ofShot_101 : decode cX5_ofShot 101 = .ok (.getfield 104, 3) := by decide +kernel
theorem dX5_ofShot_104 : decode cX5_ofShot 104 = .ok (.iconst 2, 1) := by decide +kernel
theorem dX5_ofShot_105 : decode cX5_ofShot 105 = .ok (.if_icmp .ne 9, 3) := by decide +kernel
theorem dX5_ofShot_108 : decode cX5_ofShot 108 = .ok (.iload_n 3, 1) := by decide +kernel
theorem dX5_ofShot_109 : decode cX5_ofShot 109 = .ok (.iconst 1, 1) := by decide +kernel
theorem dX5_ofShot_110 : decode cX5_ofShot 110 = .ok (.isub, 1) := by decide +kernel
theorem dX5_ofShot_111 : decode cX5_ofShot 111 = .ok (.goto 5, 3) := by decide +kernel
theorem dX5_ofShot_114 : decode cX5_ofShot 114 = .ok (.iload 9, 2) := by decide +kernel
theorem dX5_ofShot_116 : decode cX5_ofShot 116 = .ok (.iload 8, 2) := by decide +kernel
theorem dX5_ofShot_118 : decode cX5_ofShot 118 = .ok (.iconst 1, 1) := by decide +kernel
theorem dX5_ofShot_119 : decode cX5_ofShot 119 = .ok (.iload 5, 2) := by decide +kernel
theorem dX5_ofShot_121 : decode cX5_ofShot 121 = .ok (.isub, 1) := by decide +kernel
theorem dX5_ofShot_122 : decode cX5_ofShot 122 = .ok (.invokevirtual 145, 3) := by decide +kernel
theorem dX5_ofShot_125 : decode cX5_ofShot 125 = .ok (.i2l, 1) := by decide +kernel
theorem dX5_ofShot_126 : decode cX5_ofShot 126 = .ok (.lstore 10, 2) := by decide +kernel
theorem dX5_ofShot_128 : decode cX5_ofShot 128 = .ok (.aload_n 0, 1) := by decide +kernel
theorem dX5_ofShot_129 : decode cX5_ofShot 129 = .ok (.getfield 62, 3) := by decide +kernel
theorem dX5_ofShot_132 : decode cX5_ofShot 132 = .ok (.i2l, 1) := by decide +kernel
theorem dX5_ofShot_133 : decode cX5_ofShot 133 = .ok (.aload_n 0, 1) := by decide +kernel
theorem dX5_ofShot_134 : decode cX5_ofShot 134 = .ok (.iload 9, 2) := by decide +kernel
theorem dX5_ofShot_136 : decode cX5_ofShot 136 = .ok (.iload 4, 2) := by decide +kernel
theorem dX5_ofShot_138 : decode cX5_ofShot 138 = .ok (.iload 5, 2) := by decide +kernel
theorem dX5_ofShot_140 : decode cX5_ofShot 140 = .ok (.invokevirtual 145, 3) := by decide +kernel
theorem dX5_ofShot_143 : decode cX5_ofShot 143 = .ok (.i2l, 1) := by decide +kernel
theorem dX5_ofShot_144 : decode cX5_ofShot 144 = .ok (.lmul, 1) := by decide +kernel
theorem dX5_ofShot_145 : decode cX5_ofShot 145 = .ok (.ldc2_w 148, 3) := by decide +kernel
theorem dX5_ofShot_148 : decode cX5_ofShot 148 = .ok (.aload_n 0, 1) := by decide +kernel
theorem dX5_ofShot_149 : decode cX5_ofShot 149 = .ok (.getfield 62, 3) := by decide +kernel
theorem dX5_ofShot_152 : decode cX5_ofShot 152 = .ok (.i2l, 1) := by decide +kernel
theorem dX5_ofShot_153 : decode cX5_ofShot 153 = .ok (.lsub, 1) := by decide +kernel
theorem dX5_ofShot_154 : decode cX5_ofShot 154 = .ok (.aload_n 0, 1) := by decide +kernel
theorem dX5_ofShot_155 : decode cX5_ofShot 155 = .ok (.iload 9, 2) := by decide +kernel
theorem dX5_ofShot_157 : decode cX5_ofShot 157 = .ok (.iload 4, 2) := by decide +kernel
theorem dX5_ofShot_159 : decode cX5_ofShot 159 = .ok (.iconst 1, 1) := by decide +kernel
theorem dX5_ofShot_160 : decode cX5_ofShot 160 = .ok (.iload 5, 2) := by decide +kernel
theorem dX5_ofShot_162 : decode cX5_ofShot 162 = .ok (.isub, 1) := by decide +kernel
theorem dX5_ofShot_163 : decode cX5_ofShot 163 = .ok (.invokevirtual 145, 3) := by decide +kernel
theorem dX5_ofShot_166 : decode cX5_ofShot 166 = .ok (.i2l, 1) := by decide +kernel
theorem dX5_ofShot_167 : decode cX5_ofShot 167 = .ok (.lmul, 1) := by decide +kernel
theorem dX5_ofShot_168 : decode cX5_ofShot 168 = .ok (.ladd, 1) := by decide +kernel
theorem dX5_ofShot_169 : decode cX5_ofShot 169 = .ok (.ldc2_w 148, 3) := by decide +kernel
theorem dX5_ofShot_172 : decode cX5_ofShot 172 = .ok (.ldiv, 1) := by decide +kernel
theorem dX5_ofShot_173 : decode cX5_ofShot 173 = .ok (.lstore 12, 2) := by decide +kernel
theorem dX5_ofShot_175 : decode cX5_ofShot 175 = .ok (.iload 6, 2) := by decide +kernel
theorem dX5_ofShot_177 : decode cX5_ofShot 177 = .ok (.i2l, 1) := by decide +kernel
theorem dX5_ofShot_178 : decode cX5_ofShot 178 = .ok (.lload 10, 2) := by decide +kernel
theorem dX5_ofShot_180 : decode cX5_ofShot 180 = .ok (.lmul, 1) := by decide +kernel
theorem dX5_ofShot_181 : decode cX5_ofShot 181 = .ok (.bipush 10, 2) := by decide +kernel
theorem dX5_ofShot_183 : decode cX5_ofShot 183 = .ok (.iload 6, 2) := by decide +kernel
theorem dX5_ofShot_185 : decode cX5_ofShot 185 = .ok (.isub, 1) := by decide +kernel
theorem dX5_ofShot_186 : decode cX5_ofShot 186 = .ok (.i2l, 1) := by decide +kernel
theorem dX5_ofShot_187 : decode cX5_ofShot 187 = .ok (.lload 12, 2) := by decide +kernel
theorem dX5_ofShot_189 : decode cX5_ofShot 189 = .ok (.lmul, 1) := by decide +kernel
theorem dX5_ofShot_190 : decode cX5_ofShot 190 = .ok (.ladd, 1) := by decide +kernel
theorem dX5_ofShot_191 : decode cX5_ofShot 191 = .ok (.ldc2_w 148, 3) := by decide +kernel
theorem dX5_ofShot_194 : decode cX5_ofShot 194 = .ok (.ldiv, 1) := by decide +kernel
theorem dX5_ofShot_195 : decode cX5_ofShot 195 = .ok (.l2i, 1) := by decide +kernel
theorem dX5_ofShot_196 : decode cX5_ofShot 196 = .ok (.ireturn, 1) := by decide +kernel
set_option maxRecDepth 20000 in
theorem ggX5_ofHold_X5_atEnd : GoodIn wsX5_ofHold wsX5_atEnd := goodIn_r _ [5, 6, 7, 8, 14, 15, 16, 17, 18, 19, 20, 21, 22, 23, 24, 25, 26, 27, 28, 29, 30, 31, 32, 33, 34, 35, 36, 37, 38, 39] (by decide +kernel) (by decide +kernel)
set_option maxRecDepth 20000 in
theorem gX5_ofHold_X5_atEnd : GoodIn wsX5_ofHold (wsV RX5 139 RX5 yX5_atEnd wsX5_atEnd) := goodIn_app (goodIn_of _ (by decide +kernel)) ggX5_ofHold_X5_atEnd
set_option maxRecDepth 20000 in
theorem ggX5_ofHold_X5_valueOf : GoodIn wsX5_ofHold wsX5_valueOf := goodIn_r _ [12, 13, 14, 15, 16, 17, 18, 19, 20, 21, 22, 23, 24, 25, 26, 27, 28, 29, 30, 31, 32, 33, 34, 35, 36, 37, 38, 39] (by decide +kernel) (by decide +kernel)
set_option maxRecDepth 20000 in
theorem gX5_ofHold_X5_valueOf : GoodIn wsX5_ofHold (wsV RX5 145 RX5 yX5_valueOf wsX5_valueOf) := goodIn_app (goodIn_of _ (by decide +kernel)) ggX5_ofHold_X5_valueOf
theorem dX5_ofHold_0 : decode cX5_ofHold 0 = .ok (.iload_n 1, 1) := by decide +kernel
theorem dX5_ofHold_1 : decode cX5_ofHold 1 = .ok (.iconst 5, 1) := by decide +kernel
theorem dX5_ofHold_2 : decode cX5_ofHold 2 = .ok (.if_icmp .ge 11, 3) := by decide +kernel
theorem dX5_ofHold_5 : decode cX5_ofHold 5 = .ok (.aload_n 0, 1) := by decide +kernel
theorem dX5_ofHold_6 : decode cX5_ofHold 6 = .ok (.iload_n 2, 1) := by decide +kernel
theorem dX5_ofHold_7 : decode cX5_ofHold 7 = .ok (.invokevirtual 139, 3) := by decide +kernel
theorem dX5_ofHold_10 : decode cX5_ofHold 10 = .ok (.goto 12, 3) := by decide +kernel
theorem dX5_ofHold_13 : decode cX5_ofHold 13 = .ok (.aload_n 0, 1) := by decide +kernel
theorem dX5_ofHold_14 : decode cX5_ofHold 14 = .ok (.iload_n 1, 1) := by decide +kernel
theorem dX5_ofHold_15 : decode cX5_ofHold 15 = .ok (.iconst 5, 1) := by decide +kernel
theorem dX5_ofHold_16 : decode cX5_ofHold 16 = .ok (.isub, 1) := by decide +kernel
theorem dX5_ofHold_17 : decode cX5_ofHold 17 = .ok (.iload_n 2, 1) := by decide +kernel
theorem dX5_ofHold_18 : decode cX5_ofHold 18 = .ok (.iload_n 3, 1) := by decide +kernel
theorem dX5_ofHold_19 : decode cX5_ofHold 19 = .ok (.invokevirtual 145, 3) := by decide +kernel
theorem dX5_ofHold_22 : decode cX5_ofHold 22 = .ok (.ireturn, 1) := by decide +kernel
theorem dX5_plays_0 : decode cX5_plays 0 = .ok (.aload_n 0, 1) := by decide +kernel
theorem dX5_plays_1 : decode cX5_plays 1 = .ok (.getfield 16, 3) := by decide +kernel
theorem dX5_plays_4 : decode cX5_plays 4 = .ok (.iload_n 1, 1) := by decide +kernel
theorem dX5_plays_5 : decode cX5_plays 5 = .ok (.iaload, 1) := by decide +kernel
theorem dX5_plays_6 : decode cX5_plays 6 = .ok (.iload_n 2, 1) := by decide +kernel
theorem dX5_plays_7 : decode cX5_plays 7 = .ok (.if_icmp .ne 17, 3) := by decide +kernel
theorem dX5_plays_10 : decode cX5_plays 10 = .ok (.aload_n 0, 1) := by decide +kernel
theorem dX5_plays_11 : decode cX5_plays 11 = .ok (.getfield 49, 3) := by decide +kernel
theorem dX5_plays_14 : decode cX5_plays 14 = .ok (.iload_n 1, 1) := by decide +kernel
theorem dX5_plays_15 : decode cX5_plays 15 = .ok (.iaload, 1) := by decide +kernel
theorem dX5_plays_16 : decode cX5_plays 16 = .ok (.iconst 3, 1) := by decide +kernel
theorem dX5_plays_17 : decode cX5_plays 17 = .ok (.if_icmp .eq 7, 3) := by decide +kernel
theorem dX5_plays_20 : decode cX5_plays 20 = .ok (.iconst 1, 1) := by decide +kernel
theorem dX5_plays_21 : decode cX5_plays 21 = .ok (.goto 4, 3) := by decide +kernel
theorem dX5_plays_24 : decode cX5_plays 24 = .ok (.iconst 0, 1) := by decide +kernel
theorem dX5_plays_25 : decode cX5_plays 25 = .ok (.ireturn, 1) := by decide +kernel
set_option maxRecDepth 20000 in
theorem ggX5_choice_X5_plays : GoodIn wsX5_choice wsX5_plays := goodIn_r _ [6, 7, 8, 54, 55, 56, 57, 58, 59, 60, 61, 62, 63, 64, 65, 66, 67, 68, 69, 70, 71, 72, 73, 74, 75, 76, 77, 78, 79] (by decide +kernel) (by decide +kernel)
set_option maxRecDepth 20000 in
theorem gX5_choice_X5_plays : GoodIn wsX5_choice (wsV RX5 150 RX5 yX5_plays wsX5_plays) := goodIn_app (goodIn_of _ (by decide +kernel)) ggX5_choice_X5_plays
set_option maxRecDepth 20000 in
theorem ggX5_choice_X5_ofShot : GoodIn wsX5_choice wsX5_ofShot := goodIn_r _ [12, 13, 14, 15, 16, 17, 18, 19, 20, 21, 22, 23, 24, 5, 25, 26, 27, 28, 29, 30, 31, 32, 33, 34, 35, 36, 8, 37, 38, 39, 40, 41, 42, 43, 44, 45, 46, 47, 48, 49, 54, 55, 56, 57, 58, 59, 60, 61, 62, 63, 64, 65, 66, 67, 68, 69, 70, 71, 72, 73, 74, 75, 76, 77, 78, 79] (by decide +kernel) (by decide +kernel)
set_option maxRecDepth 20000 in
theorem gX5_choice_X5_ofShot : GoodIn wsX5_choice (wsV RX5 153 RX5 yX5_ofShot wsX5_ofShot) := goodIn_app (goodIn_of _ (by decide +kernel)) ggX5_choice_X5_ofShot
set_option maxRecDepth 20000 in
theorem ggX5_choice_X5_ofHold : GoodIn wsX5_choice wsX5_ofHold := goodIn_r _ [53, 26, 27, 28, 5, 29, 30, 31, 32, 45, 46, 47, 48, 49, 54, 55, 56, 57, 58, 59, 60, 61, 62, 63, 64, 65, 66, 67, 68, 69, 70, 71, 72, 73, 74, 75, 76, 77, 78, 79] (by decide +kernel) (by decide +kernel)
set_option maxRecDepth 20000 in
theorem gX5_choice_X5_ofHold : GoodIn wsX5_choice (wsV RX5 157 RX5 yX5_ofHold wsX5_ofHold) := goodIn_app (goodIn_of _ (by decide +kernel)) ggX5_choice_X5_ofHold
theorem dX5_choice_0 : decode cX5_choice 0 = .ok (.iconst (-1), 1) := by decide +kernel
theorem dX5_choice_1 : decode cX5_choice 1 = .ok (.istore 4, 2) := by decide +kernel
theorem dX5_choice_3 : decode cX5_choice 3 = .ok (.iconst 0, 1) := by decide +kernel
theorem dX5_choice_4 : decode cX5_choice 4 = .ok (.istore 5, 2) := by decide +kernel
theorem dX5_choice_6 : decode cX5_choice 6 = .ok (.iconst 0, 1) := by decide +kernel
theorem dX5_choice_7 : decode cX5_choice 7 = .ok (.istore 6, 2) := by decide +kernel
theorem dX5_choice_9 : decode cX5_choice 9 = .ok (.iload 6, 2) := by decide +kernel
theorem dX5_choice_11 : decode cX5_choice 11 = .ok (.aload_n 0, 1) := by decide +kernel
theorem dX5_choice_12 : decode cX5_choice 12 = .ok (.getfield 73, 3) := by decide +kernel
theorem dX5_choice_15 : decode cX5_choice 15 = .ok (.if_icmp .ge 93, 3) := by decide +kernel
theorem dX5_choice_18 : decode cX5_choice 18 = .ok (.aload_n 0, 1) := by decide +kernel
theorem dX5_choice_19 : decode cX5_choice 19 = .ok (.iload 6, 2) := by decide +kernel
theorem dX5_choice_21 : decode cX5_choice 21 = .ok (.iload_n 3, 1) := by decide +kernel
theorem dX5_choice_22 : decode cX5_choice 22 = .ok (.invokevirtual 150, 3) := by decide +kernel
theorem dX5_choice_25 : decode cX5_choice 25 = .ok (.ifCond .ne 6, 3) := by decide +kernel
theorem dX5_choice_28 : decode cX5_choice 28 = .ok (.goto 74, 3) := by decide +kernel
theorem dX5_choice_31 : decode cX5_choice 31 = .ok (.iconst 0, 1) := by decide +kernel
theorem dX5_choice_32 : decode cX5_choice 32 = .ok (.istore 7, 2) := by decide +kernel
theorem dX5_choice_34 : decode cX5_choice 34 = .ok (.iload 7, 2) := by decide +kernel
theorem dX5_choice_36 : decode cX5_choice 36 = .ok (.iconst 3, 1) := by decide +kernel
theorem dX5_choice_37 : decode cX5_choice 37 = .ok (.if_icmp .ge 65, 3) := by decide +kernel
theorem dX5_choice_40 : decode cX5_choice 40 = .ok (.aload_n 0, 1) := by decide +kernel
theorem dX5_choice_41 : decode cX5_choice 41 = .ok (.iload 6, 2) := by decide +kernel
theorem dX5_choice_43 : decode cX5_choice 43 = .ok (.iload 7, 2) := by decide +kernel
theorem dX5_choice_45 : decode cX5_choice 45 = .ok (.iload_n 1, 1) := by decide +kernel
theorem dX5_choice_46 : decode cX5_choice 46 = .ok (.iload_n 2, 1) := by decide +kernel
theorem dX5_choice_47 : decode cX5_choice 47 = .ok (.iload_n 3, 1) := by decide +kernel
theorem dX5_choice_48 : decode cX5_choice 48 = .ok (.invokevirtual 153, 3) := by decide +kernel
theorem dX5_choice_51 : decode cX5_choice 51 = .ok (.istore 8, 2) := by decide +kernel
theorem dX5_choice_53 : decode cX5_choice 53 = .ok (.iload 4, 2) := by decide +kernel
theorem dX5_choice_55 : decode cX5_choice 55 = .ok (.ifCond .lt 27, 3) := by decide +kernel
theorem dX5_choice_58 : decode cX5_choice 58 = .ok (.iload_n 3, 1) := by decide +kernel
theorem dX5_choice_59 : decode cX5_choice 59 = .ok (.ifCond .ne 13, 3) := by decide +kernel
theorem dX5_choice_62 : decode cX5_choice 62 = .ok (.iload 8, 2) := by decide +kernel
theorem dX5_choice_64 : decode cX5_choice 64 = .ok (.iload 5, 2) := by decide +kernel
theorem dX5_choice_66 : decode cX5_choice 66 = .ok (.if_icmp .gt 16, 3) := by decide +kernel
theorem dX5_choice_69 : decode cX5_choice 69 = .ok (.goto 27, 3) := by decide +kernel
theorem dX5_choice_72 : decode cX5_choice 72 = .ok (.iload 8, 2) := by decide +kernel
theorem dX5_choice_74 : decode cX5_choice 74 = .ok (.iload 5, 2) := by decide +kernel
theorem dX5_choice_76 : decode cX5_choice 76 = .ok (.if_icmp .lt 6, 3) := by decide +kernel
theorem dX5_choice_79 : decode cX5_choice 79 = .ok (.goto 17, 3) := by decide +kernel
theorem dX5_choice_82 : decode cX5_choice 82 = .ok (.bipush 10, 2) := by decide +kernel
theorem dX5_choice_84 : decode cX5_choice 84 = .ok (.iload 6, 2) := by decide +kernel
theorem dX5_choice_86 : decode cX5_choice 86 = .ok (.imul, 1) := by decide +kernel
theorem dX5_choice_87 : decode cX5_choice 87 = .ok (.iload 7, 2) := by decide +kernel
theorem dX5_choice_89 : decode cX5_choice 89 = .ok (.iadd, 1) := by decide +kernel
theorem dX5_choice_90 : decode cX5_choice 90 = .ok (.istore 4, 2) := by decide +kernel
theorem dX5_choice_92 : decode cX5_choice 92 = .ok (.iload 8, 2) := by decide +kernel
theorem dX5_choice_94 : decode cX5_choice 94 = .ok (.istore 5, 2) := by decide +kernel
theorem dX5_choice_96 : decode cX5_choice 96 = .ok (.iinc 7 1, 3) := by decide +kernel
theorem dX5_choice_99 : decode cX5_choice 99 = .ok (.goto (-65), 3) := by decide +kernel
theorem dX5_choice_102 : decode cX5_choice 102 = .ok (.iinc 6 1, 3) := by decide +kernel
theorem dX5_choice_105 : decode cX5_choice 105 = .ok (.goto (-96), 3) := by decide +kernel
theorem dX5_choice_108 : decode cX5_choice 108 = .ok (.aload_n 0, 1) := by decide +kernel
theorem dX5_choice_109 : decode cX5_choice 109 = .ok (.iload_n 1, 1) := by decide +kernel
theorem dX5_choice_110 : decode cX5_choice 110 = .ok (.iload_n 2, 1) := by decide +kernel
theorem dX5_choice_111 : decode cX5_choice 111 = .ok (.iload_n 3, 1) := by decide +kernel
theorem dX5_choice_112 : decode cX5_choice 112 = .ok (.invokevirtual 157, 3) := by decide +kernel
theorem dX5_choice_115 : decode cX5_choice 115 = .ok (.istore 6, 2) := by decide +kernel
theorem dX5_choice_117 : decode cX5_choice 117 = .ok (.iload 4, 2) := by decide +kernel
theorem dX5_choice_119 : decode cX5_choice 119 = .ok (.ifCond .lt 24, 3) := by decide +kernel
theorem dX5_choice_122 : decode cX5_choice 122 = .ok (.iload_n 3, 1) := by decide +kernel
theorem dX5_choice_123 : decode cX5_choice 123 = .ok (.ifCond .ne 13, 3) := by decide +kernel
theorem dX5_choice_126 : decode cX5_choice 126 = .ok (.iload 6, 2) := by decide +kernel
theorem dX5_choice_128 : decode cX5_choice 128 = .ok (.iload 5, 2) := by decide +kernel
theorem dX5_choice_130 : decode cX5_choice 130 = .ok (.if_icmp .le 18, 3) := by decide +kernel
theorem dX5_choice_133 : decode cX5_choice 133 = .ok (.goto 10, 3) := by decide +kernel
theorem dX5_choice_136 : decode cX5_choice 136 = .ok (.iload 6, 2) := by decide +kernel
theorem dX5_choice_138 : decode cX5_choice 138 = .ok (.iload 5, 2) := by decide +kernel
theorem dX5_choice_140 : decode cX5_choice 140 = .ok (.if_icmp .ge 8, 3) := by decide +kernel
theorem dX5_choice_143 : decode cX5_choice 143 = .ok (.bipush 93, 2) := by decide +kernel
theorem dX5_choice_145 : decode cX5_choice 145 = .ok (.goto 5, 3) := by decide +kernel
theorem dX5_choice_148 : decode cX5_choice 148 = .ok (.iload 4, 2) := by decide +kernel
theorem dX5_choice_150 : decode cX5_choice 150 = .ok (.ireturn, 1) := by decide +kernel
set_option maxRecDepth 20000 in
theorem ggX5_ofChoice_X5_ofHold : GoodIn wsX5_ofChoice wsX5_ofHold := goodIn_r _ [5, 6, 7, 8, 4, 9, 10, 11, 12, 13, 14, 15, 16, 17, 48, 49, 50, 51, 52, 53, 54, 55, 56, 57, 58, 59, 60, 61, 62, 63, 64, 65, 66, 67, 68, 69, 70, 71, 72, 73] (by decide +kernel) (by decide +kernel)
set_option maxRecDepth 20000 in
theorem gX5_ofChoice_X5_ofHold : GoodIn wsX5_ofChoice (wsV RX5 157 RX5 yX5_ofHold wsX5_ofHold) := goodIn_app (goodIn_of _ (by decide +kernel)) ggX5_ofChoice_X5_ofHold
set_option maxRecDepth 20000 in
theorem ggX5_ofChoice_X5_ofShot : GoodIn wsX5_ofChoice wsX5_ofShot := goodIn_r _ [21, 22, 23, 24, 25, 26, 27, 28, 29, 30, 31, 32, 33, 4, 34, 6, 7, 8, 9, 10, 11, 12, 35, 36, 37, 38, 39, 40, 41, 42, 43, 44, 45, 46, 47, 13, 14, 15, 16, 17, 48, 49, 50, 51, 52, 53, 54, 55, 56, 57, 58, 59, 60, 61, 62, 63, 64, 65, 66, 67, 68, 69, 70, 71, 72, 73] (by decide +kernel) (by decide +kernel)
set_option maxRecDepth 20000 in
theorem gX5_ofChoice_X5_ofShot : GoodIn wsX5_ofChoice (wsV RX5 153 RX5 yX5_ofShot wsX5_ofShot) := goodIn_app (goodIn_of _ (by decide +kernel)) ggX5_ofChoice_X5_ofShot
theorem dX5_ofChoice_0 : decode cX5_ofChoice 0 = .ok (.iload_n 1, 1) := by decide +kernel
theorem dX5_ofChoice_1 : decode cX5_ofChoice 1 = .ok (.bipush 93, 2) := by decide +kernel
theorem dX5_ofChoice_3 : decode cX5_ofChoice 3 = .ok (.if_icmp .ne 14, 3) := by decide +kernel
theorem dX5_ofChoice_6 : decode cX5_ofChoice 6 = .ok (.aload_n 0, 1) := by decide +kernel
theorem dX5_ofChoice_7 : decode cX5_ofChoice 7 = .ok (.iload_n 2, 1) := by decide +kernel
theorem dX5_ofChoice_8 : decode cX5_ofChoice 8 = .ok (.iload_n 3, 1) := by decide +kernel
theorem dX5_ofChoice_9 : decode cX5_ofChoice 9 = .ok (.iload 4, 2) := by decide +kernel
theorem dX5_ofChoice_11 : decode cX5_ofChoice 11 = .ok (.invokevirtual 157, 3) := by decide +kernel
theorem dX5_ofChoice_14 : decode cX5_ofChoice 14 = .ok (.goto 19, 3) := by decide +kernel
theorem dX5_ofChoice_17 : decode cX5_ofChoice 17 = .ok (.aload_n 0, 1) := by decide +kernel
theorem dX5_ofChoice_18 : decode cX5_ofChoice 18 = .ok (.iload_n 1, 1) := by decide +kernel
theorem dX5_ofChoice_19 : decode cX5_ofChoice 19 = .ok (.bipush 10, 2) := by decide +kernel
theorem dX5_ofChoice_21 : decode cX5_ofChoice 21 = .ok (.idiv, 1) := by decide +kernel
theorem dX5_ofChoice_22 : decode cX5_ofChoice 22 = .ok (.iload_n 1, 1) := by decide +kernel
theorem dX5_ofChoice_23 : decode cX5_ofChoice 23 = .ok (.bipush 10, 2) := by decide +kernel
theorem dX5_ofChoice_25 : decode cX5_ofChoice 25 = .ok (.irem, 1) := by decide +kernel
theorem dX5_ofChoice_26 : decode cX5_ofChoice 26 = .ok (.iload_n 2, 1) := by decide +kernel
theorem dX5_ofChoice_27 : decode cX5_ofChoice 27 = .ok (.iload_n 3, 1) := by decide +kernel
theorem dX5_ofChoice_28 : decode cX5_ofChoice 28 = .ok (.iload 4, 2) := by decide +kernel
theorem dX5_ofChoice_30 : decode cX5_ofChoice 30 = .ok (.invokevirtual 153, 3) := by decide +kernel
theorem dX5_ofChoice_33 : decode cX5_ofChoice 33 = .ok (.ireturn, 1) := by decide +kernel
set_option maxRecDepth 20000 in
theorem ggX5_solve_X5_ended : GoodIn wsX5_solve wsX5_ended := goodIn_r _ [6, 7, 66, 67, 68, 69, 70, 71, 72, 73, 74, 75, 76, 77, 78, 79, 80, 81, 82, 83, 84, 85, 86, 87, 88, 89, 90, 91] (by decide +kernel) (by decide +kernel)
set_option maxRecDepth 20000 in
theorem gX5_solve_X5_ended : GoodIn wsX5_solve (wsV RX5 160 RX5 yX5_ended wsX5_ended) := goodIn_app (goodIn_of _ (by decide +kernel)) ggX5_solve_X5_ended
set_option maxRecDepth 20000 in
theorem ggX5_solve_X5_atEnd : GoodIn wsX5_solve wsX5_atEnd := goodIn_r _ [11, 12, 13, 14, 66, 67, 68, 69, 70, 71, 72, 73, 74, 75, 76, 77, 78, 79, 80, 81, 82, 83, 84, 85, 86, 87, 88, 89, 90, 91] (by decide +kernel) (by decide +kernel)
set_option maxRecDepth 20000 in
theorem gX5_solve_X5_atEnd : GoodIn wsX5_solve (wsV RX5 139 RX5 yX5_atEnd wsX5_atEnd) := goodIn_app (goodIn_of _ (by decide +kernel)) ggX5_solve_X5_atEnd
set_option maxRecDepth 20000 in
theorem ggX5_solve_X5_choice : GoodIn wsX5_solve wsX5_choice := goodIn_r _ [18, 19, 20, 21, 22, 5, 23, 24, 25, 26, 27, 28, 29, 7, 30, 31, 32, 33, 34, 35, 36, 37, 38, 39, 40, 41, 8, 9, 10, 11, 12, 13, 14, 42, 43, 44, 45, 46, 47, 48, 49, 50, 51, 52, 53, 54, 55, 56, 57, 1, 58, 59, 60, 61, 66, 67, 68, 69, 70, 71, 72, 73, 74, 75, 76, 77, 78, 79, 80, 81, 82, 83, 84, 85, 86, 87, 88, 89, 90, 91] (by decide +kernel) (by decide +kernel)
set_option maxRecDepth 20000 in
theorem gX5_solve_X5_choice : GoodIn wsX5_solve (wsV RX5 163 RX5 yX5_choice wsX5_choice) := goodIn_app (goodIn_of _ (by decide +kernel)) ggX5_solve_X5_choice
set_option maxRecDepth 20000 in
theorem ggX5_solve_X5_ofChoice : GoodIn wsX5_solve wsX5_ofChoice := goodIn_r _ [65, 58, 59, 60, 5, 61, 8, 9, 10, 11, 12, 13, 14, 54, 55, 56, 57, 1, 26, 27, 28, 29, 7, 30, 31, 32, 33, 34, 35, 36, 37, 38, 39, 40, 41, 42, 43, 44, 45, 25, 46, 47, 48, 49, 50, 51, 52, 53, 66, 67, 68, 69, 70, 71, 72, 73, 74, 75, 76, 77, 78, 79, 80, 81, 82, 83, 84, 85, 86, 87, 88, 89, 90, 91] (by decide +kernel) (by decide +kernel)
set_option maxRecDepth 20000 in
theorem gX5_solve_X5_ofChoice : GoodIn wsX5_solve (wsV RX5 166 RX5 yX5_ofChoice wsX5_ofChoice) := goodIn_app (goodIn_of _ (by decide +kernel)) ggX5_solve_X5_ofChoice
theorem dX5_solve_0 : decode cX5_solve 0 = .ok (.iconst 0, 1) := by decide +kernel
theorem dX5_solve_1 : decode cX5_solve 1 = .ok (.istore_n 1, 1) := by decide +kernel
theorem dX5_solve_2 : decode cX5_solve 2 = .ok (.iload_n 1, 1) := by decide +kernel
theorem dX5_solve_3 : decode cX5_solve 3 = .ok (.bipush 25, 2) := by decide +kernel
theorem dX5_solve_5 : decode cX5_solve 5 = .ok (.if_icmp .ge 82, 3) := by decide +kernel
theorem dX5_solve_8 : decode cX5_solve 8 = .ok (.iconst 0, 1) := by decide +kernel
theorem dX5_solve_9 : decode cX5_solve 9 = .ok (.istore_n 2, 1) := by decide +kernel
theorem dX5_solve_10 : decode cX5_solve 10 = .ok (.iload_n 2, 1) := by decide +kernel
theorem dX5_solve_11 : decode cX5_solve 11 = .ok (.bipush 13, 2) := by decide +kernel
theorem dX5_solve_13 : decode cX5_solve 13 = .ok (.if_icmp .ge 68, 3) := by decide +kernel
theorem dX5_solve_16 : decode cX5_solve 16 = .ok (.iconst 0, 1) := by decide +kernel
theorem dX5_solve_17 : decode cX5_solve 17 = .ok (.istore_n 3, 1) := by decide +kernel
theorem dX5_solve_18 : decode cX5_solve 18 = .ok (.iload_n 3, 1) := by decide +kernel
theorem dX5_solve_19 : decode cX5_solve 19 = .ok (.iconst 2, 1) := by decide +kernel
theorem dX5_solve_20 : decode cX5_solve 20 = .ok (.if_icmp .ge 55, 3) := by decide +kernel
theorem dX5_solve_23 : decode cX5_solve 23 = .ok (.aload_n 0, 1) := by decide +kernel
theorem dX5_solve_24 : decode cX5_solve 24 = .ok (.getfield 52, 3) := by decide +kernel
theorem dX5_solve_27 : decode cX5_solve 27 = .ok (.bipush 26, 2) := by decide +kernel
theorem dX5_solve_29 : decode cX5_solve 29 = .ok (.iload_n 1, 1) := by decide +kernel
theorem dX5_solve_30 : decode cX5_solve 30 = .ok (.imul, 1) := by decide +kernel
theorem dX5_solve_31 : decode cX5_solve 31 = .ok (.iconst 2, 1) := by decide +kernel
theorem dX5_solve_32 : decode cX5_solve 32 = .ok (.iload_n 2, 1) := by decide +kernel
theorem dX5_solve_33 : decode cX5_solve 33 = .ok (.imul, 1) := by decide +kernel
theorem dX5_solve_34 : decode cX5_solve 34 = .ok (.iadd, 1) := by decide +kernel
theorem dX5_solve_35 : decode cX5_solve 35 = .ok (.iload_n 3, 1) := by decide +kernel
theorem dX5_solve_36 : decode cX5_solve 36 = .ok (.iadd, 1) := by decide +kernel
theorem dX5_solve_37 : decode cX5_solve 37 = .ok (.aload_n 0, 1) := by decide +kernel
theorem dX5_solve_38 : decode cX5_solve 38 = .ok (.iload_n 1, 1) := by decide +kernel
theorem dX5_solve_39 : decode cX5_solve 39 = .ok (.iload_n 2, 1) := by decide +kernel
theorem dX5_solve_40 : decode cX5_solve 40 = .ok (.invokevirtual 160, 3) := by decide +kernel
theorem dX5_solve_43 : decode cX5_solve 43 = .ok (.ifCond .eq 11, 3) := by decide +kernel
theorem dX5_solve_46 : decode cX5_solve 46 = .ok (.aload_n 0, 1) := by decide +kernel
theorem dX5_solve_47 : decode cX5_solve 47 = .ok (.iload_n 2, 1) := by decide +kernel
theorem dX5_solve_48 : decode cX5_solve 48 = .ok (.invokevirtual 139, 3) := by decide +kernel
theorem dX5_solve_51 : decode cX5_solve 51 = .ok (.goto 17, 3) := by decide +kernel
theorem dX5_solve_54 : decode cX5_solve 54 = .ok (.aload_n 0, 1) := by decide +kernel
theorem dX5_solve_55 : decode cX5_solve 55 = .ok (.aload_n 0, 1) := by decide +kernel
theorem dX5_solve_56 : decode cX5_solve 56 = .ok (.iload_n 1, 1) := by decide +kernel
theorem dX5_solve_57 : decode cX5_solve 57 = .ok (.iload_n 2, 1) := by decide +kernel
theorem dX5_solve_58 : decode cX5_solve 58 = .ok (.iload_n 3, 1) := by decide +kernel
theorem dX5_solve_59 : decode cX5_solve 59 = .ok (.invokevirtual 163, 3) := by decide +kernel
theorem dX5_solve_62 : decode cX5_solve 62 = .ok (.iload_n 1, 1) := by decide +kernel
theorem dX5_solve_63 : decode cX5_solve 63 = .ok (.iload_n 2, 1) := by decide +kernel
theorem dX5_solve_64 : decode cX5_solve 64 = .ok (.iload_n 3, 1) := by decide +kernel
theorem dX5_solve_65 : decode cX5_solve 65 = .ok (.invokevirtual 166, 3) := by decide +kernel
theorem dX5_solve_68 : decode cX5_solve 68 = .ok (.iastore, 1) := by decide +kernel
theorem dX5_solve_69 : decode cX5_solve 69 = .ok (.iinc 3 1, 3) := by decide +kernel
theorem dX5_solve_72 : decode cX5_solve 72 = .ok (.goto (-54), 3) := by decide +kernel
theorem dX5_solve_75 : decode cX5_solve 75 = .ok (.iinc 2 1, 3) := by decide +kernel
theorem dX5_solve_78 : decode cX5_solve 78 = .ok (.goto (-68), 3) := by decide +kernel
theorem dX5_solve_81 : decode cX5_solve 81 = .ok (.iinc 1 1, 3) := by decide +kernel
theorem dX5_solve_84 : decode cX5_solve 84 = .ok (.goto (-82), 3) := by decide +kernel
theorem dX5_solve_87 : decode cX5_solve 87 = .ok (.return_, 1) := by decide +kernel
set_option maxRecDepth 20000 in
theorem ggX5_now_X5_solve : GoodIn wsX5_now wsX5_solve := goodIn_r _ [8, 9, 10, 11, 12, 7, 13, 14, 15, 16, 17, 18, 19, 20, 21, 22, 23, 24, 25, 26, 27, 28, 29, 30, 31, 32, 33, 34, 35, 36, 37, 38, 39, 40, 41, 42, 43, 44, 45, 46, 47, 48, 49, 50, 51, 52, 53, 54, 55, 56, 57, 58, 59, 60, 61, 62, 63, 64, 65, 66, 67, 68, 69, 70, 71, 72, 73, 74, 75, 76, 77, 78, 79, 80, 81, 82, 83, 84, 85, 86, 87, 88, 89, 90, 91, 92, 93, 94, 95, 96, 97, 98] (by decide +kernel) (by decide +kernel)
set_option maxRecDepth 20000 in
theorem gX5_now_X5_solve : GoodIn wsX5_now (wsV RX5 170 RX5 yX5_solve wsX5_solve) := goodIn_app (goodIn_of _ (by decide +kernel)) ggX5_now_X5_solve
set_option maxRecDepth 20000 in
theorem ggX5_now_X5_valueOf : GoodIn wsX5_now wsX5_valueOf := goodIn_r _ [64, 9, 73, 74, 75, 76, 77, 78, 79, 80, 81, 82, 83, 84, 85, 86, 87, 88, 89, 90, 91, 92, 93, 94, 95, 96, 97, 98] (by decide +kernel) (by decide +kernel)
set_option maxRecDepth 20000 in
theorem gX5_now_X5_valueOf : GoodIn wsX5_now (wsV RX5 145 RX5 yX5_valueOf wsX5_valueOf) := goodIn_app (goodIn_of _ (by decide +kernel)) ggX5_now_X5_valueOf
theorem dX5_now_0 : decode cX5_now 0 = .ok (.aload_n 0, 1) := by decide +kernel
theorem dX5_now_1 : decode cX5_now 1 = .ok (.invokevirtual 170, 3) := by decide +kernel
theorem dX5_now_4 : decode cX5_now 4 = .ok (.aload_n 0, 1) := by decide +kernel
theorem dX5_now_5 : decode cX5_now 5 = .ok (.aload_n 0, 1) := by decide +kernel
theorem dX5_now_6 : decode cX5_now 6 = .ok (.getfield 55, 3) := by decide +kernel
theorem dX5_now_9 : decode cX5_now 9 = .ok (.aload_n 0, 1) := by decide +kernel
theorem dX5_now_10 : decode cX5_now 10 = .ok (.getfield 59, 3) := by decide +kernel
theorem dX5_now_13 : decode cX5_now 13 = .ok (.aload_n 0, 1) := by decide +kernel
theorem dX5_now_14 : decode cX5_now 14 = .ok (.getfield 101, 3) := by decide +kernel
theorem dX5_now_17 : decode cX5_now 17 = .ok (.invokevirtual 145, 3) := by decide +kernel
theorem dX5_now_20 : decode cX5_now 20 = .ok (.ireturn, 1) := by decide +kernel
theorem dX5_asTold_0 : decode cX5_asTold 0 = .ok (.iconst 0, 1) := by decide +kernel
theorem dX5_asTold_1 : decode cX5_asTold 1 = .ok (.istore_n 1, 1) := by decide +kernel
theorem dX5_asTold_2 : decode cX5_asTold 2 = .ok (.iload_n 1, 1) := by decide +kernel
theorem dX5_asTold_3 : decode cX5_asTold 3 = .ok (.bipush 6, 2) := by decide +kernel
theorem dX5_asTold_5 : decode cX5_asTold 5 = .ok (.if_icmp .ge 16, 3) := by decide +kernel
theorem dX5_asTold_8 : decode cX5_asTold 8 = .ok (.aload_n 0, 1) := by decide +kernel
theorem dX5_asTold_9 : decode cX5_asTold 9 = .ok (.getfield 49, 3) := by decide +kernel
theorem dX5_asTold_12 : decode cX5_asTold 12 = .ok (.iload_n 1, 1) := by decide +kernel
theorem dX5_asTold_13 : decode cX5_asTold 13 = .ok (.iconst 0, 1) := by decide +kernel
theorem dX5_asTold_14 : decode cX5_asTold 14 = .ok (.iastore, 1) := by decide +kernel
theorem dX5_asTold_15 : decode cX5_asTold 15 = .ok (.iinc 1 1, 3) := by decide +kernel
theorem dX5_asTold_18 : decode cX5_asTold 18 = .ok (.goto (-16), 3) := by decide +kernel
theorem dX5_asTold_21 : decode cX5_asTold 21 = .ok (.return_, 1) := by decide +kernel
set_option maxRecDepth 20000 in
theorem ggX5_here_X5_now : GoodIn wsX5_here wsX5_now := goodIn_r _ [5, 6, 7, 8, 9, 10, 11, 4, 12, 13, 14, 15, 16, 17, 18, 19, 20, 21, 22, 23, 24, 25, 26, 27, 28, 29, 30, 31, 32, 33, 34, 35, 36, 37, 38, 39, 40, 41, 42, 43, 44, 45, 46, 47, 48, 49, 50, 51, 52, 53, 54, 55, 56, 57, 58, 59, 60, 61, 62, 63, 64, 65, 66, 67, 68, 69, 70, 71, 72, 73, 74, 75, 76, 77, 78, 79, 80, 81, 82, 83, 84, 85, 86, 87, 88, 89, 90, 91, 92, 93, 94, 95, 96, 97, 98, 99, 100, 101, 102] (by decide +kernel) (by decide +kernel)
set_option maxRecDepth 20000 in
theorem gX5_here_X5_now : GoodIn wsX5_here (wsV RX5 173 RX5 yX5_now wsX5_now) := goodIn_app (goodIn_of _ (by decide +kernel)) ggX5_here_X5_now
theorem dX5_here_0 : decode cX5_here 0 = .ok (.aload_n 0, 1) := by decide +kernel
theorem dX5_here_1 : decode cX5_here 1 = .ok (.invokevirtual 173, 3) := by decide +kernel
theorem dX5_here_4 : decode cX5_here 4 = .ok (.ireturn, 1) := by decide +kernel
theorem dX5_noState_0 : decode cX5_noState 0 = .ok (.iload_n 1, 1) := by decide +kernel
theorem dX5_noState_1 : decode cX5_noState 1 = .ok (.ifCond .lt 11, 3) := by decide +kernel
theorem dX5_noState_4 : decode cX5_noState 4 = .ok (.iload_n 2, 1) := by decide +kernel
theorem dX5_noState_5 : decode cX5_noState 5 = .ok (.ifCond .lt 7, 3) := by decide +kernel
theorem dX5_noState_8 : decode cX5_noState 8 = .ok (.iload_n 3, 1) := by decide +kernel
theorem dX5_noState_9 : decode cX5_noState 9 = .ok (.ifCond .ge 6, 3) := by decide +kernel
theorem dX5_noState_12 : decode cX5_noState 12 = .ok (.bipush (-4), 2) := by decide +kernel
theorem dX5_noState_14 : decode cX5_noState 14 = .ok (.ireturn, 1) := by decide +kernel
theorem dX5_noState_15 : decode cX5_noState 15 = .ok (.iload_n 1, 1) := by decide +kernel
theorem dX5_noState_16 : decode cX5_noState 16 = .ok (.bipush 24, 2) := by decide +kernel
theorem dX5_noState_18 : decode cX5_noState 18 = .ok (.if_icmp .gt 14, 3) := by decide +kernel
theorem dX5_noState_21 : decode cX5_noState 21 = .ok (.iload_n 2, 1) := by decide +kernel
theorem dX5_noState_22 : decode cX5_noState 22 = .ok (.bipush 12, 2) := by decide +kernel
theorem dX5_noState_24 : decode cX5_noState 24 = .ok (.if_icmp .gt 8, 3) := by decide +kernel
theorem dX5_noState_27 : decode cX5_noState 27 = .ok (.iload_n 3, 1) := by decide +kernel
theorem dX5_noState_28 : decode cX5_noState 28 = .ok (.iconst 1, 1) := by decide +kernel
theorem dX5_noState_29 : decode cX5_noState 29 = .ok (.if_icmp .le 8, 3) := by decide +kernel
theorem dX5_noState_32 : decode cX5_noState 32 = .ok (.bipush (-6), 2) := by decide +kernel
theorem dX5_noState_34 : decode cX5_noState 34 = .ok (.goto 4, 3) := by decide +kernel
theorem dX5_noState_37 : decode cX5_noState 37 = .ok (.iconst 0, 1) := by decide +kernel
theorem dX5_noState_38 : decode cX5_noState 38 = .ok (.ireturn, 1) := by decide +kernel
set_option maxRecDepth 20000 in
theorem ggX5_of_X5_noState : GoodIn wsX5_of wsX5_noState := goodIn_r _ [5] (by decide +kernel) (by decide +kernel)
set_option maxRecDepth 20000 in
theorem gX5_of_X5_noState : GoodIn wsX5_of (wsV RX5 177 RX5 yX5_noState wsX5_noState) := goodIn_app (goodIn_of _ (by decide +kernel)) ggX5_of_X5_noState
set_option maxRecDepth 20000 in
theorem ggX5_of_X5_no : GoodIn wsX5_of wsX5_no := goodIn_r _ [9, 10, 79, 80, 81, 82, 83, 84, 85, 86, 87, 88, 89, 90, 91, 92, 93, 94, 95, 96, 97, 98, 99, 100, 101, 102, 103, 104] (by decide +kernel) (by decide +kernel)
set_option maxRecDepth 20000 in
theorem gX5_of_X5_no : GoodIn wsX5_of (wsV RX5 69 RX5 yX5_no wsX5_no) := goodIn_app (goodIn_of _ (by decide +kernel)) ggX5_of_X5_no
set_option maxRecDepth 20000 in
theorem ggX5_of_X5_solve : GoodIn wsX5_of wsX5_solve := goodIn_r _ [14, 15, 16, 17, 18, 4, 19, 20, 21, 22, 23, 24, 25, 26, 27, 28, 29, 30, 31, 32, 33, 34, 35, 36, 37, 38, 39, 40, 41, 42, 43, 44, 45, 46, 47, 48, 49, 50, 51, 52, 53, 54, 55, 56, 57, 58, 59, 60, 61, 62, 63, 64, 65, 66, 67, 68, 69, 70, 71, 72, 73, 74, 75, 76, 77, 78, 79, 80, 81, 82, 83, 84, 85, 86, 87, 88, 89, 90, 91, 92, 93, 94, 95, 96, 97, 98, 99, 100, 101, 102, 103, 104] (by decide +kernel) (by decide +kernel)
set_option maxRecDepth 20000 in
theorem gX5_of_X5_solve : GoodIn wsX5_of (wsV RX5 170 RX5 yX5_solve wsX5_solve) := goodIn_app (goodIn_of _ (by decide +kernel)) ggX5_of_X5_solve
set_option maxRecDepth 20000 in
theorem ggX5_of_X5_valueOf : GoodIn wsX5_of wsX5_valueOf := goodIn_r _ [70, 15, 79, 80, 81, 82, 83, 84, 85, 86, 87, 88, 89, 90, 91, 92, 93, 94, 95, 96, 97, 98, 99, 100, 101, 102, 103, 104] (by decide +kernel) (by decide +kernel)
set_option maxRecDepth 20000 in
theorem gX5_of_X5_valueOf : GoodIn wsX5_of (wsV RX5 145 RX5 yX5_valueOf wsX5_valueOf) := goodIn_app (goodIn_of _ (by decide +kernel)) ggX5_of_X5_valueOf
theorem dX5_of_0 : decode cX5_of 0 = .ok (.aload_n 0, 1) := by decide +kernel
theorem dX5_of_1 : decode cX5_of 1 = .ok (.iload_n 1, 1) := by decide +kernel
theorem dX5_of_2 : decode cX5_of 2 = .ok (.iload_n 2, 1) := by decide +kernel
theorem dX5_of_3 : decode cX5_of 3 = .ok (.iload_n 3, 1) := by decide +kernel
theorem dX5_of_4 : decode cX5_of 4 = .ok (.invokevirtual 177, 3) := by decide +kernel
theorem dX5_of_7 : decode cX5_of 7 = .ok (.istore 4, 2) := by decide +kernel
theorem dX5_of_9 : decode cX5_of 9 = .ok (.iload 4, 2) := by decide +kernel
theorem dX5_of_11 : decode cX5_of 11 = .ok (.ifCond .ge 10, 3) := by decide +kernel
theorem dX5_of_14 : decode cX5_of 14 = .ok (.aload_n 0, 1) := by decide +kernel
theorem dX5_of_15 : decode cX5_of 15 = .ok (.iload 4, 2) := by decide +kernel
theorem dX5_of_17 : decode cX5_of 17 = .ok (.invokevirtual 69, 3) := by decide +kernel
theorem dX5_of_20 : decode cX5_of 20 = .ok (.ireturn, 1) := by decide +kernel
theorem dX5_of_21 : decode cX5_of 21 = .ok (.aload_n 0, 1) := by decide +kernel
theorem dX5_of_22 : decode cX5_of 22 = .ok (.invokevirtual 170, 3) := by decide +kernel
theorem dX5_of_25 : decode cX5_of 25 = .ok (.aload_n 0, 1) := by decide +kernel
theorem dX5_of_26 : decode cX5_of 26 = .ok (.iload_n 1, 1) := by decide +kernel
theorem dX5_of_27 : decode cX5_of 27 = .ok (.iload_n 2, 1) := by decide +kernel
theorem dX5_of_28 : decode cX5_of 28 = .ok (.iload_n 3, 1) := by decide +kernel
theorem dX5_of_29 : decode cX5_of 29 = .ok (.invokevirtual 145, 3) := by decide +kernel
theorem dX5_of_32 : decode cX5_of 32 = .ok (.ireturn, 1) := by decide +kernel
set_option maxRecDepth 20000 in
theorem ggX5_best_X5_noState : GoodIn wsX5_best wsX5_noState := goodIn_r _ [5] (by decide +kernel) (by decide +kernel)
set_option maxRecDepth 20000 in
theorem gX5_best_X5_noState : GoodIn wsX5_best (wsV RX5 177 RX5 yX5_noState wsX5_noState) := goodIn_app (goodIn_of _ (by decide +kernel)) ggX5_best_X5_noState
set_option maxRecDepth 20000 in
theorem ggX5_best_X5_no : GoodIn wsX5_best wsX5_no := goodIn_r _ [9, 10, 79, 80, 81, 82, 83, 84, 85, 86, 87, 88, 89, 90, 91, 92, 93, 94, 95, 96, 97, 98, 99, 100, 101, 102, 103, 104] (by decide +kernel) (by decide +kernel)
set_option maxRecDepth 20000 in
theorem gX5_best_X5_no : GoodIn wsX5_best (wsV RX5 69 RX5 yX5_no wsX5_no) := goodIn_app (goodIn_of _ (by decide +kernel)) ggX5_best_X5_no
set_option maxRecDepth 20000 in
theorem ggX5_best_X5_ended : GoodIn wsX5_best wsX5_ended := goodIn_r _ [14, 15, 79, 80, 81, 82, 83, 84, 85, 86, 87, 88, 89, 90, 91, 92, 93, 94, 95, 96, 97, 98, 99, 100, 101, 102, 103, 104] (by decide +kernel) (by decide +kernel)
set_option maxRecDepth 20000 in
theorem gX5_best_X5_ended : GoodIn wsX5_best (wsV RX5 160 RX5 yX5_ended wsX5_ended) := goodIn_app (goodIn_of _ (by decide +kernel)) ggX5_best_X5_ended
set_option maxRecDepth 20000 in
theorem ggX5_best_X5_solve : GoodIn wsX5_best wsX5_solve := goodIn_r _ [19, 20, 11, 12, 13, 4, 14, 15, 21, 22, 23, 24, 25, 26, 27, 28, 29, 30, 31, 32, 33, 34, 35, 36, 37, 38, 39, 40, 41, 42, 43, 44, 45, 46, 47, 48, 49, 50, 51, 52, 53, 54, 55, 56, 57, 58, 59, 60, 61, 62, 63, 64, 65, 66, 67, 68, 69, 70, 71, 72, 73, 74, 75, 76, 77, 78, 79, 80, 81, 82, 83, 84, 85, 86, 87, 88, 89, 90, 91, 92, 93, 94, 95, 96, 97, 98, 99, 100, 101, 102, 103, 104] (by decide +kernel) (by decide +kernel)
set_option maxRecDepth 20000 in
theorem gX5_best_X5_solve : GoodIn wsX5_best (wsV RX5 170 RX5 yX5_solve wsX5_solve) := goodIn_app (goodIn_of _ (by decide +kernel)) ggX5_best_X5_solve
set_option maxRecDepth 20000 in
theorem ggX5_best_X5_choice : GoodIn wsX5_best wsX5_choice := goodIn_r _ [31, 32, 33, 34, 35, 4, 36, 37, 38, 39, 40, 41, 42, 15, 43, 44, 45, 46, 47, 48, 49, 50, 51, 52, 53, 54, 21, 22, 23, 24, 25, 26, 27, 55, 56, 57, 58, 59, 60, 61, 62, 63, 64, 65, 66, 67, 68, 69, 70, 20, 71, 72, 73, 74, 79, 80, 81, 82, 83, 84, 85, 86, 87, 88, 89, 90, 91, 92, 93, 94, 95, 96, 97, 98, 99, 100, 101, 102, 103, 104] (by decide +kernel) (by decide +kernel)
set_option maxRecDepth 20000 in
theorem gX5_best_X5_choice : GoodIn wsX5_best (wsV RX5 163 RX5 yX5_choice wsX5_choice) := goodIn_app (goodIn_of _ (by decide +kernel)) ggX5_best_X5_choice
theorem dX5_best_0 : decode cX5_best 0 = .ok (.aload_n 0, 1) := by decide +kernel
theorem dX5_best_1 : decode cX5_best 1 = .ok (.iload_n 1, 1) := by decide +kernel
theorem dX5_best_2 : decode cX5_best 2 = .ok (.iload_n 2, 1) := by decide +kernel
theorem dX5_best_3 : decode cX5_best 3 = .ok (.iload_n 3, 1) := by decide +kernel
theorem dX5_best_4 : decode cX5_best 4 = .ok (.invokevirtual 177, 3) := by decide +kernel
theorem dX5_best_7 : decode cX5_best 7 = .ok (.istore 4, 2) := by decide +kernel
theorem dX5_best_9 : decode cX5_best 9 = .ok (.iload 4, 2) := by decide +kernel
theorem dX5_best_11 : decode cX5_best 11 = .ok (.ifCond .ge 10, 3) := by decide +kernel
theorem dX5_best_14 : decode cX5_best 14 = .ok (.aload_n 0, 1) := by decide +kernel
theorem dX5_best_15 : decode cX5_best 15 = .ok (.iload 4, 2) := by decide +kernel
theorem dX5_best_17 : decode cX5_best 17 = .ok (.invokevirtual 69, 3) := by decide +kernel
theorem dX5_best_20 : decode cX5_best 20 = .ok (.ireturn, 1) := by decide +kernel
theorem dX5_best_21 : decode cX5_best 21 = .ok (.aload_n 0, 1) := by decide +kernel
theorem dX5_best_22 : decode cX5_best 22 = .ok (.iload_n 1, 1) := by decide +kernel
theorem dX5_best_23 : decode cX5_best 23 = .ok (.iload_n 2, 1) := by decide +kernel
theorem dX5_best_24 : decode cX5_best 24 = .ok (.invokevirtual 160, 3) := by decide +kernel
theorem dX5_best_27 : decode cX5_best 27 = .ok (.ifCond .eq 6, 3) := by decide +kernel
theorem dX5_best_30 : decode cX5_best 30 = .ok (.bipush (-9), 2) := by decide +kernel
theorem dX5_best_32 : decode cX5_best 32 = .ok (.ireturn, 1) := by decide +kernel
theorem dX5_best_33 : decode cX5_best 33 = .ok (.aload_n 0, 1) := by decide +kernel
theorem dX5_best_34 : decode cX5_best 34 = .ok (.invokevirtual 170, 3) := by decide +kernel
theorem dX5_best_37 : decode cX5_best 37 = .ok (.aload_n 0, 1) := by decide +kernel
theorem dX5_best_38 : decode cX5_best 38 = .ok (.iload_n 1, 1) := by decide +kernel
theorem dX5_best_39 : decode cX5_best 39 = .ok (.iload_n 2, 1) := by decide +kernel
theorem dX5_best_40 : decode cX5_best 40 = .ok (.iload_n 3, 1) := by decide +kernel
theorem dX5_best_41 : decode cX5_best 41 = .ok (.invokevirtual 163, 3) := by decide +kernel
theorem dX5_best_44 : decode cX5_best 44 = .ok (.ireturn, 1) := by decide +kernel
set_option maxRecDepth 20000 in
theorem ggX5_from_X5_noState : GoodIn wsX5_from wsX5_noState := goodIn_r _ [5] (by decide +kernel) (by decide +kernel)
set_option maxRecDepth 20000 in
theorem gX5_from_X5_noState : GoodIn wsX5_from (wsV RX5 177 RX5 yX5_noState wsX5_noState) := goodIn_app (goodIn_of _ (by decide +kernel)) ggX5_from_X5_noState
set_option maxRecDepth 20000 in
theorem ggX5_from_X5_no : GoodIn wsX5_from wsX5_no := goodIn_r _ [9, 10, 79, 80, 81, 82, 83, 84, 85, 86, 87, 88, 89, 90, 91, 92, 93, 94, 95, 96, 97, 98, 99, 100, 101, 102, 103, 104] (by decide +kernel) (by decide +kernel)
set_option maxRecDepth 20000 in
theorem gX5_from_X5_no : GoodIn wsX5_from (wsV RX5 69 RX5 yX5_no wsX5_no) := goodIn_app (goodIn_of _ (by decide +kernel)) ggX5_from_X5_no
set_option maxRecDepth 20000 in
theorem ggX5_from_X5_solve : GoodIn wsX5_from wsX5_solve := goodIn_r _ [14, 15, 16, 17, 18, 4, 19, 20, 21, 22, 23, 24, 25, 26, 27, 28, 29, 30, 31, 32, 33, 34, 35, 36, 37, 38, 39, 40, 41, 42, 43, 44, 45, 46, 47, 48, 49, 50, 51, 52, 53, 54, 55, 56, 57, 58, 59, 60, 61, 62, 63, 64, 65, 66, 67, 68, 69, 70, 71, 72, 73, 74, 75, 76, 77, 78, 79, 80, 81, 82, 83, 84, 85, 86, 87, 88, 89, 90, 91, 92, 93, 94, 95, 96, 97, 98, 99, 100, 101, 102, 103, 104] (by decide +kernel) (by decide +kernel)
set_option maxRecDepth 20000 in
theorem gX5_from_X5_solve : GoodIn wsX5_from (wsV RX5 170 RX5 yX5_solve wsX5_solve) := goodIn_app (goodIn_of _ (by decide +kernel)) ggX5_from_X5_solve
set_option maxRecDepth 20000 in
theorem ggX5_from_X5_ended : GoodIn wsX5_from wsX5_ended := goodIn_r _ [19, 20, 79, 80, 81, 82, 83, 84, 85, 86, 87, 88, 89, 90, 91, 92, 93, 94, 95, 96, 97, 98, 99, 100, 101, 102, 103, 104] (by decide +kernel) (by decide +kernel)
set_option maxRecDepth 20000 in
theorem gX5_from_X5_ended : GoodIn wsX5_from (wsV RX5 160 RX5 yX5_ended wsX5_ended) := goodIn_app (goodIn_of _ (by decide +kernel)) ggX5_from_X5_ended
set_option maxRecDepth 20000 in
theorem ggX5_from_X5_choice : GoodIn wsX5_from wsX5_choice := goodIn_r _ [31, 32, 33, 34, 35, 4, 36, 37, 38, 39, 40, 41, 42, 20, 43, 44, 45, 46, 47, 48, 49, 50, 51, 52, 53, 54, 21, 22, 23, 24, 25, 26, 27, 55, 56, 57, 58, 59, 60, 61, 62, 63, 64, 65, 66, 67, 68, 69, 70, 15, 71, 72, 73, 74, 79, 80, 81, 82, 83, 84, 85, 86, 87, 88, 89, 90, 91, 92, 93, 94, 95, 96, 97, 98, 99, 100, 101, 102, 103, 104] (by decide +kernel) (by decide +kernel)
set_option maxRecDepth 20000 in
theorem gX5_from_X5_choice : GoodIn wsX5_from (wsV RX5 163 RX5 yX5_choice wsX5_choice) := goodIn_app (goodIn_of _ (by decide +kernel)) ggX5_from_X5_choice
theorem dX5_from_0 : decode cX5_from 0 = .ok (.aload_n 0, 1) := by decide +kernel
theorem dX5_from_1 : decode cX5_from 1 = .ok (.iconst 1, 1) := by decide +kernel
theorem dX5_from_2 : decode cX5_from 2 = .ok (.iload_n 1, 1) := by decide +kernel
