theorem dX0_init_0 : decode cX0_init 0 = .ok (.aload_n 0, 1) := by decide +kernel
theorem dX0_init_1 : decode cX0_init 1 = .ok (.invokespecial 3, 3) := by decide +kernel
theorem dX0_init_4 : decode cX0_init 4 = .ok (.aload_n 0, 1) := by decide +kernel
theorem dX0_init_5 : decode cX0_init 5 = .ok (.bipush 16, 2) := by decide +kernel
theorem dX0_init_7 : decode cX0_init 7 = .ok (.newarray .int, 2) := by decide +kernel
theorem dX0_init_9 : decode cX0_init 9 = .ok (.putfield 9, 3) := by decide +kernel
theorem dX0_init_12 : decode cX0_init 12 = .ok (.return_, 1) := by decide +kernel
set_option maxRecDepth 20000 in
theorem ggX0_byWires_J7_fill_53178 : GoodIn wsX0_byWires wsJ7_fill_53178 := goodIn_r _ [5] (by decide +kernel) (by decide +kernel)
set_option maxRecDepth 20000 in
theorem gX0_byWires_J7_fill_53178 : GoodIn wsX0_byWires (va_wsS RX0 15 yJ7_fill_53178 wsJ7_fill_53178) := goodIn_app (goodIn_of _ (by decide +kernel)) ggX0_byWires_J7_fill_53178
set_option maxRecDepth 20000 in
theorem ggX0_byWires_X0_below : GoodIn wsX0_byWires wsX0_below := goodIn_r _ [9, 10, 11, 12, 13, 14, 15, 16, 17, 18, 19, 20, 21, 22, 23, 24, 6, 7, 8, 25, 26, 27, 28, 29, 30, 31, 32, 33, 34, 35, 36, 37, 38, 40, 41, 42, 43, 44, 45, 46, 47, 48, 49] (by decide +kernel) (by decide +kernel)
set_option maxRecDepth 20000 in
theorem gX0_byWires_X0_below : GoodIn wsX0_byWires (va_wsS RX0 21 yX0_below wsX0_below) := goodIn_app (goodIn_of _ (by decide +kernel)) ggX0_byWires_X0_below
theorem dX0_byWires_0 : decode cX0_byWires 0 = .ok (.aload_n 0, 1) := by decide +kernel
theorem dX0_byWires_1 : decode cX0_byWires 1 = .ok (.getfield 9, 3) := by decide +kernel
theorem dX0_byWires_4 : decode cX0_byWires 4 = .ok (.iconst (-1), 1) := by decide +kernel
theorem dX0_byWires_5 : decode cX0_byWires 5 = .ok (.invokestatic 15, 3) := by decide +kernel
theorem dX0_byWires_8 : decode cX0_byWires 8 = .ok (.aload_n 1, 1) := by decide +kernel
theorem dX0_byWires_9 : decode cX0_byWires 9 = .ok (.iload_n 2, 1) := by decide +kernel
theorem dX0_byWires_10 : decode cX0_byWires 10 = .ok (.aload_n 0, 1) := by decide +kernel
theorem dX0_byWires_11 : decode cX0_byWires 11 = .ok (.getfield 9, 3) := by decide +kernel
theorem dX0_byWires_14 : decode cX0_byWires 14 = .ok (.iconst 0, 1) := by decide +kernel
theorem dX0_byWires_15 : decode cX0_byWires 15 = .ok (.invokestatic 21, 3) := by decide +kernel
theorem dX0_byWires_18 : decode cX0_byWires 18 = .ok (.ireturn, 1) := by decide +kernel
set_option maxRecDepth 20000 in
theorem ggX0_below_X2_isHung : GoodIn wsX0_below wsX2_isHung := goodIn_r _ [9, 10, 33, 34, 35, 36, 37, 38, 39, 40, 41, 42] (by decide +kernel) (by decide +kernel)
set_option maxRecDepth 20000 in
theorem gX0_below_X2_isHung : GoodIn wsX0_below (wsV RX0 25 RX2 yX2_isHung wsX2_isHung) := goodIn_app (goodIn_of _ (by decide +kernel)) ggX0_below_X2_isHung
set_option maxRecDepth 20000 in
theorem ggX0_below_X2_sourceOf : GoodIn wsX0_below wsX2_sourceOf := goodIn_r _ [14, 15, 33, 34, 35, 36, 37, 38, 39, 40, 41, 42] (by decide +kernel) (by decide +kernel)
set_option maxRecDepth 20000 in
theorem gX0_below_X2_sourceOf : GoodIn wsX0_below (wsV RX0 31 RX2 yX2_sourceOf wsX2_sourceOf) := goodIn_app (goodIn_of _ (by decide +kernel)) ggX0_below_X2_sourceOf
set_option maxRecDepth 20000 in
theorem ggX0_below_X0_below : GoodIn wsX0_below wsX0_below := goodIn_r _ [0, 1, 2, 3, 4, 5, 6, 7, 8, 9, 10, 11, 12, 13, 14, 15, 16, 17, 18, 19, 20, 21, 22, 23, 24, 25, 26, 27, 28, 29, 30, 31, 32, 33, 34, 35, 36, 37, 38, 39, 40, 41, 42] (by decide +kernel) (by decide +kernel)
set_option maxRecDepth 20000 in
theorem gX0_below_X0_below : GoodIn wsX0_below (va_wsS RX0 21 yX0_below wsX0_below) := goodIn_app (goodIn_of _ (by decide +kernel)) ggX0_below_X0_below
set_option maxRecDepth 20000 in
theorem ggX0_below_X0_ownDepth : GoodIn wsX0_below wsX0_ownDepth := goodIn_r _ [21, 22, 23, 24, 8, 25, 26, 27, 6, 7, 9, 10, 28, 29, 30, 31, 32, 33, 34, 35, 36, 37, 38, 39, 40, 41, 42] (by decide +kernel) (by decide +kernel)
set_option maxRecDepth 20000 in
theorem gX0_below_X0_ownDepth : GoodIn wsX0_below (va_wsS RX0 40 yX0_ownDepth wsX0_ownDepth) := goodIn_app (goodIn_of _ (by decide +kernel)) ggX0_below_X0_ownDepth
theorem dX0_below_0 : decode cX0_below 0 = .ok (.aload_n 0, 1) := by decide +kernel
theorem dX0_below_1 : decode cX0_below 1 = .ok (.iload_n 1, 1) := by decide +kernel
theorem dX0_below_2 : decode cX0_below 2 = .ok (.invokevirtual 25, 3) := by decide +kernel
theorem dX0_below_5 : decode cX0_below 5 = .ok (.ifCond .eq 9, 3) := by decide +kernel
theorem dX0_below_8 : decode cX0_below 8 = .ok (.iload_n 3, 1) := by decide +kernel
theorem dX0_below_9 : decode cX0_below 9 = .ok (.bipush 16, 2) := by decide +kernel
theorem dX0_below_11 : decode cX0_below 11 = .ok (.if_icmp .le 6, 3) := by decide +kernel
theorem dX0_below_14 : decode cX0_below 14 = .ok (.bipush (-15), 2) := by decide +kernel
theorem dX0_below_16 : decode cX0_below 16 = .ok (.ireturn, 1) := by decide +kernel
theorem dX0_below_17 : decode cX0_below 17 = .ok (.aload_n 2, 1) := by decide +kernel
theorem dX0_below_18 : decode cX0_below 18 = .ok (.iload_n 1, 1) := by decide +kernel
theorem dX0_below_19 : decode cX0_below 19 = .ok (.iaload, 1) := by decide +kernel
theorem dX0_below_20 : decode cX0_below 20 = .ok (.iconst (-1), 1) := by decide +kernel
theorem dX0_below_21 : decode cX0_below 21 = .ok (.if_icmp .eq 7, 3) := by decide +kernel
theorem dX0_below_24 : decode cX0_below 24 = .ok (.aload_n 2, 1) := by decide +kernel
theorem dX0_below_25 : decode cX0_below 25 = .ok (.iload_n 1, 1) := by decide +kernel
theorem dX0_below_26 : decode cX0_below 26 = .ok (.iaload, 1) := by decide +kernel
theorem dX0_below_27 : decode cX0_below 27 = .ok (.ireturn, 1) := by decide +kernel
theorem dX0_below_28 : decode cX0_below 28 = .ok (.aload_n 2, 1) := by decide +kernel
theorem dX0_below_29 : decode cX0_below 29 = .ok (.iload_n 1, 1) := by decide +kernel
theorem dX0_below_30 : decode cX0_below 30 = .ok (.bipush (-15), 2) := by decide +kernel
theorem dX0_below_32 : decode cX0_below 32 = .ok (.iastore, 1) := by decide +kernel
theorem dX0_below_33 : decode cX0_below 33 = .ok (.iconst 0, 1) := by decide +kernel
theorem dX0_below_34 : decode cX0_below 34 = .ok (.istore 4, 2) := by decide +kernel
theorem dX0_below_36 : decode cX0_below 36 = .ok (.iconst 0, 1) := by decide +kernel
theorem dX0_below_37 : decode cX0_below 37 = .ok (.istore 5, 2) := by decide +kernel
theorem dX0_below_39 : decode cX0_below 39 = .ok (.iload 5, 2) := by decide +kernel
theorem dX0_below_41 : decode cX0_below 41 = .ok (.iconst 3, 1) := by decide +kernel
theorem dX0_below_42 : decode cX0_below 42 = .ok (.if_icmp .ge 57, 3) := by decide +kernel
theorem dX0_below_45 : decode cX0_below 45 = .ok (.aload_n 0, 1) := by decide +kernel
theorem dX0_below_46 : decode cX0_below 46 = .ok (.iload_n 1, 1) := by decide +kernel
theorem dX0_below_47 : decode cX0_below 47 = .ok (.iload 5, 2) := by decide +kernel
theorem dX0_below_49 : decode cX0_below 49 = .ok (.invokevirtual 31, 3) := by decide +kernel
theorem dX0_below_52 : decode cX0_below 52 = .ok (.istore 6, 2) := by decide +kernel
theorem dX0_below_54 : decode cX0_below 54 = .ok (.iload 6, 2) := by decide +kernel
theorem dX0_below_56 : decode cX0_below 56 = .ok (.iconst (-1), 1) := by decide +kernel
theorem dX0_below_57 : decode cX0_below 57 = .ok (.if_icmp .ne 7, 3) := by decide +kernel
theorem dX0_below_60 : decode cX0_below 60 = .ok (.iconst 0, 1) := by decide +kernel
theorem dX0_below_61 : decode cX0_below 61 = .ok (.goto 13, 3) := by decide +kernel
theorem dX0_below_64 : decode cX0_below 64 = .ok (.aload_n 0, 1) := by decide +kernel
theorem dX0_below_65 : decode cX0_below 65 = .ok (.iload 6, 2) := by decide +kernel
theorem dX0_below_67 : decode cX0_below 67 = .ok (.aload_n 2, 1) := by decide +kernel
theorem dX0_below_68 : decode cX0_below 68 = .ok (.iload_n 3, 1) := by decide +kernel
theorem dX0_below_69 : decode cX0_below 69 = .ok (.iconst 1, 1) := by decide +kernel
theorem dX0_below_70 : decode cX0_below 70 = .ok (.iadd, 1) := by decide +kernel
theorem dX0_below_71 : decode cX0_below 71 = .ok (.invokestatic 21, 3) := by decide +kernel
theorem dX0_below_74 : decode cX0_below 74 = .ok (.istore 7, 2) := by decide +kernel
theorem dX0_below_76 : decode cX0_below 76 = .ok (.iload 7, 2) := by decide +kernel
theorem dX0_below_78 : decode cX0_below 78 = .ok (.ifCond .ge 6, 3) := by decide +kernel
theorem dX0_below_81 : decode cX0_below 81 = .ok (.bipush (-15), 2) := by decide +kernel
theorem dX0_below_83 : decode cX0_below 83 = .ok (.ireturn, 1) := by decide +kernel
theorem dX0_below_84 : decode cX0_below 84 = .ok (.iload 4, 2) := by decide +kernel
theorem dX0_below_86 : decode cX0_below 86 = .ok (.iload 7, 2) := by decide +kernel
theorem dX0_below_88 : decode cX0_below 88 = .ok (.invokestatic 35, 3) := by decide +kernel
theorem dX0_below_91 : decode cX0_below 91 = .ok (.istore 4, 2) := by decide +kernel
theorem dX0_below_93 : decode cX0_below 93 = .ok (.iinc 5 1, 3) := by decide +kernel
theorem dX0_below_96 : decode cX0_below 96 = .ok (.goto (-57), 3) := by decide +kernel
theorem dX0_below_99 : decode cX0_below 99 = .ok (.aload_n 2, 1) := by decide +kernel
theorem dX0_below_100 : decode cX0_below 100 = .ok (.iload_n 1, 1) := by decide +kernel
theorem dX0_below_101 : decode cX0_below 101 = .ok (.aload_n 0, 1) := by decide +kernel
theorem dX0_below_102 : decode cX0_below 102 = .ok (.iload_n 1, 1) := by decide +kernel
theorem dX0_below_103 : decode cX0_below 103 = .ok (.iload 4, 2) := by decide +kernel
theorem dX0_below_105 : decode cX0_below 105 = .ok (.invokestatic 40, 3) := by decide +kernel
theorem dX0_below_108 : decode cX0_below 108 = .ok (.iastore, 1) := by decide +kernel
theorem dX0_below_109 : decode cX0_below 109 = .ok (.aload_n 2, 1) := by decide +kernel
theorem dX0_below_110 : decode cX0_below 110 = .ok (.iload_n 1, 1) := by decide +kernel
theorem dX0_below_111 : decode cX0_below 111 = .ok (.iaload, 1) := by decide +kernel
theorem dX0_below_112 : decode cX0_below 112 = .ok (.ireturn, 1) := by decide +kernel
set_option maxRecDepth 20000 in
theorem ggX0_ownDepth_X2_isSwitch : GoodIn wsX0_ownDepth wsX2_isSwitch := goodIn_r _ [5, 6, 7, 8, 9, 4, 10, 11, 17, 18, 19, 20, 21, 22, 23, 24, 25, 26] (by decide +kernel) (by decide +kernel)
set_option maxRecDepth 20000 in
theorem gX0_ownDepth_X2_isSwitch : GoodIn wsX0_ownDepth (wsV RX0 44 RX2 yX2_isSwitch wsX2_isSwitch) := goodIn_app (goodIn_of _ (by decide +kernel)) ggX0_ownDepth_X2_isSwitch
set_option maxRecDepth 20000 in
theorem ggX0_ownDepth_X2_wickOf : GoodIn wsX0_ownDepth wsX2_wickOf := goodIn_r _ [15, 16, 7, 8, 9, 4, 10, 11, 17, 18, 19, 20, 21, 22, 23, 24, 25, 26] (by decide +kernel) (by decide +kernel)
set_option maxRecDepth 20000 in
theorem gX0_ownDepth_X2_wickOf : GoodIn wsX0_ownDepth (wsV RX0 47 RX2 yX2_wickOf wsX2_wickOf) := goodIn_app (goodIn_of _ (by decide +kernel)) ggX0_ownDepth_X2_wickOf
theorem dX0_ownDepth_0 : decode cX0_ownDepth 0 = .ok (.aload_n 0, 1) := by decide +kernel
theorem dX0_ownDepth_1 : decode cX0_ownDepth 1 = .ok (.iload_n 1, 1) := by decide +kernel
theorem dX0_ownDepth_2 : decode cX0_ownDepth 2 = .ok (.invokevirtual 44, 3) := by decide +kernel
theorem dX0_ownDepth_5 : decode cX0_ownDepth 5 = .ok (.ifCond .eq 7, 3) := by decide +kernel
theorem dX0_ownDepth_8 : decode cX0_ownDepth 8 = .ok (.iconst 0, 1) := by decide +kernel
theorem dX0_ownDepth_9 : decode cX0_ownDepth 9 = .ok (.goto 10, 3) := by decide +kernel
theorem dX0_ownDepth_12 : decode cX0_ownDepth 12 = .ok (.iload_n 2, 1) := by decide +kernel
theorem dX0_ownDepth_13 : decode cX0_ownDepth 13 = .ok (.aload_n 0, 1) := by decide +kernel
theorem dX0_ownDepth_14 : decode cX0_ownDepth 14 = .ok (.iload_n 1, 1) := by decide +kernel
theorem dX0_ownDepth_15 : decode cX0_ownDepth 15 = .ok (.invokevirtual 47, 3) := by decide +kernel
theorem dX0_ownDepth_18 : decode cX0_ownDepth 18 = .ok (.iadd, 1) := by decide +kernel
theorem dX0_ownDepth_19 : decode cX0_ownDepth 19 = .ok (.ireturn, 1) := by decide +kernel
set_option maxRecDepth 20000 in
theorem ggX0_byRounds_J7_fill_53178 : GoodIn wsX0_byRounds wsJ7_fill_53178 := goodIn_r _ [5] (by decide +kernel) (by decide +kernel)
set_option maxRecDepth 20000 in
theorem gX0_byRounds_J7_fill_53178 : GoodIn wsX0_byRounds (va_wsS RX0 15 yJ7_fill_53178 wsJ7_fill_53178) := goodIn_app (goodIn_of _ (by decide +kernel)) ggX0_byRounds_J7_fill_53178
set_option maxRecDepth 20000 in
theorem ggX0_byRounds_X0_lookAtAll : GoodIn wsX0_byRounds wsX0_lookAtAll := goodIn_r _ [10, 1, 11, 12, 13, 14, 15, 16, 17, 18, 19, 9, 20, 21, 22, 23, 24, 25, 26, 27, 28, 29, 30, 31, 32, 33, 34, 35, 36, 37, 38, 39, 40, 41, 42, 43, 44, 45, 46, 47, 48, 49, 50, 51, 52, 53, 54, 55, 56, 57, 58] (by decide +kernel) (by decide +kernel)
set_option maxRecDepth 20000 in
theorem gX0_byRounds_X0_lookAtAll : GoodIn wsX0_byRounds (wsV RX0 51 RX0 yX0_lookAtAll wsX0_lookAtAll) := goodIn_app (goodIn_of _ (by decide +kernel)) ggX0_byRounds_X0_lookAtAll
set_option maxRecDepth 20000 in
theorem ggX0_byRounds_X2_isHung : GoodIn wsX0_byRounds wsX2_isHung := goodIn_r _ [33, 16, 49, 50, 51, 52, 53, 54, 55, 56, 57, 58] (by decide +kernel) (by decide +kernel)
set_option maxRecDepth 20000 in
theorem gX0_byRounds_X2_isHung : GoodIn wsX0_byRounds (wsV RX0 25 RX2 yX2_isHung wsX2_isHung) := goodIn_app (goodIn_of _ (by decide +kernel)) ggX0_byRounds_X2_isHung
theorem dX0_byRounds_0 : decode cX0_byRounds 0 = .ok (.aload_n 0, 1) := by decide +kernel
theorem dX0_byRounds_1 : decode cX0_byRounds 1 = .ok (.getfield 9, 3) := by decide +kernel
theorem dX0_byRounds_4 : decode cX0_byRounds 4 = .ok (.iconst (-1), 1) := by decide +kernel
theorem dX0_byRounds_5 : decode cX0_byRounds 5 = .ok (.invokestatic 15, 3) := by decide +kernel
theorem dX0_byRounds_8 : decode cX0_byRounds 8 = .ok (.iconst 0, 1) := by decide +kernel
theorem dX0_byRounds_9 : decode cX0_byRounds 9 = .ok (.istore_n 3, 1) := by decide +kernel
theorem dX0_byRounds_10 : decode cX0_byRounds 10 = .ok (.iload_n 3, 1) := by decide +kernel
theorem dX0_byRounds_11 : decode cX0_byRounds 11 = .ok (.bipush 16, 2) := by decide +kernel
theorem dX0_byRounds_13 : decode cX0_byRounds 13 = .ok (.if_icmp .ge 14, 3) := by decide +kernel
theorem dX0_byRounds_16 : decode cX0_byRounds 16 = .ok (.aload_n 0, 1) := by decide +kernel
theorem dX0_byRounds_17 : decode cX0_byRounds 17 = .ok (.aload_n 1, 1) := by decide +kernel
theorem dX0_byRounds_18 : decode cX0_byRounds 18 = .ok (.invokevirtual 51, 3) := by decide +kernel
theorem dX0_byRounds_21 : decode cX0_byRounds 21 = .ok (.iinc 3 1, 3) := by decide +kernel
theorem dX0_byRounds_24 : decode cX0_byRounds 24 = .ok (.goto (-14), 3) := by decide +kernel
theorem dX0_byRounds_27 : decode cX0_byRounds 27 = .ok (.aload_n 1, 1) := by decide +kernel
theorem dX0_byRounds_28 : decode cX0_byRounds 28 = .ok (.iload_n 2, 1) := by decide +kernel
theorem dX0_byRounds_29 : decode cX0_byRounds 29 = .ok (.invokevirtual 25, 3) := by decide +kernel
theorem dX0_byRounds_32 : decode cX0_byRounds 32 = .ok (.ifCond .eq 17, 3) := by decide +kernel
theorem dX0_byRounds_35 : decode cX0_byRounds 35 = .ok (.aload_n 0, 1) := by decide +kernel
theorem dX0_byRounds_36 : decode cX0_byRounds 36 = .ok (.getfield 9, 3) := by decide +kernel
theorem dX0_byRounds_39 : decode cX0_byRounds 39 = .ok (.iload_n 2, 1) := by decide +kernel
theorem dX0_byRounds_40 : decode cX0_byRounds 40 = .ok (.iaload, 1) := by decide +kernel
theorem dX0_byRounds_41 : decode cX0_byRounds 41 = .ok (.iconst (-1), 1) := by decide +kernel
theorem dX0_byRounds_42 : decode cX0_byRounds 42 = .ok (.if_icmp .eq 7, 3) := by decide +kernel
theorem dX0_byRounds_45 : decode cX0_byRounds 45 = .ok (.iconst 1, 1) := by decide +kernel
theorem dX0_byRounds_46 : decode cX0_byRounds 46 = .ok (.goto 4, 3) := by decide +kernel
theorem dX0_byRounds_49 : decode cX0_byRounds 49 = .ok (.iconst 0, 1) := by decide +kernel
theorem dX0_byRounds_50 : decode cX0_byRounds 50 = .ok (.istore_n 3, 1) := by decide +kernel
theorem dX0_byRounds_51 : decode cX0_byRounds 51 = .ok (.iload_n 3, 1) := by decide +kernel
theorem dX0_byRounds_52 : decode cX0_byRounds 52 = .ok (.ifCond .eq 12, 3) := by decide +kernel
theorem dX0_byRounds_55 : decode cX0_byRounds 55 = .ok (.aload_n 0, 1) := by decide +kernel
theorem dX0_byRounds_56 : decode cX0_byRounds 56 = .ok (.getfield 9, 3) := by decide +kernel
theorem dX0_byRounds_59 : decode cX0_byRounds 59 = .ok (.iload_n 2, 1) := by decide +kernel
theorem dX0_byRounds_60 : decode cX0_byRounds 60 = .ok (.iaload, 1) := by decide +kernel
theorem dX0_byRounds_61 : decode cX0_byRounds 61 = .ok (.goto 5, 3) := by decide +kernel
theorem dX0_byRounds_64 : decode cX0_byRounds 64 = .ok (.bipush (-15), 2) := by decide +kernel
theorem dX0_byRounds_66 : decode cX0_byRounds 66 = .ok (.ireturn, 1) := by decide +kernel
set_option maxRecDepth 20000 in
theorem ggX0_lookAtAll_X2_count : GoodIn wsX0_lookAtAll wsX2_count := goodIn_r _ [6, 7, 41, 42, 43, 44, 45, 46, 47, 48, 49, 50] (by decide +kernel) (by decide +kernel)
set_option maxRecDepth 20000 in
theorem gX0_lookAtAll_X2_count : GoodIn wsX0_lookAtAll (wsV RX0 55 RX2 yX2_count wsX2_count) := goodIn_app (goodIn_of _ (by decide +kernel)) ggX0_lookAtAll_X2_count
set_option maxRecDepth 20000 in
theorem ggX0_lookAtAll_X0_deepestSource : GoodIn wsX0_lookAtAll wsX0_deepestSource := goodIn_r _ [12, 1, 13, 14, 15, 16, 17, 18, 19, 5, 20, 21, 22, 23, 24, 25, 7, 40, 41, 42, 43, 44, 45, 46, 47, 48, 49, 50] (by decide +kernel) (by decide +kernel)
set_option maxRecDepth 20000 in
theorem gX0_lookAtAll_X0_deepestSource : GoodIn wsX0_lookAtAll (wsV RX0 59 RX0 yX0_deepestSource wsX0_deepestSource) := goodIn_app (goodIn_of _ (by decide +kernel)) ggX0_lookAtAll_X0_deepestSource
set_option maxRecDepth 20000 in
theorem ggX0_lookAtAll_X0_ownDepth : GoodIn wsX0_lookAtAll wsX0_ownDepth := goodIn_r _ [28, 29, 30, 31, 5, 32, 33, 34, 23, 24, 25, 7, 35, 36, 37, 38, 39, 41, 42, 43, 44, 45, 46, 47, 48, 49, 50] (by decide +kernel) (by decide +kernel)
set_option maxRecDepth 20000 in
theorem gX0_lookAtAll_X0_ownDepth : GoodIn wsX0_lookAtAll (va_wsS RX0 40 yX0_ownDepth wsX0_ownDepth) := goodIn_app (goodIn_of _ (by decide +kernel)) ggX0_lookAtAll_X0_ownDepth
theorem dX0_lookAtAll_0 : decode cX0_lookAtAll 0 = .ok (.iconst 0, 1) := by decide +kernel
theorem dX0_lookAtAll_1 : decode cX0_lookAtAll 1 = .ok (.istore_n 2, 1) := by decide +kernel
theorem dX0_lookAtAll_2 : decode cX0_lookAtAll 2 = .ok (.iload_n 2, 1) := by decide +kernel
theorem dX0_lookAtAll_3 : decode cX0_lookAtAll 3 = .ok (.aload_n 1, 1) := by decide +kernel
theorem dX0_lookAtAll_4 : decode cX0_lookAtAll 4 = .ok (.invokevirtual 55, 3) := by decide +kernel
theorem dX0_lookAtAll_7 : decode cX0_lookAtAll 7 = .ok (.if_icmp .ge 39, 3) := by decide +kernel
theorem dX0_lookAtAll_10 : decode cX0_lookAtAll 10 = .ok (.iload_n 2, 1) := by decide +kernel
theorem dX0_lookAtAll_11 : decode cX0_lookAtAll 11 = .ok (.bipush 16, 2) := by decide +kernel
theorem dX0_lookAtAll_13 : decode cX0_lookAtAll 13 = .ok (.if_icmp .ge 33, 3) := by decide +kernel
theorem dX0_lookAtAll_16 : decode cX0_lookAtAll 16 = .ok (.aload_n 0, 1) := by decide +kernel
theorem dX0_lookAtAll_17 : decode cX0_lookAtAll 17 = .ok (.aload_n 1, 1) := by decide +kernel
theorem dX0_lookAtAll_18 : decode cX0_lookAtAll 18 = .ok (.iload_n 2, 1) := by decide +kernel
theorem dX0_lookAtAll_19 : decode cX0_lookAtAll 19 = .ok (.invokevirtual 59, 3) := by decide +kernel
theorem dX0_lookAtAll_22 : decode cX0_lookAtAll 22 = .ok (.istore_n 3, 1) := by decide +kernel
theorem dX0_lookAtAll_23 : decode cX0_lookAtAll 23 = .ok (.iload_n 3, 1) := by decide +kernel
theorem dX0_lookAtAll_24 : decode cX0_lookAtAll 24 = .ok (.iconst (-1), 1) := by decide +kernel
theorem dX0_lookAtAll_25 : decode cX0_lookAtAll 25 = .ok (.if_icmp .eq 15, 3) := by decide +kernel
theorem dX0_lookAtAll_28 : decode cX0_lookAtAll 28 = .ok (.aload_n 0, 1) := by decide +kernel
theorem dX0_lookAtAll_29 : decode cX0_lookAtAll 29 = .ok (.getfield 9, 3) := by decide +kernel
theorem dX0_lookAtAll_32 : decode cX0_lookAtAll 32 = .ok (.iload_n 2, 1) := by decide +kernel
theorem dX0_lookAtAll_33 : decode cX0_lookAtAll 33 = .ok (.aload_n 1, 1) := by decide +kernel
theorem dX0_lookAtAll_34 : decode cX0_lookAtAll 34 = .ok (.iload_n 2, 1) := by decide +kernel
theorem dX0_lookAtAll_35 : decode cX0_lookAtAll 35 = .ok (.iload_n 3, 1) := by decide +kernel
theorem dX0_lookAtAll_36 : decode cX0_lookAtAll 36 = .ok (.invokestatic 40, 3) := by decide +kernel
theorem dX0_lookAtAll_39 : decode cX0_lookAtAll 39 = .ok (.iastore, 1) := by decide +kernel
theorem dX0_lookAtAll_40 : decode cX0_lookAtAll 40 = .ok (.iinc 2 1, 3) := by decide +kernel
theorem dX0_lookAtAll_43 : decode cX0_lookAtAll 43 = .ok (.goto (-41), 3) := by decide +kernel
theorem dX0_lookAtAll_46 : decode cX0_lookAtAll 46 = .ok (.return_, 1) := by decide +kernel
set_option maxRecDepth 20000 in
theorem ggX0_deepestSource_X2_sourceOf : GoodIn wsX0_deepestSource wsX2_sourceOf := goodIn_r _ [10, 11, 18, 19, 20, 21, 22, 23, 24, 25, 26, 27] (by decide +kernel) (by decide +kernel)
set_option maxRecDepth 20000 in
theorem gX0_deepestSource_X2_sourceOf : GoodIn wsX0_deepestSource (wsV RX0 31 RX2 yX2_sourceOf wsX2_sourceOf) := goodIn_app (goodIn_of _ (by decide +kernel)) ggX0_deepestSource_X2_sourceOf
set_option maxRecDepth 20000 in
theorem ggX0_deepestSource_X2_isHung : GoodIn wsX0_deepestSource wsX2_isHung := goodIn_r _ [15, 16, 18, 19, 20, 21, 22, 23, 24, 25, 26, 27] (by decide +kernel) (by decide +kernel)
set_option maxRecDepth 20000 in
theorem gX0_deepestSource_X2_isHung : GoodIn wsX0_deepestSource (wsV RX0 25 RX2 yX2_isHung wsX2_isHung) := goodIn_app (goodIn_of _ (by decide +kernel)) ggX0_deepestSource_X2_isHung
theorem dX0_deepestSource_0 : decode cX0_deepestSource 0 = .ok (.iconst 0, 1) := by decide +kernel
theorem dX0_deepestSource_1 : decode cX0_deepestSource 1 = .ok (.istore_n 3, 1) := by decide +kernel
theorem dX0_deepestSource_2 : decode cX0_deepestSource 2 = .ok (.iconst 0, 1) := by decide +kernel
theorem dX0_deepestSource_3 : decode cX0_deepestSource 3 = .ok (.istore 4, 2) := by decide +kernel
theorem dX0_deepestSource_5 : decode cX0_deepestSource 5 = .ok (.iload 4, 2) := by decide +kernel
theorem dX0_deepestSource_7 : decode cX0_deepestSource 7 = .ok (.iconst 3, 1) := by decide +kernel
theorem dX0_deepestSource_8 : decode cX0_deepestSource 8 = .ok (.if_icmp .ge 52, 3) := by decide +kernel
theorem dX0_deepestSource_11 : decode cX0_deepestSource 11 = .ok (.aload_n 1, 1) := by decide +kernel
theorem dX0_deepestSource_12 : decode cX0_deepestSource 12 = .ok (.iload_n 2, 1) := by decide +kernel
theorem dX0_deepestSource_13 : decode cX0_deepestSource 13 = .ok (.iload 4, 2) := by decide +kernel
theorem dX0_deepestSource_15 : decode cX0_deepestSource 15 = .ok (.invokevirtual 31, 3) := by decide +kernel
theorem dX0_deepestSource_18 : decode cX0_deepestSource 18 = .ok (.istore 5, 2) := by decide +kernel
theorem dX0_deepestSource_20 : decode cX0_deepestSource 20 = .ok (.aload_n 1, 1) := by decide +kernel
theorem dX0_deepestSource_21 : decode cX0_deepestSource 21 = .ok (.iload 5, 2) := by decide +kernel
theorem dX0_deepestSource_23 : decode cX0_deepestSource 23 = .ok (.invokevirtual 25, 3) := by decide +kernel
theorem dX0_deepestSource_26 : decode cX0_deepestSource 26 = .ok (.ifCond .eq 28, 3) := by decide +kernel
theorem dX0_deepestSource_29 : decode cX0_deepestSource 29 = .ok (.aload_n 0, 1) := by decide +kernel
theorem dX0_deepestSource_30 : decode cX0_deepestSource 30 = .ok (.getfield 9, 3) := by decide +kernel
theorem dX0_deepestSource_33 : decode cX0_deepestSource 33 = .ok (.iload 5, 2) := by decide +kernel
theorem dX0_deepestSource_35 : decode cX0_deepestSource 35 = .ok (.iaload, 1) := by decide +kernel
theorem dX0_deepestSource_36 : decode cX0_deepestSource 36 = .ok (.iconst (-1), 1) := by decide +kernel
theorem dX0_deepestSource_37 : decode cX0_deepestSource 37 = .ok (.if_icmp .ne 5, 3) := by decide +kernel
theorem dX0_deepestSource_40 : decode cX0_deepestSource 40 = .ok (.iconst (-1), 1) := by decide +kernel
theorem dX0_deepestSource_41 : decode cX0_deepestSource 41 = .ok (.ireturn, 1) := by decide +kernel
theorem dX0_deepestSource_42 : decode cX0_deepestSource 42 = .ok (.iload_n 3, 1) := by decide +kernel
theorem dX0_deepestSource_43 : decode cX0_deepestSource 43 = .ok (.aload_n 0, 1) := by decide +kernel
theorem dX0_deepestSource_44 : decode cX0_deepestSource 44 = .ok (.getfield 9, 3) := by decide +kernel
theorem dX0_deepestSource_47 : decode cX0_deepestSource 47 = .ok (.iload 5, 2) := by decide +kernel
theorem dX0_deepestSource_49 : decode cX0_deepestSource 49 = .ok (.iaload, 1) := by decide +kernel
theorem dX0_deepestSource_50 : decode cX0_deepestSource 50 = .ok (.invokestatic 35, 3) := by decide +kernel
theorem dX0_deepestSource_53 : decode cX0_deepestSource 53 = .ok (.istore_n 3, 1) := by decide +kernel
theorem dX0_deepestSource_54 : decode cX0_deepestSource 54 = .ok (.iinc 4 1, 3) := by decide +kernel
theorem dX0_deepestSource_57 : decode cX0_deepestSource 57 = .ok (.goto (-52), 3) := by decide +kernel
theorem dX0_deepestSource_60 : decode cX0_deepestSource 60 = .ok (.iload_n 3, 1) := by decide +kernel
theorem dX0_deepestSource_61 : decode cX0_deepestSource 61 = .ok (.ireturn, 1) := by decide +kernel
set_option maxRecDepth 20000 in
theorem ggX0_greatest_J7_fill_53178 : GoodIn wsX0_greatest wsJ7_fill_53178 := goodIn_r _ [9] (by decide +kernel) (by decide +kernel)
set_option maxRecDepth 20000 in
theorem gX0_greatest_J7_fill_53178 : GoodIn wsX0_greatest (va_wsS RX0 15 yJ7_fill_53178 wsJ7_fill_53178) := goodIn_app (goodIn_of _ (by decide +kernel)) ggX0_greatest_J7_fill_53178
set_option maxRecDepth 20000 in
theorem ggX0_greatest_X2_count : GoodIn wsX0_greatest wsX2_count := goodIn_r _ [14, 15, 44, 45, 46, 47, 48, 49, 50, 51, 52, 53] (by decide +kernel) (by decide +kernel)
set_option maxRecDepth 20000 in
theorem gX0_greatest_X2_count : GoodIn wsX0_greatest (wsV RX0 55 RX2 yX2_count wsX2_count) := goodIn_app (goodIn_of _ (by decide +kernel)) ggX0_greatest_X2_count
set_option maxRecDepth 20000 in
theorem ggX0_greatest_X0_below : GoodIn wsX0_greatest wsX0_below := goodIn_r _ [19, 2, 3, 4, 5, 20, 21, 22, 13, 23, 15, 24, 25, 26, 27, 28, 16, 17, 18, 29, 30, 31, 32, 33, 34, 35, 36, 37, 38, 39, 40, 41, 42, 44, 45, 46, 47, 48, 49, 50, 51, 52, 53] (by decide +kernel) (by decide +kernel)
set_option maxRecDepth 20000 in
theorem gX0_greatest_X0_below : GoodIn wsX0_greatest (va_wsS RX0 21 yX0_below wsX0_below) := goodIn_app (goodIn_of _ (by decide +kernel)) ggX0_greatest_X0_below
theorem dX0_greatest_0 : decode cX0_greatest 0 = .ok (.aload_n 0, 1) := by decide +kernel
theorem dX0_greatest_1 : decode cX0_greatest 1 = .ok (.getfield 9, 3) := by decide +kernel
theorem dX0_greatest_4 : decode cX0_greatest 4 = .ok (.iconst (-1), 1) := by decide +kernel
theorem dX0_greatest_5 : decode cX0_greatest 5 = .ok (.invokestatic 15, 3) := by decide +kernel
theorem dX0_greatest_8 : decode cX0_greatest 8 = .ok (.iconst 0, 1) := by decide +kernel
theorem dX0_greatest_9 : decode cX0_greatest 9 = .ok (.istore_n 2, 1) := by decide +kernel
theorem dX0_greatest_10 : decode cX0_greatest 10 = .ok (.iconst 0, 1) := by decide +kernel
theorem dX0_greatest_11 : decode cX0_greatest 11 = .ok (.istore_n 3, 1) := by decide +kernel
theorem dX0_greatest_12 : decode cX0_greatest 12 = .ok (.iload_n 3, 1) := by decide +kernel
theorem dX0_greatest_13 : decode cX0_greatest 13 = .ok (.aload_n 1, 1) := by decide +kernel
theorem dX0_greatest_14 : decode cX0_greatest 14 = .ok (.invokevirtual 55, 3) := by decide +kernel
theorem dX0_greatest_17 : decode cX0_greatest 17 = .ok (.if_icmp .ge 24, 3) := by decide +kernel
theorem dX0_greatest_20 : decode cX0_greatest 20 = .ok (.iload_n 2, 1) := by decide +kernel
theorem dX0_greatest_21 : decode cX0_greatest 21 = .ok (.aload_n 1, 1) := by decide +kernel
theorem dX0_greatest_22 : decode cX0_greatest 22 = .ok (.iload_n 3, 1) := by decide +kernel
theorem dX0_greatest_23 : decode cX0_greatest 23 = .ok (.aload_n 0, 1) := by decide +kernel
theorem dX0_greatest_24 : decode cX0_greatest 24 = .ok (.getfield 9, 3) := by decide +kernel
theorem dX0_greatest_27 : decode cX0_greatest 27 = .ok (.iconst 0, 1) := by decide +kernel
theorem dX0_greatest_28 : decode cX0_greatest 28 = .ok (.invokestatic 21, 3) := by decide +kernel
theorem dX0_greatest_31 : decode cX0_greatest 31 = .ok (.invokestatic 35, 3) := by decide +kernel
theorem dX0_greatest_34 : decode cX0_greatest 34 = .ok (.istore_n 2, 1) := by decide +kernel
theorem dX0_greatest_35 : decode cX0_greatest 35 = .ok (.iinc 3 1, 3) := by decide +kernel
theorem dX0_greatest_38 : decode cX0_greatest 38 = .ok (.goto (-26), 3) := by decide +kernel
theorem dX0_greatest_41 : decode cX0_greatest 41 = .ok (.iload_n 2, 1) := by decide +kernel
theorem dX0_greatest_42 : decode cX0_greatest 42 = .ok (.ireturn, 1) := by decide +kernel
theorem dX1_init_0 : decode cX1_init 0 = .ok (.aload_n 0, 1) := by decide +kernel
theorem dX1_init_1 : decode cX1_init 1 = .ok (.invokespecial 3, 3) := by decide +kernel
theorem dX1_init_4 : decode cX1_init 4 = .ok (.aload_n 0, 1) := by decide +kernel
theorem dX1_init_5 : decode cX1_init 5 = .ok (.sipush 257, 3) := by decide +kernel
theorem dX1_init_8 : decode cX1_init 8 = .ok (.newarray .long, 2) := by decide +kernel
theorem dX1_init_10 : decode cX1_init 10 = .ok (.putfield 9, 3) := by decide +kernel
theorem dX1_init_13 : decode cX1_init 13 = .ok (.return_, 1) := by decide +kernel
set_option maxRecDepth 20000 in
theorem ggX1_ticksToSettle_X2_state : GoodIn wsX1_ticksToSettle wsX2_state := goodIn_r _ [5, 6, 27, 28, 29, 30, 31, 32, 33, 34, 35, 36] (by decide +kernel) (by decide +kernel)
set_option maxRecDepth 20000 in
theorem gX1_ticksToSettle_X2_state : GoodIn wsX1_ticksToSettle (wsV RX1 15 RX2 yX2_state wsX2_state) := goodIn_app (goodIn_of _ (by decide +kernel)) ggX1_ticksToSettle_X2_state
set_option maxRecDepth 20000 in
theorem ggX1_ticksToSettle_X2_behindTick : GoodIn wsX1_ticksToSettle wsX2_behindTick := goodIn_r _ [10, 11, 12, 13, 14, 15, 4, 16, 17, 18, 19, 20, 21, 22, 23, 24, 25, 26, 27, 28, 29, 30, 31, 32, 33, 34, 35, 36] (by decide +kernel) (by decide +kernel)
set_option maxRecDepth 20000 in
theorem gX1_ticksToSettle_X2_behindTick : GoodIn wsX1_ticksToSettle (wsV RX1 21 RX2 yX2_behindTick wsX2_behindTick) := goodIn_app (goodIn_of _ (by decide +kernel)) ggX1_ticksToSettle_X2_behindTick
theorem dX1_ticksToSettle_0 : decode cX1_ticksToSettle 0 = .ok (.aload_n 1, 1) := by decide +kernel
theorem dX1_ticksToSettle_1 : decode cX1_ticksToSettle 1 = .ok (.invokevirtual 15, 3) := by decide +kernel
theorem dX1_ticksToSettle_4 : decode cX1_ticksToSettle 4 = .ok (.lstore_n 2, 1) := by decide +kernel
theorem dX1_ticksToSettle_5 : decode cX1_ticksToSettle 5 = .ok (.iconst 0, 1) := by decide +kernel
theorem dX1_ticksToSettle_6 : decode cX1_ticksToSettle 6 = .ok (.istore 4, 2) := by decide +kernel
theorem dX1_ticksToSettle_8 : decode cX1_ticksToSettle 8 = .ok (.iload 4, 2) := by decide +kernel
theorem dX1_ticksToSettle_10 : decode cX1_ticksToSettle 10 = .ok (.sipush 256, 3) := by decide +kernel
theorem dX1_ticksToSettle_13 : decode cX1_ticksToSettle 13 = .ok (.if_icmp .gt 29, 3) := by decide +kernel
theorem dX1_ticksToSettle_16 : decode cX1_ticksToSettle 16 = .ok (.aload_n 1, 1) := by decide +kernel
theorem dX1_ticksToSettle_17 : decode cX1_ticksToSettle 17 = .ok (.lload_n 2, 1) := by decide +kernel
theorem dX1_ticksToSettle_18 : decode cX1_ticksToSettle 18 = .ok (.invokevirtual 21, 3) := by decide +kernel
theorem dX1_ticksToSettle_21 : decode cX1_ticksToSettle 21 = .ok (.lstore 5, 2) := by decide +kernel
theorem dX1_ticksToSettle_23 : decode cX1_ticksToSettle 23 = .ok (.lload 5, 2) := by decide +kernel
theorem dX1_ticksToSettle_25 : decode cX1_ticksToSettle 25 = .ok (.lload_n 2, 1) := by decide +kernel
theorem dX1_ticksToSettle_26 : decode cX1_ticksToSettle 26 = .ok (.lcmp, 1) := by decide +kernel
theorem dX1_ticksToSettle_27 : decode cX1_ticksToSettle 27 = .ok (.ifCond .ne 6, 3) := by decide +kernel
theorem dX1_ticksToSettle_30 : decode cX1_ticksToSettle 30 = .ok (.iload 4, 2) := by decide +kernel
theorem dX1_ticksToSettle_32 : decode cX1_ticksToSettle 32 = .ok (.ireturn, 1) := by decide +kernel
theorem dX1_ticksToSettle_33 : decode cX1_ticksToSettle 33 = .ok (.lload 5, 2) := by decide +kernel
theorem dX1_ticksToSettle_35 : decode cX1_ticksToSettle 35 = .ok (.lstore_n 2, 1) := by decide +kernel
theorem dX1_ticksToSettle_36 : decode cX1_ticksToSettle 36 = .ok (.iinc 4 1, 3) := by decide +kernel
theorem dX1_ticksToSettle_39 : decode cX1_ticksToSettle 39 = .ok (.goto (-31), 3) := by decide +kernel
theorem dX1_ticksToSettle_42 : decode cX1_ticksToSettle 42 = .ok (.bipush (-15), 2) := by decide +kernel
theorem dX1_ticksToSettle_44 : decode cX1_ticksToSettle 44 = .ok (.ireturn, 1) := by decide +kernel
set_option maxRecDepth 20000 in
theorem ggX1_periodByKeeping_X2_state : GoodIn wsX1_periodByKeeping wsX2_state := goodIn_r _ [6, 7, 29, 30, 31, 32, 33, 34, 35, 36, 37, 38] (by decide +kernel) (by decide +kernel)
set_option maxRecDepth 20000 in
theorem gX1_periodByKeeping_X2_state : GoodIn wsX1_periodByKeeping (wsV RX1 15 RX2 yX2_state wsX2_state) := goodIn_app (goodIn_of _ (by decide +kernel)) ggX1_periodByKeeping_X2_state
set_option maxRecDepth 20000 in
theorem ggX1_periodByKeeping_X2_behindTick : GoodIn wsX1_periodByKeeping wsX2_behindTick := goodIn_r _ [11, 12, 13, 14, 15, 16, 5, 17, 18, 19, 20, 21, 22, 23, 24, 25, 26, 27, 29, 30, 31, 32, 33, 34, 35, 36, 37, 38] (by decide +kernel) (by decide +kernel)
set_option maxRecDepth 20000 in
theorem gX1_periodByKeeping_X2_behindTick : GoodIn wsX1_periodByKeeping (wsV RX1 21 RX2 yX2_behindTick wsX2_behindTick) := goodIn_app (goodIn_of _ (by decide +kernel)) ggX1_periodByKeeping_X2_behindTick
theorem dX1_periodByKeeping_0 : decode cX1_periodByKeeping 0 = .ok (.aload_n 0, 1) := by decide +kernel
theorem dX1_periodByKeeping_1 : decode cX1_periodByKeeping 1 = .ok (.getfield 9, 3) := by decide +kernel
theorem dX1_periodByKeeping_4 : decode cX1_periodByKeeping 4 = .ok (.iconst 0, 1) := by decide +kernel
theorem dX1_periodByKeeping_5 : decode cX1_periodByKeeping 5 = .ok (.aload_n 1, 1) := by decide +kernel
theorem dX1_periodByKeeping_6 : decode cX1_periodByKeeping 6 = .ok (.invokevirtual 15, 3) := by decide +kernel
theorem dX1_periodByKeeping_9 : decode cX1_periodByKeeping 9 = .ok (.lastore, 1) := by decide +kernel
theorem dX1_periodByKeeping_10 : decode cX1_periodByKeeping 10 = .ok (.iconst 1, 1) := by decide +kernel
theorem dX1_periodByKeeping_11 : decode cX1_periodByKeeping 11 = .ok (.istore_n 2, 1) := by decide +kernel
theorem dX1_periodByKeeping_12 : decode cX1_periodByKeeping 12 = .ok (.iload_n 2, 1) := by decide +kernel
theorem dX1_periodByKeeping_13 : decode cX1_periodByKeeping 13 = .ok (.sipush 256, 3) := by decide +kernel
theorem dX1_periodByKeeping_16 : decode cX1_periodByKeeping 16 = .ok (.if_icmp .gt 61, 3) := by decide +kernel
theorem dX1_periodByKeeping_19 : decode cX1_periodByKeeping 19 = .ok (.aload_n 0, 1) := by decide +kernel
theorem dX1_periodByKeeping_20 : decode cX1_periodByKeeping 20 = .ok (.getfield 9, 3) := by decide +kernel
theorem dX1_periodByKeeping_23 : decode cX1_periodByKeeping 23 = .ok (.iload_n 2, 1) := by decide +kernel
theorem dX1_periodByKeeping_24 : decode cX1_periodByKeeping 24 = .ok (.aload_n 1, 1) := by decide +kernel
theorem dX1_periodByKeeping_25 : decode cX1_periodByKeeping 25 = .ok (.aload_n 0, 1) := by decide +kernel
theorem dX1_periodByKeeping_26 : decode cX1_periodByKeeping 26 = .ok (.getfield 9, 3) := by decide +kernel
theorem dX1_periodByKeeping_29 : decode cX1_periodByKeeping 29 = .ok (.iload_n 2, 1) := by decide +kernel
theorem dX1_periodByKeeping_30 : decode cX1_periodByKeeping 30 = .ok (.iconst 1, 1) := by decide +kernel
theorem dX1_periodByKeeping_31 : decode cX1_periodByKeeping 31 = .ok (.isub, 1) := by decide +kernel
theorem dX1_periodByKeeping_32 : decode cX1_periodByKeeping 32 = .ok (.laload, 1) := by decide +kernel
theorem dX1_periodByKeeping_33 : decode cX1_periodByKeeping 33 = .ok (.invokevirtual 21, 3) := by decide +kernel
theorem dX1_periodByKeeping_36 : decode cX1_periodByKeeping 36 = .ok (.lastore, 1) := by decide +kernel
theorem dX1_periodByKeeping_37 : decode cX1_periodByKeeping 37 = .ok (.iload_n 2, 1) := by decide +kernel
theorem dX1_periodByKeeping_38 : decode cX1_periodByKeeping 38 = .ok (.iconst 1, 1) := by decide +kernel
theorem dX1_periodByKeeping_39 : decode cX1_periodByKeeping 39 = .ok (.isub, 1) := by decide +kernel
theorem dX1_periodByKeeping_40 : decode cX1_periodByKeeping 40 = .ok (.istore_n 3, 1) := by decide +kernel
theorem dX1_periodByKeeping_41 : decode cX1_periodByKeeping 41 = .ok (.iload_n 3, 1) := by decide +kernel
theorem dX1_periodByKeeping_42 : decode cX1_periodByKeeping 42 = .ok (.ifCond .lt 29, 3) := by decide +kernel
theorem dX1_periodByKeeping_45 : decode cX1_periodByKeeping 45 = .ok (.aload_n 0, 1) := by decide +kernel
theorem dX1_periodByKeeping_46 : decode cX1_periodByKeeping 46 = .ok (.getfield 9, 3) := by decide +kernel
theorem dX1_periodByKeeping_49 : decode cX1_periodByKeeping 49 = .ok (.iload_n 3, 1) := by decide +kernel
theorem dX1_periodByKeeping_50 : decode cX1_periodByKeeping 50 = .ok (.laload, 1) := by decide +kernel
theorem dX1_periodByKeeping_51 : decode cX1_periodByKeeping 51 = .ok (.aload_n 0, 1) := by decide +kernel
theorem dX1_periodByKeeping_52 : decode cX1_periodByKeeping 52 = .ok (.getfield 9, 3) := by decide +kernel
theorem dX1_periodByKeeping_55 : decode cX1_periodByKeeping 55 = .ok (.iload_n 2, 1) := by decide +kernel
theorem dX1_periodByKeeping_56 : decode cX1_periodByKeeping 56 = .ok (.laload, 1) := by decide +kernel
theorem dX1_periodByKeeping_57 : decode cX1_periodByKeeping 57 = .ok (.lcmp, 1) := by decide +kernel
theorem dX1_periodByKeeping_58 : decode cX1_periodByKeeping 58 = .ok (.ifCond .ne 7, 3) := by decide +kernel
theorem dX1_periodByKeeping_61 : decode cX1_periodByKeeping 61 = .ok (.iload_n 2, 1) := by decide +kernel
theorem dX1_periodByKeeping_62 : decode cX1_periodByKeeping 62 = .ok (.iload_n 3, 1) := by decide +kernel
theorem dX1_periodByKeeping_63 : decode cX1_periodByKeeping 63 = .ok (.isub, 1) := by decide +kernel
theorem dX1_periodByKeeping_64 : decode cX1_periodByKeeping 64 = .ok (.ireturn, 1) := by decide +kernel
theorem dX1_periodByKeeping_65 : decode cX1_periodByKeeping 65 = .ok (.iinc 3 (-1), 3) := by decide +kernel
theorem dX1_periodByKeeping_68 : decode cX1_periodByKeeping 68 = .ok (.goto (-27), 3) := by decide +kernel
theorem dX1_periodByKeeping_71 : decode cX1_periodByKeeping 71 = .ok (.iinc 2 1, 3) := by decide +kernel
theorem dX1_periodByKeeping_74 : decode cX1_periodByKeeping 74 = .ok (.goto (-62), 3) := by decide +kernel
theorem dX1_periodByKeeping_77 : decode cX1_periodByKeeping 77 = .ok (.bipush (-15), 2) := by decide +kernel
theorem dX1_periodByKeeping_79 : decode cX1_periodByKeeping 79 = .ok (.ireturn, 1) := by decide +kernel
set_option maxRecDepth 20000 in
theorem ggX1_periodByGoingOn_X2_state : GoodIn wsX1_periodByGoingOn wsX2_state := goodIn_r _ [5, 6, 31, 32, 33, 34, 35, 36, 37, 38, 39, 40] (by decide +kernel) (by decide +kernel)
set_option maxRecDepth 20000 in
theorem gX1_periodByGoingOn_X2_state : GoodIn wsX1_periodByGoingOn (wsV RX1 15 RX2 yX2_state wsX2_state) := goodIn_app (goodIn_of _ (by decide +kernel)) ggX1_periodByGoingOn_X2_state
set_option maxRecDepth 20000 in
theorem ggX1_periodByGoingOn_X2_behindTick : GoodIn wsX1_periodByGoingOn wsX2_behindTick := goodIn_r _ [10, 11, 12, 13, 14, 15, 4, 16, 17, 18, 19, 20, 21, 22, 23, 24, 25, 26, 31, 32, 33, 34, 35, 36, 37, 38, 39, 40] (by decide +kernel) (by decide +kernel)
set_option maxRecDepth 20000 in
theorem gX1_periodByGoingOn_X2_behindTick : GoodIn wsX1_periodByGoingOn (wsV RX1 21 RX2 yX2_behindTick wsX2_behindTick) := goodIn_app (goodIn_of _ (by decide +kernel)) ggX1_periodByGoingOn_X2_behindTick
set_option maxRecDepth 20000 in
theorem ggX1_periodByGoingOn_X1_isSeenInTime : GoodIn wsX1_periodByGoingOn wsX1_isSeenInTime := goodIn_r _ [30, 1, 2, 3, 4, 5, 6, 7, 8, 9, 10, 11, 12, 13, 14, 15, 16, 17, 18, 19, 20, 21, 22, 23, 24, 25, 26, 31, 32, 33, 34, 35, 36, 37, 38, 39, 40] (by decide +kernel) (by decide +kernel)
set_option maxRecDepth 20000 in
theorem gX1_periodByGoingOn_X1_isSeenInTime : GoodIn wsX1_periodByGoingOn (va_wsS RX1 25 yX1_isSeenInTime wsX1_isSeenInTime) := goodIn_app (goodIn_of _ (by decide +kernel)) ggX1_periodByGoingOn_X1_isSeenInTime
theorem dX1_periodByGoingOn_0 : decode cX1_periodByGoingOn 0 = .ok (.aload_n 1, 1) := by decide +kernel
theorem dX1_periodByGoingOn_1 : decode cX1_periodByGoingOn 1 = .ok (.invokevirtual 15, 3) := by decide +kernel
theorem dX1_periodByGoingOn_4 : decode cX1_periodByGoingOn 4 = .ok (.lstore_n 2, 1) := by decide +kernel
theorem dX1_periodByGoingOn_5 : decode cX1_periodByGoingOn 5 = .ok (.lload_n 2, 1) := by decide +kernel
theorem dX1_periodByGoingOn_6 : decode cX1_periodByGoingOn 6 = .ok (.lstore 4, 2) := by decide +kernel
theorem dX1_periodByGoingOn_8 : decode cX1_periodByGoingOn 8 = .ok (.iconst 0, 1) := by decide +kernel
theorem dX1_periodByGoingOn_9 : decode cX1_periodByGoingOn 9 = .ok (.istore 6, 2) := by decide +kernel
theorem dX1_periodByGoingOn_11 : decode cX1_periodByGoingOn 11 = .ok (.iconst 1, 1) := by decide +kernel
theorem dX1_periodByGoingOn_12 : decode cX1_periodByGoingOn 12 = .ok (.istore 7, 2) := by decide +kernel
theorem dX1_periodByGoingOn_14 : decode cX1_periodByGoingOn 14 = .ok (.iconst 0, 1) := by decide +kernel
theorem dX1_periodByGoingOn_15 : decode cX1_periodByGoingOn 15 = .ok (.istore 8, 2) := by decide +kernel
theorem dX1_periodByGoingOn_17 : decode cX1_periodByGoingOn 17 = .ok (.iload 8, 2) := by decide +kernel
theorem dX1_periodByGoingOn_19 : decode cX1_periodByGoingOn 19 = .ok (.sipush 512, 3) := by decide +kernel
theorem dX1_periodByGoingOn_22 : decode cX1_periodByGoingOn 22 = .ok (.if_icmp .ge 63, 3) := by decide +kernel
theorem dX1_periodByGoingOn_25 : decode cX1_periodByGoingOn 25 = .ok (.aload_n 1, 1) := by decide +kernel
theorem dX1_periodByGoingOn_26 : decode cX1_periodByGoingOn 26 = .ok (.lload 4, 2) := by decide +kernel
theorem dX1_periodByGoingOn_28 : decode cX1_periodByGoingOn 28 = .ok (.invokevirtual 21, 3) := by decide +kernel
theorem dX1_periodByGoingOn_31 : decode cX1_periodByGoingOn 31 = .ok (.lstore 4, 2) := by decide +kernel
theorem dX1_periodByGoingOn_33 : decode cX1_periodByGoingOn 33 = .ok (.iinc 6 1, 3) := by decide +kernel
theorem dX1_periodByGoingOn_36 : decode cX1_periodByGoingOn 36 = .ok (.lload 4, 2) := by decide +kernel
theorem dX1_periodByGoingOn_38 : decode cX1_periodByGoingOn 38 = .ok (.lload_n 2, 1) := by decide +kernel
theorem dX1_periodByGoingOn_39 : decode cX1_periodByGoingOn 39 = .ok (.lcmp, 1) := by decide +kernel
theorem dX1_periodByGoingOn_40 : decode cX1_periodByGoingOn 40 = .ok (.ifCond .ne 20, 3) := by decide +kernel
theorem dX1_periodByGoingOn_43 : decode cX1_periodByGoingOn 43 = .ok (.aload_n 1, 1) := by decide +kernel
theorem dX1_periodByGoingOn_44 : decode cX1_periodByGoingOn 44 = .ok (.iload 6, 2) := by decide +kernel
theorem dX1_periodByGoingOn_46 : decode cX1_periodByGoingOn 46 = .ok (.invokestatic 25, 3) := by decide +kernel
theorem dX1_periodByGoingOn_49 : decode cX1_periodByGoingOn 49 = .ok (.ifCond .eq 8, 3) := by decide +kernel
theorem dX1_periodByGoingOn_52 : decode cX1_periodByGoingOn 52 = .ok (.iload 6, 2) := by decide +kernel
theorem dX1_periodByGoingOn_54 : decode cX1_periodByGoingOn 54 = .ok (.goto 5, 3) := by decide +kernel
theorem dX1_periodByGoingOn_57 : decode cX1_periodByGoingOn 57 = .ok (.bipush (-15), 2) := by decide +kernel
theorem dX1_periodByGoingOn_59 : decode cX1_periodByGoingOn 59 = .ok (.ireturn, 1) := by decide +kernel
theorem dX1_periodByGoingOn_60 : decode cX1_periodByGoingOn 60 = .ok (.iload 6, 2) := by decide +kernel
theorem dX1_periodByGoingOn_62 : decode cX1_periodByGoingOn 62 = .ok (.iload 7, 2) := by decide +kernel
theorem dX1_periodByGoingOn_64 : decode cX1_periodByGoingOn 64 = .ok (.if_icmp .ne 15, 3) := by decide +kernel
theorem dX1_periodByGoingOn_67 : decode cX1_periodByGoingOn 67 = .ok (.lload 4, 2) := by decide +kernel
theorem dX1_periodByGoingOn_69 : decode cX1_periodByGoingOn 69 = .ok (.lstore_n 2, 1) := by decide +kernel
theorem dX1_periodByGoingOn_70 : decode cX1_periodByGoingOn 70 = .ok (.iconst 0, 1) := by decide +kernel
theorem dX1_periodByGoingOn_71 : decode cX1_periodByGoingOn 71 = .ok (.istore 6, 2) := by decide +kernel
theorem dX1_periodByGoingOn_73 : decode cX1_periodByGoingOn 73 = .ok (.iload 7, 2) := by decide +kernel
theorem dX1_periodByGoingOn_75 : decode cX1_periodByGoingOn 75 = .ok (.iconst 2, 1) := by decide +kernel
theorem dX1_periodByGoingOn_76 : decode cX1_periodByGoingOn 76 = .ok (.imul, 1) := by decide +kernel
theorem dX1_periodByGoingOn_77 : decode cX1_periodByGoingOn 77 = .ok (.istore 7, 2) := by decide +kernel
theorem dX1_periodByGoingOn_79 : decode cX1_periodByGoingOn 79 = .ok (.iinc 8 1, 3) := by decide +kernel
theorem dX1_periodByGoingOn_82 : decode cX1_periodByGoingOn 82 = .ok (.goto (-65), 3) := by decide +kernel
theorem dX1_periodByGoingOn_85 : decode cX1_periodByGoingOn 85 = .ok (.bipush (-15), 2) := by decide +kernel
theorem dX1_periodByGoingOn_87 : decode cX1_periodByGoingOn 87 = .ok (.ireturn, 1) := by decide +kernel
set_option maxRecDepth 20000 in
theorem ggX1_isSeenInTime_X2_state : GoodIn wsX1_isSeenInTime wsX2_state := goodIn_r _ [5, 6, 27, 28, 29, 30, 31, 32, 33, 34, 35, 36] (by decide +kernel) (by decide +kernel)
set_option maxRecDepth 20000 in
theorem gX1_isSeenInTime_X2_state : GoodIn wsX1_isSeenInTime (wsV RX1 15 RX2 yX2_state wsX2_state) := goodIn_app (goodIn_of _ (by decide +kernel)) ggX1_isSeenInTime_X2_state
set_option maxRecDepth 20000 in
theorem ggX1_isSeenInTime_X2_behindTick : GoodIn wsX1_isSeenInTime wsX2_behindTick := goodIn_r _ [10, 11, 12, 13, 14, 15, 4, 16, 17, 18, 19, 20, 21, 22, 23, 24, 25, 26, 27, 28, 29, 30, 31, 32, 33, 34, 35, 36] (by decide +kernel) (by decide +kernel)
set_option maxRecDepth 20000 in
theorem gX1_isSeenInTime_X2_behindTick : GoodIn wsX1_isSeenInTime (wsV RX1 21 RX2 yX2_behindTick wsX2_behindTick) := goodIn_app (goodIn_of _ (by decide +kernel)) ggX1_isSeenInTime_X2_behindTick
theorem dX1_isSeenInTime_0 : decode cX1_isSeenInTime 0 = .ok (.aload_n 0, 1) := by decide +kernel
theorem dX1_isSeenInTime_1 : decode cX1_isSeenInTime 1 = .ok (.invokevirtual 15, 3) := by decide +kernel
theorem dX1_isSeenInTime_4 : decode cX1_isSeenInTime 4 = .ok (.lstore_n 2, 1) := by decide +kernel
theorem dX1_isSeenInTime_5 : decode cX1_isSeenInTime 5 = .ok (.lload_n 2, 1) := by decide +kernel
theorem dX1_isSeenInTime_6 : decode cX1_isSeenInTime 6 = .ok (.lstore 4, 2) := by decide +kernel
theorem dX1_isSeenInTime_8 : decode cX1_isSeenInTime 8 = .ok (.iconst 1, 1) := by decide +kernel
theorem dX1_isSeenInTime_9 : decode cX1_isSeenInTime 9 = .ok (.istore 6, 2) := by decide +kernel
theorem dX1_isSeenInTime_11 : decode cX1_isSeenInTime 11 = .ok (.iload 6, 2) := by decide +kernel
theorem dX1_isSeenInTime_13 : decode cX1_isSeenInTime 13 = .ok (.sipush 256, 3) := by decide +kernel
theorem dX1_isSeenInTime_16 : decode cX1_isSeenInTime 16 = .ok (.if_icmp .gt 44, 3) := by decide +kernel
theorem dX1_isSeenInTime_19 : decode cX1_isSeenInTime 19 = .ok (.aload_n 0, 1) := by decide +kernel
theorem dX1_isSeenInTime_20 : decode cX1_isSeenInTime 20 = .ok (.lload 4, 2) := by decide +kernel
theorem dX1_isSeenInTime_22 : decode cX1_isSeenInTime 22 = .ok (.invokevirtual 21, 3) := by decide +kernel
theorem dX1_isSeenInTime_25 : decode cX1_isSeenInTime 25 = .ok (.lstore 4, 2) := by decide +kernel
theorem dX1_isSeenInTime_27 : decode cX1_isSeenInTime 27 = .ok (.iload 6, 2) := by decide +kernel
theorem dX1_isSeenInTime_29 : decode cX1_isSeenInTime 29 = .ok (.iload_n 1, 1) := by decide +kernel
theorem dX1_isSeenInTime_30 : decode cX1_isSeenInTime 30 = .ok (.if_icmp .le 9, 3) := by decide +kernel
theorem dX1_isSeenInTime_33 : decode cX1_isSeenInTime 33 = .ok (.aload_n 0, 1) := by decide +kernel
theorem dX1_isSeenInTime_34 : decode cX1_isSeenInTime 34 = .ok (.lload_n 2, 1) := by decide +kernel
theorem dX1_isSeenInTime_35 : decode cX1_isSeenInTime 35 = .ok (.invokevirtual 21, 3) := by decide +kernel
theorem dX1_isSeenInTime_38 : decode cX1_isSeenInTime 38 = .ok (.lstore_n 2, 1) := by decide +kernel
theorem dX1_isSeenInTime_39 : decode cX1_isSeenInTime 39 = .ok (.iload 6, 2) := by decide +kernel
theorem dX1_isSeenInTime_41 : decode cX1_isSeenInTime 41 = .ok (.iload_n 1, 1) := by decide +kernel
theorem dX1_isSeenInTime_42 : decode cX1_isSeenInTime 42 = .ok (.if_icmp .lt 12, 3) := by decide +kernel
theorem dX1_isSeenInTime_45 : decode cX1_isSeenInTime 45 = .ok (.lload 4, 2) := by decide +kernel
theorem dX1_isSeenInTime_47 : decode cX1_isSeenInTime 47 = .ok (.lload_n 2, 1) := by decide +kernel
theorem dX1_isSeenInTime_48 : decode cX1_isSeenInTime 48 = .ok (.lcmp, 1) := by decide +kernel
theorem dX1_isSeenInTime_49 : decode cX1_isSeenInTime 49 = .ok (.ifCond .ne 5, 3) := by decide +kernel
theorem dX1_isSeenInTime_52 : decode cX1_isSeenInTime 52 = .ok (.iconst 1, 1) := by decide +kernel
theorem dX1_isSeenInTime_53 : decode cX1_isSeenInTime 53 = .ok (.ireturn, 1) := by decide +kernel
theorem dX1_isSeenInTime_54 : decode cX1_isSeenInTime 54 = .ok (.iinc 6 1, 3) := by decide +kernel
theorem dX1_isSeenInTime_57 : decode cX1_isSeenInTime 57 = .ok (.goto (-46), 3) := by decide +kernel
theorem dX1_isSeenInTime_60 : decode cX1_isSeenInTime 60 = .ok (.iconst 0, 1) := by decide +kernel
theorem dX1_isSeenInTime_61 : decode cX1_isSeenInTime 61 = .ok (.ireturn, 1) := by decide +kernel
set_option maxRecDepth 20000 in
theorem ggX1_flickersOf_X2_state : GoodIn wsX1_flickersOf wsX2_state := goodIn_r _ [5, 6, 27, 28, 29, 30, 31, 32, 33, 34, 35, 36] (by decide +kernel) (by decide +kernel)
set_option maxRecDepth 20000 in
theorem gX1_flickersOf_X2_state : GoodIn wsX1_flickersOf (wsV RX1 15 RX2 yX2_state wsX2_state) := goodIn_app (goodIn_of _ (by decide +kernel)) ggX1_flickersOf_X2_state
set_option maxRecDepth 20000 in
theorem ggX1_flickersOf_X2_behindTick : GoodIn wsX1_flickersOf wsX2_behindTick := goodIn_r _ [10, 11, 12, 13, 14, 15, 4, 16, 17, 18, 19, 20, 21, 22, 23, 24, 25, 26, 27, 28, 29, 30, 31, 32, 33, 34, 35, 36] (by decide +kernel) (by decide +kernel)
set_option maxRecDepth 20000 in
theorem gX1_flickersOf_X2_behindTick : GoodIn wsX1_flickersOf (wsV RX1 21 RX2 yX2_behindTick wsX2_behindTick) := goodIn_app (goodIn_of _ (by decide +kernel)) ggX1_flickersOf_X2_behindTick
theorem dX1_flickersOf_0 : decode cX1_flickersOf 0 = .ok (.aload_n 1, 1) := by decide +kernel
theorem dX1_flickersOf_1 : decode cX1_flickersOf 1 = .ok (.invokevirtual 15, 3) := by decide +kernel
theorem dX1_flickersOf_4 : decode cX1_flickersOf 4 = .ok (.lstore 4, 2) := by decide +kernel
theorem dX1_flickersOf_6 : decode cX1_flickersOf 6 = .ok (.aload_n 1, 1) := by decide +kernel
theorem dX1_flickersOf_7 : decode cX1_flickersOf 7 = .ok (.lload 4, 2) := by decide +kernel
theorem dX1_flickersOf_9 : decode cX1_flickersOf 9 = .ok (.invokevirtual 21, 3) := by decide +kernel
theorem dX1_flickersOf_12 : decode cX1_flickersOf 12 = .ok (.lload 4, 2) := by decide +kernel
theorem dX1_flickersOf_14 : decode cX1_flickersOf 14 = .ok (.lcmp, 1) := by decide +kernel
theorem dX1_flickersOf_15 : decode cX1_flickersOf 15 = .ok (.ifCond .eq 6, 3) := by decide +kernel
theorem dX1_flickersOf_18 : decode cX1_flickersOf 18 = .ok (.bipush (-15), 2) := by decide +kernel
theorem dX1_flickersOf_20 : decode cX1_flickersOf 20 = .ok (.ireturn, 1) := by decide +kernel
theorem dX1_flickersOf_21 : decode cX1_flickersOf 21 = .ok (.lload 4, 2) := by decide +kernel
theorem dX1_flickersOf_23 : decode cX1_flickersOf 23 = .ok (.lconst 1, 1) := by decide +kernel
theorem dX1_flickersOf_24 : decode cX1_flickersOf 24 = .ok (.iload_n 3, 1) := by decide +kernel
theorem dX1_flickersOf_25 : decode cX1_flickersOf 25 = .ok (.lshl, 1) := by decide +kernel
theorem dX1_flickersOf_26 : decode cX1_flickersOf 26 = .ok (.lxor, 1) := by decide +kernel
theorem dX1_flickersOf_27 : decode cX1_flickersOf 27 = .ok (.lstore 6, 2) := by decide +kernel
theorem dX1_flickersOf_29 : decode cX1_flickersOf 29 = .ok (.iconst 0, 1) := by decide +kernel
theorem dX1_flickersOf_30 : decode cX1_flickersOf 30 = .ok (.istore 8, 2) := by decide +kernel
theorem dX1_flickersOf_32 : decode cX1_flickersOf 32 = .ok (.iconst 0, 1) := by decide +kernel
theorem dX1_flickersOf_33 : decode cX1_flickersOf 33 = .ok (.istore 9, 2) := by decide +kernel
theorem dX1_flickersOf_35 : decode cX1_flickersOf 35 = .ok (.iload 9, 2) := by decide +kernel
theorem dX1_flickersOf_37 : decode cX1_flickersOf 37 = .ok (.sipush 256, 3) := by decide +kernel
theorem dX1_flickersOf_40 : decode cX1_flickersOf 40 = .ok (.if_icmp .gt 58, 3) := by decide +kernel
theorem dX1_flickersOf_43 : decode cX1_flickersOf 43 = .ok (.aload_n 1, 1) := by decide +kernel
theorem dX1_flickersOf_44 : decode cX1_flickersOf 44 = .ok (.lload 6, 2) := by decide +kernel
theorem dX1_flickersOf_46 : decode cX1_flickersOf 46 = .ok (.invokevirtual 21, 3) := by decide +kernel
theorem dX1_flickersOf_49 : decode cX1_flickersOf 49 = .ok (.lstore 10, 2) := by decide +kernel
theorem dX1_flickersOf_51 : decode cX1_flickersOf 51 = .ok (.lload 10, 2) := by decide +kernel
theorem dX1_flickersOf_53 : decode cX1_flickersOf 53 = .ok (.lload 6, 2) := by decide +kernel
theorem dX1_flickersOf_55 : decode cX1_flickersOf 55 = .ok (.lcmp, 1) := by decide +kernel
theorem dX1_flickersOf_56 : decode cX1_flickersOf 56 = .ok (.ifCond .ne 17, 3) := by decide +kernel
theorem dX1_flickersOf_59 : decode cX1_flickersOf 59 = .ok (.iload 8, 2) := by decide +kernel
theorem dX1_flickersOf_61 : decode cX1_flickersOf 61 = .ok (.lload 4, 2) := by decide +kernel
theorem dX1_flickersOf_63 : decode cX1_flickersOf 63 = .ok (.lload 6, 2) := by decide +kernel
theorem dX1_flickersOf_65 : decode cX1_flickersOf 65 = .ok (.lxor, 1) := by decide +kernel
theorem dX1_flickersOf_66 : decode cX1_flickersOf 66 = .ok (.iload_n 2, 1) := by decide +kernel
theorem dX1_flickersOf_67 : decode cX1_flickersOf 67 = .ok (.lshr, 1) := by decide +kernel
theorem dX1_flickersOf_68 : decode cX1_flickersOf 68 = .ok (.lconst 1, 1) := by decide +kernel
theorem dX1_flickersOf_69 : decode cX1_flickersOf 69 = .ok (.land, 1) := by decide +kernel
theorem dX1_flickersOf_70 : decode cX1_flickersOf 70 = .ok (.l2i, 1) := by decide +kernel
theorem dX1_flickersOf_71 : decode cX1_flickersOf 71 = .ok (.isub, 1) := by decide +kernel
theorem dX1_flickersOf_72 : decode cX1_flickersOf 72 = .ok (.ireturn, 1) := by decide +kernel
theorem dX1_flickersOf_73 : decode cX1_flickersOf 73 = .ok (.iload 8, 2) := by decide +kernel
theorem dX1_flickersOf_75 : decode cX1_flickersOf 75 = .ok (.lload 6, 2) := by decide +kernel
theorem dX1_flickersOf_77 : decode cX1_flickersOf 77 = .ok (.lload 10, 2) := by decide +kernel
theorem dX1_flickersOf_79 : decode cX1_flickersOf 79 = .ok (.lxor, 1) := by decide +kernel
theorem dX1_flickersOf_80 : decode cX1_flickersOf 80 = .ok (.iload_n 2, 1) := by decide +kernel
theorem dX1_flickersOf_81 : decode cX1_flickersOf 81 = .ok (.lshr, 1) := by decide +kernel
theorem dX1_flickersOf_82 : decode cX1_flickersOf 82 = .ok (.lconst 1, 1) := by decide +kernel
theorem dX1_flickersOf_83 : decode cX1_flickersOf 83 = .ok (.land, 1) := by decide +kernel
theorem dX1_flickersOf_84 : decode cX1_flickersOf 84 = .ok (.l2i, 1) := by decide +kernel
theorem dX1_flickersOf_85 : decode cX1_flickersOf 85 = .ok (.iadd, 1) := by decide +kernel
theorem dX1_flickersOf_86 : decode cX1_flickersOf 86 = .ok (.istore 8, 2) := by decide +kernel
theorem dX1_flickersOf_88 : decode cX1_flickersOf 88 = .ok (.lload 10, 2) := by decide +kernel
theorem dX1_flickersOf_90 : decode cX1_flickersOf 90 = .ok (.lstore 6, 2) := by decide +kernel
theorem dX1_flickersOf_92 : decode cX1_flickersOf 92 = .ok (.iinc 9 1, 3) := by decide +kernel
theorem dX1_flickersOf_95 : decode cX1_flickersOf 95 = .ok (.goto (-60), 3) := by decide +kernel
theorem dX1_flickersOf_98 : decode cX1_flickersOf 98 = .ok (.bipush (-15), 2) := by decide +kernel
theorem dX1_flickersOf_100 : decode cX1_flickersOf 100 = .ok (.ireturn, 1) := by decide +kernel
set_option maxRecDepth 20000 in
theorem ggX2_init_J7_fill_53178 : GoodIn wsX2_init wsJ7_fill_53178 := goodIn_r _ [13] (by decide +kernel) (by decide +kernel)
set_option maxRecDepth 20000 in
theorem gX2_init_J7_fill_53178 : GoodIn wsX2_init (va_wsS RX2 28 yJ7_fill_53178 wsJ7_fill_53178) := goodIn_app (goodIn_of _ (by decide +kernel)) ggX2_init_J7_fill_53178
theorem dX2_init_0 : decode cX2_init 0 = .ok (.aload_n 0, 1) := by decide +kernel
theorem dX2_init_1 : decode cX2_init 1 = .ok (.invokespecial 3, 3) := by decide +kernel
theorem dX2_init_4 : decode cX2_init 4 = .ok (.aload_n 0, 1) := by decide +kernel
theorem dX2_init_5 : decode cX2_init 5 = .ok (.bipush 16, 2) := by decide +kernel
theorem dX2_init_7 : decode cX2_init 7 = .ok (.newarray .int, 2) := by decide +kernel
theorem dX2_init_9 : decode cX2_init 9 = .ok (.putfield 9, 3) := by decide +kernel
theorem dX2_init_12 : decode cX2_init 12 = .ok (.aload_n 0, 1) := by decide +kernel
theorem dX2_init_13 : decode cX2_init 13 = .ok (.bipush 16, 2) := by decide +kernel
theorem dX2_init_15 : decode cX2_init 15 = .ok (.newarray .int, 2) := by decide +kernel
theorem dX2_init_17 : decode cX2_init 17 = .ok (.putfield 15, 3) := by decide +kernel
theorem dX2_init_20 : decode cX2_init 20 = .ok (.aload_n 0, 1) := by decide +kernel
theorem dX2_init_21 : decode cX2_init 21 = .ok (.bipush 48, 2) := by decide +kernel
theorem dX2_init_23 : decode cX2_init 23 = .ok (.newarray .int, 2) := by decide +kernel
theorem dX2_init_25 : decode cX2_init 25 = .ok (.putfield 18, 3) := by decide +kernel
theorem dX2_init_28 : decode cX2_init 28 = .ok (.aload_n 0, 1) := by decide +kernel
theorem dX2_init_29 : decode cX2_init 29 = .ok (.bipush 16, 2) := by decide +kernel
theorem dX2_init_31 : decode cX2_init 31 = .ok (.newarray .int, 2) := by decide +kernel
theorem dX2_init_33 : decode cX2_init 33 = .ok (.putfield 21, 3) := by decide +kernel
theorem dX2_init_36 : decode cX2_init 36 = .ok (.aload_n 0, 1) := by decide +kernel
theorem dX2_init_37 : decode cX2_init 37 = .ok (.iconst 1, 1) := by decide +kernel
theorem dX2_init_38 : decode cX2_init 38 = .ok (.putfield 24, 3) := by decide +kernel
theorem dX2_init_41 : decode cX2_init 41 = .ok (.aload_n 0, 1) := by decide +kernel
theorem dX2_init_42 : decode cX2_init 42 = .ok (.getfield 18, 3) := by decide +kernel
theorem dX2_init_45 : decode cX2_init 45 = .ok (.iconst (-1), 1) := by decide +kernel
theorem dX2_init_46 : decode cX2_init 46 = .ok (.invokestatic 28, 3) := by decide +kernel
theorem dX2_init_49 : decode cX2_init 49 = .ok (.return_, 1) := by decide +kernel
theorem dX2_copyFrom_0 : decode cX2_copyFrom 0 = .ok (.aload_n 0, 1) := by decide +kernel
theorem dX2_copyFrom_1 : decode cX2_copyFrom 1 = .ok (.aload_n 1, 1) := by decide +kernel
theorem dX2_copyFrom_2 : decode cX2_copyFrom 2 = .ok (.getfield 34, 3) := by decide +kernel
theorem dX2_copyFrom_5 : decode cX2_copyFrom 5 = .ok (.putfield 34, 3) := by decide +kernel
theorem dX2_copyFrom_8 : decode cX2_copyFrom 8 = .ok (.aload_n 1, 1) := by decide +kernel
theorem dX2_copyFrom_9 : decode cX2_copyFrom 9 = .ok (.getfield 9, 3) := by decide +kernel
theorem dX2_copyFrom_12 : decode cX2_copyFrom 12 = .ok (.iconst 0, 1) := by decide +kernel
theorem dX2_copyFrom_13 : decode cX2_copyFrom 13 = .ok (.aload_n 0, 1) := by decide +kernel
theorem dX2_copyFrom_14 : decode cX2_copyFrom 14 = .ok (.getfield 9, 3) := by decide +kernel
theorem dX2_copyFrom_17 : decode cX2_copyFrom 17 = .ok (.iconst 0, 1) := by decide +kernel
theorem dX2_copyFrom_18 : decode cX2_copyFrom 18 = .ok (.bipush 16, 2) := by decide +kernel
theorem dX2_copyFrom_20 : decode cX2_copyFrom 20 = .ok (.invokestatic 38, 3) := by decide +kernel
theorem dX2_copyFrom_23 : decode cX2_copyFrom 23 = .ok (.aload_n 1, 1) := by decide +kernel
theorem dX2_copyFrom_24 : decode cX2_copyFrom 24 = .ok (.getfield 15, 3) := by decide +kernel
theorem dX2_copyFrom_27 : decode cX2_copyFrom 27 = .ok (.iconst 0, 1) := by decide +kernel
theorem dX2_copyFrom_28 : decode cX2_copyFrom 28 = .ok (.aload_n 0, 1) := by decide +kernel
theorem dX2_copyFrom_29 : decode cX2_copyFrom 29 = .ok (.getfield 15, 3) := by decide +kernel
theorem dX2_copyFrom_32 : decode cX2_copyFrom 32 = .ok (.iconst 0, 1) := by decide +kernel
theorem dX2_copyFrom_33 : decode cX2_copyFrom 33 = .ok (.bipush 16, 2) := by decide +kernel
theorem dX2_copyFrom_35 : decode cX2_copyFrom 35 = .ok (.invokestatic 38, 3) := by decide +kernel
theorem dX2_copyFrom_38 : decode cX2_copyFrom 38 = .ok (.aload_n 1, 1) := by decide +kernel
theorem dX2_copyFrom_39 : decode cX2_copyFrom 39 = .ok (.getfield 18, 3) := by decide +kernel
theorem dX2_copyFrom_42 : decode cX2_copyFrom 42 = .ok (.iconst 0, 1) := by decide +kernel
theorem dX2_copyFrom_43 : decode cX2_copyFrom 43 = .ok (.aload_n 0, 1) := by decide +kernel
theorem dX2_copyFrom_44 : decode cX2_copyFrom 44 = .ok (.getfield 18, 3) := by decide +kernel
theorem dX2_copyFrom_47 : decode cX2_copyFrom 47 = .ok (.iconst 0, 1) := by decide +kernel
theorem dX2_copyFrom_48 : decode cX2_copyFrom 48 = .ok (.bipush 48, 2) := by decide +kernel
theorem dX2_copyFrom_50 : decode cX2_copyFrom 50 = .ok (.invokestatic 38, 3) := by decide +kernel
theorem dX2_copyFrom_53 : decode cX2_copyFrom 53 = .ok (.aload_n 1, 1) := by decide +kernel
theorem dX2_copyFrom_54 : decode cX2_copyFrom 54 = .ok (.getfield 21, 3) := by decide +kernel
theorem dX2_copyFrom_57 : decode cX2_copyFrom 57 = .ok (.iconst 0, 1) := by decide +kernel
theorem dX2_copyFrom_58 : decode cX2_copyFrom 58 = .ok (.aload_n 0, 1) := by decide +kernel
theorem dX2_copyFrom_59 : decode cX2_copyFrom 59 = .ok (.getfield 21, 3) := by decide +kernel
theorem dX2_copyFrom_62 : decode cX2_copyFrom 62 = .ok (.iconst 0, 1) := by decide +kernel
theorem dX2_copyFrom_63 : decode cX2_copyFrom 63 = .ok (.bipush 16, 2) := by decide +kernel
theorem dX2_copyFrom_65 : decode cX2_copyFrom 65 = .ok (.invokestatic 38, 3) := by decide +kernel
theorem dX2_copyFrom_68 : decode cX2_copyFrom 68 = .ok (.aload_n 0, 1) := by decide +kernel
theorem dX2_copyFrom_69 : decode cX2_copyFrom 69 = .ok (.aload_n 1, 1) := by decide +kernel
theorem dX2_copyFrom_70 : decode cX2_copyFrom 70 = .ok (.getfield 44, 3) := by decide +kernel
theorem dX2_copyFrom_73 : decode cX2_copyFrom 73 = .ok (.putfield 44, 3) := by decide +kernel
theorem dX2_copyFrom_76 : decode cX2_copyFrom 76 = .ok (.aload_n 0, 1) := by decide +kernel
theorem dX2_copyFrom_77 : decode cX2_copyFrom 77 = .ok (.aload_n 1, 1) := by decide +kernel
theorem dX2_copyFrom_78 : decode cX2_copyFrom 78 = .ok (.getfield 24, 3) := by decide +kernel
theorem dX2_copyFrom_81 : decode cX2_copyFrom 81 = .ok (.putfield 24, 3) := by decide +kernel
theorem dX2_copyFrom_84 : decode cX2_copyFrom 84 = .ok (.aload_n 0, 1) := by decide +kernel
theorem dX2_copyFrom_85 : decode cX2_copyFrom 85 = .ok (.aload_n 1, 1) := by decide +kernel
theorem dX2_copyFrom_86 : decode cX2_copyFrom 86 = .ok (.getfield 48, 3) := by decide +kernel
theorem dX2_copyFrom_89 : decode cX2_copyFrom 89 = .ok (.putfield 48, 3) := by decide +kernel
theorem dX2_copyFrom_92 : decode cX2_copyFrom 92 = .ok (.aload_n 0, 1) := by decide +kernel
theorem dX2_copyFrom_93 : decode cX2_copyFrom 93 = .ok (.aload_n 1, 1) := by decide +kernel
theorem dX2_copyFrom_94 : decode cX2_copyFrom 94 = .ok (.getfield 51, 3) := by decide +kernel
theorem dX2_copyFrom_97 : decode cX2_copyFrom 97 = .ok (.putfield 51, 3) := by decide +kernel
theorem dX2_copyFrom_100 : decode cX2_copyFrom 100 = .ok (.aload_n 0, 1) := by decide +kernel
theorem dX2_copyFrom_101 : decode cX2_copyFrom 101 = .ok (.aload_n 1, 1) := by decide +kernel
theorem dX2_copyFrom_102 : decode cX2_copyFrom 102 = .ok (.getfield 54, 3) := by decide +kernel
theorem dX2_copyFrom_105 : decode cX2_copyFrom 105 = .ok (.putfield 54, 3) := by decide +kernel
theorem dX2_copyFrom_108 : decode cX2_copyFrom 108 = .ok (.return_, 1) := by decide +kernel
theorem dX2_count_0 : decode cX2_count 0 = .ok (.aload_n 0, 1) := by decide +kernel
theorem dX2_count_1 : decode cX2_count 1 = .ok (.getfield 34, 3) := by decide +kernel
theorem dX2_count_4 : decode cX2_count 4 = .ok (.ireturn, 1) := by decide +kernel
theorem dX2_state_0 : decode cX2_state 0 = .ok (.aload_n 0, 1) := by decide +kernel
theorem dX2_state_1 : decode cX2_state 1 = .ok (.getfield 44, 3) := by decide +kernel
theorem dX2_state_4 : decode cX2_state 4 = .ok (.lreturn, 1) := by decide +kernel
theorem dX2_ticks_0 : decode cX2_ticks 0 = .ok (.aload_n 0, 1) := by decide +kernel
theorem dX2_ticks_1 : decode cX2_ticks 1 = .ok (.getfield 48, 3) := by decide +kernel
theorem dX2_ticks_4 : decode cX2_ticks 4 = .ok (.ireturn, 1) := by decide +kernel
theorem dX2_tickChanges_0 : decode cX2_tickChanges 0 = .ok (.aload_n 0, 1) := by decide +kernel
theorem dX2_tickChanges_1 : decode cX2_tickChanges 1 = .ok (.getfield 51, 3) := by decide +kernel
theorem dX2_tickChanges_4 : decode cX2_tickChanges 4 = .ok (.ireturn, 1) := by decide +kernel
theorem dX2_sets_0 : decode cX2_sets 0 = .ok (.aload_n 0, 1) := by decide +kernel
theorem dX2_sets_1 : decode cX2_sets 1 = .ok (.getfield 54, 3) := by decide +kernel
theorem dX2_sets_4 : decode cX2_sets 4 = .ok (.ireturn, 1) := by decide +kernel
theorem dX2_areLoopsAllowed_0 : decode cX2_areLoopsAllowed 0 = .ok (.aload_n 0, 1) := by decide +kernel
theorem dX2_areLoopsAllowed_1 : decode cX2_areLoopsAllowed 1 = .ok (.getfield 24, 3) := by decide +kernel
theorem dX2_areLoopsAllowed_4 : decode cX2_areLoopsAllowed 4 = .ok (.ireturn, 1) := by decide +kernel
theorem dX2_allowLoops_0 : decode cX2_allowLoops 0 = .ok (.aload_n 0, 1) := by decide +kernel
theorem dX2_allowLoops_1 : decode cX2_allowLoops 1 = .ok (.iload_n 1, 1) := by decide +kernel
theorem dX2_allowLoops_2 : decode cX2_allowLoops 2 = .ok (.putfield 24, 3) := by decide +kernel
theorem dX2_allowLoops_5 : decode cX2_allowLoops 5 = .ok (.return_, 1) := by decide +kernel
theorem dX2_isHung_0 : decode cX2_isHung 0 = .ok (.iload_n 1, 1) := by decide +kernel
theorem dX2_isHung_1 : decode cX2_isHung 1 = .ok (.ifCond .lt 21, 3) := by decide +kernel
theorem dX2_isHung_4 : decode cX2_isHung 4 = .ok (.iload_n 1, 1) := by decide +kernel
theorem dX2_isHung_5 : decode cX2_isHung 5 = .ok (.aload_n 0, 1) := by decide +kernel
theorem dX2_isHung_6 : decode cX2_isHung 6 = .ok (.getfield 34, 3) := by decide +kernel
theorem dX2_isHung_9 : decode cX2_isHung 9 = .ok (.if_icmp .ge 13, 3) := by decide +kernel
theorem dX2_isHung_12 : decode cX2_isHung 12 = .ok (.iload_n 1, 1) := by decide +kernel
theorem dX2_isHung_13 : decode cX2_isHung 13 = .ok (.bipush 16, 2) := by decide +kernel
theorem dX2_isHung_15 : decode cX2_isHung 15 = .ok (.if_icmp .ge 7, 3) := by decide +kernel
theorem dX2_isHung_18 : decode cX2_isHung 18 = .ok (.iconst 1, 1) := by decide +kernel
theorem dX2_isHung_19 : decode cX2_isHung 19 = .ok (.goto 4, 3) := by decide +kernel
theorem dX2_isHung_22 : decode cX2_isHung 22 = .ok (.iconst 0, 1) := by decide +kernel
theorem dX2_isHung_23 : decode cX2_isHung 23 = .ok (.ireturn, 1) := by decide +kernel
set_option maxRecDepth 20000 in
theorem ggX2_kindOf_X2_isHung : GoodIn wsX2_kindOf wsX2_isHung := goodIn_r _ [6, 7, 8, 9, 10, 11, 12, 13, 14, 15, 16, 17] (by decide +kernel) (by decide +kernel)
set_option maxRecDepth 20000 in
theorem gX2_kindOf_X2_isHung : GoodIn wsX2_kindOf (wsV RX2 57 RX2 yX2_isHung wsX2_isHung) := goodIn_app (goodIn_of _ (by decide +kernel)) ggX2_kindOf_X2_isHung
theorem dX2_kindOf_0 : decode cX2_kindOf 0 = .ok (.aload_n 0, 1) := by decide +kernel
theorem dX2_kindOf_1 : decode cX2_kindOf 1 = .ok (.iload_n 1, 1) := by decide +kernel
theorem dX2_kindOf_2 : decode cX2_kindOf 2 = .ok (.invokevirtual 57, 3) := by decide +kernel
theorem dX2_kindOf_5 : decode cX2_kindOf 5 = .ok (.ifCond .eq 12, 3) := by decide +kernel
theorem dX2_kindOf_8 : decode cX2_kindOf 8 = .ok (.aload_n 0, 1) := by decide +kernel
theorem dX2_kindOf_9 : decode cX2_kindOf 9 = .ok (.getfield 9, 3) := by decide +kernel
theorem dX2_kindOf_12 : decode cX2_kindOf 12 = .ok (.iload_n 1, 1) := by decide +kernel
theorem dX2_kindOf_13 : decode cX2_kindOf 13 = .ok (.iaload, 1) := by decide +kernel
theorem dX2_kindOf_14 : decode cX2_kindOf 14 = .ok (.goto 4, 3) := by decide +kernel
theorem dX2_kindOf_17 : decode cX2_kindOf 17 = .ok (.iconst 0, 1) := by decide +kernel
theorem dX2_kindOf_18 : decode cX2_kindOf 18 = .ok (.ireturn, 1) := by decide +kernel
set_option maxRecDepth 20000 in
theorem ggX2_wickOf_X2_isHung : GoodIn wsX2_wickOf wsX2_isHung := goodIn_r _ [6, 7, 8, 9, 10, 11, 12, 13, 14, 15, 16, 17] (by decide +kernel) (by decide +kernel)
set_option maxRecDepth 20000 in
theorem gX2_wickOf_X2_isHung : GoodIn wsX2_wickOf (wsV RX2 57 RX2 yX2_isHung wsX2_isHung) := goodIn_app (goodIn_of _ (by decide +kernel)) ggX2_wickOf_X2_isHung
theorem dX2_wickOf_0 : decode cX2_wickOf 0 = .ok (.aload_n 0, 1) := by decide +kernel
theorem dX2_wickOf_1 : decode cX2_wickOf 1 = .ok (.iload_n 1, 1) := by decide +kernel
theorem dX2_wickOf_2 : decode cX2_wickOf 2 = .ok (.invokevirtual 57, 3) := by decide +kernel
theorem dX2_wickOf_5 : decode cX2_wickOf 5 = .ok (.ifCond .eq 12, 3) := by decide +kernel
theorem dX2_wickOf_8 : decode cX2_wickOf 8 = .ok (.aload_n 0, 1) := by decide +kernel
theorem dX2_wickOf_9 : decode cX2_wickOf 9 = .ok (.getfield 15, 3) := by decide +kernel
theorem dX2_wickOf_12 : decode cX2_wickOf 12 = .ok (.iload_n 1, 1) := by decide +kernel
theorem dX2_wickOf_13 : decode cX2_wickOf 13 = .ok (.iaload, 1) := by decide +kernel
theorem dX2_wickOf_14 : decode cX2_wickOf 14 = .ok (.goto 4, 3) := by decide +kernel
theorem dX2_wickOf_17 : decode cX2_wickOf 17 = .ok (.iconst 1, 1) := by decide +kernel
theorem dX2_wickOf_18 : decode cX2_wickOf 18 = .ok (.ireturn, 1) := by decide +kernel
set_option maxRecDepth 20000 in
theorem ggX2_changesOf_X2_isHung : GoodIn wsX2_changesOf wsX2_isHung := goodIn_r _ [6, 7, 8, 9, 10, 11, 12, 13, 14, 15, 16, 17] (by decide +kernel) (by decide +kernel)
set_option maxRecDepth 20000 in
theorem gX2_changesOf_X2_isHung : GoodIn wsX2_changesOf (wsV RX2 57 RX2 yX2_isHung wsX2_isHung) := goodIn_app (goodIn_of _ (by decide +kernel)) ggX2_changesOf_X2_isHung
theorem dX2_changesOf_0 : decode cX2_changesOf 0 = .ok (.aload_n 0, 1) := by decide +kernel
theorem dX2_changesOf_1 : decode cX2_changesOf 1 = .ok (.iload_n 1, 1) := by decide +kernel
theorem dX2_changesOf_2 : decode cX2_changesOf 2 = .ok (.invokevirtual 57, 3) := by decide +kernel
theorem dX2_changesOf_5 : decode cX2_changesOf 5 = .ok (.ifCond .eq 12, 3) := by decide +kernel
theorem dX2_changesOf_8 : decode cX2_changesOf 8 = .ok (.aload_n 0, 1) := by decide +kernel
theorem dX2_changesOf_9 : decode cX2_changesOf 9 = .ok (.getfield 21, 3) := by decide +kernel
theorem dX2_changesOf_12 : decode cX2_changesOf 12 = .ok (.iload_n 1, 1) := by decide +kernel
theorem dX2_changesOf_13 : decode cX2_changesOf 13 = .ok (.iaload, 1) := by decide +kernel
theorem dX2_changesOf_14 : decode cX2_changesOf 14 = .ok (.goto 4, 3) := by decide +kernel
theorem dX2_changesOf_17 : decode cX2_changesOf 17 = .ok (.iconst 0, 1) := by decide +kernel
theorem dX2_changesOf_18 : decode cX2_changesOf 18 = .ok (.ireturn, 1) := by decide +kernel
set_option maxRecDepth 20000 in
theorem ggX2_isSwitch_X2_isHung : GoodIn wsX2_isSwitch wsX2_isHung := goodIn_r _ [6, 7, 8, 9, 10, 11, 12, 13, 14, 15, 16, 17] (by decide +kernel) (by decide +kernel)
set_option maxRecDepth 20000 in
theorem gX2_isSwitch_X2_isHung : GoodIn wsX2_isSwitch (wsV RX2 57 RX2 yX2_isHung wsX2_isHung) := goodIn_app (goodIn_of _ (by decide +kernel)) ggX2_isSwitch_X2_isHung
theorem dX2_isSwitch_0 : decode cX2_isSwitch 0 = .ok (.aload_n 0, 1) := by decide +kernel
theorem dX2_isSwitch_1 : decode cX2_isSwitch 1 = .ok (.iload_n 1, 1) := by decide +kernel
theorem dX2_isSwitch_2 : decode cX2_isSwitch 2 = .ok (.invokevirtual 57, 3) := by decide +kernel
theorem dX2_isSwitch_5 : decode cX2_isSwitch 5 = .ok (.ifCond .eq 16, 3) := by decide +kernel
theorem dX2_isSwitch_8 : decode cX2_isSwitch 8 = .ok (.aload_n 0, 1) := by decide +kernel
theorem dX2_isSwitch_9 : decode cX2_isSwitch 9 = .ok (.getfield 9, 3) := by decide +kernel
theorem dX2_isSwitch_12 : decode cX2_isSwitch 12 = .ok (.iload_n 1, 1) := by decide +kernel
theorem dX2_isSwitch_13 : decode cX2_isSwitch 13 = .ok (.iaload, 1) := by decide +kernel
theorem dX2_isSwitch_14 : decode cX2_isSwitch 14 = .ok (.ifCond .ne 7, 3) := by decide +kernel
theorem dX2_isSwitch_17 : decode cX2_isSwitch 17 = .ok (.iconst 1, 1) := by decide +kernel
theorem dX2_isSwitch_18 : decode cX2_isSwitch 18 = .ok (.goto 4, 3) := by decide +kernel
theorem dX2_isSwitch_21 : decode cX2_isSwitch 21 = .ok (.iconst 0, 1) := by decide +kernel
theorem dX2_isSwitch_22 : decode cX2_isSwitch 22 = .ok (.ireturn, 1) := by decide +kernel
theorem dX2_sourceOf_0 : decode cX2_sourceOf 0 = .ok (.iload_n 1, 1) := by decide +kernel
theorem dX2_sourceOf_1 : decode cX2_sourceOf 1 = .ok (.ifCond .lt 22, 3) := by decide +kernel
theorem dX2_sourceOf_4 : decode cX2_sourceOf 4 = .ok (.iload_n 1, 1) := by decide +kernel
theorem dX2_sourceOf_5 : decode cX2_sourceOf 5 = .ok (.bipush 16, 2) := by decide +kernel
theorem dX2_sourceOf_7 : decode cX2_sourceOf 7 = .ok (.if_icmp .ge 16, 3) := by decide +kernel
theorem dX2_sourceOf_10 : decode cX2_sourceOf 10 = .ok (.iload_n 2, 1) := by decide +kernel
theorem dX2_sourceOf_11 : decode cX2_sourceOf 11 = .ok (.ifCond .lt 12, 3) := by decide +kernel
theorem dX2_sourceOf_14 : decode cX2_sourceOf 14 = .ok (.iload_n 2, 1) := by decide +kernel
theorem dX2_sourceOf_15 : decode cX2_sourceOf 15 = .ok (.iconst 3, 1) := by decide +kernel
theorem dX2_sourceOf_16 : decode cX2_sourceOf 16 = .ok (.if_icmp .ge 7, 3) := by decide +kernel
theorem dX2_sourceOf_19 : decode cX2_sourceOf 19 = .ok (.iconst 1, 1) := by decide +kernel
theorem dX2_sourceOf_20 : decode cX2_sourceOf 20 = .ok (.goto 4, 3) := by decide +kernel
theorem dX2_sourceOf_23 : decode cX2_sourceOf 23 = .ok (.iconst 0, 1) := by decide +kernel
theorem dX2_sourceOf_24 : decode cX2_sourceOf 24 = .ok (.istore_n 3, 1) := by decide +kernel
theorem dX2_sourceOf_25 : decode cX2_sourceOf 25 = .ok (.iload_n 3, 1) := by decide +kernel
theorem dX2_sourceOf_26 : decode cX2_sourceOf 26 = .ok (.ifCond .eq 16, 3) := by decide +kernel
theorem dX2_sourceOf_29 : decode cX2_sourceOf 29 = .ok (.aload_n 0, 1) := by decide +kernel
theorem dX2_sourceOf_30 : decode cX2_sourceOf 30 = .ok (.getfield 18, 3) := by decide +kernel
theorem dX2_sourceOf_33 : decode cX2_sourceOf 33 = .ok (.iload_n 1, 1) := by decide +kernel
theorem dX2_sourceOf_34 : decode cX2_sourceOf 34 = .ok (.iconst 3, 1) := by decide +kernel
theorem dX2_sourceOf_35 : decode cX2_sourceOf 35 = .ok (.imul, 1) := by decide +kernel
theorem dX2_sourceOf_36 : decode cX2_sourceOf 36 = .ok (.iload_n 2, 1) := by decide +kernel
theorem dX2_sourceOf_37 : decode cX2_sourceOf 37 = .ok (.iadd, 1) := by decide +kernel
theorem dX2_sourceOf_38 : decode cX2_sourceOf 38 = .ok (.iaload, 1) := by decide +kernel
theorem dX2_sourceOf_39 : decode cX2_sourceOf 39 = .ok (.goto 4, 3) := by decide +kernel
theorem dX2_sourceOf_42 : decode cX2_sourceOf 42 = .ok (.iconst (-1), 1) := by decide +kernel
theorem dX2_sourceOf_43 : decode cX2_sourceOf 43 = .ok (.ireturn, 1) := by decide +kernel
theorem dX2_add_0 : decode cX2_add 0 = .ok (.aload_n 0, 1) := by decide +kernel
theorem dX2_add_1 : decode cX2_add 1 = .ok (.getfield 34, 3) := by decide +kernel
theorem dX2_add_4 : decode cX2_add 4 = .ok (.istore_n 3, 1) := by decide +kernel
theorem dX2_add_5 : decode cX2_add 5 = .ok (.iload_n 3, 1) := by decide +kernel
theorem dX2_add_6 : decode cX2_add 6 = .ok (.ifCond .lt 9, 3) := by decide +kernel
theorem dX2_add_9 : decode cX2_add 9 = .ok (.iload_n 3, 1) := by decide +kernel
theorem dX2_add_10 : decode cX2_add 10 = .ok (.bipush 16, 2) := by decide +kernel
theorem dX2_add_12 : decode cX2_add 12 = .ok (.if_icmp .lt 6, 3) := by decide +kernel
theorem dX2_add_15 : decode cX2_add 15 = .ok (.bipush (-11), 2) := by decide +kernel
theorem dX2_add_17 : decode cX2_add 17 = .ok (.ireturn, 1) := by decide +kernel
theorem dX2_add_18 : decode cX2_add 18 = .ok (.aload_n 0, 1) := by decide +kernel
theorem dX2_add_19 : decode cX2_add 19 = .ok (.getfield 9, 3) := by decide +kernel
theorem dX2_add_22 : decode cX2_add 22 = .ok (.iload_n 3, 1) := by decide +kernel
theorem dX2_add_23 : decode cX2_add 23 = .ok (.iload_n 1, 1) := by decide +kernel
theorem dX2_add_24 : decode cX2_add 24 = .ok (.iastore, 1) := by decide +kernel
theorem dX2_add_25 : decode cX2_add 25 = .ok (.aload_n 0, 1) := by decide +kernel
theorem dX2_add_26 : decode cX2_add 26 = .ok (.getfield 15, 3) := by decide +kernel
theorem dX2_add_29 : decode cX2_add 29 = .ok (.iload_n 3, 1) := by decide +kernel
theorem dX2_add_30 : decode cX2_add 30 = .ok (.iload_n 2, 1) := by decide +kernel
theorem dX2_add_31 : decode cX2_add 31 = .ok (.iastore, 1) := by decide +kernel
theorem dX2_add_32 : decode cX2_add 32 = .ok (.aload_n 0, 1) := by decide +kernel
theorem dX2_add_33 : decode cX2_add 33 = .ok (.iload_n 3, 1) := by decide +kernel
theorem dX2_add_34 : decode cX2_add 34 = .ok (.iconst 1, 1) := by decide +kernel
theorem dX2_add_35 : decode cX2_add 35 = .ok (.iadd, 1) := by decide +kernel
theorem dX2_add_36 : decode cX2_add 36 = .ok (.putfield 34, 3) := by decide +kernel
theorem dX2_add_39 : decode cX2_add 39 = .ok (.iload_n 3, 1) := by decide +kernel
theorem dX2_add_40 : decode cX2_add 40 = .ok (.ireturn, 1) := by decide +kernel
set_option maxRecDepth 20000 in
theorem ggX2_connect_X2_isHung : GoodIn wsX2_connect wsX2_isHung := goodIn_r _ [6, 7, 11, 12, 13, 14, 15, 16, 17, 18, 19, 20] (by decide +kernel) (by decide +kernel)
set_option maxRecDepth 20000 in
theorem gX2_connect_X2_isHung : GoodIn wsX2_connect (wsV RX2 57 RX2 yX2_isHung wsX2_isHung) := goodIn_app (goodIn_of _ (by decide +kernel)) ggX2_connect_X2_isHung
set_option maxRecDepth 20000 in
theorem ggX2_connect_X9_isPlace : GoodIn wsX2_connect wsX9_isPlace := goodIn_r _ [10] (by decide +kernel) (by decide +kernel)
set_option maxRecDepth 20000 in
theorem gX2_connect_X9_isPlace_n61 : GoodIn wsX2_connect (wsX9_isPlace) := ggX2_connect_X9_isPlace
theorem dX2_connect_0 : decode cX2_connect 0 = .ok (.aload_n 0, 1) := by decide +kernel
theorem dX2_connect_1 : decode cX2_connect 1 = .ok (.iload_n 1, 1) := by decide +kernel
theorem dX2_connect_2 : decode cX2_connect 2 = .ok (.invokevirtual 57, 3) := by decide +kernel
theorem dX2_connect_5 : decode cX2_connect 5 = .ok (.ifCond .eq 21, 3) := by decide +kernel
theorem dX2_connect_8 : decode cX2_connect 8 = .ok (.iload_n 2, 1) := by decide +kernel
theorem dX2_connect_9 : decode cX2_connect 9 = .ok (.invokestatic 61, 3) := by decide +kernel
theorem dX2_connect_12 : decode cX2_connect 12 = .ok (.ifCond .eq 14, 3) := by decide +kernel
theorem dX2_connect_15 : decode cX2_connect 15 = .ok (.aload_n 0, 1) := by decide +kernel
theorem dX2_connect_16 : decode cX2_connect 16 = .ok (.getfield 18, 3) := by decide +kernel
theorem dX2_connect_19 : decode cX2_connect 19 = .ok (.iload_n 1, 1) := by decide +kernel
theorem dX2_connect_20 : decode cX2_connect 20 = .ok (.iconst 3, 1) := by decide +kernel
theorem dX2_connect_21 : decode cX2_connect 21 = .ok (.imul, 1) := by decide +kernel
theorem dX2_connect_22 : decode cX2_connect 22 = .ok (.iload_n 2, 1) := by decide +kernel
theorem dX2_connect_23 : decode cX2_connect 23 = .ok (.iadd, 1) := by decide +kernel
theorem dX2_connect_24 : decode cX2_connect 24 = .ok (.iload_n 3, 1) := by decide +kernel
theorem dX2_connect_25 : decode cX2_connect 25 = .ok (.iastore, 1) := by decide +kernel
theorem dX2_connect_26 : decode cX2_connect 26 = .ok (.return_, 1) := by decide +kernel
set_option maxRecDepth 20000 in
theorem ggX2_turn_X2_isHung : GoodIn wsX2_turn wsX2_isHung := goodIn_r _ [8, 9, 10, 11, 12, 13, 14, 15, 16, 17, 18, 19] (by decide +kernel) (by decide +kernel)
set_option maxRecDepth 20000 in
theorem gX2_turn_X2_isHung : GoodIn wsX2_turn (wsV RX2 57 RX2 yX2_isHung wsX2_isHung) := goodIn_app (goodIn_of _ (by decide +kernel)) ggX2_turn_X2_isHung
theorem dX2_turn_0 : decode cX2_turn 0 = .ok (.aload_n 0, 1) := by decide +kernel
theorem dX2_turn_1 : decode cX2_turn 1 = .ok (.iload_n 1, 1) := by decide +kernel
theorem dX2_turn_2 : decode cX2_turn 2 = .ok (.invokevirtual 57, 3) := by decide +kernel
theorem dX2_turn_5 : decode cX2_turn 5 = .ok (.ifCond .eq 35, 3) := by decide +kernel
theorem dX2_turn_8 : decode cX2_turn 8 = .ok (.aload_n 0, 1) := by decide +kernel
theorem dX2_turn_9 : decode cX2_turn 9 = .ok (.dup, 1) := by decide +kernel
theorem dX2_turn_10 : decode cX2_turn 10 = .ok (.getfield 44, 3) := by decide +kernel
theorem dX2_turn_13 : decode cX2_turn 13 = .ok (.lconst 1, 1) := by decide +kernel
theorem dX2_turn_14 : decode cX2_turn 14 = .ok (.iload_n 1, 1) := by decide +kernel
theorem dX2_turn_15 : decode cX2_turn 15 = .ok (.lshl, 1) := by decide +kernel
theorem dX2_turn_16 : decode cX2_turn 16 = .ok (.lxor, 1) := by decide +kernel
theorem dX2_turn_17 : decode cX2_turn 17 = .ok (.putfield 44, 3) := by decide +kernel
theorem dX2_turn_20 : decode cX2_turn 20 = .ok (.aload_n 0, 1) := by decide +kernel
theorem dX2_turn_21 : decode cX2_turn 21 = .ok (.getfield 21, 3) := by decide +kernel
theorem dX2_turn_24 : decode cX2_turn 24 = .ok (.iload_n 1, 1) := by decide +kernel
theorem dX2_turn_25 : decode cX2_turn 25 = .ok (.dup2, 1) := by decide +kernel
theorem dX2_turn_26 : decode cX2_turn 26 = .ok (.iaload, 1) := by decide +kernel
theorem dX2_turn_27 : decode cX2_turn 27 = .ok (.iconst 1, 1) := by decide +kernel
theorem dX2_turn_28 : decode cX2_turn 28 = .ok (.iadd, 1) := by decide +kernel
theorem dX2_turn_29 : decode cX2_turn 29 = .ok (.iastore, 1) := by decide +kernel
theorem dX2_turn_30 : decode cX2_turn 30 = .ok (.aload_n 0, 1) := by decide +kernel
theorem dX2_turn_31 : decode cX2_turn 31 = .ok (.dup, 1) := by decide +kernel
theorem dX2_turn_32 : decode cX2_turn 32 = .ok (.getfield 54, 3) := by decide +kernel
theorem dX2_turn_35 : decode cX2_turn 35 = .ok (.iconst 1, 1) := by decide +kernel
theorem dX2_turn_36 : decode cX2_turn 36 = .ok (.iadd, 1) := by decide +kernel
theorem dX2_turn_37 : decode cX2_turn 37 = .ok (.putfield 54, 3) := by decide +kernel
theorem dX2_turn_40 : decode cX2_turn 40 = .ok (.return_, 1) := by decide +kernel
set_option maxRecDepth 20000 in
theorem ggX2_goOn_X2_behindTick : GoodIn wsX2_goOn wsX2_behindTick := goodIn_r _ [9, 10, 11, 12, 13, 14, 8, 15, 16, 17, 18, 19, 20, 21, 22, 23, 24, 25, 33, 34, 35, 36, 37, 38, 39, 40, 41, 42] (by decide +kernel) (by decide +kernel)
set_option maxRecDepth 20000 in
theorem gX2_goOn_X2_behindTick : GoodIn wsX2_goOn (wsV RX2 64 RX2 yX2_behindTick wsX2_behindTick) := goodIn_app (goodIn_of _ (by decide +kernel)) ggX2_goOn_X2_behindTick
set_option maxRecDepth 20000 in
theorem ggX2_goOn_X2_glowIn : GoodIn wsX2_goOn wsX2_glowIn := goodIn_r _ [15, 16] (by decide +kernel) (by decide +kernel)
set_option maxRecDepth 20000 in
theorem gX2_goOn_X2_glowIn : GoodIn wsX2_goOn (va_wsS RX2 68 yX2_glowIn wsX2_glowIn) := goodIn_app (goodIn_of _ (by decide +kernel)) ggX2_goOn_X2_glowIn
set_option maxRecDepth 20000 in
theorem ggX2_goOn_J6_bitCount_0f7a4 : GoodIn wsX2_goOn wsJ6_bitCount_0f7a4 := goodIn_r _ [29, 30, 31, 32] (by decide +kernel) (by decide +kernel)
set_option maxRecDepth 20000 in
theorem gX2_goOn_J6_bitCount_0f7a4 : GoodIn wsX2_goOn (va_wsS RX2 72 yJ6_bitCount_0f7a4 wsJ6_bitCount_0f7a4) := goodIn_app (goodIn_of _ (by decide +kernel)) ggX2_goOn_J6_bitCount_0f7a4
theorem dX2_goOn_0 : decode cX2_goOn 0 = .ok (.aload_n 0, 1) := by decide +kernel
theorem dX2_goOn_1 : decode cX2_goOn 1 = .ok (.aload_n 0, 1) := by decide +kernel
theorem dX2_goOn_2 : decode cX2_goOn 2 = .ok (.getfield 44, 3) := by decide +kernel
theorem dX2_goOn_5 : decode cX2_goOn 5 = .ok (.invokevirtual 64, 3) := by decide +kernel
theorem dX2_goOn_8 : decode cX2_goOn 8 = .ok (.lstore_n 1, 1) := by decide +kernel
theorem dX2_goOn_9 : decode cX2_goOn 9 = .ok (.aload_n 0, 1) := by decide +kernel
theorem dX2_goOn_10 : decode cX2_goOn 10 = .ok (.getfield 44, 3) := by decide +kernel
theorem dX2_goOn_13 : decode cX2_goOn 13 = .ok (.lload_n 1, 1) := by decide +kernel
theorem dX2_goOn_14 : decode cX2_goOn 14 = .ok (.lxor, 1) := by decide +kernel
theorem dX2_goOn_15 : decode cX2_goOn 15 = .ok (.invokestatic 68, 3) := by decide +kernel
theorem dX2_goOn_18 : decode cX2_goOn 18 = .ok (.istore_n 3, 1) := by decide +kernel
theorem dX2_goOn_19 : decode cX2_goOn 19 = .ok (.iconst 0, 1) := by decide +kernel
theorem dX2_goOn_20 : decode cX2_goOn 20 = .ok (.istore 4, 2) := by decide +kernel
theorem dX2_goOn_22 : decode cX2_goOn 22 = .ok (.iload 4, 2) := by decide +kernel
theorem dX2_goOn_24 : decode cX2_goOn 24 = .ok (.bipush 16, 2) := by decide +kernel
theorem dX2_goOn_26 : decode cX2_goOn 26 = .ok (.if_icmp .ge 25, 3) := by decide +kernel
theorem dX2_goOn_29 : decode cX2_goOn 29 = .ok (.aload_n 0, 1) := by decide +kernel
theorem dX2_goOn_30 : decode cX2_goOn 30 = .ok (.getfield 21, 3) := by decide +kernel
theorem dX2_goOn_33 : decode cX2_goOn 33 = .ok (.iload 4, 2) := by decide +kernel
theorem dX2_goOn_35 : decode cX2_goOn 35 = .ok (.dup2, 1) := by decide +kernel
theorem dX2_goOn_36 : decode cX2_goOn 36 = .ok (.iaload, 1) := by decide +kernel
theorem dX2_goOn_37 : decode cX2_goOn 37 = .ok (.iload_n 3, 1) := by decide +kernel
theorem dX2_goOn_38 : decode cX2_goOn 38 = .ok (.iload 4, 2) := by decide +kernel
theorem dX2_goOn_40 : decode cX2_goOn 40 = .ok (.ishr, 1) := by decide +kernel
theorem dX2_goOn_41 : decode cX2_goOn 41 = .ok (.iconst 1, 1) := by decide +kernel
theorem dX2_goOn_42 : decode cX2_goOn 42 = .ok (.iand, 1) := by decide +kernel
theorem dX2_goOn_43 : decode cX2_goOn 43 = .ok (.iadd, 1) := by decide +kernel
theorem dX2_goOn_44 : decode cX2_goOn 44 = .ok (.iastore, 1) := by decide +kernel
theorem dX2_goOn_45 : decode cX2_goOn 45 = .ok (.iinc 4 1, 3) := by decide +kernel
theorem dX2_goOn_48 : decode cX2_goOn 48 = .ok (.goto (-26), 3) := by decide +kernel
theorem dX2_goOn_51 : decode cX2_goOn 51 = .ok (.iload_n 3, 1) := by decide +kernel
theorem dX2_goOn_52 : decode cX2_goOn 52 = .ok (.invokestatic 72, 3) := by decide +kernel
theorem dX2_goOn_55 : decode cX2_goOn 55 = .ok (.istore 4, 2) := by decide +kernel
theorem dX2_goOn_57 : decode cX2_goOn 57 = .ok (.aload_n 0, 1) := by decide +kernel
theorem dX2_goOn_58 : decode cX2_goOn 58 = .ok (.lload_n 1, 1) := by decide +kernel
theorem dX2_goOn_59 : decode cX2_goOn 59 = .ok (.putfield 44, 3) := by decide +kernel
theorem dX2_goOn_62 : decode cX2_goOn 62 = .ok (.aload_n 0, 1) := by decide +kernel
theorem dX2_goOn_63 : decode cX2_goOn 63 = .ok (.dup, 1) := by decide +kernel
theorem dX2_goOn_64 : decode cX2_goOn 64 = .ok (.getfield 48, 3) := by decide +kernel
theorem dX2_goOn_67 : decode cX2_goOn 67 = .ok (.iconst 1, 1) := by decide +kernel
theorem dX2_goOn_68 : decode cX2_goOn 68 = .ok (.iadd, 1) := by decide +kernel
theorem dX2_goOn_69 : decode cX2_goOn 69 = .ok (.putfield 48, 3) := by decide +kernel
theorem dX2_goOn_72 : decode cX2_goOn 72 = .ok (.aload_n 0, 1) := by decide +kernel
theorem dX2_goOn_73 : decode cX2_goOn 73 = .ok (.dup, 1) := by decide +kernel
theorem dX2_goOn_74 : decode cX2_goOn 74 = .ok (.getfield 51, 3) := by decide +kernel
theorem dX2_goOn_77 : decode cX2_goOn 77 = .ok (.iload 4, 2) := by decide +kernel
theorem dX2_goOn_79 : decode cX2_goOn 79 = .ok (.iadd, 1) := by decide +kernel
theorem dX2_goOn_80 : decode cX2_goOn 80 = .ok (.putfield 51, 3) := by decide +kernel
theorem dX2_goOn_83 : decode cX2_goOn 83 = .ok (.iload 4, 2) := by decide +kernel
theorem dX2_goOn_85 : decode cX2_goOn 85 = .ok (.ireturn, 1) := by decide +kernel
set_option maxRecDepth 20000 in
theorem ggX2_behindTick_X2_glowIn : GoodIn wsX2_behindTick wsX2_glowIn := goodIn_r _ [7, 8] (by decide +kernel) (by decide +kernel)
set_option maxRecDepth 20000 in
theorem gX2_behindTick_X2_glowIn : GoodIn wsX2_behindTick (va_wsS RX2 68 yX2_glowIn wsX2_glowIn) := goodIn_app (goodIn_of _ (by decide +kernel)) ggX2_behindTick_X2_glowIn
set_option maxRecDepth 20000 in
theorem ggX2_behindTick_X2_foundIn : GoodIn wsX2_behindTick wsX2_foundIn := goodIn_r _ [11, 12] (by decide +kernel) (by decide +kernel)
set_option maxRecDepth 20000 in
theorem gX2_behindTick_X2_foundIn : GoodIn wsX2_behindTick (va_wsS RX2 78 yX2_foundIn wsX2_foundIn) := goodIn_app (goodIn_of _ (by decide +kernel)) ggX2_behindTick_X2_foundIn
set_option maxRecDepth 20000 in
theorem ggX2_behindTick_X2_isFinding : GoodIn wsX2_behindTick wsX2_isFinding := goodIn_r _ [16, 17, 2, 18, 19, 20, 21, 22, 23, 24, 25, 26, 27] (by decide +kernel) (by decide +kernel)
set_option maxRecDepth 20000 in
theorem gX2_behindTick_X2_isFinding : GoodIn wsX2_behindTick (wsV RX2 82 RX2 yX2_isFinding wsX2_isFinding) := goodIn_app (goodIn_of _ (by decide +kernel)) ggX2_behindTick_X2_isFinding
theorem dX2_behindTick_0 : decode cX2_behindTick 0 = .ok (.lload_n 1, 1) := by decide +kernel
theorem dX2_behindTick_1 : decode cX2_behindTick 1 = .ok (.invokestatic 68, 3) := by decide +kernel
theorem dX2_behindTick_4 : decode cX2_behindTick 4 = .ok (.istore_n 3, 1) := by decide +kernel
theorem dX2_behindTick_5 : decode cX2_behindTick 5 = .ok (.lconst 0, 1) := by decide +kernel
theorem dX2_behindTick_6 : decode cX2_behindTick 6 = .ok (.lstore 4, 2) := by decide +kernel
theorem dX2_behindTick_8 : decode cX2_behindTick 8 = .ok (.iconst 0, 1) := by decide +kernel
theorem dX2_behindTick_9 : decode cX2_behindTick 9 = .ok (.istore 6, 2) := by decide +kernel
theorem dX2_behindTick_11 : decode cX2_behindTick 11 = .ok (.iload 6, 2) := by decide +kernel
theorem dX2_behindTick_13 : decode cX2_behindTick 13 = .ok (.aload_n 0, 1) := by decide +kernel
theorem dX2_behindTick_14 : decode cX2_behindTick 14 = .ok (.getfield 34, 3) := by decide +kernel
theorem dX2_behindTick_17 : decode cX2_behindTick 17 = .ok (.if_icmp .ge 104, 3) := by decide +kernel
theorem dX2_behindTick_20 : decode cX2_behindTick 20 = .ok (.iload 6, 2) := by decide +kernel
theorem dX2_behindTick_22 : decode cX2_behindTick 22 = .ok (.bipush 16, 2) := by decide +kernel
theorem dX2_behindTick_24 : decode cX2_behindTick 24 = .ok (.if_icmp .ge 97, 3) := by decide +kernel
theorem dX2_behindTick_27 : decode cX2_behindTick 27 = .ok (.aload_n 0, 1) := by decide +kernel
theorem dX2_behindTick_28 : decode cX2_behindTick 28 = .ok (.getfield 9, 3) := by decide +kernel
theorem dX2_behindTick_31 : decode cX2_behindTick 31 = .ok (.iload 6, 2) := by decide +kernel
theorem dX2_behindTick_33 : decode cX2_behindTick 33 = .ok (.iaload, 1) := by decide +kernel
theorem dX2_behindTick_34 : decode cX2_behindTick 34 = .ok (.ifCond .ne 17, 3) := by decide +kernel
theorem dX2_behindTick_37 : decode cX2_behindTick 37 = .ok (.lload 4, 2) := by decide +kernel
theorem dX2_behindTick_39 : decode cX2_behindTick 39 = .ok (.lload_n 1, 1) := by decide +kernel
theorem dX2_behindTick_40 : decode cX2_behindTick 40 = .ok (.lconst 1, 1) := by decide +kernel
theorem dX2_behindTick_41 : decode cX2_behindTick 41 = .ok (.iload 6, 2) := by decide +kernel
theorem dX2_behindTick_43 : decode cX2_behindTick 43 = .ok (.lshl, 1) := by decide +kernel
theorem dX2_behindTick_44 : decode cX2_behindTick 44 = .ok (.land, 1) := by decide +kernel
theorem dX2_behindTick_45 : decode cX2_behindTick 45 = .ok (.lor, 1) := by decide +kernel
theorem dX2_behindTick_46 : decode cX2_behindTick 46 = .ok (.lstore 4, 2) := by decide +kernel
theorem dX2_behindTick_48 : decode cX2_behindTick 48 = .ok (.goto 67, 3) := by decide +kernel
theorem dX2_behindTick_51 : decode cX2_behindTick 51 = .ok (.lload_n 1, 1) := by decide +kernel
theorem dX2_behindTick_52 : decode cX2_behindTick 52 = .ok (.iload 6, 2) := by decide +kernel
theorem dX2_behindTick_54 : decode cX2_behindTick 54 = .ok (.invokestatic 78, 3) := by decide +kernel
theorem dX2_behindTick_57 : decode cX2_behindTick 57 = .ok (.i2l, 1) := by decide +kernel
theorem dX2_behindTick_58 : decode cX2_behindTick 58 = .ok (.aload_n 0, 1) := by decide +kernel
theorem dX2_behindTick_59 : decode cX2_behindTick 59 = .ok (.iload 6, 2) := by decide +kernel
theorem dX2_behindTick_61 : decode cX2_behindTick 61 = .ok (.iload_n 3, 1) := by decide +kernel
theorem dX2_behindTick_62 : decode cX2_behindTick 62 = .ok (.invokevirtual 82, 3) := by decide +kernel
theorem dX2_behindTick_65 : decode cX2_behindTick 65 = .ok (.ifCond .eq 17, 3) := by decide +kernel
theorem dX2_behindTick_68 : decode cX2_behindTick 68 = .ok (.lconst 1, 1) := by decide +kernel
theorem dX2_behindTick_69 : decode cX2_behindTick 69 = .ok (.aload_n 0, 1) := by decide +kernel
theorem dX2_behindTick_70 : decode cX2_behindTick 70 = .ok (.getfield 15, 3) := by decide +kernel
theorem dX2_behindTick_73 : decode cX2_behindTick 73 = .ok (.iload 6, 2) := by decide +kernel
theorem dX2_behindTick_75 : decode cX2_behindTick 75 = .ok (.iaload, 1) := by decide +kernel
theorem dX2_behindTick_76 : decode cX2_behindTick 76 = .ok (.iconst 1, 1) := by decide +kernel
theorem dX2_behindTick_77 : decode cX2_behindTick 77 = .ok (.isub, 1) := by decide +kernel
theorem dX2_behindTick_78 : decode cX2_behindTick 78 = .ok (.lshl, 1) := by decide +kernel
theorem dX2_behindTick_79 : decode cX2_behindTick 79 = .ok (.goto 4, 3) := by decide +kernel
theorem dX2_behindTick_82 : decode cX2_behindTick 82 = .ok (.lconst 0, 1) := by decide +kernel
theorem dX2_behindTick_83 : decode cX2_behindTick 83 = .ok (.lor, 1) := by decide +kernel
theorem dX2_behindTick_84 : decode cX2_behindTick 84 = .ok (.lstore 7, 2) := by decide +kernel
theorem dX2_behindTick_86 : decode cX2_behindTick 86 = .ok (.lload 4, 2) := by decide +kernel
theorem dX2_behindTick_88 : decode cX2_behindTick 88 = .ok (.lload 7, 2) := by decide +kernel
theorem dX2_behindTick_90 : decode cX2_behindTick 90 = .ok (.lconst 1, 1) := by decide +kernel
theorem dX2_behindTick_91 : decode cX2_behindTick 91 = .ok (.land, 1) := by decide +kernel
theorem dX2_behindTick_92 : decode cX2_behindTick 92 = .ok (.iload 6, 2) := by decide +kernel
theorem dX2_behindTick_94 : decode cX2_behindTick 94 = .ok (.lshl, 1) := by decide +kernel
theorem dX2_behindTick_95 : decode cX2_behindTick 95 = .ok (.lor, 1) := by decide +kernel
theorem dX2_behindTick_96 : decode cX2_behindTick 96 = .ok (.lstore 4, 2) := by decide +kernel
theorem dX2_behindTick_98 : decode cX2_behindTick 98 = .ok (.lload 4, 2) := by decide +kernel
theorem dX2_behindTick_100 : decode cX2_behindTick 100 = .ok (.lload 7, 2) := by decide +kernel
theorem dX2_behindTick_102 : decode cX2_behindTick 102 = .ok (.iconst 1, 1) := by decide +kernel
theorem dX2_behindTick_103 : decode cX2_behindTick 103 = .ok (.lshr, 1) := by decide +kernel
theorem dX2_behindTick_104 : decode cX2_behindTick 104 = .ok (.bipush 16, 2) := by decide +kernel
theorem dX2_behindTick_106 : decode cX2_behindTick 106 = .ok (.iconst 3, 1) := by decide +kernel
theorem dX2_behindTick_107 : decode cX2_behindTick 107 = .ok (.iload 6, 2) := by decide +kernel
theorem dX2_behindTick_109 : decode cX2_behindTick 109 = .ok (.imul, 1) := by decide +kernel
theorem dX2_behindTick_110 : decode cX2_behindTick 110 = .ok (.iadd, 1) := by decide +kernel
theorem dX2_behindTick_111 : decode cX2_behindTick 111 = .ok (.lshl, 1) := by decide +kernel
theorem dX2_behindTick_112 : decode cX2_behindTick 112 = .ok (.lor, 1) := by decide +kernel
theorem dX2_behindTick_113 : decode cX2_behindTick 113 = .ok (.lstore 4, 2) := by decide +kernel
theorem dX2_behindTick_115 : decode cX2_behindTick 115 = .ok (.iinc 6 1, 3) := by decide +kernel
theorem dX2_behindTick_118 : decode cX2_behindTick 118 = .ok (.goto (-107), 3) := by decide +kernel
theorem dX2_behindTick_121 : decode cX2_behindTick 121 = .ok (.lload 4, 2) := by decide +kernel
theorem dX2_behindTick_123 : decode cX2_behindTick 123 = .ok (.lreturn, 1) := by decide +kernel
theorem dX2_isFinding_0 : decode cX2_isFinding 0 = .ok (.iload_n 1, 1) := by decide +kernel
theorem dX2_isFinding_1 : decode cX2_isFinding 1 = .ok (.ifCond .lt 9, 3) := by decide +kernel
theorem dX2_isFinding_4 : decode cX2_isFinding 4 = .ok (.iload_n 1, 1) := by decide +kernel
theorem dX2_isFinding_5 : decode cX2_isFinding 5 = .ok (.bipush 16, 2) := by decide +kernel
theorem dX2_isFinding_7 : decode cX2_isFinding 7 = .ok (.if_icmp .lt 5, 3) := by decide +kernel
theorem dX2_isFinding_10 : decode cX2_isFinding 10 = .ok (.iconst 0, 1) := by decide +kernel
theorem dX2_isFinding_11 : decode cX2_isFinding 11 = .ok (.ireturn, 1) := by decide +kernel
theorem dX2_isFinding_12 : decode cX2_isFinding 12 = .ok (.iconst 0, 1) := by decide +kernel
theorem dX2_isFinding_13 : decode cX2_isFinding 13 = .ok (.istore_n 3, 1) := by decide +kernel
theorem dX2_isFinding_14 : decode cX2_isFinding 14 = .ok (.iconst 0, 1) := by decide +kernel
theorem dX2_isFinding_15 : decode cX2_isFinding 15 = .ok (.istore 4, 2) := by decide +kernel
theorem dX2_isFinding_17 : decode cX2_isFinding 17 = .ok (.iconst 0, 1) := by decide +kernel
theorem dX2_isFinding_18 : decode cX2_isFinding 18 = .ok (.istore 5, 2) := by decide +kernel
theorem dX2_isFinding_20 : decode cX2_isFinding 20 = .ok (.iload 5, 2) := by decide +kernel
theorem dX2_isFinding_22 : decode cX2_isFinding 22 = .ok (.iconst 3, 1) := by decide +kernel
theorem dX2_isFinding_23 : decode cX2_isFinding 23 = .ok (.if_icmp .ge 42, 3) := by decide +kernel
theorem dX2_isFinding_26 : decode cX2_isFinding 26 = .ok (.aload_n 0, 1) := by decide +kernel
theorem dX2_isFinding_27 : decode cX2_isFinding 27 = .ok (.getfield 18, 3) := by decide +kernel
theorem dX2_isFinding_30 : decode cX2_isFinding 30 = .ok (.iload_n 1, 1) := by decide +kernel
theorem dX2_isFinding_31 : decode cX2_isFinding 31 = .ok (.iconst 3, 1) := by decide +kernel
theorem dX2_isFinding_32 : decode cX2_isFinding 32 = .ok (.imul, 1) := by decide +kernel
theorem dX2_isFinding_33 : decode cX2_isFinding 33 = .ok (.iload 5, 2) := by decide +kernel
theorem dX2_isFinding_35 : decode cX2_isFinding 35 = .ok (.iadd, 1) := by decide +kernel
theorem dX2_isFinding_36 : decode cX2_isFinding 36 = .ok (.iaload, 1) := by decide +kernel
theorem dX2_isFinding_37 : decode cX2_isFinding 37 = .ok (.istore 6, 2) := by decide +kernel
theorem dX2_isFinding_39 : decode cX2_isFinding 39 = .ok (.iload 6, 2) := by decide +kernel
theorem dX2_isFinding_41 : decode cX2_isFinding 41 = .ok (.iconst (-1), 1) := by decide +kernel
theorem dX2_isFinding_42 : decode cX2_isFinding 42 = .ok (.if_icmp .eq 17, 3) := by decide +kernel
theorem dX2_isFinding_45 : decode cX2_isFinding 45 = .ok (.iinc 3 1, 3) := by decide +kernel
theorem dX2_isFinding_48 : decode cX2_isFinding 48 = .ok (.iload 4, 2) := by decide +kernel
theorem dX2_isFinding_50 : decode cX2_isFinding 50 = .ok (.iload_n 2, 1) := by decide +kernel
theorem dX2_isFinding_51 : decode cX2_isFinding 51 = .ok (.iload 6, 2) := by decide +kernel
theorem dX2_isFinding_53 : decode cX2_isFinding 53 = .ok (.ishr, 1) := by decide +kernel
theorem dX2_isFinding_54 : decode cX2_isFinding 54 = .ok (.iconst 1, 1) := by decide +kernel
theorem dX2_isFinding_55 : decode cX2_isFinding 55 = .ok (.iand, 1) := by decide +kernel
theorem dX2_isFinding_56 : decode cX2_isFinding 56 = .ok (.iadd, 1) := by decide +kernel
theorem dX2_isFinding_57 : decode cX2_isFinding 57 = .ok (.istore 4, 2) := by decide +kernel
theorem dX2_isFinding_59 : decode cX2_isFinding 59 = .ok (.iinc 5 1, 3) := by decide +kernel
theorem dX2_isFinding_62 : decode cX2_isFinding 62 = .ok (.goto (-42), 3) := by decide +kernel
theorem dX2_isFinding_65 : decode cX2_isFinding 65 = .ok (.iload_n 3, 1) := by decide +kernel
theorem dX2_isFinding_66 : decode cX2_isFinding 66 = .ok (.ifCond .ne 5, 3) := by decide +kernel
theorem dX2_isFinding_69 : decode cX2_isFinding 69 = .ok (.iconst 0, 1) := by decide +kernel
theorem dX2_isFinding_70 : decode cX2_isFinding 70 = .ok (.ireturn, 1) := by decide +kernel
theorem dX2_isFinding_71 : decode cX2_isFinding 71 = .ok (.aload_n 0, 1) := by decide +kernel
theorem dX2_isFinding_72 : decode cX2_isFinding 72 = .ok (.getfield 9, 3) := by decide +kernel
theorem dX2_isFinding_75 : decode cX2_isFinding 75 = .ok (.iload_n 1, 1) := by decide +kernel
theorem dX2_isFinding_76 : decode cX2_isFinding 76 = .ok (.iaload, 1) := by decide +kernel
theorem dX2_isFinding_77 : decode cX2_isFinding 77 = .ok (.tableswitch 101 1 6 #[39, 50, 62, 73, 87, 62], 39) := by decide +kernel
theorem dX2_isFinding_116 : decode cX2_isFinding 116 = .ok (.iload 4, 2) := by decide +kernel
theorem dX2_isFinding_118 : decode cX2_isFinding 118 = .ok (.ifCond .ne 7, 3) := by decide +kernel
theorem dX2_isFinding_121 : decode cX2_isFinding 121 = .ok (.iconst 1, 1) := by decide +kernel
theorem dX2_isFinding_122 : decode cX2_isFinding 122 = .ok (.goto 4, 3) := by decide +kernel
theorem dX2_isFinding_125 : decode cX2_isFinding 125 = .ok (.iconst 0, 1) := by decide +kernel
theorem dX2_isFinding_126 : decode cX2_isFinding 126 = .ok (.ireturn, 1) := by decide +kernel
theorem dX2_isFinding_127 : decode cX2_isFinding 127 = .ok (.iload 4, 2) := by decide +kernel
theorem dX2_isFinding_129 : decode cX2_isFinding 129 = .ok (.iload_n 3, 1) := by decide +kernel
theorem dX2_isFinding_130 : decode cX2_isFinding 130 = .ok (.if_icmp .ne 7, 3) := by decide +kernel
theorem dX2_isFinding_133 : decode cX2_isFinding 133 = .ok (.iconst 1, 1) := by decide +kernel
theorem dX2_isFinding_134 : decode cX2_isFinding 134 = .ok (.goto 4, 3) := by decide +kernel
theorem dX2_isFinding_137 : decode cX2_isFinding 137 = .ok (.iconst 0, 1) := by decide +kernel
theorem dX2_isFinding_138 : decode cX2_isFinding 138 = .ok (.ireturn, 1) := by decide +kernel
theorem dX2_isFinding_139 : decode cX2_isFinding 139 = .ok (.iload 4, 2) := by decide +kernel
theorem dX2_isFinding_141 : decode cX2_isFinding 141 = .ok (.ifCond .le 7, 3) := by decide +kernel
theorem dX2_isFinding_144 : decode cX2_isFinding 144 = .ok (.iconst 1, 1) := by decide +kernel
theorem dX2_isFinding_145 : decode cX2_isFinding 145 = .ok (.goto 4, 3) := by decide +kernel
theorem dX2_isFinding_148 : decode cX2_isFinding 148 = .ok (.iconst 0, 1) := by decide +kernel
theorem dX2_isFinding_149 : decode cX2_isFinding 149 = .ok (.ireturn, 1) := by decide +kernel
theorem dX2_isFinding_150 : decode cX2_isFinding 150 = .ok (.iload 4, 2) := by decide +kernel
theorem dX2_isFinding_152 : decode cX2_isFinding 152 = .ok (.iconst 1, 1) := by decide +kernel
theorem dX2_isFinding_153 : decode cX2_isFinding 153 = .ok (.iand, 1) := by decide +kernel
theorem dX2_isFinding_154 : decode cX2_isFinding 154 = .ok (.iconst 1, 1) := by decide +kernel
theorem dX2_isFinding_155 : decode cX2_isFinding 155 = .ok (.if_icmp .ne 7, 3) := by decide +kernel
theorem dX2_isFinding_158 : decode cX2_isFinding 158 = .ok (.iconst 1, 1) := by decide +kernel
theorem dX2_isFinding_159 : decode cX2_isFinding 159 = .ok (.goto 4, 3) := by decide +kernel
theorem dX2_isFinding_162 : decode cX2_isFinding 162 = .ok (.iconst 0, 1) := by decide +kernel
theorem dX2_isFinding_163 : decode cX2_isFinding 163 = .ok (.ireturn, 1) := by decide +kernel
theorem dX2_isFinding_164 : decode cX2_isFinding 164 = .ok (.iconst 2, 1) := by decide +kernel
theorem dX2_isFinding_165 : decode cX2_isFinding 165 = .ok (.iload 4, 2) := by decide +kernel
theorem dX2_isFinding_167 : decode cX2_isFinding 167 = .ok (.imul, 1) := by decide +kernel
theorem dX2_isFinding_168 : decode cX2_isFinding 168 = .ok (.iload_n 3, 1) := by decide +kernel
theorem dX2_isFinding_169 : decode cX2_isFinding 169 = .ok (.if_icmp .le 7, 3) := by decide +kernel
theorem dX2_isFinding_172 : decode cX2_isFinding 172 = .ok (.iconst 1, 1) := by decide +kernel
theorem dX2_isFinding_173 : decode cX2_isFinding 173 = .ok (.goto 4, 3) := by decide +kernel
theorem dX2_isFinding_176 : decode cX2_isFinding 176 = .ok (.iconst 0, 1) := by decide +kernel
theorem dX2_isFinding_177 : decode cX2_isFinding 177 = .ok (.ireturn, 1) := by decide +kernel
theorem dX2_isFinding_178 : decode cX2_isFinding 178 = .ok (.iconst 0, 1) := by decide +kernel
theorem dX2_isFinding_179 : decode cX2_isFinding 179 = .ok (.ireturn, 1) := by decide +kernel
theorem dX2_glowIn_0 : decode cX2_glowIn 0 = .ok (.lload_n 0, 1) := by decide +kernel
theorem dX2_glowIn_1 : decode cX2_glowIn 1 = .ok (.ldc2_w 86, 3) := by decide +kernel
theorem dX2_glowIn_4 : decode cX2_glowIn 4 = .ok (.land, 1) := by decide +kernel
theorem dX2_glowIn_5 : decode cX2_glowIn 5 = .ok (.l2i, 1) := by decide +kernel
theorem dX2_glowIn_6 : decode cX2_glowIn 6 = .ok (.ireturn, 1) := by decide +kernel
theorem dX2_foundIn_0 : decode cX2_foundIn 0 = .ok (.lload_n 0, 1) := by decide +kernel
theorem dX2_foundIn_1 : decode cX2_foundIn 1 = .ok (.bipush 16, 2) := by decide +kernel
theorem dX2_foundIn_3 : decode cX2_foundIn 3 = .ok (.iconst 3, 1) := by decide +kernel
theorem dX2_foundIn_4 : decode cX2_foundIn 4 = .ok (.iload_n 2, 1) := by decide +kernel
theorem dX2_foundIn_5 : decode cX2_foundIn 5 = .ok (.imul, 1) := by decide +kernel
theorem dX2_foundIn_6 : decode cX2_foundIn 6 = .ok (.iadd, 1) := by decide +kernel
theorem dX2_foundIn_7 : decode cX2_foundIn 7 = .ok (.lushr, 1) := by decide +kernel
theorem dX2_foundIn_8 : decode cX2_foundIn 8 = .ok (.ldc2_w 88, 3) := by decide +kernel
theorem dX2_foundIn_11 : decode cX2_foundIn 11 = .ok (.land, 1) := by decide +kernel
theorem dX2_foundIn_12 : decode cX2_foundIn 12 = .ok (.l2i, 1) := by decide +kernel
theorem dX2_foundIn_13 : decode cX2_foundIn 13 = .ok (.ireturn, 1) := by decide +kernel
set_option maxRecDepth 20000 in
theorem ggX2_glow_X2_glowIn : GoodIn wsX2_glow wsX2_glowIn := goodIn_r _ [5, 6] (by decide +kernel) (by decide +kernel)
set_option maxRecDepth 20000 in
theorem gX2_glow_X2_glowIn : GoodIn wsX2_glow (va_wsS RX2 68 yX2_glowIn wsX2_glowIn) := goodIn_app (goodIn_of _ (by decide +kernel)) ggX2_glow_X2_glowIn
theorem dX2_glow_0 : decode cX2_glow 0 = .ok (.aload_n 0, 1) := by decide +kernel
theorem dX2_glow_1 : decode cX2_glow 1 = .ok (.getfield 44, 3) := by decide +kernel
theorem dX2_glow_4 : decode cX2_glow 4 = .ok (.invokestatic 68, 3) := by decide +kernel
theorem dX2_glow_7 : decode cX2_glow 7 = .ok (.ireturn, 1) := by decide +kernel
set_option maxRecDepth 20000 in
theorem ggX2_isGlowing_X2_glow : GoodIn wsX2_isGlowing wsX2_glow := goodIn_r _ [5, 6, 7, 8, 4, 9, 10, 14, 15, 16, 17, 18, 19, 20, 21, 22, 23] (by decide +kernel) (by decide +kernel)
set_option maxRecDepth 20000 in
theorem gX2_isGlowing_X2_glow : GoodIn wsX2_isGlowing (wsV RX2 90 RX2 yX2_glow wsX2_glow) := goodIn_app (goodIn_of _ (by decide +kernel)) ggX2_isGlowing_X2_glow
set_option maxRecDepth 20000 in
theorem ggX2_isGlowing_X9_isIn : GoodIn wsX2_isGlowing wsX9_isIn := goodIn_r _ [13] (by decide +kernel) (by decide +kernel)
set_option maxRecDepth 20000 in
theorem gX2_isGlowing_X9_isIn_n94 : GoodIn wsX2_isGlowing (wsX9_isIn) := ggX2_isGlowing_X9_isIn
theorem dX2_isGlowing_0 : decode cX2_isGlowing 0 = .ok (.aload_n 0, 1) := by decide +kernel
theorem dX2_isGlowing_1 : decode cX2_isGlowing 1 = .ok (.invokevirtual 90, 3) := by decide +kernel
theorem dX2_isGlowing_4 : decode cX2_isGlowing 4 = .ok (.iload_n 1, 1) := by decide +kernel
theorem dX2_isGlowing_5 : decode cX2_isGlowing 5 = .ok (.invokestatic 94, 3) := by decide +kernel
theorem dX2_isGlowing_8 : decode cX2_isGlowing 8 = .ok (.ireturn, 1) := by decide +kernel
set_option maxRecDepth 20000 in
theorem ggX2_switches_X2_isSwitch : GoodIn wsX2_switches wsX2_isSwitch := goodIn_r _ [6, 7, 8, 9, 10, 5, 11, 1, 12, 13, 14, 15, 16, 17, 18, 19, 20, 21] (by decide +kernel) (by decide +kernel)
set_option maxRecDepth 20000 in
theorem gX2_switches_X2_isSwitch : GoodIn wsX2_switches (wsV RX2 97 RX2 yX2_isSwitch wsX2_isSwitch) := goodIn_app (goodIn_of _ (by decide +kernel)) ggX2_switches_X2_isSwitch
theorem dX2_switches_0 : decode cX2_switches 0 = .ok (.iconst 0, 1) := by decide +kernel
theorem dX2_switches_1 : decode cX2_switches 1 = .ok (.istore_n 1, 1) := by decide +kernel
theorem dX2_switches_2 : decode cX2_switches 2 = .ok (.iconst 0, 1) := by decide +kernel
theorem dX2_switches_3 : decode cX2_switches 3 = .ok (.istore_n 2, 1) := by decide +kernel
theorem dX2_switches_4 : decode cX2_switches 4 = .ok (.iload_n 2, 1) := by decide +kernel
theorem dX2_switches_5 : decode cX2_switches 5 = .ok (.aload_n 0, 1) := by decide +kernel
theorem dX2_switches_6 : decode cX2_switches 6 = .ok (.getfield 34, 3) := by decide +kernel
theorem dX2_switches_9 : decode cX2_switches 9 = .ok (.if_icmp .ge 23, 3) := by decide +kernel
theorem dX2_switches_12 : decode cX2_switches 12 = .ok (.aload_n 0, 1) := by decide +kernel
theorem dX2_switches_13 : decode cX2_switches 13 = .ok (.iload_n 2, 1) := by decide +kernel
theorem dX2_switches_14 : decode cX2_switches 14 = .ok (.invokevirtual 97, 3) := by decide +kernel
theorem dX2_switches_17 : decode cX2_switches 17 = .ok (.ifCond .eq 9, 3) := by decide +kernel
theorem dX2_switches_20 : decode cX2_switches 20 = .ok (.iload_n 1, 1) := by decide +kernel
theorem dX2_switches_21 : decode cX2_switches 21 = .ok (.iconst 1, 1) := by decide +kernel
theorem dX2_switches_22 : decode cX2_switches 22 = .ok (.iload_n 2, 1) := by decide +kernel
theorem dX2_switches_23 : decode cX2_switches 23 = .ok (.ishl, 1) := by decide +kernel
theorem dX2_switches_24 : decode cX2_switches 24 = .ok (.ior, 1) := by decide +kernel
theorem dX2_switches_25 : decode cX2_switches 25 = .ok (.istore_n 1, 1) := by decide +kernel
theorem dX2_switches_26 : decode cX2_switches 26 = .ok (.iinc 2 1, 3) := by decide +kernel
theorem dX2_switches_29 : decode cX2_switches 29 = .ok (.goto (-25), 3) := by decide +kernel
theorem dX2_switches_32 : decode cX2_switches 32 = .ok (.iload_n 1, 1) := by decide +kernel
theorem dX2_switches_33 : decode cX2_switches 33 = .ok (.ireturn, 1) := by decide +kernel
theorem dX2_sourcesOf_0 : decode cX2_sourcesOf 0 = .ok (.iload_n 1, 1) := by decide +kernel
theorem dX2_sourcesOf_1 : decode cX2_sourcesOf 1 = .ok (.ifCond .lt 9, 3) := by decide +kernel
theorem dX2_sourcesOf_4 : decode cX2_sourcesOf 4 = .ok (.iload_n 1, 1) := by decide +kernel
theorem dX2_sourcesOf_5 : decode cX2_sourcesOf 5 = .ok (.bipush 16, 2) := by decide +kernel
theorem dX2_sourcesOf_7 : decode cX2_sourcesOf 7 = .ok (.if_icmp .lt 5, 3) := by decide +kernel
theorem dX2_sourcesOf_10 : decode cX2_sourcesOf 10 = .ok (.iconst 0, 1) := by decide +kernel
theorem dX2_sourcesOf_11 : decode cX2_sourcesOf 11 = .ok (.ireturn, 1) := by decide +kernel
theorem dX2_sourcesOf_12 : decode cX2_sourcesOf 12 = .ok (.iconst 0, 1) := by decide +kernel
theorem dX2_sourcesOf_13 : decode cX2_sourcesOf 13 = .ok (.istore_n 2, 1) := by decide +kernel
theorem dX2_sourcesOf_14 : decode cX2_sourcesOf 14 = .ok (.iconst 0, 1) := by decide +kernel
theorem dX2_sourcesOf_15 : decode cX2_sourcesOf 15 = .ok (.istore_n 3, 1) := by decide +kernel
theorem dX2_sourcesOf_16 : decode cX2_sourcesOf 16 = .ok (.iload_n 3, 1) := by decide +kernel
theorem dX2_sourcesOf_17 : decode cX2_sourcesOf 17 = .ok (.iconst 3, 1) := by decide +kernel
theorem dX2_sourcesOf_18 : decode cX2_sourcesOf 18 = .ok (.if_icmp .ge 38, 3) := by decide +kernel
theorem dX2_sourcesOf_21 : decode cX2_sourcesOf 21 = .ok (.aload_n 0, 1) := by decide +kernel
theorem dX2_sourcesOf_22 : decode cX2_sourcesOf 22 = .ok (.getfield 18, 3) := by decide +kernel
theorem dX2_sourcesOf_25 : decode cX2_sourcesOf 25 = .ok (.iload_n 1, 1) := by decide +kernel
theorem dX2_sourcesOf_26 : decode cX2_sourcesOf 26 = .ok (.iconst 3, 1) := by decide +kernel
theorem dX2_sourcesOf_27 : decode cX2_sourcesOf 27 = .ok (.imul, 1) := by decide +kernel
theorem dX2_sourcesOf_28 : decode cX2_sourcesOf 28 = .ok (.iload_n 3, 1) := by decide +kernel
theorem dX2_sourcesOf_29 : decode cX2_sourcesOf 29 = .ok (.iadd, 1) := by decide +kernel
theorem dX2_sourcesOf_30 : decode cX2_sourcesOf 30 = .ok (.iaload, 1) := by decide +kernel
theorem dX2_sourcesOf_31 : decode cX2_sourcesOf 31 = .ok (.istore 4, 2) := by decide +kernel
theorem dX2_sourcesOf_33 : decode cX2_sourcesOf 33 = .ok (.iload_n 2, 1) := by decide +kernel
theorem dX2_sourcesOf_34 : decode cX2_sourcesOf 34 = .ok (.iload 4, 2) := by decide +kernel
theorem dX2_sourcesOf_36 : decode cX2_sourcesOf 36 = .ok (.iconst (-1), 1) := by decide +kernel
theorem dX2_sourcesOf_37 : decode cX2_sourcesOf 37 = .ok (.if_icmp .ne 7, 3) := by decide +kernel
theorem dX2_sourcesOf_40 : decode cX2_sourcesOf 40 = .ok (.iconst 0, 1) := by decide +kernel
theorem dX2_sourcesOf_41 : decode cX2_sourcesOf 41 = .ok (.goto 7, 3) := by decide +kernel
theorem dX2_sourcesOf_44 : decode cX2_sourcesOf 44 = .ok (.iconst 1, 1) := by decide +kernel
theorem dX2_sourcesOf_45 : decode cX2_sourcesOf 45 = .ok (.iload 4, 2) := by decide +kernel
theorem dX2_sourcesOf_47 : decode cX2_sourcesOf 47 = .ok (.ishl, 1) := by decide +kernel
theorem dX2_sourcesOf_48 : decode cX2_sourcesOf 48 = .ok (.ior, 1) := by decide +kernel
theorem dX2_sourcesOf_49 : decode cX2_sourcesOf 49 = .ok (.istore_n 2, 1) := by decide +kernel
theorem dX2_sourcesOf_50 : decode cX2_sourcesOf 50 = .ok (.iinc 3 1, 3) := by decide +kernel
theorem dX2_sourcesOf_53 : decode cX2_sourcesOf 53 = .ok (.goto (-37), 3) := by decide +kernel
theorem dX2_sourcesOf_56 : decode cX2_sourcesOf 56 = .ok (.iload_n 2, 1) := by decide +kernel
theorem dX2_sourcesOf_57 : decode cX2_sourcesOf 57 = .ok (.ireturn, 1) := by decide +kernel
set_option maxRecDepth 20000 in
theorem ggX2_wiresTo_X2_sourceOf : GoodIn wsX2_wiresTo wsX2_sourceOf := goodIn_r _ [5, 6, 7, 8, 9, 10, 11, 12, 13, 14, 15, 16] (by decide +kernel) (by decide +kernel)
set_option maxRecDepth 20000 in
theorem gX2_wiresTo_X2_sourceOf : GoodIn wsX2_wiresTo (wsV RX2 100 RX2 yX2_sourceOf wsX2_sourceOf) := goodIn_app (goodIn_of _ (by decide +kernel)) ggX2_wiresTo_X2_sourceOf
theorem dX2_wiresTo_0 : decode cX2_wiresTo 0 = .ok (.iconst 0, 1) := by decide +kernel
theorem dX2_wiresTo_1 : decode cX2_wiresTo 1 = .ok (.istore_n 2, 1) := by decide +kernel
theorem dX2_wiresTo_2 : decode cX2_wiresTo 2 = .ok (.iconst 0, 1) := by decide +kernel
theorem dX2_wiresTo_3 : decode cX2_wiresTo 3 = .ok (.istore_n 3, 1) := by decide +kernel
theorem dX2_wiresTo_4 : decode cX2_wiresTo 4 = .ok (.iload_n 3, 1) := by decide +kernel
theorem dX2_wiresTo_5 : decode cX2_wiresTo 5 = .ok (.iconst 3, 1) := by decide +kernel
theorem dX2_wiresTo_6 : decode cX2_wiresTo 6 = .ok (.if_icmp .ge 22, 3) := by decide +kernel
theorem dX2_wiresTo_9 : decode cX2_wiresTo 9 = .ok (.aload_n 0, 1) := by decide +kernel
theorem dX2_wiresTo_10 : decode cX2_wiresTo 10 = .ok (.iload_n 1, 1) := by decide +kernel
theorem dX2_wiresTo_11 : decode cX2_wiresTo 11 = .ok (.iload_n 3, 1) := by decide +kernel
theorem dX2_wiresTo_12 : decode cX2_wiresTo 12 = .ok (.invokevirtual 100, 3) := by decide +kernel
theorem dX2_wiresTo_15 : decode cX2_wiresTo 15 = .ok (.iconst (-1), 1) := by decide +kernel
theorem dX2_wiresTo_16 : decode cX2_wiresTo 16 = .ok (.if_icmp .eq 6, 3) := by decide +kernel
theorem dX2_wiresTo_19 : decode cX2_wiresTo 19 = .ok (.iinc 2 1, 3) := by decide +kernel
theorem dX2_wiresTo_22 : decode cX2_wiresTo 22 = .ok (.iinc 3 1, 3) := by decide +kernel
theorem dX2_wiresTo_25 : decode cX2_wiresTo 25 = .ok (.goto (-21), 3) := by decide +kernel
theorem dX2_wiresTo_28 : decode cX2_wiresTo 28 = .ok (.iload_n 2, 1) := by decide +kernel
theorem dX2_wiresTo_29 : decode cX2_wiresTo 29 = .ok (.ireturn, 1) := by decide +kernel
theorem dX2_wiresFrom_0 : decode cX2_wiresFrom 0 = .ok (.iconst 0, 1) := by decide +kernel
theorem dX2_wiresFrom_1 : decode cX2_wiresFrom 1 = .ok (.istore_n 2, 1) := by decide +kernel
theorem dX2_wiresFrom_2 : decode cX2_wiresFrom 2 = .ok (.iconst 0, 1) := by decide +kernel
theorem dX2_wiresFrom_3 : decode cX2_wiresFrom 3 = .ok (.istore_n 3, 1) := by decide +kernel
theorem dX2_wiresFrom_4 : decode cX2_wiresFrom 4 = .ok (.iload_n 3, 1) := by decide +kernel
theorem dX2_wiresFrom_5 : decode cX2_wiresFrom 5 = .ok (.bipush 48, 2) := by decide +kernel
theorem dX2_wiresFrom_7 : decode cX2_wiresFrom 7 = .ok (.if_icmp .ge 22, 3) := by decide +kernel
theorem dX2_wiresFrom_10 : decode cX2_wiresFrom 10 = .ok (.aload_n 0, 1) := by decide +kernel
theorem dX2_wiresFrom_11 : decode cX2_wiresFrom 11 = .ok (.getfield 18, 3) := by decide +kernel
theorem dX2_wiresFrom_14 : decode cX2_wiresFrom 14 = .ok (.iload_n 3, 1) := by decide +kernel
theorem dX2_wiresFrom_15 : decode cX2_wiresFrom 15 = .ok (.iaload, 1) := by decide +kernel
theorem dX2_wiresFrom_16 : decode cX2_wiresFrom 16 = .ok (.iload_n 1, 1) := by decide +kernel
theorem dX2_wiresFrom_17 : decode cX2_wiresFrom 17 = .ok (.if_icmp .ne 6, 3) := by decide +kernel
theorem dX2_wiresFrom_20 : decode cX2_wiresFrom 20 = .ok (.iinc 2 1, 3) := by decide +kernel
theorem dX2_wiresFrom_23 : decode cX2_wiresFrom 23 = .ok (.iinc 3 1, 3) := by decide +kernel
theorem dX2_wiresFrom_26 : decode cX2_wiresFrom 26 = .ok (.goto (-22), 3) := by decide +kernel
theorem dX2_wiresFrom_29 : decode cX2_wiresFrom 29 = .ok (.iload_n 2, 1) := by decide +kernel
theorem dX2_wiresFrom_30 : decode cX2_wiresFrom 30 = .ok (.ireturn, 1) := by decide +kernel
set_option maxRecDepth 20000 in
theorem ggX2_wires_X2_wiresTo : GoodIn wsX2_wires wsX2_wiresTo := goodIn_r _ [6, 7, 8, 9, 5, 10, 11, 12, 13, 14, 15, 16, 17, 18, 19, 20, 21] (by decide +kernel) (by decide +kernel)
set_option maxRecDepth 20000 in
theorem gX2_wires_X2_wiresTo : GoodIn wsX2_wires (wsV RX2 104 RX2 yX2_wiresTo wsX2_wiresTo) := goodIn_app (goodIn_of _ (by decide +kernel)) ggX2_wires_X2_wiresTo
theorem dX2_wires_0 : decode cX2_wires 0 = .ok (.iconst 0, 1) := by decide +kernel
theorem dX2_wires_1 : decode cX2_wires 1 = .ok (.istore_n 1, 1) := by decide +kernel
theorem dX2_wires_2 : decode cX2_wires 2 = .ok (.iconst 0, 1) := by decide +kernel
theorem dX2_wires_3 : decode cX2_wires 3 = .ok (.istore_n 2, 1) := by decide +kernel
theorem dX2_wires_4 : decode cX2_wires 4 = .ok (.iload_n 2, 1) := by decide +kernel
theorem dX2_wires_5 : decode cX2_wires 5 = .ok (.aload_n 0, 1) := by decide +kernel
theorem dX2_wires_6 : decode cX2_wires 6 = .ok (.getfield 34, 3) := by decide +kernel
theorem dX2_wires_9 : decode cX2_wires 9 = .ok (.if_icmp .ge 17, 3) := by decide +kernel
theorem dX2_wires_12 : decode cX2_wires 12 = .ok (.iload_n 1, 1) := by decide +kernel
theorem dX2_wires_13 : decode cX2_wires 13 = .ok (.aload_n 0, 1) := by decide +kernel
theorem dX2_wires_14 : decode cX2_wires 14 = .ok (.iload_n 2, 1) := by decide +kernel
theorem dX2_wires_15 : decode cX2_wires 15 = .ok (.invokevirtual 104, 3) := by decide +kernel
theorem dX2_wires_18 : decode cX2_wires 18 = .ok (.iadd, 1) := by decide +kernel
theorem dX2_wires_19 : decode cX2_wires 19 = .ok (.istore_n 1, 1) := by decide +kernel
theorem dX2_wires_20 : decode cX2_wires 20 = .ok (.iinc 2 1, 3) := by decide +kernel
theorem dX2_wires_23 : decode cX2_wires 23 = .ok (.goto (-19), 3) := by decide +kernel
theorem dX2_wires_26 : decode cX2_wires 26 = .ok (.iload_n 1, 1) := by decide +kernel
theorem dX2_wires_27 : decode cX2_wires 27 = .ok (.ireturn, 1) := by decide +kernel
set_option maxRecDepth 20000 in
theorem ggX2_changes_X2_changesOf : GoodIn wsX2_changes wsX2_changesOf := goodIn_r _ [6, 7, 8, 9, 10, 5, 11, 1, 12, 13, 14, 15, 16, 17, 18, 19, 20, 21] (by decide +kernel) (by decide +kernel)
set_option maxRecDepth 20000 in
theorem gX2_changes_X2_changesOf : GoodIn wsX2_changes (wsV RX2 107 RX2 yX2_changesOf wsX2_changesOf) := goodIn_app (goodIn_of _ (by decide +kernel)) ggX2_changes_X2_changesOf
theorem dX2_changes_0 : decode cX2_changes 0 = .ok (.iconst 0, 1) := by decide +kernel
theorem dX2_changes_1 : decode cX2_changes 1 = .ok (.istore_n 1, 1) := by decide +kernel
theorem dX2_changes_2 : decode cX2_changes 2 = .ok (.iconst 0, 1) := by decide +kernel
theorem dX2_changes_3 : decode cX2_changes 3 = .ok (.istore_n 2, 1) := by decide +kernel
theorem dX2_changes_4 : decode cX2_changes 4 = .ok (.iload_n 2, 1) := by decide +kernel
theorem dX2_changes_5 : decode cX2_changes 5 = .ok (.aload_n 0, 1) := by decide +kernel
theorem dX2_changes_6 : decode cX2_changes 6 = .ok (.getfield 34, 3) := by decide +kernel
theorem dX2_changes_9 : decode cX2_changes 9 = .ok (.if_icmp .ge 17, 3) := by decide +kernel
theorem dX2_changes_12 : decode cX2_changes 12 = .ok (.iload_n 1, 1) := by decide +kernel
theorem dX2_changes_13 : decode cX2_changes 13 = .ok (.aload_n 0, 1) := by decide +kernel
theorem dX2_changes_14 : decode cX2_changes 14 = .ok (.iload_n 2, 1) := by decide +kernel
theorem dX2_changes_15 : decode cX2_changes 15 = .ok (.invokevirtual 107, 3) := by decide +kernel
theorem dX2_changes_18 : decode cX2_changes 18 = .ok (.iadd, 1) := by decide +kernel
theorem dX2_changes_19 : decode cX2_changes 19 = .ok (.istore_n 1, 1) := by decide +kernel
theorem dX2_changes_20 : decode cX2_changes 20 = .ok (.iinc 2 1, 3) := by decide +kernel
theorem dX2_changes_23 : decode cX2_changes 23 = .ok (.goto (-19), 3) := by decide +kernel
theorem dX2_changes_26 : decode cX2_changes 26 = .ok (.iload_n 1, 1) := by decide +kernel
theorem dX2_changes_27 : decode cX2_changes 27 = .ok (.ireturn, 1) := by decide +kernel
theorem dX3_init_0 : decode cX3_init 0 = .ok (.aload_n 0, 1) := by decide +kernel
theorem dX3_init_1 : decode cX3_init 1 = .ok (.invokespecial 3, 3) := by decide +kernel
theorem dX3_init_4 : decode cX3_init 4 = .ok (.aload_n 0, 1) := by decide +kernel
theorem dX3_init_5 : decode cX3_init 5 = .ok (.bipush 32, 2) := by decide +kernel
theorem dX3_init_7 : decode cX3_init 7 = .ok (.newarray .char, 2) := by decide +kernel
theorem dX3_init_9 : decode cX3_init 9 = .ok (.putfield 9, 3) := by decide +kernel
theorem dX3_init_12 : decode cX3_init 12 = .ok (.return_, 1) := by decide +kernel
theorem dX3_length_0 : decode cX3_length 0 = .ok (.aload_n 0, 1) := by decide +kernel
theorem dX3_length_1 : decode cX3_length 1 = .ok (.getfield 15, 3) := by decide +kernel
theorem dX3_length_4 : decode cX3_length 4 = .ok (.ireturn, 1) := by decide +kernel
theorem dX3_empty_0 : decode cX3_empty 0 = .ok (.aload_n 0, 1) := by decide +kernel
theorem dX3_empty_1 : decode cX3_empty 1 = .ok (.iconst 0, 1) := by decide +kernel
theorem dX3_empty_2 : decode cX3_empty 2 = .ok (.putfield 15, 3) := by decide +kernel
theorem dX3_empty_5 : decode cX3_empty 5 = .ok (.return_, 1) := by decide +kernel
theorem dX3_add_0 : decode cX3_add 0 = .ok (.aload_n 0, 1) := by decide +kernel
theorem dX3_add_1 : decode cX3_add 1 = .ok (.getfield 15, 3) := by decide +kernel
theorem dX3_add_4 : decode cX3_add 4 = .ok (.ifCond .lt 32, 3) := by decide +kernel
theorem dX3_add_7 : decode cX3_add 7 = .ok (.aload_n 0, 1) := by decide +kernel
theorem dX3_add_8 : decode cX3_add 8 = .ok (.getfield 15, 3) := by decide +kernel
theorem dX3_add_11 : decode cX3_add 11 = .ok (.bipush 32, 2) := by decide +kernel
theorem dX3_add_13 : decode cX3_add 13 = .ok (.if_icmp .ge 23, 3) := by decide +kernel
theorem dX3_add_16 : decode cX3_add 16 = .ok (.aload_n 0, 1) := by decide +kernel
theorem dX3_add_17 : decode cX3_add 17 = .ok (.getfield 9, 3) := by decide +kernel
theorem dX3_add_20 : decode cX3_add 20 = .ok (.aload_n 0, 1) := by decide +kernel
theorem dX3_add_21 : decode cX3_add 21 = .ok (.getfield 15, 3) := by decide +kernel
theorem dX3_add_24 : decode cX3_add 24 = .ok (.iload_n 1, 1) := by decide +kernel
theorem dX3_add_25 : decode cX3_add 25 = .ok (.castore, 1) := by decide +kernel
theorem dX3_add_26 : decode cX3_add 26 = .ok (.aload_n 0, 1) := by decide +kernel
theorem dX3_add_27 : decode cX3_add 27 = .ok (.dup, 1) := by decide +kernel
theorem dX3_add_28 : decode cX3_add 28 = .ok (.getfield 15, 3) := by decide +kernel
theorem dX3_add_31 : decode cX3_add 31 = .ok (.iconst 1, 1) := by decide +kernel
theorem dX3_add_32 : decode cX3_add 32 = .ok (.iadd, 1) := by decide +kernel
theorem dX3_add_33 : decode cX3_add 33 = .ok (.putfield 15, 3) := by decide +kernel
theorem dX3_add_36 : decode cX3_add 36 = .ok (.return_, 1) := by decide +kernel
set_option maxRecDepth 20000 in
theorem ggX3_addNumber_X3_add : GoodIn wsX3_addNumber wsX3_add := goodIn_r _ [5, 6, 7, 8, 9] (by decide +kernel) (by decide +kernel)
set_option maxRecDepth 20000 in
theorem gX3_addNumber_X3_add : GoodIn wsX3_addNumber (wsV RX3 19 RX3 yX3_add wsX3_add) := goodIn_app (goodIn_of _ (by decide +kernel)) ggX3_addNumber_X3_add
theorem dX3_addNumber_0 : decode cX3_addNumber 0 = .ok (.iload_n 1, 1) := by decide +kernel
theorem dX3_addNumber_1 : decode cX3_addNumber 1 = .ok (.bipush 10, 2) := by decide +kernel
theorem dX3_addNumber_3 : decode cX3_addNumber 3 = .ok (.if_icmp .lt 15, 3) := by decide +kernel
theorem dX3_addNumber_6 : decode cX3_addNumber 6 = .ok (.aload_n 0, 1) := by decide +kernel
theorem dX3_addNumber_7 : decode cX3_addNumber 7 = .ok (.bipush 48, 2) := by decide +kernel
theorem dX3_addNumber_9 : decode cX3_addNumber 9 = .ok (.iload_n 1, 1) := by decide +kernel
theorem dX3_addNumber_10 : decode cX3_addNumber 10 = .ok (.bipush 10, 2) := by decide +kernel
theorem dX3_addNumber_12 : decode cX3_addNumber 12 = .ok (.idiv, 1) := by decide +kernel
theorem dX3_addNumber_13 : decode cX3_addNumber 13 = .ok (.iadd, 1) := by decide +kernel
theorem dX3_addNumber_14 : decode cX3_addNumber 14 = .ok (.i2c, 1) := by decide +kernel
theorem dX3_addNumber_15 : decode cX3_addNumber 15 = .ok (.invokevirtual 19, 3) := by decide +kernel
theorem dX3_addNumber_18 : decode cX3_addNumber 18 = .ok (.aload_n 0, 1) := by decide +kernel
theorem dX3_addNumber_19 : decode cX3_addNumber 19 = .ok (.bipush 48, 2) := by decide +kernel
theorem dX3_addNumber_21 : decode cX3_addNumber 21 = .ok (.iload_n 1, 1) := by decide +kernel
theorem dX3_addNumber_22 : decode cX3_addNumber 22 = .ok (.bipush 10, 2) := by decide +kernel
theorem dX3_addNumber_24 : decode cX3_addNumber 24 = .ok (.irem, 1) := by decide +kernel
theorem dX3_addNumber_25 : decode cX3_addNumber 25 = .ok (.iadd, 1) := by decide +kernel
theorem dX3_addNumber_26 : decode cX3_addNumber 26 = .ok (.i2c, 1) := by decide +kernel
theorem dX3_addNumber_27 : decode cX3_addNumber 27 = .ok (.invokevirtual 19, 3) := by decide +kernel
theorem dX3_addNumber_30 : decode cX3_addNumber 30 = .ok (.return_, 1) := by decide +kernel
set_option maxRecDepth 20000 in
theorem ggX3_addWord_J0_length_8abf5 : GoodIn wsX3_addWord wsJ0_length_8abf5 := goodIn_r _ [5, 6, 7, 8, 9, 4, 10, 11, 12, 57, 58, 59, 60] (by decide +kernel) (by decide +kernel)
set_option maxRecDepth 20000 in
theorem gX3_addWord_J0_length_8abf5 : GoodIn wsX3_addWord (wsV RX3 23 RJ0 yJ0_length_8abf5 wsJ0_length_8abf5) := goodIn_app (goodIn_of _ (by decide +kernel)) ggX3_addWord_J0_length_8abf5
set_option maxRecDepth 20000 in
theorem ggX3_addWord_J0_charAt_5068e : GoodIn wsX3_addWord wsJ0_charAt_5068e := goodIn_r _ [16, 6, 17, 18, 19, 4, 20, 11, 12, 21, 22, 23, 24, 25, 26, 27, 28, 29, 30, 31, 32, 33, 34, 35, 36, 37, 38, 39, 40, 41, 42, 43, 44, 45, 46, 47, 48, 49, 57, 58, 59, 60] (by decide +kernel) (by decide +kernel)
set_option maxRecDepth 20000 in
theorem gX3_addWord_J0_charAt_5068e : GoodIn wsX3_addWord (wsV RX3 28 RJ0 yJ0_charAt_5068e wsJ0_charAt_5068e) := goodIn_app (goodIn_of _ (by decide +kernel)) ggX3_addWord_J0_charAt_5068e
set_option maxRecDepth 20000 in
theorem ggX3_addWord_X3_add : GoodIn wsX3_addWord wsX3_add := goodIn_r _ [54, 55, 56, 61, 62] (by decide +kernel) (by decide +kernel)
set_option maxRecDepth 20000 in
theorem gX3_addWord_X3_add : GoodIn wsX3_addWord (wsV RX3 19 RX3 yX3_add wsX3_add) := goodIn_app (goodIn_of _ (by decide +kernel)) ggX3_addWord_X3_add
theorem dX3_addWord_0 : decode cX3_addWord 0 = .ok (.iconst 0, 1) := by decide +kernel
theorem dX3_addWord_1 : decode cX3_addWord 1 = .ok (.istore_n 2, 1) := by decide +kernel
theorem dX3_addWord_2 : decode cX3_addWord 2 = .ok (.iload_n 2, 1) := by decide +kernel
theorem dX3_addWord_3 : decode cX3_addWord 3 = .ok (.aload_n 1, 1) := by decide +kernel
theorem dX3_addWord_4 : decode cX3_addWord 4 = .ok (.invokevirtual 23, 3) := by decide +kernel
theorem dX3_addWord_7 : decode cX3_addWord 7 = .ok (.if_icmp .ge 18, 3) := by decide +kernel
theorem dX3_addWord_10 : decode cX3_addWord 10 = .ok (.aload_n 0, 1) := by decide +kernel
theorem dX3_addWord_11 : decode cX3_addWord 11 = .ok (.aload_n 1, 1) := by decide +kernel
theorem dX3_addWord_12 : decode cX3_addWord 12 = .ok (.iload_n 2, 1) := by decide +kernel
theorem dX3_addWord_13 : decode cX3_addWord 13 = .ok (.invokevirtual 28, 3) := by decide +kernel
theorem dX3_addWord_16 : decode cX3_addWord 16 = .ok (.invokevirtual 19, 3) := by decide +kernel
theorem dX3_addWord_19 : decode cX3_addWord 19 = .ok (.iinc 2 1, 3) := by decide +kernel
theorem dX3_addWord_22 : decode cX3_addWord 22 = .ok (.goto (-20), 3) := by decide +kernel
theorem dX3_addWord_25 : decode cX3_addWord 25 = .ok (.return_, 1) := by decide +kernel
theorem dX3_codeAt_0 : decode cX3_codeAt 0 = .ok (.iload_n 1, 1) := by decide +kernel
theorem dX3_codeAt_1 : decode cX3_codeAt 1 = .ok (.ifCond .lt 26, 3) := by decide +kernel
theorem dX3_codeAt_4 : decode cX3_codeAt 4 = .ok (.iload_n 1, 1) := by decide +kernel
theorem dX3_codeAt_5 : decode cX3_codeAt 5 = .ok (.aload_n 0, 1) := by decide +kernel
theorem dX3_codeAt_6 : decode cX3_codeAt 6 = .ok (.getfield 15, 3) := by decide +kernel
theorem dX3_codeAt_9 : decode cX3_codeAt 9 = .ok (.if_icmp .ge 18, 3) := by decide +kernel
theorem dX3_codeAt_12 : decode cX3_codeAt 12 = .ok (.iload_n 1, 1) := by decide +kernel
theorem dX3_codeAt_13 : decode cX3_codeAt 13 = .ok (.bipush 32, 2) := by decide +kernel
theorem dX3_codeAt_15 : decode cX3_codeAt 15 = .ok (.if_icmp .ge 12, 3) := by decide +kernel
theorem dX3_codeAt_18 : decode cX3_codeAt 18 = .ok (.aload_n 0, 1) := by decide +kernel
theorem dX3_codeAt_19 : decode cX3_codeAt 19 = .ok (.getfield 9, 3) := by decide +kernel
theorem dX3_codeAt_22 : decode cX3_codeAt 22 = .ok (.iload_n 1, 1) := by decide +kernel
theorem dX3_codeAt_23 : decode cX3_codeAt 23 = .ok (.caload, 1) := by decide +kernel
theorem dX3_codeAt_24 : decode cX3_codeAt 24 = .ok (.goto 5, 3) := by decide +kernel
theorem dX3_codeAt_27 : decode cX3_codeAt 27 = .ok (.bipush (-11), 2) := by decide +kernel
theorem dX3_codeAt_29 : decode cX3_codeAt 29 = .ok (.ireturn, 1) := by decide +kernel
set_option maxRecDepth 20000 in
theorem ggX4_init_X2_init : GoodIn wsX4_init wsX2_init := goodIn_r _ [10, 11, 2, 3, 12, 13, 14, 15, 16, 17, 18, 19, 20, 21, 25, 26, 27, 28, 29, 30, 31, 32, 33, 34] (by decide +kernel) (by decide +kernel)
set_option maxRecDepth 20000 in
theorem gX4_init_X2_init : GoodIn wsX4_init (wsX2_init) := ggX4_init_X2_init
theorem dX4_init_0 : decode cX4_init 0 = .ok (.aload_n 0, 1) := by decide +kernel
theorem dX4_init_1 : decode cX4_init 1 = .ok (.invokespecial 3, 3) := by decide +kernel
theorem dX4_init_4 : decode cX4_init 4 = .ok (.aload_n 0, 1) := by decide +kernel
theorem dX4_init_5 : decode cX4_init 5 = .ok (.bipush 9, 2) := by decide +kernel
theorem dX4_init_7 : decode cX4_init 7 = .ok (.anewarray 9, 3) := by decide +kernel
theorem dX4_init_10 : decode cX4_init 10 = .ok (.putfield 11, 3) := by decide +kernel
theorem dX4_init_13 : decode cX4_init 13 = .ok (.iconst 0, 1) := by decide +kernel
theorem dX4_init_14 : decode cX4_init 14 = .ok (.istore_n 1, 1) := by decide +kernel
theorem dX4_init_15 : decode cX4_init 15 = .ok (.iload_n 1, 1) := by decide +kernel
theorem dX4_init_16 : decode cX4_init 16 = .ok (.bipush 8, 2) := by decide +kernel
theorem dX4_init_18 : decode cX4_init 18 = .ok (.if_icmp .gt 22, 3) := by decide +kernel
theorem dX4_init_21 : decode cX4_init 21 = .ok (.aload_n 0, 1) := by decide +kernel
theorem dX4_init_22 : decode cX4_init 22 = .ok (.getfield 11, 3) := by decide +kernel
theorem dX4_init_25 : decode cX4_init 25 = .ok (.iload_n 1, 1) := by decide +kernel
theorem dX4_init_26 : decode cX4_init 26 = .ok (.new 9, 3) := by decide +kernel
theorem dX4_init_29 : decode cX4_init 29 = .ok (.dup, 1) := by decide +kernel
theorem dX4_init_30 : decode cX4_init 30 = .ok (.invokespecial 17, 3) := by decide +kernel
theorem dX4_init_33 : decode cX4_init 33 = .ok (.aastore, 1) := by decide +kernel
theorem dX4_init_34 : decode cX4_init 34 = .ok (.iinc 1 1, 3) := by decide +kernel
theorem dX4_init_37 : decode cX4_init 37 = .ok (.goto (-22), 3) := by decide +kernel
theorem dX4_init_40 : decode cX4_init 40 = .ok (.return_, 1) := by decide +kernel
theorem dX4_undoable_0 : decode cX4_undoable 0 = .ok (.aload_n 0, 1) := by decide +kernel
theorem dX4_undoable_1 : decode cX4_undoable 1 = .ok (.getfield 18, 3) := by decide +kernel
theorem dX4_undoable_4 : decode cX4_undoable 4 = .ok (.ireturn, 1) := by decide +kernel
theorem dX4_atTop_0 : decode cX4_atTop 0 = .ok (.aload_n 0, 1) := by decide +kernel
theorem dX4_atTop_1 : decode cX4_atTop 1 = .ok (.getfield 22, 3) := by decide +kernel
theorem dX4_atTop_4 : decode cX4_atTop 4 = .ok (.ifCond .lt 24, 3) := by decide +kernel
theorem dX4_atTop_7 : decode cX4_atTop 7 = .ok (.aload_n 0, 1) := by decide +kernel
theorem dX4_atTop_8 : decode cX4_atTop 8 = .ok (.getfield 22, 3) := by decide +kernel
theorem dX4_atTop_11 : decode cX4_atTop 11 = .ok (.bipush 8, 2) := by decide +kernel
theorem dX4_atTop_13 : decode cX4_atTop 13 = .ok (.if_icmp .gt 15, 3) := by decide +kernel
theorem dX4_atTop_16 : decode cX4_atTop 16 = .ok (.aload_n 0, 1) := by decide +kernel
theorem dX4_atTop_17 : decode cX4_atTop 17 = .ok (.getfield 11, 3) := by decide +kernel
theorem dX4_atTop_20 : decode cX4_atTop 20 = .ok (.aload_n 0, 1) := by decide +kernel
theorem dX4_atTop_21 : decode cX4_atTop 21 = .ok (.getfield 22, 3) := by decide +kernel
theorem dX4_atTop_24 : decode cX4_atTop 24 = .ok (.aaload, 1) := by decide +kernel
theorem dX4_atTop_25 : decode cX4_atTop 25 = .ok (.goto 9, 3) := by decide +kernel
theorem dX4_atTop_28 : decode cX4_atTop 28 = .ok (.aload_n 0, 1) := by decide +kernel
theorem dX4_atTop_29 : decode cX4_atTop 29 = .ok (.getfield 11, 3) := by decide +kernel
theorem dX4_atTop_32 : decode cX4_atTop 32 = .ok (.iconst 0, 1) := by decide +kernel
theorem dX4_atTop_33 : decode cX4_atTop 33 = .ok (.aaload, 1) := by decide +kernel
theorem dX4_atTop_34 : decode cX4_atTop 34 = .ok (.areturn, 1) := by decide +kernel
set_option maxRecDepth 20000 in
theorem ggX4_hold_X4_atTop : GoodIn wsX4_hold wsX4_atTop := goodIn_r _ [5, 6, 7, 27, 28, 29] (by decide +kernel) (by decide +kernel)
set_option maxRecDepth 20000 in
theorem gX4_hold_X4_atTop : GoodIn wsX4_hold (wsV RX4 25 RX4 yX4_atTop wsX4_atTop) := goodIn_app (goodIn_of _ (by decide +kernel)) ggX4_hold_X4_atTop
set_option maxRecDepth 20000 in
theorem ggX4_hold_X2_copyFrom : GoodIn wsX4_hold wsX2_copyFrom := goodIn_r _ [12, 13, 14, 15, 16, 17, 18, 19, 20, 21, 22, 23, 24, 25, 26, 30, 31, 32, 33, 34, 35, 36, 37, 38, 39] (by decide +kernel) (by decide +kernel)
set_option maxRecDepth 20000 in
theorem gX4_hold_X2_copyFrom : GoodIn wsX4_hold (wsV RX4 29 RX2 yX2_copyFrom wsX2_copyFrom) := goodIn_app (goodIn_of _ (by decide +kernel)) ggX4_hold_X2_copyFrom
theorem dX4_hold_0 : decode cX4_hold 0 = .ok (.aload_n 0, 1) := by decide +kernel
theorem dX4_hold_1 : decode cX4_hold 1 = .ok (.invokevirtual 25, 3) := by decide +kernel
theorem dX4_hold_4 : decode cX4_hold 4 = .ok (.aload_n 1, 1) := by decide +kernel
theorem dX4_hold_5 : decode cX4_hold 5 = .ok (.invokevirtual 29, 3) := by decide +kernel
theorem dX4_hold_8 : decode cX4_hold 8 = .ok (.return_, 1) := by decide +kernel
set_option maxRecDepth 20000 in
theorem ggX4_bringBackHeld_X4_atTop : GoodIn wsX4_bringBackHeld wsX4_atTop := goodIn_r _ [5, 6, 7, 27, 28, 29] (by decide +kernel) (by decide +kernel)
set_option maxRecDepth 20000 in
theorem gX4_bringBackHeld_X4_atTop : GoodIn wsX4_bringBackHeld (wsV RX4 25 RX4 yX4_atTop wsX4_atTop) := goodIn_app (goodIn_of _ (by decide +kernel)) ggX4_bringBackHeld_X4_atTop
set_option maxRecDepth 20000 in
theorem ggX4_bringBackHeld_X2_copyFrom : GoodIn wsX4_bringBackHeld wsX2_copyFrom := goodIn_r _ [12, 13, 14, 15, 16, 17, 18, 19, 20, 21, 22, 23, 24, 25, 26, 30, 31, 32, 33, 34, 35, 36, 37, 38, 39] (by decide +kernel) (by decide +kernel)
set_option maxRecDepth 20000 in
theorem gX4_bringBackHeld_X2_copyFrom : GoodIn wsX4_bringBackHeld (wsV RX4 29 RX2 yX2_copyFrom wsX2_copyFrom) := goodIn_app (goodIn_of _ (by decide +kernel)) ggX4_bringBackHeld_X2_copyFrom
theorem dX4_bringBackHeld_0 : decode cX4_bringBackHeld 0 = .ok (.aload_n 1, 1) := by decide +kernel
theorem dX4_bringBackHeld_1 : decode cX4_bringBackHeld 1 = .ok (.aload_n 0, 1) := by decide +kernel
theorem dX4_bringBackHeld_2 : decode cX4_bringBackHeld 2 = .ok (.invokevirtual 25, 3) := by decide +kernel
theorem dX4_bringBackHeld_5 : decode cX4_bringBackHeld 5 = .ok (.invokevirtual 29, 3) := by decide +kernel
theorem dX4_bringBackHeld_8 : decode cX4_bringBackHeld 8 = .ok (.return_, 1) := by decide +kernel
theorem dX4_keepHeld_0 : decode cX4_keepHeld 0 = .ok (.aload_n 0, 1) := by decide +kernel
theorem dX4_keepHeld_1 : decode cX4_keepHeld 1 = .ok (.aload_n 0, 1) := by decide +kernel
theorem dX4_keepHeld_2 : decode cX4_keepHeld 2 = .ok (.getfield 22, 3) := by decide +kernel
theorem dX4_keepHeld_5 : decode cX4_keepHeld 5 = .ok (.bipush 8, 2) := by decide +kernel
theorem dX4_keepHeld_7 : decode cX4_keepHeld 7 = .ok (.if_icmp .ge 12, 3) := by decide +kernel
theorem dX4_keepHeld_10 : decode cX4_keepHeld 10 = .ok (.aload_n 0, 1) := by decide +kernel
theorem dX4_keepHeld_11 : decode cX4_keepHeld 11 = .ok (.getfield 22, 3) := by decide +kernel
theorem dX4_keepHeld_14 : decode cX4_keepHeld 14 = .ok (.iconst 1, 1) := by decide +kernel
theorem dX4_keepHeld_15 : decode cX4_keepHeld 15 = .ok (.iadd, 1) := by decide +kernel
theorem dX4_keepHeld_16 : decode cX4_keepHeld 16 = .ok (.goto 4, 3) := by decide +kernel
theorem dX4_keepHeld_19 : decode cX4_keepHeld 19 = .ok (.iconst 0, 1) := by decide +kernel
theorem dX4_keepHeld_20 : decode cX4_keepHeld 20 = .ok (.putfield 22, 3) := by decide +kernel
theorem dX4_keepHeld_23 : decode cX4_keepHeld 23 = .ok (.aload_n 0, 1) := by decide +kernel
theorem dX4_keepHeld_24 : decode cX4_keepHeld 24 = .ok (.aload_n 0, 1) := by decide +kernel
theorem dX4_keepHeld_25 : decode cX4_keepHeld 25 = .ok (.getfield 18, 3) := by decide +kernel
theorem dX4_keepHeld_28 : decode cX4_keepHeld 28 = .ok (.iconst 1, 1) := by decide +kernel
theorem dX4_keepHeld_29 : decode cX4_keepHeld 29 = .ok (.iadd, 1) := by decide +kernel
theorem dX4_keepHeld_30 : decode cX4_keepHeld 30 = .ok (.bipush 8, 2) := by decide +kernel
theorem dX4_keepHeld_32 : decode cX4_keepHeld 32 = .ok (.invokestatic 33, 3) := by decide +kernel
theorem dX4_keepHeld_35 : decode cX4_keepHeld 35 = .ok (.putfield 18, 3) := by decide +kernel
theorem dX4_keepHeld_38 : decode cX4_keepHeld 38 = .ok (.return_, 1) := by decide +kernel
set_option maxRecDepth 20000 in
theorem ggX4_bringBackLatest_X4_atTop : GoodIn wsX4_bringBackLatest wsX4_atTop := goodIn_r _ [7, 1, 8, 28, 29, 30] (by decide +kernel) (by decide +kernel)
set_option maxRecDepth 20000 in
theorem gX4_bringBackLatest_X4_atTop : GoodIn wsX4_bringBackLatest (wsV RX4 25 RX4 yX4_atTop wsX4_atTop) := goodIn_app (goodIn_of _ (by decide +kernel)) ggX4_bringBackLatest_X4_atTop
set_option maxRecDepth 20000 in
theorem ggX4_bringBackLatest_X2_copyFrom : GoodIn wsX4_bringBackLatest wsX2_copyFrom := goodIn_r _ [13, 14, 15, 16, 17, 18, 19, 20, 21, 22, 23, 24, 25, 26, 27, 31, 32, 33, 34, 35, 36, 37, 38, 39, 40] (by decide +kernel) (by decide +kernel)
set_option maxRecDepth 20000 in
theorem gX4_bringBackLatest_X2_copyFrom : GoodIn wsX4_bringBackLatest (wsV RX4 29 RX2 yX2_copyFrom wsX2_copyFrom) := goodIn_app (goodIn_of _ (by decide +kernel)) ggX4_bringBackLatest_X2_copyFrom
theorem dX4_bringBackLatest_0 : decode cX4_bringBackLatest 0 = .ok (.aload_n 0, 1) := by decide +kernel
theorem dX4_bringBackLatest_1 : decode cX4_bringBackLatest 1 = .ok (.aload_n 0, 1) := by decide +kernel
theorem dX4_bringBackLatest_2 : decode cX4_bringBackLatest 2 = .ok (.getfield 22, 3) := by decide +kernel
theorem dX4_bringBackLatest_5 : decode cX4_bringBackLatest 5 = .ok (.ifCond .le 12, 3) := by decide +kernel
theorem dX4_bringBackLatest_8 : decode cX4_bringBackLatest 8 = .ok (.aload_n 0, 1) := by decide +kernel
theorem dX4_bringBackLatest_9 : decode cX4_bringBackLatest 9 = .ok (.getfield 22, 3) := by decide +kernel
theorem dX4_bringBackLatest_12 : decode cX4_bringBackLatest 12 = .ok (.iconst 1, 1) := by decide +kernel
theorem dX4_bringBackLatest_13 : decode cX4_bringBackLatest 13 = .ok (.isub, 1) := by decide +kernel
theorem dX4_bringBackLatest_14 : decode cX4_bringBackLatest 14 = .ok (.goto 5, 3) := by decide +kernel
theorem dX4_bringBackLatest_17 : decode cX4_bringBackLatest 17 = .ok (.bipush 8, 2) := by decide +kernel
theorem dX4_bringBackLatest_19 : decode cX4_bringBackLatest 19 = .ok (.putfield 22, 3) := by decide +kernel
theorem dX4_bringBackLatest_22 : decode cX4_bringBackLatest 22 = .ok (.aload_n 0, 1) := by decide +kernel
theorem dX4_bringBackLatest_23 : decode cX4_bringBackLatest 23 = .ok (.dup, 1) := by decide +kernel
theorem dX4_bringBackLatest_24 : decode cX4_bringBackLatest 24 = .ok (.getfield 18, 3) := by decide +kernel
theorem dX4_bringBackLatest_27 : decode cX4_bringBackLatest 27 = .ok (.iconst 1, 1) := by decide +kernel
theorem dX4_bringBackLatest_28 : decode cX4_bringBackLatest 28 = .ok (.isub, 1) := by decide +kernel
theorem dX4_bringBackLatest_29 : decode cX4_bringBackLatest 29 = .ok (.putfield 18, 3) := by decide +kernel
theorem dX4_bringBackLatest_32 : decode cX4_bringBackLatest 32 = .ok (.aload_n 1, 1) := by decide +kernel
theorem dX4_bringBackLatest_33 : decode cX4_bringBackLatest 33 = .ok (.aload_n 0, 1) := by decide +kernel
theorem dX4_bringBackLatest_34 : decode cX4_bringBackLatest 34 = .ok (.invokevirtual 25, 3) := by decide +kernel
theorem dX4_bringBackLatest_37 : decode cX4_bringBackLatest 37 = .ok (.invokevirtual 29, 3) := by decide +kernel
theorem dX4_bringBackLatest_40 : decode cX4_bringBackLatest 40 = .ok (.return_, 1) := by decide +kernel
theorem dX4_forget_0 : decode cX4_forget 0 = .ok (.aload_n 0, 1) := by decide +kernel
theorem dX4_forget_1 : decode cX4_forget 1 = .ok (.iconst 0, 1) := by decide +kernel
theorem dX4_forget_2 : decode cX4_forget 2 = .ok (.putfield 18, 3) := by decide +kernel
