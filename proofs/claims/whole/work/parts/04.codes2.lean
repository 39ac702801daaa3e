theorem dX8_add_9 : decode cX8_add 9 = .ok (.if_icmp .le 6, 3) := by decide +kernel
theorem dX8_add_12 : decode cX8_add 12 = .ok (.bipush (-12), 2) := by decide +kernel
theorem dX8_add_14 : decode cX8_add 14 = .ok (.ireturn, 1) := by decide +kernel
theorem dX8_add_15 : decode cX8_add 15 = .ok (.aload_n 0, 1) := by decide +kernel
theorem dX8_add_16 : decode cX8_add 16 = .ok (.getfield 15, 3) := by decide +kernel
theorem dX8_add_19 : decode cX8_add 19 = .ok (.ifCond .lt 12, 3) := by decide +kernel
theorem dX8_add_22 : decode cX8_add 22 = .ok (.aload_n 0, 1) := by decide +kernel
theorem dX8_add_23 : decode cX8_add 23 = .ok (.getfield 15, 3) := by decide +kernel
theorem dX8_add_26 : decode cX8_add 26 = .ok (.bipush 60, 2) := by decide +kernel
theorem dX8_add_28 : decode cX8_add 28 = .ok (.if_icmp .lt 6, 3) := by decide +kernel
theorem dX8_add_31 : decode cX8_add 31 = .ok (.bipush (-13), 2) := by decide +kernel
theorem dX8_add_33 : decode cX8_add 33 = .ok (.ireturn, 1) := by decide +kernel
theorem dX8_add_34 : decode cX8_add 34 = .ok (.aload_n 0, 1) := by decide +kernel
theorem dX8_add_35 : decode cX8_add 35 = .ok (.getfield 9, 3) := by decide +kernel
theorem dX8_add_38 : decode cX8_add 38 = .ok (.aload_n 0, 1) := by decide +kernel
theorem dX8_add_39 : decode cX8_add 39 = .ok (.getfield 15, 3) := by decide +kernel
theorem dX8_add_42 : decode cX8_add 42 = .ok (.iload_n 1, 1) := by decide +kernel
theorem dX8_add_43 : decode cX8_add 43 = .ok (.i2c, 1) := by decide +kernel
theorem dX8_add_44 : decode cX8_add 44 = .ok (.castore, 1) := by decide +kernel
theorem dX8_add_45 : decode cX8_add 45 = .ok (.aload_n 0, 1) := by decide +kernel
theorem dX8_add_46 : decode cX8_add 46 = .ok (.dup, 1) := by decide +kernel
theorem dX8_add_47 : decode cX8_add 47 = .ok (.getfield 15, 3) := by decide +kernel
theorem dX8_add_50 : decode cX8_add 50 = .ok (.iconst 1, 1) := by decide +kernel
theorem dX8_add_51 : decode cX8_add 51 = .ok (.iadd, 1) := by decide +kernel
theorem dX8_add_52 : decode cX8_add 52 = .ok (.putfield 15, 3) := by decide +kernel
theorem dX8_add_55 : decode cX8_add 55 = .ok (.aload_n 0, 1) := by decide +kernel
theorem dX8_add_56 : decode cX8_add 56 = .ok (.getfield 15, 3) := by decide +kernel
theorem dX8_add_59 : decode cX8_add 59 = .ok (.ireturn, 1) := by decide +kernel
theorem dX8_empty_0 : decode cX8_empty 0 = .ok (.aload_n 0, 1) := by decide +kernel
theorem dX8_empty_1 : decode cX8_empty 1 = .ok (.iconst 0, 1) := by decide +kernel
theorem dX8_empty_2 : decode cX8_empty 2 = .ok (.putfield 15, 3) := by decide +kernel
theorem dX8_empty_5 : decode cX8_empty 5 = .ok (.return_, 1) := by decide +kernel
theorem dX8_toStart_0 : decode cX8_toStart 0 = .ok (.aload_n 0, 1) := by decide +kernel
theorem dX8_toStart_1 : decode cX8_toStart 1 = .ok (.iconst 0, 1) := by decide +kernel
theorem dX8_toStart_2 : decode cX8_toStart 2 = .ok (.putfield 19, 3) := by decide +kernel
theorem dX8_toStart_5 : decode cX8_toStart 5 = .ok (.return_, 1) := by decide +kernel
set_option maxRecDepth 20000 in
theorem ggX8_isRight_X8_toStart : GoodIn wsX8_isRight wsX8_toStart := goodIn_r _ [7, 1, 103, 104, 105, 106, 107, 108, 109, 110] (by decide +kernel) (by decide +kernel)
set_option maxRecDepth 20000 in
theorem gX8_isRight_X8_toStart : GoodIn wsX8_isRight (wsV RX8 34 RX8 yX8_toStart wsX8_toStart) := goodIn_app (goodIn_of _ (by decide +kernel)) ggX8_isRight_X8_toStart
set_option maxRecDepth 20000 in
theorem ggX8_isRight_X8_readOrder : GoodIn wsX8_isRight wsX8_readOrder := goodIn_r _ [11, 12, 13, 14, 15, 6, 16, 1, 2, 17, 18, 19, 20, 21, 22, 23, 24, 25, 26, 27, 28, 29, 30, 31, 32, 33, 34, 35, 36, 37, 38, 39, 40, 41, 42, 43, 44, 45, 46, 47, 48, 49, 50, 51, 52, 53, 54, 55, 56, 57, 58, 59, 60, 61, 62, 63, 64, 65, 66, 67, 68, 69, 70, 71, 72, 73, 74, 75, 76, 77, 78, 79, 80, 81, 82, 83, 84, 85, 86, 87, 88, 89, 90, 91, 92, 93, 94, 95, 96, 97, 98, 99, 100, 101, 102, 103, 104, 105, 106, 107, 108, 109, 110] (by decide +kernel) (by decide +kernel)
set_option maxRecDepth 20000 in
theorem gX8_isRight_X8_readOrder : GoodIn wsX8_isRight (wsV RX8 37 RX8 yX8_readOrder wsX8_readOrder) := goodIn_app (goodIn_of _ (by decide +kernel)) ggX8_isRight_X8_readOrder
set_option maxRecDepth 20000 in
theorem ggX8_isRight_X8_isRead : GoodIn wsX8_isRight wsX8_isRead := goodIn_r _ [16, 1, 2, 17, 103, 104, 105, 106, 107, 108, 109, 110] (by decide +kernel) (by decide +kernel)
set_option maxRecDepth 20000 in
theorem gX8_isRight_X8_isRead : GoodIn wsX8_isRight (wsV RX8 41 RX8 yX8_isRead wsX8_isRead) := goodIn_app (goodIn_of _ (by decide +kernel)) ggX8_isRight_X8_isRead
theorem dX8_isRight_0 : decode cX8_isRight 0 = .ok (.aload_n 0, 1) := by decide +kernel
theorem dX8_isRight_1 : decode cX8_isRight 1 = .ok (.invokevirtual 34, 3) := by decide +kernel
theorem dX8_isRight_4 : decode cX8_isRight 4 = .ok (.iconst 0, 1) := by decide +kernel
theorem dX8_isRight_5 : decode cX8_isRight 5 = .ok (.istore_n 1, 1) := by decide +kernel
theorem dX8_isRight_6 : decode cX8_isRight 6 = .ok (.iload_n 1, 1) := by decide +kernel
theorem dX8_isRight_7 : decode cX8_isRight 7 = .ok (.bipush 60, 2) := by decide +kernel
theorem dX8_isRight_9 : decode cX8_isRight 9 = .ok (.if_icmp .ge 42, 3) := by decide +kernel
theorem dX8_isRight_12 : decode cX8_isRight 12 = .ok (.aload_n 0, 1) := by decide +kernel
theorem dX8_isRight_13 : decode cX8_isRight 13 = .ok (.invokevirtual 37, 3) := by decide +kernel
theorem dX8_isRight_16 : decode cX8_isRight 16 = .ok (.ifCond .ne 5, 3) := by decide +kernel
theorem dX8_isRight_19 : decode cX8_isRight 19 = .ok (.iconst 0, 1) := by decide +kernel
theorem dX8_isRight_20 : decode cX8_isRight 20 = .ok (.ireturn, 1) := by decide +kernel
theorem dX8_isRight_21 : decode cX8_isRight 21 = .ok (.aload_n 0, 1) := by decide +kernel
theorem dX8_isRight_22 : decode cX8_isRight 22 = .ok (.getfield 19, 3) := by decide +kernel
theorem dX8_isRight_25 : decode cX8_isRight 25 = .ok (.aload_n 0, 1) := by decide +kernel
theorem dX8_isRight_26 : decode cX8_isRight 26 = .ok (.getfield 15, 3) := by decide +kernel
theorem dX8_isRight_29 : decode cX8_isRight 29 = .ok (.if_icmp .ne 5, 3) := by decide +kernel
theorem dX8_isRight_32 : decode cX8_isRight 32 = .ok (.iconst 1, 1) := by decide +kernel
theorem dX8_isRight_33 : decode cX8_isRight 33 = .ok (.ireturn, 1) := by decide +kernel
theorem dX8_isRight_34 : decode cX8_isRight 34 = .ok (.aload_n 0, 1) := by decide +kernel
theorem dX8_isRight_35 : decode cX8_isRight 35 = .ok (.bipush 59, 2) := by decide +kernel
theorem dX8_isRight_37 : decode cX8_isRight 37 = .ok (.invokevirtual 41, 3) := by decide +kernel
theorem dX8_isRight_40 : decode cX8_isRight 40 = .ok (.ifCond .ne 5, 3) := by decide +kernel
theorem dX8_isRight_43 : decode cX8_isRight 43 = .ok (.iconst 0, 1) := by decide +kernel
theorem dX8_isRight_44 : decode cX8_isRight 44 = .ok (.ireturn, 1) := by decide +kernel
theorem dX8_isRight_45 : decode cX8_isRight 45 = .ok (.iinc 1 1, 3) := by decide +kernel
theorem dX8_isRight_48 : decode cX8_isRight 48 = .ok (.goto (-42), 3) := by decide +kernel
theorem dX8_isRight_51 : decode cX8_isRight 51 = .ok (.iconst 0, 1) := by decide +kernel
theorem dX8_isRight_52 : decode cX8_isRight 52 = .ok (.ireturn, 1) := by decide +kernel
set_option maxRecDepth 20000 in
theorem ggX8_readNext_X8_isRead : GoodIn wsX8_readNext wsX8_isRead := goodIn_r _ [6, 1, 7, 8, 99, 100, 101, 102, 103, 104, 105, 106] (by decide +kernel) (by decide +kernel)
set_option maxRecDepth 20000 in
theorem gX8_readNext_X8_isRead : GoodIn wsX8_readNext (wsV RX8 41 RX8 yX8_isRead wsX8_isRead) := goodIn_app (goodIn_of _ (by decide +kernel)) ggX8_readNext_X8_isRead
set_option maxRecDepth 20000 in
theorem ggX8_readNext_X8_readOrder : GoodIn wsX8_readNext wsX8_readOrder := goodIn_r _ [12, 13, 2, 3, 4, 5, 6, 1, 7, 8, 14, 15, 16, 17, 18, 19, 20, 21, 22, 23, 24, 25, 26, 27, 28, 29, 30, 31, 32, 33, 34, 35, 36, 37, 38, 39, 40, 41, 42, 43, 44, 45, 46, 47, 48, 49, 50, 51, 52, 53, 54, 55, 56, 57, 58, 59, 60, 61, 62, 63, 64, 65, 66, 67, 68, 69, 70, 71, 72, 73, 74, 75, 76, 77, 78, 79, 80, 81, 82, 83, 84, 85, 86, 87, 88, 89, 90, 91, 92, 93, 94, 95, 96, 97, 98, 99, 100, 101, 102, 103, 104, 105, 106] (by decide +kernel) (by decide +kernel)
set_option maxRecDepth 20000 in
theorem gX8_readNext_X8_readOrder : GoodIn wsX8_readNext (wsV RX8 37 RX8 yX8_readOrder wsX8_readOrder) := goodIn_app (goodIn_of _ (by decide +kernel)) ggX8_readNext_X8_readOrder
theorem dX8_readNext_0 : decode cX8_readNext 0 = .ok (.aload_n 0, 1) := by decide +kernel
theorem dX8_readNext_1 : decode cX8_readNext 1 = .ok (.getfield 19, 3) := by decide +kernel
theorem dX8_readNext_4 : decode cX8_readNext 4 = .ok (.ifCond .le 14, 3) := by decide +kernel
theorem dX8_readNext_7 : decode cX8_readNext 7 = .ok (.aload_n 0, 1) := by decide +kernel
theorem dX8_readNext_8 : decode cX8_readNext 8 = .ok (.bipush 59, 2) := by decide +kernel
theorem dX8_readNext_10 : decode cX8_readNext 10 = .ok (.invokevirtual 41, 3) := by decide +kernel
theorem dX8_readNext_13 : decode cX8_readNext 13 = .ok (.ifCond .ne 5, 3) := by decide +kernel
theorem dX8_readNext_16 : decode cX8_readNext 16 = .ok (.iconst 0, 1) := by decide +kernel
theorem dX8_readNext_17 : decode cX8_readNext 17 = .ok (.ireturn, 1) := by decide +kernel
theorem dX8_readNext_18 : decode cX8_readNext 18 = .ok (.aload_n 0, 1) := by decide +kernel
theorem dX8_readNext_19 : decode cX8_readNext 19 = .ok (.invokevirtual 37, 3) := by decide +kernel
theorem dX8_readNext_22 : decode cX8_readNext 22 = .ok (.ireturn, 1) := by decide +kernel
set_option maxRecDepth 20000 in
theorem ggX8_readOrder_X8_isRead : GoodIn wsX8_readOrder wsX8_isRead := goodIn_r _ [6, 7, 8, 9, 95, 96, 97, 98, 99, 100, 101, 102] (by decide +kernel) (by decide +kernel)
set_option maxRecDepth 20000 in
theorem gX8_readOrder_X8_isRead : GoodIn wsX8_readOrder (wsV RX8 41 RX8 yX8_isRead wsX8_isRead) := goodIn_app (goodIn_of _ (by decide +kernel)) ggX8_readOrder_X8_isRead
set_option maxRecDepth 20000 in
theorem ggX8_readOrder_X8_areRead : GoodIn wsX8_readOrder wsX8_areRead := goodIn_r _ [13, 14, 15, 16, 17, 18, 19, 20, 21, 22, 23, 24, 25, 26, 27, 28, 29, 30, 31, 32, 33, 34, 35, 36, 37, 38, 39, 40, 41, 42, 43, 44, 45, 46, 47, 48, 49, 50, 51, 52, 53, 54, 55, 56, 57, 58, 59, 60, 61, 62, 2, 3, 4, 5, 6, 7, 8, 9, 95, 96, 97, 98, 99, 100, 101, 102] (by decide +kernel) (by decide +kernel)
set_option maxRecDepth 20000 in
theorem gX8_readOrder_X8_areRead : GoodIn wsX8_readOrder (wsV RX8 47 RX8 yX8_areRead wsX8_areRead) := goodIn_app (goodIn_of _ (by decide +kernel)) ggX8_readOrder_X8_areRead
set_option maxRecDepth 20000 in
theorem ggX8_readOrder_X8_readKindAndWick : GoodIn wsX8_readOrder wsX8_readKindAndWick := goodIn_r _ [66, 67, 68, 69, 70, 71, 72, 5, 73, 7, 8, 9, 2, 3, 4, 6, 95, 96, 97, 98, 99, 100, 101, 102] (by decide +kernel) (by decide +kernel)
set_option maxRecDepth 20000 in
theorem gX8_readOrder_X8_readKindAndWick : GoodIn wsX8_readOrder (wsV RX8 51 RX8 yX8_readKindAndWick wsX8_readKindAndWick) := goodIn_app (goodIn_of _ (by decide +kernel)) ggX8_readOrder_X8_readKindAndWick
set_option maxRecDepth 20000 in
theorem ggX8_readOrder_X8_readLanternAndPlace : GoodIn wsX8_readOrder wsX8_readLanternAndPlace := goodIn_r _ [77, 67, 68, 69, 78, 79, 80, 5, 81, 70, 71, 72, 73, 7, 8, 9, 2, 3, 4, 6, 95, 96, 97, 98, 99, 100, 101, 102] (by decide +kernel) (by decide +kernel)
set_option maxRecDepth 20000 in
theorem gX8_readOrder_X8_readLanternAndPlace : GoodIn wsX8_readOrder (wsV RX8 56 RX8 yX8_readLanternAndPlace wsX8_readLanternAndPlace) := goodIn_app (goodIn_of _ (by decide +kernel)) ggX8_readOrder_X8_readLanternAndPlace
set_option maxRecDepth 20000 in
theorem ggX8_readOrder_X8_readFrom : GoodIn wsX8_readOrder wsX8_readFrom := goodIn_r _ [85, 67, 86, 2, 3, 4, 5, 6, 7, 8, 9, 78, 79, 80, 81, 70, 71, 72, 73, 95, 96, 97, 98, 99, 100, 101, 102] (by decide +kernel) (by decide +kernel)
set_option maxRecDepth 20000 in
theorem gX8_readOrder_X8_readFrom : GoodIn wsX8_readOrder (wsV RX8 59 RX8 yX8_readFrom wsX8_readFrom) := goodIn_app (goodIn_of _ (by decide +kernel)) ggX8_readOrder_X8_readFrom
set_option maxRecDepth 20000 in
theorem ggX8_readOrder_X8_readLanternAndGlow : GoodIn wsX8_readOrder wsX8_readLanternAndGlow := goodIn_r _ [90, 67, 68, 69, 78, 79, 80, 5, 81, 70, 71, 72, 73, 7, 8, 9, 2, 3, 4, 6, 95, 96, 97, 98, 99, 100, 101, 102] (by decide +kernel) (by decide +kernel)
set_option maxRecDepth 20000 in
theorem gX8_readOrder_X8_readLanternAndGlow : GoodIn wsX8_readOrder (wsV RX8 66 RX8 yX8_readLanternAndGlow wsX8_readLanternAndGlow) := goodIn_app (goodIn_of _ (by decide +kernel)) ggX8_readOrder_X8_readLanternAndGlow
set_option maxRecDepth 20000 in
theorem ggX8_readOrder_X8_readTicks : GoodIn wsX8_readOrder wsX8_readTicks := goodIn_r _ [94, 67, 68, 78, 79, 80, 5, 81, 70, 71, 72, 73, 7, 8, 9, 95, 96, 97, 98, 99, 100, 101, 102] (by decide +kernel) (by decide +kernel)
set_option maxRecDepth 20000 in
theorem gX8_readOrder_X8_readTicks : GoodIn wsX8_readOrder (wsV RX8 71 RX8 yX8_readTicks wsX8_readTicks) := goodIn_app (goodIn_of _ (by decide +kernel)) ggX8_readOrder_X8_readTicks
theorem dX8_readOrder_0 : decode cX8_readOrder 0 = .ok (.aload_n 0, 1) := by decide +kernel
theorem dX8_readOrder_1 : decode cX8_readOrder 1 = .ok (.bipush 104, 2) := by decide +kernel
theorem dX8_readOrder_3 : decode cX8_readOrder 3 = .ok (.invokevirtual 41, 3) := by decide +kernel
theorem dX8_readOrder_6 : decode cX8_readOrder 6 = .ok (.ifCond .eq 30, 3) := by decide +kernel
theorem dX8_readOrder_9 : decode cX8_readOrder 9 = .ok (.aload_n 0, 1) := by decide +kernel
theorem dX8_readOrder_10 : decode cX8_readOrder 10 = .ok (.iconst 0, 1) := by decide +kernel
theorem dX8_readOrder_11 : decode cX8_readOrder 11 = .ok (.putfield 22, 3) := by decide +kernel
theorem dX8_readOrder_14 : decode cX8_readOrder 14 = .ok (.aload_n 0, 1) := by decide +kernel
theorem dX8_readOrder_15 : decode cX8_readOrder 15 = .ok (.ldc 45, 2) := by decide +kernel
theorem dX8_readOrder_17 : decode cX8_readOrder 17 = .ok (.invokevirtual 47, 3) := by decide +kernel
theorem dX8_readOrder_20 : decode cX8_readOrder 20 = .ok (.ifCond .eq 14, 3) := by decide +kernel
theorem dX8_readOrder_23 : decode cX8_readOrder 23 = .ok (.aload_n 0, 1) := by decide +kernel
theorem dX8_readOrder_24 : decode cX8_readOrder 24 = .ok (.invokevirtual 51, 3) := by decide +kernel
theorem dX8_readOrder_27 : decode cX8_readOrder 27 = .ok (.ifCond .eq 7, 3) := by decide +kernel
theorem dX8_readOrder_30 : decode cX8_readOrder 30 = .ok (.iconst 1, 1) := by decide +kernel
theorem dX8_readOrder_31 : decode cX8_readOrder 31 = .ok (.goto 4, 3) := by decide +kernel
theorem dX8_readOrder_34 : decode cX8_readOrder 34 = .ok (.iconst 0, 1) := by decide +kernel
theorem dX8_readOrder_35 : decode cX8_readOrder 35 = .ok (.ireturn, 1) := by decide +kernel
theorem dX8_readOrder_36 : decode cX8_readOrder 36 = .ok (.aload_n 0, 1) := by decide +kernel
theorem dX8_readOrder_37 : decode cX8_readOrder 37 = .ok (.bipush 119, 2) := by decide +kernel
theorem dX8_readOrder_39 : decode cX8_readOrder 39 = .ok (.invokevirtual 41, 3) := by decide +kernel
theorem dX8_readOrder_42 : decode cX8_readOrder 42 = .ok (.ifCond .eq 37, 3) := by decide +kernel
theorem dX8_readOrder_45 : decode cX8_readOrder 45 = .ok (.aload_n 0, 1) := by decide +kernel
theorem dX8_readOrder_46 : decode cX8_readOrder 46 = .ok (.iconst 1, 1) := by decide +kernel
theorem dX8_readOrder_47 : decode cX8_readOrder 47 = .ok (.putfield 22, 3) := by decide +kernel
theorem dX8_readOrder_50 : decode cX8_readOrder 50 = .ok (.aload_n 0, 1) := by decide +kernel
theorem dX8_readOrder_51 : decode cX8_readOrder 51 = .ok (.ldc 54, 2) := by decide +kernel
theorem dX8_readOrder_53 : decode cX8_readOrder 53 = .ok (.invokevirtual 47, 3) := by decide +kernel
theorem dX8_readOrder_56 : decode cX8_readOrder 56 = .ok (.ifCond .eq 21, 3) := by decide +kernel
theorem dX8_readOrder_59 : decode cX8_readOrder 59 = .ok (.aload_n 0, 1) := by decide +kernel
theorem dX8_readOrder_60 : decode cX8_readOrder 60 = .ok (.invokevirtual 56, 3) := by decide +kernel
theorem dX8_readOrder_63 : decode cX8_readOrder 63 = .ok (.ifCond .eq 14, 3) := by decide +kernel
theorem dX8_readOrder_66 : decode cX8_readOrder 66 = .ok (.aload_n 0, 1) := by decide +kernel
theorem dX8_readOrder_67 : decode cX8_readOrder 67 = .ok (.invokevirtual 59, 3) := by decide +kernel
theorem dX8_readOrder_70 : decode cX8_readOrder 70 = .ok (.ifCond .eq 7, 3) := by decide +kernel
theorem dX8_readOrder_73 : decode cX8_readOrder 73 = .ok (.iconst 1, 1) := by decide +kernel
theorem dX8_readOrder_74 : decode cX8_readOrder 74 = .ok (.goto 4, 3) := by decide +kernel
theorem dX8_readOrder_77 : decode cX8_readOrder 77 = .ok (.iconst 0, 1) := by decide +kernel
theorem dX8_readOrder_78 : decode cX8_readOrder 78 = .ok (.ireturn, 1) := by decide +kernel
theorem dX8_readOrder_79 : decode cX8_readOrder 79 = .ok (.aload_n 0, 1) := by decide +kernel
theorem dX8_readOrder_80 : decode cX8_readOrder 80 = .ok (.bipush 99, 2) := by decide +kernel
theorem dX8_readOrder_82 : decode cX8_readOrder 82 = .ok (.invokevirtual 41, 3) := by decide +kernel
theorem dX8_readOrder_85 : decode cX8_readOrder 85 = .ok (.ifCond .eq 30, 3) := by decide +kernel
theorem dX8_readOrder_88 : decode cX8_readOrder 88 = .ok (.aload_n 0, 1) := by decide +kernel
theorem dX8_readOrder_89 : decode cX8_readOrder 89 = .ok (.iconst 2, 1) := by decide +kernel
theorem dX8_readOrder_90 : decode cX8_readOrder 90 = .ok (.putfield 22, 3) := by decide +kernel
theorem dX8_readOrder_93 : decode cX8_readOrder 93 = .ok (.aload_n 0, 1) := by decide +kernel
theorem dX8_readOrder_94 : decode cX8_readOrder 94 = .ok (.ldc 62, 2) := by decide +kernel
theorem dX8_readOrder_96 : decode cX8_readOrder 96 = .ok (.invokevirtual 47, 3) := by decide +kernel
theorem dX8_readOrder_99 : decode cX8_readOrder 99 = .ok (.ifCond .eq 14, 3) := by decide +kernel
theorem dX8_readOrder_102 : decode cX8_readOrder 102 = .ok (.aload_n 0, 1) := by decide +kernel
theorem dX8_readOrder_103 : decode cX8_readOrder 103 = .ok (.invokevirtual 56, 3) := by decide +kernel
theorem dX8_readOrder_106 : decode cX8_readOrder 106 = .ok (.ifCond .eq 7, 3) := by decide +kernel
theorem dX8_readOrder_109 : decode cX8_readOrder 109 = .ok (.iconst 1, 1) := by decide +kernel
theorem dX8_readOrder_110 : decode cX8_readOrder 110 = .ok (.goto 4, 3) := by decide +kernel
theorem dX8_readOrder_113 : decode cX8_readOrder 113 = .ok (.iconst 0, 1) := by decide +kernel
theorem dX8_readOrder_114 : decode cX8_readOrder 114 = .ok (.ireturn, 1) := by decide +kernel
theorem dX8_readOrder_115 : decode cX8_readOrder 115 = .ok (.aload_n 0, 1) := by decide +kernel
theorem dX8_readOrder_116 : decode cX8_readOrder 116 = .ok (.bipush 115, 2) := by decide +kernel
theorem dX8_readOrder_118 : decode cX8_readOrder 118 = .ok (.invokevirtual 41, 3) := by decide +kernel
theorem dX8_readOrder_121 : decode cX8_readOrder 121 = .ok (.ifCond .eq 30, 3) := by decide +kernel
theorem dX8_readOrder_124 : decode cX8_readOrder 124 = .ok (.aload_n 0, 1) := by decide +kernel
theorem dX8_readOrder_125 : decode cX8_readOrder 125 = .ok (.iconst 3, 1) := by decide +kernel
theorem dX8_readOrder_126 : decode cX8_readOrder 126 = .ok (.putfield 22, 3) := by decide +kernel
theorem dX8_readOrder_129 : decode cX8_readOrder 129 = .ok (.aload_n 0, 1) := by decide +kernel
theorem dX8_readOrder_130 : decode cX8_readOrder 130 = .ok (.ldc 64, 2) := by decide +kernel
theorem dX8_readOrder_132 : decode cX8_readOrder 132 = .ok (.invokevirtual 47, 3) := by decide +kernel
theorem dX8_readOrder_135 : decode cX8_readOrder 135 = .ok (.ifCond .eq 14, 3) := by decide +kernel
theorem dX8_readOrder_138 : decode cX8_readOrder 138 = .ok (.aload_n 0, 1) := by decide +kernel
theorem dX8_readOrder_139 : decode cX8_readOrder 139 = .ok (.invokevirtual 66, 3) := by decide +kernel
theorem dX8_readOrder_142 : decode cX8_readOrder 142 = .ok (.ifCond .eq 7, 3) := by decide +kernel
theorem dX8_readOrder_145 : decode cX8_readOrder 145 = .ok (.iconst 1, 1) := by decide +kernel
theorem dX8_readOrder_146 : decode cX8_readOrder 146 = .ok (.goto 4, 3) := by decide +kernel
theorem dX8_readOrder_149 : decode cX8_readOrder 149 = .ok (.iconst 0, 1) := by decide +kernel
theorem dX8_readOrder_150 : decode cX8_readOrder 150 = .ok (.ireturn, 1) := by decide +kernel
theorem dX8_readOrder_151 : decode cX8_readOrder 151 = .ok (.aload_n 0, 1) := by decide +kernel
theorem dX8_readOrder_152 : decode cX8_readOrder 152 = .ok (.iconst 4, 1) := by decide +kernel
theorem dX8_readOrder_153 : decode cX8_readOrder 153 = .ok (.putfield 22, 3) := by decide +kernel
theorem dX8_readOrder_156 : decode cX8_readOrder 156 = .ok (.aload_n 0, 1) := by decide +kernel
theorem dX8_readOrder_157 : decode cX8_readOrder 157 = .ok (.ldc 69, 2) := by decide +kernel
theorem dX8_readOrder_159 : decode cX8_readOrder 159 = .ok (.invokevirtual 47, 3) := by decide +kernel
theorem dX8_readOrder_162 : decode cX8_readOrder 162 = .ok (.ifCond .eq 14, 3) := by decide +kernel
theorem dX8_readOrder_165 : decode cX8_readOrder 165 = .ok (.aload_n 0, 1) := by decide +kernel
theorem dX8_readOrder_166 : decode cX8_readOrder 166 = .ok (.invokevirtual 71, 3) := by decide +kernel
theorem dX8_readOrder_169 : decode cX8_readOrder 169 = .ok (.ifCond .eq 7, 3) := by decide +kernel
theorem dX8_readOrder_172 : decode cX8_readOrder 172 = .ok (.iconst 1, 1) := by decide +kernel
theorem dX8_readOrder_173 : decode cX8_readOrder 173 = .ok (.goto 4, 3) := by decide +kernel
theorem dX8_readOrder_176 : decode cX8_readOrder 176 = .ok (.iconst 0, 1) := by decide +kernel
theorem dX8_readOrder_177 : decode cX8_readOrder 177 = .ok (.ireturn, 1) := by decide +kernel
set_option maxRecDepth 20000 in
theorem ggX8_readKindAndWick_X8_isDigitRead : GoodIn wsX8_readKindAndWick wsX8_isDigitRead := goodIn_r _ [8, 9, 10, 11, 1, 16, 17, 18, 19, 20, 21, 22, 23] (by decide +kernel) (by decide +kernel)
set_option maxRecDepth 20000 in
theorem gX8_readKindAndWick_X8_isDigitRead : GoodIn wsX8_readKindAndWick (wsV RX8 74 RX8 yX8_isDigitRead wsX8_isDigitRead) := goodIn_app (goodIn_of _ (by decide +kernel)) ggX8_readKindAndWick_X8_isDigitRead
set_option maxRecDepth 20000 in
theorem ggX8_readKindAndWick_X8_isRead : GoodIn wsX8_readKindAndWick wsX8_isRead := goodIn_r _ [15, 9, 10, 11, 16, 17, 18, 19, 20, 21, 22, 23] (by decide +kernel) (by decide +kernel)
set_option maxRecDepth 20000 in
theorem gX8_readKindAndWick_X8_isRead : GoodIn wsX8_readKindAndWick (wsV RX8 41 RX8 yX8_isRead wsX8_isRead) := goodIn_app (goodIn_of _ (by decide +kernel)) ggX8_readKindAndWick_X8_isRead
theorem dX8_readKindAndWick_0 : decode cX8_readKindAndWick 0 = .ok (.aload_n 0, 1) := by decide +kernel
theorem dX8_readKindAndWick_1 : decode cX8_readKindAndWick 1 = .ok (.invokevirtual 74, 3) := by decide +kernel
theorem dX8_readKindAndWick_4 : decode cX8_readKindAndWick 4 = .ok (.ifCond .ne 5, 3) := by decide +kernel
theorem dX8_readKindAndWick_7 : decode cX8_readKindAndWick 7 = .ok (.iconst 0, 1) := by decide +kernel
theorem dX8_readKindAndWick_8 : decode cX8_readKindAndWick 8 = .ok (.ireturn, 1) := by decide +kernel
theorem dX8_readKindAndWick_9 : decode cX8_readKindAndWick 9 = .ok (.aload_n 0, 1) := by decide +kernel
theorem dX8_readKindAndWick_10 : decode cX8_readKindAndWick 10 = .ok (.aload_n 0, 1) := by decide +kernel
theorem dX8_readKindAndWick_11 : decode cX8_readKindAndWick 11 = .ok (.getfield 77, 3) := by decide +kernel
theorem dX8_readKindAndWick_14 : decode cX8_readKindAndWick 14 = .ok (.putfield 25, 3) := by decide +kernel
theorem dX8_readKindAndWick_17 : decode cX8_readKindAndWick 17 = .ok (.aload_n 0, 1) := by decide +kernel
theorem dX8_readKindAndWick_18 : decode cX8_readKindAndWick 18 = .ok (.bipush 42, 2) := by decide +kernel
theorem dX8_readKindAndWick_20 : decode cX8_readKindAndWick 20 = .ok (.invokevirtual 41, 3) := by decide +kernel
theorem dX8_readKindAndWick_23 : decode cX8_readKindAndWick 23 = .ok (.ifCond .eq 10, 3) := by decide +kernel
theorem dX8_readKindAndWick_26 : decode cX8_readKindAndWick 26 = .ok (.aload_n 0, 1) := by decide +kernel
theorem dX8_readKindAndWick_27 : decode cX8_readKindAndWick 27 = .ok (.invokevirtual 74, 3) := by decide +kernel
theorem dX8_readKindAndWick_30 : decode cX8_readKindAndWick 30 = .ok (.ifCond .ne 5, 3) := by decide +kernel
theorem dX8_readKindAndWick_33 : decode cX8_readKindAndWick 33 = .ok (.iconst 0, 1) := by decide +kernel
theorem dX8_readKindAndWick_34 : decode cX8_readKindAndWick 34 = .ok (.ireturn, 1) := by decide +kernel
theorem dX8_readKindAndWick_35 : decode cX8_readKindAndWick 35 = .ok (.aload_n 0, 1) := by decide +kernel
theorem dX8_readKindAndWick_36 : decode cX8_readKindAndWick 36 = .ok (.aload_n 0, 1) := by decide +kernel
theorem dX8_readKindAndWick_37 : decode cX8_readKindAndWick 37 = .ok (.getfield 77, 3) := by decide +kernel
theorem dX8_readKindAndWick_40 : decode cX8_readKindAndWick 40 = .ok (.putfield 28, 3) := by decide +kernel
theorem dX8_readKindAndWick_43 : decode cX8_readKindAndWick 43 = .ok (.iconst 1, 1) := by decide +kernel
theorem dX8_readKindAndWick_44 : decode cX8_readKindAndWick 44 = .ok (.ireturn, 1) := by decide +kernel
set_option maxRecDepth 20000 in
theorem ggX8_readLanternAndPlace_X8_areDigitsRead : GoodIn wsX8_readLanternAndPlace wsX8_areDigitsRead := goodIn_r _ [8, 1, 9, 10, 11, 7, 12, 13, 14, 15, 20, 21, 22, 23, 24, 25, 26, 27] (by decide +kernel) (by decide +kernel)
set_option maxRecDepth 20000 in
theorem gX8_readLanternAndPlace_X8_areDigitsRead : GoodIn wsX8_readLanternAndPlace (wsV RX8 80 RX8 yX8_areDigitsRead wsX8_areDigitsRead) := goodIn_app (goodIn_of _ (by decide +kernel)) ggX8_readLanternAndPlace_X8_areDigitsRead
set_option maxRecDepth 20000 in
theorem ggX8_readLanternAndPlace_X8_isRead : GoodIn wsX8_readLanternAndPlace wsX8_isRead := goodIn_r _ [19, 13, 14, 15, 20, 21, 22, 23, 24, 25, 26, 27] (by decide +kernel) (by decide +kernel)
set_option maxRecDepth 20000 in
theorem gX8_readLanternAndPlace_X8_isRead : GoodIn wsX8_readLanternAndPlace (wsV RX8 41 RX8 yX8_isRead wsX8_isRead) := goodIn_app (goodIn_of _ (by decide +kernel)) ggX8_readLanternAndPlace_X8_isRead
set_option maxRecDepth 20000 in
theorem ggX8_readLanternAndPlace_X8_isDigitRead : GoodIn wsX8_readLanternAndPlace wsX8_isDigitRead := goodIn_r _ [12, 13, 14, 15, 1, 20, 21, 22, 23, 24, 25, 26, 27] (by decide +kernel) (by decide +kernel)
set_option maxRecDepth 20000 in
theorem gX8_readLanternAndPlace_X8_isDigitRead : GoodIn wsX8_readLanternAndPlace (wsV RX8 74 RX8 yX8_isDigitRead wsX8_isDigitRead) := goodIn_app (goodIn_of _ (by decide +kernel)) ggX8_readLanternAndPlace_X8_isDigitRead
theorem dX8_readLanternAndPlace_0 : decode cX8_readLanternAndPlace 0 = .ok (.aload_n 0, 1) := by decide +kernel
theorem dX8_readLanternAndPlace_1 : decode cX8_readLanternAndPlace 1 = .ok (.invokevirtual 80, 3) := by decide +kernel
theorem dX8_readLanternAndPlace_4 : decode cX8_readLanternAndPlace 4 = .ok (.ifCond .ne 5, 3) := by decide +kernel
theorem dX8_readLanternAndPlace_7 : decode cX8_readLanternAndPlace 7 = .ok (.iconst 0, 1) := by decide +kernel
theorem dX8_readLanternAndPlace_8 : decode cX8_readLanternAndPlace 8 = .ok (.ireturn, 1) := by decide +kernel
theorem dX8_readLanternAndPlace_9 : decode cX8_readLanternAndPlace 9 = .ok (.aload_n 0, 1) := by decide +kernel
theorem dX8_readLanternAndPlace_10 : decode cX8_readLanternAndPlace 10 = .ok (.aload_n 0, 1) := by decide +kernel
theorem dX8_readLanternAndPlace_11 : decode cX8_readLanternAndPlace 11 = .ok (.getfield 77, 3) := by decide +kernel
theorem dX8_readLanternAndPlace_14 : decode cX8_readLanternAndPlace 14 = .ok (.putfield 25, 3) := by decide +kernel
theorem dX8_readLanternAndPlace_17 : decode cX8_readLanternAndPlace 17 = .ok (.aload_n 0, 1) := by decide +kernel
theorem dX8_readLanternAndPlace_18 : decode cX8_readLanternAndPlace 18 = .ok (.bipush 46, 2) := by decide +kernel
theorem dX8_readLanternAndPlace_20 : decode cX8_readLanternAndPlace 20 = .ok (.invokevirtual 41, 3) := by decide +kernel
theorem dX8_readLanternAndPlace_23 : decode cX8_readLanternAndPlace 23 = .ok (.ifCond .eq 10, 3) := by decide +kernel
theorem dX8_readLanternAndPlace_26 : decode cX8_readLanternAndPlace 26 = .ok (.aload_n 0, 1) := by decide +kernel
theorem dX8_readLanternAndPlace_27 : decode cX8_readLanternAndPlace 27 = .ok (.invokevirtual 74, 3) := by decide +kernel
theorem dX8_readLanternAndPlace_30 : decode cX8_readLanternAndPlace 30 = .ok (.ifCond .ne 5, 3) := by decide +kernel
theorem dX8_readLanternAndPlace_33 : decode cX8_readLanternAndPlace 33 = .ok (.iconst 0, 1) := by decide +kernel
theorem dX8_readLanternAndPlace_34 : decode cX8_readLanternAndPlace 34 = .ok (.ireturn, 1) := by decide +kernel
theorem dX8_readLanternAndPlace_35 : decode cX8_readLanternAndPlace 35 = .ok (.aload_n 0, 1) := by decide +kernel
theorem dX8_readLanternAndPlace_36 : decode cX8_readLanternAndPlace 36 = .ok (.aload_n 0, 1) := by decide +kernel
theorem dX8_readLanternAndPlace_37 : decode cX8_readLanternAndPlace 37 = .ok (.getfield 77, 3) := by decide +kernel
theorem dX8_readLanternAndPlace_40 : decode cX8_readLanternAndPlace 40 = .ok (.putfield 28, 3) := by decide +kernel
theorem dX8_readLanternAndPlace_43 : decode cX8_readLanternAndPlace 43 = .ok (.iconst 1, 1) := by decide +kernel
theorem dX8_readLanternAndPlace_44 : decode cX8_readLanternAndPlace 44 = .ok (.ireturn, 1) := by decide +kernel
set_option maxRecDepth 20000 in
theorem ggX8_readFrom_X8_isRead : GoodIn wsX8_readFrom wsX8_isRead := goodIn_r _ [7, 8, 9, 10, 19, 20, 21, 22, 23, 24, 25, 26] (by decide +kernel) (by decide +kernel)
set_option maxRecDepth 20000 in
theorem gX8_readFrom_X8_isRead : GoodIn wsX8_readFrom (wsV RX8 41 RX8 yX8_isRead wsX8_isRead) := goodIn_app (goodIn_of _ (by decide +kernel)) ggX8_readFrom_X8_isRead
set_option maxRecDepth 20000 in
theorem ggX8_readFrom_X8_areDigitsRead : GoodIn wsX8_readFrom wsX8_areDigitsRead := goodIn_r _ [14, 1, 15, 16, 17, 6, 18, 8, 9, 10, 19, 20, 21, 22, 23, 24, 25, 26] (by decide +kernel) (by decide +kernel)
set_option maxRecDepth 20000 in
theorem gX8_readFrom_X8_areDigitsRead : GoodIn wsX8_readFrom (wsV RX8 80 RX8 yX8_areDigitsRead wsX8_areDigitsRead) := goodIn_app (goodIn_of _ (by decide +kernel)) ggX8_readFrom_X8_areDigitsRead
theorem dX8_readFrom_0 : decode cX8_readFrom 0 = .ok (.aload_n 0, 1) := by decide +kernel
theorem dX8_readFrom_1 : decode cX8_readFrom 1 = .ok (.bipush 60, 2) := by decide +kernel
theorem dX8_readFrom_3 : decode cX8_readFrom 3 = .ok (.invokevirtual 41, 3) := by decide +kernel
theorem dX8_readFrom_6 : decode cX8_readFrom 6 = .ok (.ifCond .eq 10, 3) := by decide +kernel
theorem dX8_readFrom_9 : decode cX8_readFrom 9 = .ok (.aload_n 0, 1) := by decide +kernel
theorem dX8_readFrom_10 : decode cX8_readFrom 10 = .ok (.invokevirtual 80, 3) := by decide +kernel
theorem dX8_readFrom_13 : decode cX8_readFrom 13 = .ok (.ifCond .ne 5, 3) := by decide +kernel
theorem dX8_readFrom_16 : decode cX8_readFrom 16 = .ok (.iconst 0, 1) := by decide +kernel
theorem dX8_readFrom_17 : decode cX8_readFrom 17 = .ok (.ireturn, 1) := by decide +kernel
theorem dX8_readFrom_18 : decode cX8_readFrom 18 = .ok (.aload_n 0, 1) := by decide +kernel
theorem dX8_readFrom_19 : decode cX8_readFrom 19 = .ok (.aload_n 0, 1) := by decide +kernel
theorem dX8_readFrom_20 : decode cX8_readFrom 20 = .ok (.getfield 77, 3) := by decide +kernel
theorem dX8_readFrom_23 : decode cX8_readFrom 23 = .ok (.putfield 31, 3) := by decide +kernel
theorem dX8_readFrom_26 : decode cX8_readFrom 26 = .ok (.iconst 1, 1) := by decide +kernel
theorem dX8_readFrom_27 : decode cX8_readFrom 27 = .ok (.ireturn, 1) := by decide +kernel
set_option maxRecDepth 20000 in
theorem ggX8_readLanternAndGlow_X8_areDigitsRead : GoodIn wsX8_readLanternAndGlow wsX8_areDigitsRead := goodIn_r _ [8, 1, 9, 10, 11, 7, 12, 13, 14, 15, 20, 21, 22, 23, 24, 25, 26, 27] (by decide +kernel) (by decide +kernel)
set_option maxRecDepth 20000 in
theorem gX8_readLanternAndGlow_X8_areDigitsRead : GoodIn wsX8_readLanternAndGlow (wsV RX8 80 RX8 yX8_areDigitsRead wsX8_areDigitsRead) := goodIn_app (goodIn_of _ (by decide +kernel)) ggX8_readLanternAndGlow_X8_areDigitsRead
set_option maxRecDepth 20000 in
theorem ggX8_readLanternAndGlow_X8_isRead : GoodIn wsX8_readLanternAndGlow wsX8_isRead := goodIn_r _ [19, 13, 14, 15, 20, 21, 22, 23, 24, 25, 26, 27] (by decide +kernel) (by decide +kernel)
set_option maxRecDepth 20000 in
theorem gX8_readLanternAndGlow_X8_isRead : GoodIn wsX8_readLanternAndGlow (wsV RX8 41 RX8 yX8_isRead wsX8_isRead) := goodIn_app (goodIn_of _ (by decide +kernel)) ggX8_readLanternAndGlow_X8_isRead
theorem dX8_readLanternAndGlow_0 : decode cX8_readLanternAndGlow 0 = .ok (.aload_n 0, 1) := by decide +kernel
theorem dX8_readLanternAndGlow_1 : decode cX8_readLanternAndGlow 1 = .ok (.invokevirtual 80, 3) := by decide +kernel
theorem dX8_readLanternAndGlow_4 : decode cX8_readLanternAndGlow 4 = .ok (.ifCond .ne 5, 3) := by decide +kernel
theorem dX8_readLanternAndGlow_7 : decode cX8_readLanternAndGlow 7 = .ok (.iconst 0, 1) := by decide +kernel
theorem dX8_readLanternAndGlow_8 : decode cX8_readLanternAndGlow 8 = .ok (.ireturn, 1) := by decide +kernel
theorem dX8_readLanternAndGlow_9 : decode cX8_readLanternAndGlow 9 = .ok (.aload_n 0, 1) := by decide +kernel
theorem dX8_readLanternAndGlow_10 : decode cX8_readLanternAndGlow 10 = .ok (.aload_n 0, 1) := by decide +kernel
theorem dX8_readLanternAndGlow_11 : decode cX8_readLanternAndGlow 11 = .ok (.getfield 77, 3) := by decide +kernel
theorem dX8_readLanternAndGlow_14 : decode cX8_readLanternAndGlow 14 = .ok (.putfield 25, 3) := by decide +kernel
theorem dX8_readLanternAndGlow_17 : decode cX8_readLanternAndGlow 17 = .ok (.aload_n 0, 1) := by decide +kernel
theorem dX8_readLanternAndGlow_18 : decode cX8_readLanternAndGlow 18 = .ok (.aload_n 0, 1) := by decide +kernel
theorem dX8_readLanternAndGlow_19 : decode cX8_readLanternAndGlow 19 = .ok (.bipush 43, 2) := by decide +kernel
theorem dX8_readLanternAndGlow_21 : decode cX8_readLanternAndGlow 21 = .ok (.invokevirtual 41, 3) := by decide +kernel
theorem dX8_readLanternAndGlow_24 : decode cX8_readLanternAndGlow 24 = .ok (.ifCond .eq 7, 3) := by decide +kernel
theorem dX8_readLanternAndGlow_27 : decode cX8_readLanternAndGlow 27 = .ok (.iconst 1, 1) := by decide +kernel
theorem dX8_readLanternAndGlow_28 : decode cX8_readLanternAndGlow 28 = .ok (.goto 4, 3) := by decide +kernel
theorem dX8_readLanternAndGlow_31 : decode cX8_readLanternAndGlow 31 = .ok (.iconst 0, 1) := by decide +kernel
theorem dX8_readLanternAndGlow_32 : decode cX8_readLanternAndGlow 32 = .ok (.putfield 28, 3) := by decide +kernel
theorem dX8_readLanternAndGlow_35 : decode cX8_readLanternAndGlow 35 = .ok (.aload_n 0, 1) := by decide +kernel
theorem dX8_readLanternAndGlow_36 : decode cX8_readLanternAndGlow 36 = .ok (.getfield 28, 3) := by decide +kernel
theorem dX8_readLanternAndGlow_39 : decode cX8_readLanternAndGlow 39 = .ok (.iconst 1, 1) := by decide +kernel
theorem dX8_readLanternAndGlow_40 : decode cX8_readLanternAndGlow 40 = .ok (.if_icmp .eq 12, 3) := by decide +kernel
theorem dX8_readLanternAndGlow_43 : decode cX8_readLanternAndGlow 43 = .ok (.aload_n 0, 1) := by decide +kernel
theorem dX8_readLanternAndGlow_44 : decode cX8_readLanternAndGlow 44 = .ok (.bipush 45, 2) := by decide +kernel
theorem dX8_readLanternAndGlow_46 : decode cX8_readLanternAndGlow 46 = .ok (.invokevirtual 41, 3) := by decide +kernel
theorem dX8_readLanternAndGlow_49 : decode cX8_readLanternAndGlow 49 = .ok (.ifCond .eq 7, 3) := by decide +kernel
theorem dX8_readLanternAndGlow_52 : decode cX8_readLanternAndGlow 52 = .ok (.iconst 1, 1) := by decide +kernel
theorem dX8_readLanternAndGlow_53 : decode cX8_readLanternAndGlow 53 = .ok (.goto 4, 3) := by decide +kernel
theorem dX8_readLanternAndGlow_56 : decode cX8_readLanternAndGlow 56 = .ok (.iconst 0, 1) := by decide +kernel
theorem dX8_readLanternAndGlow_57 : decode cX8_readLanternAndGlow 57 = .ok (.ireturn, 1) := by decide +kernel
set_option maxRecDepth 20000 in
theorem ggX8_readTicks_X8_areDigitsRead : GoodIn wsX8_readTicks wsX8_areDigitsRead := goodIn_r _ [7, 1, 8, 9, 10, 6, 11, 12, 13, 14, 15, 16, 17, 18, 19, 20, 21, 22] (by decide +kernel) (by decide +kernel)
set_option maxRecDepth 20000 in
theorem gX8_readTicks_X8_areDigitsRead : GoodIn wsX8_readTicks (wsV RX8 80 RX8 yX8_areDigitsRead wsX8_areDigitsRead) := goodIn_app (goodIn_of _ (by decide +kernel)) ggX8_readTicks_X8_areDigitsRead
theorem dX8_readTicks_0 : decode cX8_readTicks 0 = .ok (.aload_n 0, 1) := by decide +kernel
theorem dX8_readTicks_1 : decode cX8_readTicks 1 = .ok (.invokevirtual 80, 3) := by decide +kernel
theorem dX8_readTicks_4 : decode cX8_readTicks 4 = .ok (.ifCond .ne 5, 3) := by decide +kernel
theorem dX8_readTicks_7 : decode cX8_readTicks 7 = .ok (.iconst 0, 1) := by decide +kernel
theorem dX8_readTicks_8 : decode cX8_readTicks 8 = .ok (.ireturn, 1) := by decide +kernel
theorem dX8_readTicks_9 : decode cX8_readTicks 9 = .ok (.aload_n 0, 1) := by decide +kernel
theorem dX8_readTicks_10 : decode cX8_readTicks 10 = .ok (.aload_n 0, 1) := by decide +kernel
theorem dX8_readTicks_11 : decode cX8_readTicks 11 = .ok (.getfield 77, 3) := by decide +kernel
theorem dX8_readTicks_14 : decode cX8_readTicks 14 = .ok (.putfield 25, 3) := by decide +kernel
theorem dX8_readTicks_17 : decode cX8_readTicks 17 = .ok (.iconst 1, 1) := by decide +kernel
theorem dX8_readTicks_18 : decode cX8_readTicks 18 = .ok (.ireturn, 1) := by decide +kernel
theorem dX8_isRead_0 : decode cX8_isRead 0 = .ok (.aload_n 0, 1) := by decide +kernel
theorem dX8_isRead_1 : decode cX8_isRead 1 = .ok (.getfield 19, 3) := by decide +kernel
theorem dX8_isRead_4 : decode cX8_isRead 4 = .ok (.ifCond .lt 36, 3) := by decide +kernel
theorem dX8_isRead_7 : decode cX8_isRead 7 = .ok (.aload_n 0, 1) := by decide +kernel
theorem dX8_isRead_8 : decode cX8_isRead 8 = .ok (.getfield 19, 3) := by decide +kernel
theorem dX8_isRead_11 : decode cX8_isRead 11 = .ok (.aload_n 0, 1) := by decide +kernel
theorem dX8_isRead_12 : decode cX8_isRead 12 = .ok (.getfield 15, 3) := by decide +kernel
theorem dX8_isRead_15 : decode cX8_isRead 15 = .ok (.if_icmp .ge 25, 3) := by decide +kernel
theorem dX8_isRead_18 : decode cX8_isRead 18 = .ok (.aload_n 0, 1) := by decide +kernel
theorem dX8_isRead_19 : decode cX8_isRead 19 = .ok (.getfield 19, 3) := by decide +kernel
theorem dX8_isRead_22 : decode cX8_isRead 22 = .ok (.bipush 60, 2) := by decide +kernel
theorem dX8_isRead_24 : decode cX8_isRead 24 = .ok (.if_icmp .ge 16, 3) := by decide +kernel
theorem dX8_isRead_27 : decode cX8_isRead 27 = .ok (.aload_n 0, 1) := by decide +kernel
theorem dX8_isRead_28 : decode cX8_isRead 28 = .ok (.getfield 9, 3) := by decide +kernel
theorem dX8_isRead_31 : decode cX8_isRead 31 = .ok (.aload_n 0, 1) := by decide +kernel
theorem dX8_isRead_32 : decode cX8_isRead 32 = .ok (.getfield 19, 3) := by decide +kernel
theorem dX8_isRead_35 : decode cX8_isRead 35 = .ok (.caload, 1) := by decide +kernel
theorem dX8_isRead_36 : decode cX8_isRead 36 = .ok (.iload_n 1, 1) := by decide +kernel
theorem dX8_isRead_37 : decode cX8_isRead 37 = .ok (.if_icmp .eq 5, 3) := by decide +kernel
theorem dX8_isRead_40 : decode cX8_isRead 40 = .ok (.iconst 0, 1) := by decide +kernel
theorem dX8_isRead_41 : decode cX8_isRead 41 = .ok (.ireturn, 1) := by decide +kernel
theorem dX8_isRead_42 : decode cX8_isRead 42 = .ok (.aload_n 0, 1) := by decide +kernel
theorem dX8_isRead_43 : decode cX8_isRead 43 = .ok (.dup, 1) := by decide +kernel
theorem dX8_isRead_44 : decode cX8_isRead 44 = .ok (.getfield 19, 3) := by decide +kernel
theorem dX8_isRead_47 : decode cX8_isRead 47 = .ok (.iconst 1, 1) := by decide +kernel
theorem dX8_isRead_48 : decode cX8_isRead 48 = .ok (.iadd, 1) := by decide +kernel
theorem dX8_isRead_49 : decode cX8_isRead 49 = .ok (.putfield 19, 3) := by decide +kernel
theorem dX8_isRead_52 : decode cX8_isRead 52 = .ok (.iconst 1, 1) := by decide +kernel
theorem dX8_isRead_53 : decode cX8_isRead 53 = .ok (.ireturn, 1) := by decide +kernel
set_option maxRecDepth 20000 in
theorem ggX8_areRead_J0_length_8abf5 : GoodIn wsX8_areRead wsJ0_length_8abf5 := goodIn_r _ [5, 6, 7, 8, 9, 4, 10, 11, 12] (by decide +kernel) (by decide +kernel)
set_option maxRecDepth 20000 in
theorem gX8_areRead_J0_length_8abf5 : GoodIn wsX8_areRead (wsV RX8 83 RJ0 yJ0_length_8abf5 wsJ0_length_8abf5) := goodIn_app (goodIn_of _ (by decide +kernel)) ggX8_areRead_J0_length_8abf5
set_option maxRecDepth 20000 in
theorem ggX8_areRead_J0_charAt_5068e : GoodIn wsX8_areRead wsJ0_charAt_5068e := goodIn_r _ [16, 6, 17, 18, 19, 4, 20, 11, 12, 21, 22, 23, 24, 25, 26, 27, 28, 29, 30, 31, 32, 33, 34, 35, 36, 37, 38, 39, 40, 41, 42, 43, 44, 45, 46, 47, 48, 49] (by decide +kernel) (by decide +kernel)
set_option maxRecDepth 20000 in
theorem gX8_areRead_J0_charAt_5068e : GoodIn wsX8_areRead (wsV RX8 88 RJ0 yJ0_charAt_5068e wsJ0_charAt_5068e) := goodIn_app (goodIn_of _ (by decide +kernel)) ggX8_areRead_J0_charAt_5068e
set_option maxRecDepth 20000 in
theorem ggX8_areRead_X8_isRead : GoodIn wsX8_areRead wsX8_isRead := goodIn_r _ [54, 55, 56, 57, 58, 59, 60, 61, 62, 63, 64, 65] (by decide +kernel) (by decide +kernel)
set_option maxRecDepth 20000 in
theorem gX8_areRead_X8_isRead : GoodIn wsX8_areRead (wsV RX8 41 RX8 yX8_isRead wsX8_isRead) := goodIn_app (goodIn_of _ (by decide +kernel)) ggX8_areRead_X8_isRead
theorem dX8_areRead_0 : decode cX8_areRead 0 = .ok (.iconst 0, 1) := by decide +kernel
theorem dX8_areRead_1 : decode cX8_areRead 1 = .ok (.istore_n 2, 1) := by decide +kernel
theorem dX8_areRead_2 : decode cX8_areRead 2 = .ok (.iload_n 2, 1) := by decide +kernel
theorem dX8_areRead_3 : decode cX8_areRead 3 = .ok (.aload_n 1, 1) := by decide +kernel
theorem dX8_areRead_4 : decode cX8_areRead 4 = .ok (.invokevirtual 83, 3) := by decide +kernel
theorem dX8_areRead_7 : decode cX8_areRead 7 = .ok (.if_icmp .ge 23, 3) := by decide +kernel
theorem dX8_areRead_10 : decode cX8_areRead 10 = .ok (.aload_n 0, 1) := by decide +kernel
theorem dX8_areRead_11 : decode cX8_areRead 11 = .ok (.aload_n 1, 1) := by decide +kernel
theorem dX8_areRead_12 : decode cX8_areRead 12 = .ok (.iload_n 2, 1) := by decide +kernel
theorem dX8_areRead_13 : decode cX8_areRead 13 = .ok (.invokevirtual 88, 3) := by decide +kernel
theorem dX8_areRead_16 : decode cX8_areRead 16 = .ok (.invokevirtual 41, 3) := by decide +kernel
theorem dX8_areRead_19 : decode cX8_areRead 19 = .ok (.ifCond .ne 5, 3) := by decide +kernel
theorem dX8_areRead_22 : decode cX8_areRead 22 = .ok (.iconst 0, 1) := by decide +kernel
theorem dX8_areRead_23 : decode cX8_areRead 23 = .ok (.ireturn, 1) := by decide +kernel
theorem dX8_areRead_24 : decode cX8_areRead 24 = .ok (.iinc 2 1, 3) := by decide +kernel
theorem dX8_areRead_27 : decode cX8_areRead 27 = .ok (.goto (-25), 3) := by decide +kernel
theorem dX8_areRead_30 : decode cX8_areRead 30 = .ok (.iconst 1, 1) := by decide +kernel
theorem dX8_areRead_31 : decode cX8_areRead 31 = .ok (.ireturn, 1) := by decide +kernel
theorem dX8_isDigitRead_0 : decode cX8_isDigitRead 0 = .ok (.aload_n 0, 1) := by decide +kernel
theorem dX8_isDigitRead_1 : decode cX8_isDigitRead 1 = .ok (.getfield 19, 3) := by decide +kernel
theorem dX8_isDigitRead_4 : decode cX8_isDigitRead 4 = .ok (.ifCond .lt 51, 3) := by decide +kernel
theorem dX8_isDigitRead_7 : decode cX8_isDigitRead 7 = .ok (.aload_n 0, 1) := by decide +kernel
theorem dX8_isDigitRead_8 : decode cX8_isDigitRead 8 = .ok (.getfield 19, 3) := by decide +kernel
theorem dX8_isDigitRead_11 : decode cX8_isDigitRead 11 = .ok (.aload_n 0, 1) := by decide +kernel
theorem dX8_isDigitRead_12 : decode cX8_isDigitRead 12 = .ok (.getfield 15, 3) := by decide +kernel
theorem dX8_isDigitRead_15 : decode cX8_isDigitRead 15 = .ok (.if_icmp .ge 40, 3) := by decide +kernel
theorem dX8_isDigitRead_18 : decode cX8_isDigitRead 18 = .ok (.aload_n 0, 1) := by decide +kernel
theorem dX8_isDigitRead_19 : decode cX8_isDigitRead 19 = .ok (.getfield 19, 3) := by decide +kernel
theorem dX8_isDigitRead_22 : decode cX8_isDigitRead 22 = .ok (.bipush 60, 2) := by decide +kernel
theorem dX8_isDigitRead_24 : decode cX8_isDigitRead 24 = .ok (.if_icmp .ge 31, 3) := by decide +kernel
theorem dX8_isDigitRead_27 : decode cX8_isDigitRead 27 = .ok (.aload_n 0, 1) := by decide +kernel
theorem dX8_isDigitRead_28 : decode cX8_isDigitRead 28 = .ok (.getfield 9, 3) := by decide +kernel
theorem dX8_isDigitRead_31 : decode cX8_isDigitRead 31 = .ok (.aload_n 0, 1) := by decide +kernel
theorem dX8_isDigitRead_32 : decode cX8_isDigitRead 32 = .ok (.getfield 19, 3) := by decide +kernel
theorem dX8_isDigitRead_35 : decode cX8_isDigitRead 35 = .ok (.caload, 1) := by decide +kernel
theorem dX8_isDigitRead_36 : decode cX8_isDigitRead 36 = .ok (.bipush 48, 2) := by decide +kernel
theorem dX8_isDigitRead_38 : decode cX8_isDigitRead 38 = .ok (.if_icmp .lt 17, 3) := by decide +kernel
theorem dX8_isDigitRead_41 : decode cX8_isDigitRead 41 = .ok (.aload_n 0, 1) := by decide +kernel
theorem dX8_isDigitRead_42 : decode cX8_isDigitRead 42 = .ok (.getfield 9, 3) := by decide +kernel
theorem dX8_isDigitRead_45 : decode cX8_isDigitRead 45 = .ok (.aload_n 0, 1) := by decide +kernel
theorem dX8_isDigitRead_46 : decode cX8_isDigitRead 46 = .ok (.getfield 19, 3) := by decide +kernel
theorem dX8_isDigitRead_49 : decode cX8_isDigitRead 49 = .ok (.caload, 1) := by decide +kernel
theorem dX8_isDigitRead_50 : decode cX8_isDigitRead 50 = .ok (.bipush 57, 2) := by decide +kernel
theorem dX8_isDigitRead_52 : decode cX8_isDigitRead 52 = .ok (.if_icmp .le 5, 3) := by decide +kernel
theorem dX8_isDigitRead_55 : decode cX8_isDigitRead 55 = .ok (.iconst 0, 1) := by decide +kernel
theorem dX8_isDigitRead_56 : decode cX8_isDigitRead 56 = .ok (.ireturn, 1) := by decide +kernel
theorem dX8_isDigitRead_57 : decode cX8_isDigitRead 57 = .ok (.aload_n 0, 1) := by decide +kernel
theorem dX8_isDigitRead_58 : decode cX8_isDigitRead 58 = .ok (.aload_n 0, 1) := by decide +kernel
theorem dX8_isDigitRead_59 : decode cX8_isDigitRead 59 = .ok (.getfield 9, 3) := by decide +kernel
theorem dX8_isDigitRead_62 : decode cX8_isDigitRead 62 = .ok (.aload_n 0, 1) := by decide +kernel
theorem dX8_isDigitRead_63 : decode cX8_isDigitRead 63 = .ok (.getfield 19, 3) := by decide +kernel
theorem dX8_isDigitRead_66 : decode cX8_isDigitRead 66 = .ok (.caload, 1) := by decide +kernel
theorem dX8_isDigitRead_67 : decode cX8_isDigitRead 67 = .ok (.bipush 48, 2) := by decide +kernel
theorem dX8_isDigitRead_69 : decode cX8_isDigitRead 69 = .ok (.isub, 1) := by decide +kernel
theorem dX8_isDigitRead_70 : decode cX8_isDigitRead 70 = .ok (.putfield 77, 3) := by decide +kernel
theorem dX8_isDigitRead_73 : decode cX8_isDigitRead 73 = .ok (.aload_n 0, 1) := by decide +kernel
theorem dX8_isDigitRead_74 : decode cX8_isDigitRead 74 = .ok (.dup, 1) := by decide +kernel
theorem dX8_isDigitRead_75 : decode cX8_isDigitRead 75 = .ok (.getfield 19, 3) := by decide +kernel
theorem dX8_isDigitRead_78 : decode cX8_isDigitRead 78 = .ok (.iconst 1, 1) := by decide +kernel
theorem dX8_isDigitRead_79 : decode cX8_isDigitRead 79 = .ok (.iadd, 1) := by decide +kernel
theorem dX8_isDigitRead_80 : decode cX8_isDigitRead 80 = .ok (.putfield 19, 3) := by decide +kernel
theorem dX8_isDigitRead_83 : decode cX8_isDigitRead 83 = .ok (.iconst 1, 1) := by decide +kernel
theorem dX8_isDigitRead_84 : decode cX8_isDigitRead 84 = .ok (.ireturn, 1) := by decide +kernel
set_option maxRecDepth 20000 in
theorem ggX8_areDigitsRead_X8_isDigitRead : GoodIn wsX8_areDigitsRead wsX8_isDigitRead := goodIn_r _ [6, 7, 8, 9, 1, 10, 11, 12, 13, 14, 15, 16, 17] (by decide +kernel) (by decide +kernel)
set_option maxRecDepth 20000 in
theorem gX8_areDigitsRead_X8_isDigitRead : GoodIn wsX8_areDigitsRead (wsV RX8 74 RX8 yX8_isDigitRead wsX8_isDigitRead) := goodIn_app (goodIn_of _ (by decide +kernel)) ggX8_areDigitsRead_X8_isDigitRead
theorem dX8_areDigitsRead_0 : decode cX8_areDigitsRead 0 = .ok (.aload_n 0, 1) := by decide +kernel
theorem dX8_areDigitsRead_1 : decode cX8_areDigitsRead 1 = .ok (.invokevirtual 74, 3) := by decide +kernel
theorem dX8_areDigitsRead_4 : decode cX8_areDigitsRead 4 = .ok (.ifCond .ne 5, 3) := by decide +kernel
theorem dX8_areDigitsRead_7 : decode cX8_areDigitsRead 7 = .ok (.iconst 0, 1) := by decide +kernel
theorem dX8_areDigitsRead_8 : decode cX8_areDigitsRead 8 = .ok (.ireturn, 1) := by decide +kernel
theorem dX8_areDigitsRead_9 : decode cX8_areDigitsRead 9 = .ok (.aload_n 0, 1) := by decide +kernel
theorem dX8_areDigitsRead_10 : decode cX8_areDigitsRead 10 = .ok (.getfield 77, 3) := by decide +kernel
theorem dX8_areDigitsRead_13 : decode cX8_areDigitsRead 13 = .ok (.istore_n 1, 1) := by decide +kernel
theorem dX8_areDigitsRead_14 : decode cX8_areDigitsRead 14 = .ok (.aload_n 0, 1) := by decide +kernel
theorem dX8_areDigitsRead_15 : decode cX8_areDigitsRead 15 = .ok (.invokevirtual 74, 3) := by decide +kernel
theorem dX8_areDigitsRead_18 : decode cX8_areDigitsRead 18 = .ok (.ifCond .eq 16, 3) := by decide +kernel
theorem dX8_areDigitsRead_21 : decode cX8_areDigitsRead 21 = .ok (.aload_n 0, 1) := by decide +kernel
theorem dX8_areDigitsRead_22 : decode cX8_areDigitsRead 22 = .ok (.dup, 1) := by decide +kernel
theorem dX8_areDigitsRead_23 : decode cX8_areDigitsRead 23 = .ok (.getfield 77, 3) := by decide +kernel
theorem dX8_areDigitsRead_26 : decode cX8_areDigitsRead 26 = .ok (.bipush 10, 2) := by decide +kernel
theorem dX8_areDigitsRead_28 : decode cX8_areDigitsRead 28 = .ok (.iload_n 1, 1) := by decide +kernel
theorem dX8_areDigitsRead_29 : decode cX8_areDigitsRead 29 = .ok (.imul, 1) := by decide +kernel
theorem dX8_areDigitsRead_30 : decode cX8_areDigitsRead 30 = .ok (.iadd, 1) := by decide +kernel
theorem dX8_areDigitsRead_31 : decode cX8_areDigitsRead 31 = .ok (.putfield 77, 3) := by decide +kernel
theorem dX8_areDigitsRead_34 : decode cX8_areDigitsRead 34 = .ok (.iconst 1, 1) := by decide +kernel
theorem dX8_areDigitsRead_35 : decode cX8_areDigitsRead 35 = .ok (.ireturn, 1) := by decide +kernel
set_option maxRecDepth 20000 in
theorem ggX9_init_X2_init : GoodIn wsX9_init wsX2_init := goodIn_r _ [35, 36, 2, 3, 37, 38, 39, 40, 41, 42, 43, 44, 45, 46, 77, 78, 79, 80, 81, 82, 83, 84, 85, 86] (by decide +kernel) (by decide +kernel)
set_option maxRecDepth 20000 in
theorem gX9_init_X2_init : GoodIn wsX9_init (wsX2_init) := ggX9_init_X2_init
set_option maxRecDepth 20000 in
theorem ggX9_init_X4_init : GoodIn wsX9_init wsX4_init := goodIn_r _ [49, 50, 2, 3, 51, 52, 5, 6, 53, 34, 35, 36, 37, 38, 39, 40, 41, 42, 43, 44, 45, 46, 96, 97, 98, 77, 78, 79, 80, 81, 82, 83, 84, 85, 86] (by decide +kernel) (by decide +kernel)
set_option maxRecDepth 20000 in
theorem gX9_init_X4_init : GoodIn wsX9_init (wsX4_init) := ggX9_init_X4_init
set_option maxRecDepth 20000 in
theorem ggX9_init_X0_init : GoodIn wsX9_init wsX0_init := goodIn_r _ [55, 56, 2, 3, 37, 57, 99] (by decide +kernel) (by decide +kernel)
set_option maxRecDepth 20000 in
theorem gX9_init_X0_init_n28 : GoodIn wsX9_init (wsX0_init) := ggX9_init_X0_init
set_option maxRecDepth 20000 in
theorem ggX9_init_X1_init : GoodIn wsX9_init wsX1_init := goodIn_r _ [59, 60, 2, 3, 61, 62, 100] (by decide +kernel) (by decide +kernel)
set_option maxRecDepth 20000 in
theorem gX9_init_X1_init_n35 : GoodIn wsX9_init (wsX1_init) := ggX9_init_X1_init
set_option maxRecDepth 20000 in
theorem ggX9_init_X8_init : GoodIn wsX9_init wsX8_init := goodIn_r _ [64, 65, 2, 3, 66, 67, 101, 102, 103, 104, 105, 106, 107, 108] (by decide +kernel) (by decide +kernel)
set_option maxRecDepth 20000 in
theorem gX9_init_X8_init_n42 : GoodIn wsX9_init (wsX8_init) := ggX9_init_X8_init
set_option maxRecDepth 20000 in
theorem ggX9_init_X3_init : GoodIn wsX9_init wsX3_init := goodIn_r _ [69, 70, 2, 3, 66, 71, 109, 110] (by decide +kernel) (by decide +kernel)
set_option maxRecDepth 20000 in
theorem gX9_init_X3_init_n49 : GoodIn wsX9_init (wsX3_init) := ggX9_init_X3_init
set_option maxRecDepth 20000 in
theorem ggX9_init_X6_init : GoodIn wsX9_init wsX6_init := goodIn_r _ [73, 74, 2, 3, 37, 75, 76, 111, 112, 113] (by decide +kernel) (by decide +kernel)
set_option maxRecDepth 20000 in
theorem gX9_init_X6_init_n56 : GoodIn wsX9_init (wsX6_init) := ggX9_init_X6_init
theorem dX9_init_0 : decode cX9_init 0 = .ok (.aload_n 0, 1) := by decide +kernel
theorem dX9_init_1 : decode cX9_init 1 = .ok (.invokespecial 1, 3) := by decide +kernel
theorem dX9_init_4 : decode cX9_init 4 = .ok (.aload_n 0, 1) := by decide +kernel
theorem dX9_init_5 : decode cX9_init 5 = .ok (.new 7, 3) := by decide +kernel
theorem dX9_init_8 : decode cX9_init 8 = .ok (.dup, 1) := by decide +kernel
theorem dX9_init_9 : decode cX9_init 9 = .ok (.invokespecial 9, 3) := by decide +kernel
theorem dX9_init_12 : decode cX9_init 12 = .ok (.putfield 10, 3) := by decide +kernel
theorem dX9_init_15 : decode cX9_init 15 = .ok (.aload_n 0, 1) := by decide +kernel
theorem dX9_init_16 : decode cX9_init 16 = .ok (.new 7, 3) := by decide +kernel
theorem dX9_init_19 : decode cX9_init 19 = .ok (.dup, 1) := by decide +kernel
theorem dX9_init_20 : decode cX9_init 20 = .ok (.invokespecial 9, 3) := by decide +kernel
theorem dX9_init_23 : decode cX9_init 23 = .ok (.putfield 16, 3) := by decide +kernel
theorem dX9_init_26 : decode cX9_init 26 = .ok (.aload_n 0, 1) := by decide +kernel
theorem dX9_init_27 : decode cX9_init 27 = .ok (.new 19, 3) := by decide +kernel
theorem dX9_init_30 : decode cX9_init 30 = .ok (.dup, 1) := by decide +kernel
theorem dX9_init_31 : decode cX9_init 31 = .ok (.invokespecial 21, 3) := by decide +kernel
theorem dX9_init_34 : decode cX9_init 34 = .ok (.putfield 22, 3) := by decide +kernel
theorem dX9_init_37 : decode cX9_init 37 = .ok (.aload_n 0, 1) := by decide +kernel
theorem dX9_init_38 : decode cX9_init 38 = .ok (.new 26, 3) := by decide +kernel
theorem dX9_init_41 : decode cX9_init 41 = .ok (.dup, 1) := by decide +kernel
theorem dX9_init_42 : decode cX9_init 42 = .ok (.invokespecial 28, 3) := by decide +kernel
theorem dX9_init_45 : decode cX9_init 45 = .ok (.putfield 29, 3) := by decide +kernel
theorem dX9_init_48 : decode cX9_init 48 = .ok (.aload_n 0, 1) := by decide +kernel
theorem dX9_init_49 : decode cX9_init 49 = .ok (.new 33, 3) := by decide +kernel
theorem dX9_init_52 : decode cX9_init 52 = .ok (.dup, 1) := by decide +kernel
theorem dX9_init_53 : decode cX9_init 53 = .ok (.invokespecial 35, 3) := by decide +kernel
theorem dX9_init_56 : decode cX9_init 56 = .ok (.putfield 36, 3) := by decide +kernel
theorem dX9_init_59 : decode cX9_init 59 = .ok (.aload_n 0, 1) := by decide +kernel
theorem dX9_init_60 : decode cX9_init 60 = .ok (.new 40, 3) := by decide +kernel
theorem dX9_init_63 : decode cX9_init 63 = .ok (.dup, 1) := by decide +kernel
theorem dX9_init_64 : decode cX9_init 64 = .ok (.invokespecial 42, 3) := by decide +kernel
theorem dX9_init_67 : decode cX9_init 67 = .ok (.putfield 43, 3) := by decide +kernel
theorem dX9_init_70 : decode cX9_init 70 = .ok (.aload_n 0, 1) := by decide +kernel
theorem dX9_init_71 : decode cX9_init 71 = .ok (.new 47, 3) := by decide +kernel
theorem dX9_init_74 : decode cX9_init 74 = .ok (.dup, 1) := by decide +kernel
theorem dX9_init_75 : decode cX9_init 75 = .ok (.invokespecial 49, 3) := by decide +kernel
theorem dX9_init_78 : decode cX9_init 78 = .ok (.putfield 50, 3) := by decide +kernel
theorem dX9_init_81 : decode cX9_init 81 = .ok (.aload_n 0, 1) := by decide +kernel
theorem dX9_init_82 : decode cX9_init 82 = .ok (.new 54, 3) := by decide +kernel
theorem dX9_init_85 : decode cX9_init 85 = .ok (.dup, 1) := by decide +kernel
theorem dX9_init_86 : decode cX9_init 86 = .ok (.invokespecial 56, 3) := by decide +kernel
theorem dX9_init_89 : decode cX9_init 89 = .ok (.putfield 57, 3) := by decide +kernel
theorem dX9_init_92 : decode cX9_init 92 = .ok (.return_, 1) := by decide +kernel
set_option maxRecDepth 20000 in
theorem ggX9_hang_X4_hold : GoodIn wsX9_hang wsX4_hold := goodIn_r _ [7, 8, 9, 10, 6, 11, 12, 13, 14, 15, 16, 17, 18, 19, 20, 21, 22, 23, 24, 25, 26, 27, 28, 29, 30, 31, 32, 77, 78, 79, 80, 81, 82, 83, 84, 85, 86, 87, 88, 89] (by decide +kernel) (by decide +kernel)
set_option maxRecDepth 20000 in
theorem gX9_hang_X4_hold : GoodIn wsX9_hang (wsV RX9 61 RX4 yX4_hold wsX4_hold) := goodIn_app (goodIn_of _ (by decide +kernel)) ggX9_hang_X4_hold
set_option maxRecDepth 20000 in
theorem ggX9_hang_X9_hangUp : GoodIn wsX9_hang wsX9_hangUp := goodIn_r _ [37, 2, 38, 39, 40, 17, 41, 19, 20, 25, 42, 43, 44, 36, 45, 46, 47, 48, 49, 50, 51, 52, 53, 54, 68, 69, 70, 71, 72, 73, 74, 75, 76, 80, 81, 82, 83, 84, 85, 86, 87, 88, 89, 90, 91, 92] (by decide +kernel) (by decide +kernel)
set_option maxRecDepth 20000 in
theorem gX9_hang_X9_hangUp : GoodIn wsX9_hang (wsV RX9 65 RX9 yX9_hangUp wsX9_hangUp) := goodIn_app (goodIn_of _ (by decide +kernel)) ggX9_hang_X9_hangUp
set_option maxRecDepth 20000 in
theorem ggX9_hang_X9_kept : GoodIn wsX9_hang wsX9_kept := goodIn_r _ [58, 1, 59, 60, 61, 6, 62, 12, 63, 64, 65, 66, 67, 68, 69, 70, 71, 72, 73, 74, 75, 76, 77, 78, 79] (by decide +kernel) (by decide +kernel)
set_option maxRecDepth 20000 in
theorem gX9_hang_X9_kept : GoodIn wsX9_hang (wsV RX9 69 RX9 yX9_kept wsX9_kept) := goodIn_app (goodIn_of _ (by decide +kernel)) ggX9_hang_X9_kept
theorem dX9_hang_0 : decode cX9_hang 0 = .ok (.aload_n 0, 1) := by decide +kernel
theorem dX9_hang_1 : decode cX9_hang 1 = .ok (.getfield 22, 3) := by decide +kernel
theorem dX9_hang_4 : decode cX9_hang 4 = .ok (.aload_n 0, 1) := by decide +kernel
theorem dX9_hang_5 : decode cX9_hang 5 = .ok (.getfield 10, 3) := by decide +kernel
theorem dX9_hang_8 : decode cX9_hang 8 = .ok (.invokevirtual 61, 3) := by decide +kernel
theorem dX9_hang_11 : decode cX9_hang 11 = .ok (.aload_n 0, 1) := by decide +kernel
theorem dX9_hang_12 : decode cX9_hang 12 = .ok (.aload_n 0, 1) := by decide +kernel
theorem dX9_hang_13 : decode cX9_hang 13 = .ok (.iload_n 1, 1) := by decide +kernel
theorem dX9_hang_14 : decode cX9_hang 14 = .ok (.iload_n 2, 1) := by decide +kernel
theorem dX9_hang_15 : decode cX9_hang 15 = .ok (.invokevirtual 65, 3) := by decide +kernel
theorem dX9_hang_18 : decode cX9_hang 18 = .ok (.invokevirtual 69, 3) := by decide +kernel
theorem dX9_hang_21 : decode cX9_hang 21 = .ok (.ireturn, 1) := by decide +kernel
set_option maxRecDepth 20000 in
theorem ggX9_wire_X4_hold : GoodIn wsX9_wire wsX4_hold := goodIn_r _ [7, 8, 9, 10, 6, 11, 12, 13, 14, 15, 16, 17, 18, 19, 20, 21, 22, 23, 24, 25, 26, 27, 28, 29, 30, 31, 32, 134, 135, 136, 137, 138, 139, 140, 141, 142, 143, 144, 145, 146] (by decide +kernel) (by decide +kernel)
set_option maxRecDepth 20000 in
theorem gX9_wire_X4_hold : GoodIn wsX9_wire (wsV RX9 61 RX4 yX4_hold wsX4_hold) := goodIn_app (goodIn_of _ (by decide +kernel)) ggX9_wire_X4_hold
set_option maxRecDepth 20000 in
theorem ggX9_wire_X9_putWire : GoodIn wsX9_wire wsX9_putWire := goodIn_r _ [37, 2, 38, 39, 40, 41, 17, 42, 19, 43, 44, 36, 45, 46, 47, 48, 49, 50, 51, 52, 53, 20, 54, 55, 56, 57, 58, 59, 60, 61, 62, 63, 64, 65, 66, 67, 68, 69, 70, 71, 72, 73, 74, 75, 76, 77, 26, 78, 79, 80, 81, 29, 82, 83, 84, 85, 86, 87, 88, 89, 90, 91, 92, 93, 94, 95, 96, 97, 98, 99, 100, 101, 102, 103, 104, 105, 106, 107, 108, 109, 110, 111, 125, 126, 127, 128, 129, 130, 131, 132, 133, 137, 138, 139, 140, 141, 142, 143, 144, 145, 146, 147, 148, 149] (by decide +kernel) (by decide +kernel)
set_option maxRecDepth 20000 in
theorem gX9_wire_X9_putWire : GoodIn wsX9_wire (wsV RX9 73 RX9 yX9_putWire wsX9_putWire) := goodIn_app (goodIn_of _ (by decide +kernel)) ggX9_wire_X9_putWire
set_option maxRecDepth 20000 in
theorem ggX9_wire_X9_kept : GoodIn wsX9_wire wsX9_kept := goodIn_r _ [115, 1, 116, 117, 118, 6, 119, 12, 120, 121, 122, 123, 124, 125, 126, 127, 128, 129, 130, 131, 132, 133, 134, 135, 136] (by decide +kernel) (by decide +kernel)
set_option maxRecDepth 20000 in
theorem gX9_wire_X9_kept : GoodIn wsX9_wire (wsV RX9 69 RX9 yX9_kept wsX9_kept) := goodIn_app (goodIn_of _ (by decide +kernel)) ggX9_wire_X9_kept
theorem dX9_wire_0 : decode cX9_wire 0 = .ok (.aload_n 0, 1) := by decide +kernel
theorem dX9_wire_1 : decode cX9_wire 1 = .ok (.getfield 22, 3) := by decide +kernel
theorem dX9_wire_4 : decode cX9_wire 4 = .ok (.aload_n 0, 1) := by decide +kernel
theorem dX9_wire_5 : decode cX9_wire 5 = .ok (.getfield 10, 3) := by decide +kernel
theorem dX9_wire_8 : decode cX9_wire 8 = .ok (.invokevirtual 61, 3) := by decide +kernel
theorem dX9_wire_11 : decode cX9_wire 11 = .ok (.aload_n 0, 1) := by decide +kernel
theorem dX9_wire_12 : decode cX9_wire 12 = .ok (.aload_n 0, 1) := by decide +kernel
theorem dX9_wire_13 : decode cX9_wire 13 = .ok (.iload_n 1, 1) := by decide +kernel
theorem dX9_wire_14 : decode cX9_wire 14 = .ok (.iload_n 2, 1) := by decide +kernel
theorem dX9_wire_15 : decode cX9_wire 15 = .ok (.iload_n 3, 1) := by decide +kernel
theorem dX9_wire_16 : decode cX9_wire 16 = .ok (.invokevirtual 73, 3) := by decide +kernel
theorem dX9_wire_19 : decode cX9_wire 19 = .ok (.invokevirtual 69, 3) := by decide +kernel
theorem dX9_wire_22 : decode cX9_wire 22 = .ok (.ireturn, 1) := by decide +kernel
set_option maxRecDepth 20000 in
theorem ggX9_cut_X4_hold : GoodIn wsX9_cut wsX4_hold := goodIn_r _ [7, 8, 9, 10, 6, 11, 12, 13, 14, 15, 16, 17, 18, 19, 20, 21, 22, 23, 24, 25, 26, 27, 28, 29, 30, 31, 32, 104, 105, 106, 107, 108, 109, 110, 111, 112, 113, 114, 115, 116] (by decide +kernel) (by decide +kernel)
set_option maxRecDepth 20000 in
theorem gX9_cut_X4_hold : GoodIn wsX9_cut (wsV RX9 61 RX4 yX4_hold wsX4_hold) := goodIn_app (goodIn_of _ (by decide +kernel)) ggX9_cut_X4_hold
set_option maxRecDepth 20000 in
theorem ggX9_cut_X9_cutWire : GoodIn wsX9_cut wsX9_cutWire := goodIn_r _ [37, 2, 38, 39, 40, 17, 41, 19, 42, 43, 36, 44, 45, 46, 47, 48, 49, 50, 51, 52, 20, 53, 54, 55, 56, 57, 58, 59, 60, 61, 62, 63, 64, 65, 66, 67, 68, 69, 70, 71, 72, 73, 74, 75, 76, 77, 26, 78, 79, 80, 81, 95, 96, 97, 98, 99, 100, 101, 102, 103, 107, 108, 109, 110, 111, 112, 113, 114, 115, 116, 117, 118, 119] (by decide +kernel) (by decide +kernel)
set_option maxRecDepth 20000 in
theorem gX9_cut_X9_cutWire : GoodIn wsX9_cut (wsV RX9 77 RX9 yX9_cutWire wsX9_cutWire) := goodIn_app (goodIn_of _ (by decide +kernel)) ggX9_cut_X9_cutWire
set_option maxRecDepth 20000 in
theorem ggX9_cut_X9_kept : GoodIn wsX9_cut wsX9_kept := goodIn_r _ [85, 1, 86, 87, 88, 6, 89, 12, 90, 91, 92, 93, 94, 95, 96, 97, 98, 99, 100, 101, 102, 103, 104, 105, 106] (by decide +kernel) (by decide +kernel)
set_option maxRecDepth 20000 in
theorem gX9_cut_X9_kept : GoodIn wsX9_cut (wsV RX9 69 RX9 yX9_kept wsX9_kept) := goodIn_app (goodIn_of _ (by decide +kernel)) ggX9_cut_X9_kept
theorem dX9_cut_0 : decode cX9_cut 0 = .ok (.aload_n 0, 1) := by decide +kernel
theorem dX9_cut_1 : decode cX9_cut 1 = .ok (.getfield 22, 3) := by decide +kernel
theorem dX9_cut_4 : decode cX9_cut 4 = .ok (.aload_n 0, 1) := by decide +kernel
theorem dX9_cut_5 : decode cX9_cut 5 = .ok (.getfield 10, 3) := by decide +kernel
theorem dX9_cut_8 : decode cX9_cut 8 = .ok (.invokevirtual 61, 3) := by decide +kernel
theorem dX9_cut_11 : decode cX9_cut 11 = .ok (.aload_n 0, 1) := by decide +kernel
theorem dX9_cut_12 : decode cX9_cut 12 = .ok (.aload_n 0, 1) := by decide +kernel
theorem dX9_cut_13 : decode cX9_cut 13 = .ok (.iload_n 1, 1) := by decide +kernel
theorem dX9_cut_14 : decode cX9_cut 14 = .ok (.iload_n 2, 1) := by decide +kernel
theorem dX9_cut_15 : decode cX9_cut 15 = .ok (.invokevirtual 77, 3) := by decide +kernel
theorem dX9_cut_18 : decode cX9_cut 18 = .ok (.invokevirtual 69, 3) := by decide +kernel
theorem dX9_cut_21 : decode cX9_cut 21 = .ok (.ireturn, 1) := by decide +kernel
set_option maxRecDepth 20000 in
theorem ggX9_set_X4_hold : GoodIn wsX9_set wsX4_hold := goodIn_r _ [7, 8, 9, 10, 6, 11, 12, 13, 14, 15, 16, 17, 18, 19, 20, 21, 22, 23, 24, 25, 26, 27, 28, 29, 30, 31, 32, 112, 113, 114, 115, 116, 117, 118, 119, 120, 121, 122, 123, 124] (by decide +kernel) (by decide +kernel)
set_option maxRecDepth 20000 in
theorem gX9_set_X4_hold : GoodIn wsX9_set (wsV RX9 61 RX4 yX4_hold wsX4_hold) := goodIn_app (goodIn_of _ (by decide +kernel)) ggX9_set_X4_hold
set_option maxRecDepth 20000 in
theorem ggX9_set_X9_setSwitch : GoodIn wsX9_set wsX9_setSwitch := goodIn_r _ [37, 2, 38, 39, 40, 17, 41, 19, 42, 43, 44, 45, 20, 46, 47, 48, 49, 50, 51, 52, 53, 36, 54, 55, 56, 57, 58, 59, 60, 61, 62, 63, 64, 65, 66, 67, 68, 69, 70, 71, 28, 72, 73, 74, 75, 76, 77, 78, 79, 80, 81, 27, 32, 82, 83, 84, 85, 86, 87, 88, 89, 103, 104, 105, 106, 107, 108, 109, 110, 111, 115, 116, 117, 118, 119, 120, 121, 122, 123, 124, 125, 126, 127] (by decide +kernel) (by decide +kernel)
set_option maxRecDepth 20000 in
theorem gX9_set_X9_setSwitch : GoodIn wsX9_set (wsV RX9 80 RX9 yX9_setSwitch wsX9_setSwitch) := goodIn_app (goodIn_of _ (by decide +kernel)) ggX9_set_X9_setSwitch
set_option maxRecDepth 20000 in
theorem ggX9_set_X9_kept : GoodIn wsX9_set wsX9_kept := goodIn_r _ [93, 1, 94, 95, 96, 6, 97, 12, 98, 99, 100, 101, 102, 103, 104, 105, 106, 107, 108, 109, 110, 111, 112, 113, 114] (by decide +kernel) (by decide +kernel)
set_option maxRecDepth 20000 in
theorem gX9_set_X9_kept : GoodIn wsX9_set (wsV RX9 69 RX9 yX9_kept wsX9_kept) := goodIn_app (goodIn_of _ (by decide +kernel)) ggX9_set_X9_kept
theorem dX9_set_0 : decode cX9_set 0 = .ok (.aload_n 0, 1) := by decide +kernel
theorem dX9_set_1 : decode cX9_set 1 = .ok (.getfield 22, 3) := by decide +kernel
theorem dX9_set_4 : decode cX9_set 4 = .ok (.aload_n 0, 1) := by decide +kernel
theorem dX9_set_5 : decode cX9_set 5 = .ok (.getfield 10, 3) := by decide +kernel
theorem dX9_set_8 : decode cX9_set 8 = .ok (.invokevirtual 61, 3) := by decide +kernel
theorem dX9_set_11 : decode cX9_set 11 = .ok (.aload_n 0, 1) := by decide +kernel
theorem dX9_set_12 : decode cX9_set 12 = .ok (.aload_n 0, 1) := by decide +kernel
theorem dX9_set_13 : decode cX9_set 13 = .ok (.iload_n 1, 1) := by decide +kernel
theorem dX9_set_14 : decode cX9_set 14 = .ok (.iload_n 2, 1) := by decide +kernel
theorem dX9_set_15 : decode cX9_set 15 = .ok (.invokevirtual 80, 3) := by decide +kernel
theorem dX9_set_18 : decode cX9_set 18 = .ok (.invokevirtual 69, 3) := by decide +kernel
theorem dX9_set_21 : decode cX9_set 21 = .ok (.ireturn, 1) := by decide +kernel
set_option maxRecDepth 20000 in
theorem ggX9_loops_X4_hold : GoodIn wsX9_loops wsX4_hold := goodIn_r _ [7, 8, 9, 10, 6, 11, 12, 13, 14, 15, 16, 17, 18, 19, 20, 21, 22, 23, 24, 25, 26, 27, 28, 29, 30, 31, 32, 116, 117, 118, 119, 120, 121, 122, 123, 124, 125, 126, 127, 128] (by decide +kernel) (by decide +kernel)
set_option maxRecDepth 20000 in
theorem gX9_loops_X4_hold : GoodIn wsX9_loops (wsV RX9 61 RX4 yX4_hold wsX4_hold) := goodIn_app (goodIn_of _ (by decide +kernel)) ggX9_loops_X4_hold
set_option maxRecDepth 20000 in
theorem ggX9_loops_X9_allowLoops : GoodIn wsX9_loops wsX9_allowLoops := goodIn_r _ [37, 2, 38, 39, 40, 41, 42, 43, 44, 45, 17, 46, 19, 47, 48, 49, 50, 51, 52, 53, 54, 55, 56, 26, 57, 36, 58, 59, 60, 61, 62, 63, 64, 65, 66, 67, 68, 69, 70, 71, 72, 73, 74, 75, 76, 77, 78, 79, 80, 81, 82, 83, 84, 85, 86, 87, 88, 89, 29, 90, 91, 92, 93, 107, 108, 109, 110, 111, 112, 113, 114, 115, 119, 120, 121, 122, 123, 124, 125, 126, 127, 128, 129, 130, 131] (by decide +kernel) (by decide +kernel)
set_option maxRecDepth 20000 in
theorem gX9_loops_X9_allowLoops : GoodIn wsX9_loops (wsV RX9 84 RX9 yX9_allowLoops wsX9_allowLoops) := goodIn_app (goodIn_of _ (by decide +kernel)) ggX9_loops_X9_allowLoops
set_option maxRecDepth 20000 in
theorem ggX9_loops_X9_kept : GoodIn wsX9_loops wsX9_kept := goodIn_r _ [97, 1, 98, 99, 100, 6, 101, 12, 102, 103, 104, 105, 106, 107, 108, 109, 110, 111, 112, 113, 114, 115, 116, 117, 118] (by decide +kernel) (by decide +kernel)
set_option maxRecDepth 20000 in
theorem gX9_loops_X9_kept : GoodIn wsX9_loops (wsV RX9 69 RX9 yX9_kept wsX9_kept) := goodIn_app (goodIn_of _ (by decide +kernel)) ggX9_loops_X9_kept
theorem dX9_loops_0 : decode cX9_loops 0 = .ok (.aload_n 0, 1) := by decide +kernel
theorem dX9_loops_1 : decode cX9_loops 1 = .ok (.getfield 22, 3) := by decide +kernel
theorem dX9_loops_4 : decode cX9_loops 4 = .ok (.aload_n 0, 1) := by decide +kernel
theorem dX9_loops_5 : decode cX9_loops 5 = .ok (.getfield 10, 3) := by decide +kernel
theorem dX9_loops_8 : decode cX9_loops 8 = .ok (.invokevirtual 61, 3) := by decide +kernel
theorem dX9_loops_11 : decode cX9_loops 11 = .ok (.aload_n 0, 1) := by decide +kernel
theorem dX9_loops_12 : decode cX9_loops 12 = .ok (.aload_n 0, 1) := by decide +kernel
theorem dX9_loops_13 : decode cX9_loops 13 = .ok (.iload_n 1, 1) := by decide +kernel
theorem dX9_loops_14 : decode cX9_loops 14 = .ok (.invokevirtual 84, 3) := by decide +kernel
theorem dX9_loops_17 : decode cX9_loops 17 = .ok (.invokevirtual 69, 3) := by decide +kernel
theorem dX9_loops_20 : decode cX9_loops 20 = .ok (.ireturn, 1) := by decide +kernel
set_option maxRecDepth 20000 in
theorem ggX9_tick_X4_hold : GoodIn wsX9_tick wsX4_hold := goodIn_r _ [7, 8, 9, 10, 6, 11, 12, 13, 14, 15, 16, 17, 18, 19, 20, 21, 22, 23, 24, 25, 26, 27, 28, 29, 30, 31, 32, 87, 88, 89, 90, 91, 92, 93, 94, 95, 96, 97, 98, 99] (by decide +kernel) (by decide +kernel)
set_option maxRecDepth 20000 in
theorem gX9_tick_X4_hold : GoodIn wsX9_tick (wsV RX9 61 RX4 yX4_hold wsX4_hold) := goodIn_app (goodIn_of _ (by decide +kernel)) ggX9_tick_X4_hold
set_option maxRecDepth 20000 in
theorem ggX9_tick_X9_letGoBy : GoodIn wsX9_tick wsX9_letGoBy := goodIn_r _ [37, 2, 38, 39, 40, 17, 41, 28, 27, 30, 31, 42, 43, 44, 45, 19, 20, 25, 46, 47, 48, 49, 50, 51, 52, 53, 54, 55, 56, 57, 26, 58, 59, 60, 61, 62, 63, 64, 78, 79, 80, 81, 82, 83, 84, 85, 86, 90, 91, 92, 93, 94, 95, 96, 97, 98, 99] (by decide +kernel) (by decide +kernel)
set_option maxRecDepth 20000 in
theorem gX9_tick_X9_letGoBy : GoodIn wsX9_tick (wsV RX9 88 RX9 yX9_letGoBy wsX9_letGoBy) := goodIn_app (goodIn_of _ (by decide +kernel)) ggX9_tick_X9_letGoBy
set_option maxRecDepth 20000 in
theorem ggX9_tick_X9_kept : GoodIn wsX9_tick wsX9_kept := goodIn_r _ [68, 1, 69, 70, 71, 6, 72, 12, 73, 74, 75, 76, 77, 78, 79, 80, 81, 82, 83, 84, 85, 86, 87, 88, 89] (by decide +kernel) (by decide +kernel)
set_option maxRecDepth 20000 in
theorem gX9_tick_X9_kept : GoodIn wsX9_tick (wsV RX9 69 RX9 yX9_kept wsX9_kept) := goodIn_app (goodIn_of _ (by decide +kernel)) ggX9_tick_X9_kept
theorem dX9_tick_0 : decode cX9_tick 0 = .ok (.aload_n 0, 1) := by decide +kernel
theorem dX9_tick_1 : decode cX9_tick 1 = .ok (.getfield 22, 3) := by decide +kernel
theorem dX9_tick_4 : decode cX9_tick 4 = .ok (.aload_n 0, 1) := by decide +kernel
theorem dX9_tick_5 : decode cX9_tick 5 = .ok (.getfield 10, 3) := by decide +kernel
theorem dX9_tick_8 : decode cX9_tick 8 = .ok (.invokevirtual 61, 3) := by decide +kernel
theorem dX9_tick_11 : decode cX9_tick 11 = .ok (.aload_n 0, 1) := by decide +kernel
theorem dX9_tick_12 : decode cX9_tick 12 = .ok (.aload_n 0, 1) := by decide +kernel
theorem dX9_tick_13 : decode cX9_tick 13 = .ok (.iload_n 1, 1) := by decide +kernel
theorem dX9_tick_14 : decode cX9_tick 14 = .ok (.invokevirtual 88, 3) := by decide +kernel
theorem dX9_tick_17 : decode cX9_tick 17 = .ok (.invokevirtual 69, 3) := by decide +kernel
theorem dX9_tick_20 : decode cX9_tick 20 = .ok (.ireturn, 1) := by decide +kernel
set_option maxRecDepth 20000 in
theorem ggX9_lanternOf_X2_isHung : GoodIn wsX9_lanternOf wsX2_isHung := goodIn_r _ [6, 7, 75, 76, 77, 78, 79, 80, 81, 82, 83, 84] (by decide +kernel) (by decide +kernel)
set_option maxRecDepth 20000 in
theorem gX9_lanternOf_X2_isHung : GoodIn wsX9_lanternOf (wsV RX9 91 RX2 yX2_isHung wsX2_isHung) := goodIn_app (goodIn_of _ (by decide +kernel)) ggX9_lanternOf_X2_isHung
set_option maxRecDepth 20000 in
theorem ggX9_lanternOf_X2_kindOf : GoodIn wsX9_lanternOf wsX2_kindOf := goodIn_r _ [11, 12, 13, 3, 4, 5, 6, 7, 75, 76, 77, 78, 79, 80, 81, 82, 83, 84] (by decide +kernel) (by decide +kernel)
set_option maxRecDepth 20000 in
theorem gX9_lanternOf_X2_kindOf : GoodIn wsX9_lanternOf (wsV RX9 95 RX2 yX2_kindOf wsX2_kindOf) := goodIn_app (goodIn_of _ (by decide +kernel)) ggX9_lanternOf_X2_kindOf
set_option maxRecDepth 20000 in
theorem ggX9_lanternOf_X2_wickOf : GoodIn wsX9_lanternOf wsX2_wickOf := goodIn_r _ [17, 18, 13, 3, 4, 5, 6, 7, 75, 76, 77, 78, 79, 80, 81, 82, 83, 84] (by decide +kernel) (by decide +kernel)
set_option maxRecDepth 20000 in
theorem gX9_lanternOf_X2_wickOf : GoodIn wsX9_lanternOf (wsV RX9 98 RX2 yX2_wickOf wsX2_wickOf) := goodIn_app (goodIn_of _ (by decide +kernel)) ggX9_lanternOf_X2_wickOf
set_option maxRecDepth 20000 in
theorem ggX9_lanternOf_X2_isGlowing : GoodIn wsX9_lanternOf wsX2_isGlowing := goodIn_r _ [22, 23, 24, 25, 5, 26, 27, 28, 29, 30, 31, 32, 33, 34, 75, 76, 77, 78, 79, 80, 81, 82, 83, 84] (by decide +kernel) (by decide +kernel)
set_option maxRecDepth 20000 in
theorem gX9_lanternOf_X2_isGlowing : GoodIn wsX9_lanternOf (wsV RX9 101 RX2 yX2_isGlowing wsX2_isGlowing) := goodIn_app (goodIn_of _ (by decide +kernel)) ggX9_lanternOf_X2_isGlowing
set_option maxRecDepth 20000 in
theorem ggX9_lanternOf_X2_wiresTo : GoodIn wsX9_lanternOf wsX2_wiresTo := goodIn_r _ [38, 39, 40, 41, 5, 42, 43, 75, 76, 77, 78, 79, 80, 81, 82, 83, 84] (by decide +kernel) (by decide +kernel)
set_option maxRecDepth 20000 in
theorem gX9_lanternOf_X2_wiresTo : GoodIn wsX9_lanternOf (wsV RX9 104 RX2 yX2_wiresTo wsX2_wiresTo) := goodIn_app (goodIn_of _ (by decide +kernel)) ggX9_lanternOf_X2_wiresTo
set_option maxRecDepth 20000 in
theorem ggX9_lanternOf_X2_wiresFrom : GoodIn wsX9_lanternOf wsX2_wiresFrom := goodIn_r _ [47, 43, 75, 76, 77, 78, 79, 80, 81, 82, 83, 84] (by decide +kernel) (by decide +kernel)
set_option maxRecDepth 20000 in
theorem gX9_lanternOf_X2_wiresFrom : GoodIn wsX9_lanternOf (wsV RX9 107 RX2 yX2_wiresFrom wsX2_wiresFrom) := goodIn_app (goodIn_of _ (by decide +kernel)) ggX9_lanternOf_X2_wiresFrom
set_option maxRecDepth 20000 in
theorem ggX9_lanternOf_X2_changesOf : GoodIn wsX9_lanternOf wsX2_changesOf := goodIn_r _ [51, 52, 13, 3, 4, 5, 6, 7, 75, 76, 77, 78, 79, 80, 81, 82, 83, 84] (by decide +kernel) (by decide +kernel)
set_option maxRecDepth 20000 in
theorem gX9_lanternOf_X2_changesOf : GoodIn wsX9_lanternOf (wsV RX9 110 RX2 yX2_changesOf wsX2_changesOf) := goodIn_app (goodIn_of _ (by decide +kernel)) ggX9_lanternOf_X2_changesOf
set_option maxRecDepth 20000 in
theorem ggX9_lanternOf_X2_glow : GoodIn wsX9_lanternOf wsX2_glow := goodIn_r _ [26, 27, 28, 29, 5, 30, 31, 75, 76, 77, 78, 79, 80, 81, 82, 83, 84] (by decide +kernel) (by decide +kernel)
set_option maxRecDepth 20000 in
theorem gX9_lanternOf_X2_glow : GoodIn wsX9_lanternOf (wsV RX9 113 RX2 yX2_glow wsX2_glow) := goodIn_app (goodIn_of _ (by decide +kernel)) ggX9_lanternOf_X2_glow
set_option maxRecDepth 20000 in
theorem ggX9_lanternOf_X2_isFinding : GoodIn wsX9_lanternOf wsX2_isFinding := goodIn_r _ [57, 43, 12, 75, 76, 77, 78, 79, 80, 81, 82, 83, 84] (by decide +kernel) (by decide +kernel)
set_option maxRecDepth 20000 in
theorem gX9_lanternOf_X2_isFinding : GoodIn wsX9_lanternOf (wsV RX9 117 RX2 yX2_isFinding wsX2_isFinding) := goodIn_app (goodIn_of _ (by decide +kernel)) ggX9_lanternOf_X2_isFinding
set_option maxRecDepth 20000 in
theorem ggX9_lanternOf_X2_state : GoodIn wsX9_lanternOf wsX2_state := goodIn_r _ [61, 27, 75, 76, 77, 78, 79, 80, 81, 82, 83, 84] (by decide +kernel) (by decide +kernel)
set_option maxRecDepth 20000 in
theorem gX9_lanternOf_X2_state : GoodIn wsX9_lanternOf (wsV RX9 121 RX2 yX2_state wsX2_state) := goodIn_app (goodIn_of _ (by decide +kernel)) ggX9_lanternOf_X2_state
set_option maxRecDepth 20000 in
theorem ggX9_lanternOf_X2_foundIn : GoodIn wsX9_lanternOf wsX2_foundIn := goodIn_r _ [64, 65] (by decide +kernel) (by decide +kernel)
set_option maxRecDepth 20000 in
theorem gX9_lanternOf_X2_foundIn : GoodIn wsX9_lanternOf (va_wsS RX9 125 yX2_foundIn wsX2_foundIn) := goodIn_app (goodIn_of _ (by decide +kernel)) ggX9_lanternOf_X2_foundIn
theorem dX9_lanternOf_0 : decode cX9_lanternOf 0 = .ok (.aload_n 0, 1) := by decide +kernel
theorem dX9_lanternOf_1 : decode cX9_lanternOf 1 = .ok (.getfield 10, 3) := by decide +kernel
theorem dX9_lanternOf_4 : decode cX9_lanternOf 4 = .ok (.iload_n 1, 1) := by decide +kernel
theorem dX9_lanternOf_5 : decode cX9_lanternOf 5 = .ok (.invokevirtual 91, 3) := by decide +kernel
theorem dX9_lanternOf_8 : decode cX9_lanternOf 8 = .ok (.ifCond .ne 6, 3) := by decide +kernel
theorem dX9_lanternOf_11 : decode cX9_lanternOf 11 = .ok (.bipush (-11), 2) := by decide +kernel
theorem dX9_lanternOf_13 : decode cX9_lanternOf 13 = .ok (.ireturn, 1) := by decide +kernel
theorem dX9_lanternOf_14 : decode cX9_lanternOf 14 = .ok (.iload_n 2, 1) := by decide +kernel
theorem dX9_lanternOf_15 : decode cX9_lanternOf 15 = .ok (.tableswitch 143 0 7 #[45, 54, 63, 80, 89, 98, 107, 131], 45) := by decide +kernel
theorem dX9_lanternOf_60 : decode cX9_lanternOf 60 = .ok (.aload_n 0, 1) := by decide +kernel
theorem dX9_lanternOf_61 : decode cX9_lanternOf 61 = .ok (.getfield 10, 3) := by decide +kernel
theorem dX9_lanternOf_64 : decode cX9_lanternOf 64 = .ok (.iload_n 1, 1) := by decide +kernel
theorem dX9_lanternOf_65 : decode cX9_lanternOf 65 = .ok (.invokevirtual 95, 3) := by decide +kernel
theorem dX9_lanternOf_68 : decode cX9_lanternOf 68 = .ok (.ireturn, 1) := by decide +kernel
theorem dX9_lanternOf_69 : decode cX9_lanternOf 69 = .ok (.aload_n 0, 1) := by decide +kernel
theorem dX9_lanternOf_70 : decode cX9_lanternOf 70 = .ok (.getfield 10, 3) := by decide +kernel
theorem dX9_lanternOf_73 : decode cX9_lanternOf 73 = .ok (.iload_n 1, 1) := by decide +kernel
theorem dX9_lanternOf_74 : decode cX9_lanternOf 74 = .ok (.invokevirtual 98, 3) := by decide +kernel
theorem dX9_lanternOf_77 : decode cX9_lanternOf 77 = .ok (.ireturn, 1) := by decide +kernel
theorem dX9_lanternOf_78 : decode cX9_lanternOf 78 = .ok (.aload_n 0, 1) := by decide +kernel
theorem dX9_lanternOf_79 : decode cX9_lanternOf 79 = .ok (.getfield 10, 3) := by decide +kernel
theorem dX9_lanternOf_82 : decode cX9_lanternOf 82 = .ok (.iload_n 1, 1) := by decide +kernel
theorem dX9_lanternOf_83 : decode cX9_lanternOf 83 = .ok (.invokevirtual 101, 3) := by decide +kernel
theorem dX9_lanternOf_86 : decode cX9_lanternOf 86 = .ok (.ifCond .eq 7, 3) := by decide +kernel
theorem dX9_lanternOf_89 : decode cX9_lanternOf 89 = .ok (.iconst 1, 1) := by decide +kernel
theorem dX9_lanternOf_90 : decode cX9_lanternOf 90 = .ok (.goto 4, 3) := by decide +kernel
theorem dX9_lanternOf_93 : decode cX9_lanternOf 93 = .ok (.iconst 0, 1) := by decide +kernel
theorem dX9_lanternOf_94 : decode cX9_lanternOf 94 = .ok (.ireturn, 1) := by decide +kernel
theorem dX9_lanternOf_95 : decode cX9_lanternOf 95 = .ok (.aload_n 0, 1) := by decide +kernel
theorem dX9_lanternOf_96 : decode cX9_lanternOf 96 = .ok (.getfield 10, 3) := by decide +kernel
theorem dX9_lanternOf_99 : decode cX9_lanternOf 99 = .ok (.iload_n 1, 1) := by decide +kernel
theorem dX9_lanternOf_100 : decode cX9_lanternOf 100 = .ok (.invokevirtual 104, 3) := by decide +kernel
theorem dX9_lanternOf_103 : decode cX9_lanternOf 103 = .ok (.ireturn, 1) := by decide +kernel
theorem dX9_lanternOf_104 : decode cX9_lanternOf 104 = .ok (.aload_n 0, 1) := by decide +kernel
theorem dX9_lanternOf_105 : decode cX9_lanternOf 105 = .ok (.getfield 10, 3) := by decide +kernel
theorem dX9_lanternOf_108 : decode cX9_lanternOf 108 = .ok (.iload_n 1, 1) := by decide +kernel
theorem dX9_lanternOf_109 : decode cX9_lanternOf 109 = .ok (.invokevirtual 107, 3) := by decide +kernel
theorem dX9_lanternOf_112 : decode cX9_lanternOf 112 = .ok (.ireturn, 1) := by decide +kernel
theorem dX9_lanternOf_113 : decode cX9_lanternOf 113 = .ok (.aload_n 0, 1) := by decide +kernel
theorem dX9_lanternOf_114 : decode cX9_lanternOf 114 = .ok (.getfield 10, 3) := by decide +kernel
theorem dX9_lanternOf_117 : decode cX9_lanternOf 117 = .ok (.iload_n 1, 1) := by decide +kernel
theorem dX9_lanternOf_118 : decode cX9_lanternOf 118 = .ok (.invokevirtual 110, 3) := by decide +kernel
theorem dX9_lanternOf_121 : decode cX9_lanternOf 121 = .ok (.ireturn, 1) := by decide +kernel
theorem dX9_lanternOf_122 : decode cX9_lanternOf 122 = .ok (.aload_n 0, 1) := by decide +kernel
theorem dX9_lanternOf_123 : decode cX9_lanternOf 123 = .ok (.getfield 10, 3) := by decide +kernel
theorem dX9_lanternOf_126 : decode cX9_lanternOf 126 = .ok (.iload_n 1, 1) := by decide +kernel
theorem dX9_lanternOf_127 : decode cX9_lanternOf 127 = .ok (.aload_n 0, 1) := by decide +kernel
theorem dX9_lanternOf_128 : decode cX9_lanternOf 128 = .ok (.getfield 10, 3) := by decide +kernel
theorem dX9_lanternOf_131 : decode cX9_lanternOf 131 = .ok (.invokevirtual 113, 3) := by decide +kernel
theorem dX9_lanternOf_134 : decode cX9_lanternOf 134 = .ok (.invokevirtual 117, 3) := by decide +kernel
theorem dX9_lanternOf_137 : decode cX9_lanternOf 137 = .ok (.ifCond .eq 7, 3) := by decide +kernel
theorem dX9_lanternOf_140 : decode cX9_lanternOf 140 = .ok (.iconst 1, 1) := by decide +kernel
theorem dX9_lanternOf_141 : decode cX9_lanternOf 141 = .ok (.goto 4, 3) := by decide +kernel
theorem dX9_lanternOf_144 : decode cX9_lanternOf 144 = .ok (.iconst 0, 1) := by decide +kernel
theorem dX9_lanternOf_145 : decode cX9_lanternOf 145 = .ok (.ireturn, 1) := by decide +kernel
theorem dX9_lanternOf_146 : decode cX9_lanternOf 146 = .ok (.aload_n 0, 1) := by decide +kernel
theorem dX9_lanternOf_147 : decode cX9_lanternOf 147 = .ok (.getfield 10, 3) := by decide +kernel
theorem dX9_lanternOf_150 : decode cX9_lanternOf 150 = .ok (.invokevirtual 121, 3) := by decide +kernel
theorem dX9_lanternOf_153 : decode cX9_lanternOf 153 = .ok (.iload_n 1, 1) := by decide +kernel
theorem dX9_lanternOf_154 : decode cX9_lanternOf 154 = .ok (.invokestatic 125, 3) := by decide +kernel
theorem dX9_lanternOf_157 : decode cX9_lanternOf 157 = .ok (.ireturn, 1) := by decide +kernel
theorem dX9_lanternOf_158 : decode cX9_lanternOf 158 = .ok (.bipush (-12), 2) := by decide +kernel
theorem dX9_lanternOf_160 : decode cX9_lanternOf 160 = .ok (.ireturn, 1) := by decide +kernel
set_option maxRecDepth 20000 in
theorem ggX9_wireOf_X2_isHung : GoodIn wsX9_wireOf wsX2_isHung := goodIn_r _ [6, 7, 26, 27, 28, 29, 30, 31, 32, 33, 34, 35] (by decide +kernel) (by decide +kernel)
set_option maxRecDepth 20000 in
theorem gX9_wireOf_X2_isHung : GoodIn wsX9_wireOf (wsV RX9 91 RX2 yX2_isHung wsX2_isHung) := goodIn_app (goodIn_of _ (by decide +kernel)) ggX9_wireOf_X2_isHung
set_option maxRecDepth 20000 in
theorem ggX9_wireOf_X9_isPlace : GoodIn wsX9_wireOf wsX9_isPlace := goodIn_r _ [11] (by decide +kernel) (by decide +kernel)
set_option maxRecDepth 20000 in
theorem gX9_wireOf_X9_isPlace : GoodIn wsX9_wireOf (va_wsS RX9 129 yX9_isPlace wsX9_isPlace) := goodIn_app (goodIn_of _ (by decide +kernel)) ggX9_wireOf_X9_isPlace
set_option maxRecDepth 20000 in
theorem ggX9_wireOf_X2_sourceOf : GoodIn wsX9_wireOf wsX2_sourceOf := goodIn_r _ [15, 16, 26, 27, 28, 29, 30, 31, 32, 33, 34, 35] (by decide +kernel) (by decide +kernel)
set_option maxRecDepth 20000 in
theorem gX9_wireOf_X2_sourceOf : GoodIn wsX9_wireOf (wsV RX9 132 RX2 yX2_sourceOf wsX2_sourceOf) := goodIn_app (goodIn_of _ (by decide +kernel)) ggX9_wireOf_X2_sourceOf
theorem dX9_wireOf_0 : decode cX9_wireOf 0 = .ok (.aload_n 0, 1) := by decide +kernel
theorem dX9_wireOf_1 : decode cX9_wireOf 1 = .ok (.getfield 10, 3) := by decide +kernel
theorem dX9_wireOf_4 : decode cX9_wireOf 4 = .ok (.iload_n 1, 1) := by decide +kernel
theorem dX9_wireOf_5 : decode cX9_wireOf 5 = .ok (.invokevirtual 91, 3) := by decide +kernel
theorem dX9_wireOf_8 : decode cX9_wireOf 8 = .ok (.ifCond .ne 6, 3) := by decide +kernel
theorem dX9_wireOf_11 : decode cX9_wireOf 11 = .ok (.bipush (-11), 2) := by decide +kernel
theorem dX9_wireOf_13 : decode cX9_wireOf 13 = .ok (.ireturn, 1) := by decide +kernel
theorem dX9_wireOf_14 : decode cX9_wireOf 14 = .ok (.iload_n 2, 1) := by decide +kernel
theorem dX9_wireOf_15 : decode cX9_wireOf 15 = .ok (.invokestatic 129, 3) := by decide +kernel
theorem dX9_wireOf_18 : decode cX9_wireOf 18 = .ok (.ifCond .ne 6, 3) := by decide +kernel
theorem dX9_wireOf_21 : decode cX9_wireOf 21 = .ok (.bipush (-12), 2) := by decide +kernel
theorem dX9_wireOf_23 : decode cX9_wireOf 23 = .ok (.ireturn, 1) := by decide +kernel
theorem dX9_wireOf_24 : decode cX9_wireOf 24 = .ok (.aload_n 0, 1) := by decide +kernel
theorem dX9_wireOf_25 : decode cX9_wireOf 25 = .ok (.getfield 10, 3) := by decide +kernel
theorem dX9_wireOf_28 : decode cX9_wireOf 28 = .ok (.iload_n 1, 1) := by decide +kernel
theorem dX9_wireOf_29 : decode cX9_wireOf 29 = .ok (.iload_n 2, 1) := by decide +kernel
theorem dX9_wireOf_30 : decode cX9_wireOf 30 = .ok (.invokevirtual 132, 3) := by decide +kernel
theorem dX9_wireOf_33 : decode cX9_wireOf 33 = .ok (.istore_n 3, 1) := by decide +kernel
theorem dX9_wireOf_34 : decode cX9_wireOf 34 = .ok (.iload_n 3, 1) := by decide +kernel
theorem dX9_wireOf_35 : decode cX9_wireOf 35 = .ok (.iconst (-1), 1) := by decide +kernel
theorem dX9_wireOf_36 : decode cX9_wireOf 36 = .ok (.if_icmp .ne 8, 3) := by decide +kernel
theorem dX9_wireOf_39 : decode cX9_wireOf 39 = .ok (.bipush (-15), 2) := by decide +kernel
theorem dX9_wireOf_41 : decode cX9_wireOf 41 = .ok (.goto 4, 3) := by decide +kernel
theorem dX9_wireOf_44 : decode cX9_wireOf 44 = .ok (.iload_n 3, 1) := by decide +kernel
theorem dX9_wireOf_45 : decode cX9_wireOf 45 = .ok (.ireturn, 1) := by decide +kernel
set_option maxRecDepth 20000 in
theorem ggX9_leads_X2_isHung : GoodIn wsX9_leads wsX2_isHung := goodIn_r _ [6, 7, 33, 34, 35, 36, 37, 38, 39, 40, 41, 42] (by decide +kernel) (by decide +kernel)
set_option maxRecDepth 20000 in
theorem gX9_leads_X2_isHung : GoodIn wsX9_leads (wsV RX9 91 RX2 yX2_isHung wsX2_isHung) := goodIn_app (goodIn_of _ (by decide +kernel)) ggX9_leads_X2_isHung
set_option maxRecDepth 20000 in
theorem ggX9_leads_X5_ledFrom : GoodIn wsX9_leads wsX5_ledFrom := goodIn_r _ [11, 12, 13, 10, 14, 15, 16, 17, 5, 18, 7, 19, 20, 21, 22, 23, 33, 34, 35, 36, 37, 38, 39, 40, 41, 42] (by decide +kernel) (by decide +kernel)
set_option maxRecDepth 20000 in
theorem gX9_leads_X5_ledFrom : GoodIn wsX9_leads (va_wsS RX9 135 yX5_ledFrom wsX5_ledFrom) := goodIn_app (goodIn_of _ (by decide +kernel)) ggX9_leads_X5_ledFrom
theorem dX9_leads_0 : decode cX9_leads 0 = .ok (.aload_n 0, 1) := by decide +kernel
theorem dX9_leads_1 : decode cX9_leads 1 = .ok (.getfield 10, 3) := by decide +kernel
theorem dX9_leads_4 : decode cX9_leads 4 = .ok (.iload_n 1, 1) := by decide +kernel
theorem dX9_leads_5 : decode cX9_leads 5 = .ok (.invokevirtual 91, 3) := by decide +kernel
theorem dX9_leads_8 : decode cX9_leads 8 = .ok (.ifCond .eq 14, 3) := by decide +kernel
theorem dX9_leads_11 : decode cX9_leads 11 = .ok (.aload_n 0, 1) := by decide +kernel
theorem dX9_leads_12 : decode cX9_leads 12 = .ok (.getfield 10, 3) := by decide +kernel
theorem dX9_leads_15 : decode cX9_leads 15 = .ok (.iload_n 1, 1) := by decide +kernel
theorem dX9_leads_16 : decode cX9_leads 16 = .ok (.invokestatic 135, 3) := by decide +kernel
theorem dX9_leads_19 : decode cX9_leads 19 = .ok (.goto 5, 3) := by decide +kernel
theorem dX9_leads_22 : decode cX9_leads 22 = .ok (.bipush (-11), 2) := by decide +kernel
theorem dX9_leads_24 : decode cX9_leads 24 = .ok (.ireturn, 1) := by decide +kernel
set_option maxRecDepth 20000 in
theorem ggX9_looped_X5_inLoops : GoodIn wsX9_looped wsX5_inLoops := goodIn_r _ [5, 6, 7, 8, 9, 10, 11, 12, 13, 4, 14, 15, 16, 17, 18, 19, 20, 21, 22, 23, 24, 25, 35, 36, 37, 38, 39, 40, 41, 42, 43, 44] (by decide +kernel) (by decide +kernel)
set_option maxRecDepth 20000 in
theorem gX9_looped_X5_inLoops : GoodIn wsX9_looped (va_wsS RX9 141 yX5_inLoops wsX5_inLoops) := goodIn_app (goodIn_of _ (by decide +kernel)) ggX9_looped_X5_inLoops
theorem dX9_looped_0 : decode cX9_looped 0 = .ok (.aload_n 0, 1) := by decide +kernel
theorem dX9_looped_1 : decode cX9_looped 1 = .ok (.getfield 10, 3) := by decide +kernel
theorem dX9_looped_4 : decode cX9_looped 4 = .ok (.invokestatic 141, 3) := by decide +kernel
theorem dX9_looped_7 : decode cX9_looped 7 = .ok (.ireturn, 1) := by decide +kernel
set_option maxRecDepth 20000 in
theorem ggX9_depth_X2_isHung : GoodIn wsX9_depth wsX2_isHung := goodIn_r _ [7, 8, 55, 56, 57, 58, 59, 60, 61, 62, 63, 64] (by decide +kernel) (by decide +kernel)
set_option maxRecDepth 20000 in
theorem gX9_depth_X2_isHung : GoodIn wsX9_depth (wsV RX9 91 RX2 yX2_isHung wsX2_isHung) := goodIn_app (goodIn_of _ (by decide +kernel)) ggX9_depth_X2_isHung
set_option maxRecDepth 20000 in
theorem ggX9_depth_X0_byWires : GoodIn wsX9_depth wsX0_byWires := goodIn_r _ [13, 14, 15, 16, 17, 18, 19, 20, 12, 21, 22, 23, 24, 25, 26, 4, 5, 6, 7, 8, 27, 28, 29, 30, 31, 32, 33, 34, 35, 36, 37, 38, 39, 40, 41, 42, 43, 44, 45, 65, 55, 56, 57, 58, 59, 60, 61, 62, 63, 64] (by decide +kernel) (by decide +kernel)
set_option maxRecDepth 20000 in
theorem gX9_depth_X0_byWires : GoodIn wsX9_depth (wsV RX9 145 RX0 yX0_byWires wsX0_byWires) := goodIn_app (goodIn_of _ (by decide +kernel)) ggX9_depth_X0_byWires
theorem dX9_depth_0 : decode cX9_depth 0 = .ok (.aload_n 0, 1) := by decide +kernel
theorem dX9_depth_1 : decode cX9_depth 1 = .ok (.getfield 10, 3) := by decide +kernel
theorem dX9_depth_4 : decode cX9_depth 4 = .ok (.iload_n 1, 1) := by decide +kernel
theorem dX9_depth_5 : decode cX9_depth 5 = .ok (.invokevirtual 91, 3) := by decide +kernel
theorem dX9_depth_8 : decode cX9_depth 8 = .ok (.ifCond .eq 18, 3) := by decide +kernel
theorem dX9_depth_11 : decode cX9_depth 11 = .ok (.aload_n 0, 1) := by decide +kernel
theorem dX9_depth_12 : decode cX9_depth 12 = .ok (.getfield 29, 3) := by decide +kernel
theorem dX9_depth_15 : decode cX9_depth 15 = .ok (.aload_n 0, 1) := by decide +kernel
theorem dX9_depth_16 : decode cX9_depth 16 = .ok (.getfield 10, 3) := by decide +kernel
theorem dX9_depth_19 : decode cX9_depth 19 = .ok (.iload_n 1, 1) := by decide +kernel
theorem dX9_depth_20 : decode cX9_depth 20 = .ok (.invokevirtual 145, 3) := by decide +kernel
theorem dX9_depth_23 : decode cX9_depth 23 = .ok (.goto 5, 3) := by decide +kernel
theorem dX9_depth_26 : decode cX9_depth 26 = .ok (.bipush (-11), 2) := by decide +kernel
theorem dX9_depth_28 : decode cX9_depth 28 = .ok (.ireturn, 1) := by decide +kernel
set_option maxRecDepth 20000 in
theorem ggX9_depthAgain_X2_isHung : GoodIn wsX9_depthAgain wsX2_isHung := goodIn_r _ [7, 8, 64, 65, 66, 67, 68, 69, 70, 71, 72, 73] (by decide +kernel) (by decide +kernel)
set_option maxRecDepth 20000 in
theorem gX9_depthAgain_X2_isHung : GoodIn wsX9_depthAgain (wsV RX9 91 RX2 yX2_isHung wsX2_isHung) := goodIn_app (goodIn_of _ (by decide +kernel)) ggX9_depthAgain_X2_isHung
set_option maxRecDepth 20000 in
theorem ggX9_depthAgain_X0_byRounds : GoodIn wsX9_depthAgain wsX0_byRounds := goodIn_r _ [13, 14, 15, 16, 17, 18, 19, 20, 21, 12, 22, 23, 24, 25, 6, 26, 8, 27, 28, 29, 30, 31, 32, 33, 34, 35, 36, 37, 38, 39, 40, 4, 5, 7, 41, 42, 43, 44, 45, 46, 47, 48, 49, 50, 51, 52, 53, 54, 74, 64, 65, 66, 67, 68, 69, 70, 71, 72, 73] (by decide +kernel) (by decide +kernel)
set_option maxRecDepth 20000 in
theorem gX9_depthAgain_X0_byRounds : GoodIn wsX9_depthAgain (wsV RX9 148 RX0 yX0_byRounds wsX0_byRounds) := goodIn_app (goodIn_of _ (by decide +kernel)) ggX9_depthAgain_X0_byRounds
theorem dX9_depthAgain_0 : decode cX9_depthAgain 0 = .ok (.aload_n 0, 1) := by decide +kernel
theorem dX9_depthAgain_1 : decode cX9_depthAgain 1 = .ok (.getfield 10, 3) := by decide +kernel
theorem dX9_depthAgain_4 : decode cX9_depthAgain 4 = .ok (.iload_n 1, 1) := by decide +kernel
theorem dX9_depthAgain_5 : decode cX9_depthAgain 5 = .ok (.invokevirtual 91, 3) := by decide +kernel
theorem dX9_depthAgain_8 : decode cX9_depthAgain 8 = .ok (.ifCond .eq 18, 3) := by decide +kernel
theorem dX9_depthAgain_11 : decode cX9_depthAgain 11 = .ok (.aload_n 0, 1) := by decide +kernel
theorem dX9_depthAgain_12 : decode cX9_depthAgain 12 = .ok (.getfield 29, 3) := by decide +kernel
theorem dX9_depthAgain_15 : decode cX9_depthAgain 15 = .ok (.aload_n 0, 1) := by decide +kernel
theorem dX9_depthAgain_16 : decode cX9_depthAgain 16 = .ok (.getfield 10, 3) := by decide +kernel
theorem dX9_depthAgain_19 : decode cX9_depthAgain 19 = .ok (.iload_n 1, 1) := by decide +kernel
theorem dX9_depthAgain_20 : decode cX9_depthAgain 20 = .ok (.invokevirtual 148, 3) := by decide +kernel
theorem dX9_depthAgain_23 : decode cX9_depthAgain 23 = .ok (.goto 5, 3) := by decide +kernel
theorem dX9_depthAgain_26 : decode cX9_depthAgain 26 = .ok (.bipush (-11), 2) := by decide +kernel
theorem dX9_depthAgain_28 : decode cX9_depthAgain 28 = .ok (.ireturn, 1) := by decide +kernel
set_option maxRecDepth 20000 in
theorem ggX9_settlesIn_X1_ticksToSettle : GoodIn wsX9_settlesIn wsX1_ticksToSettle := goodIn_r _ [7, 8, 9, 10, 11, 12, 13, 14, 15, 16, 17, 18, 19, 20, 21, 22, 23, 24, 25, 26, 27, 28, 29, 30, 31, 32, 33, 43, 44, 45, 46, 47, 48, 49, 50, 51, 52] (by decide +kernel) (by decide +kernel)
set_option maxRecDepth 20000 in
theorem gX9_settlesIn_X1_ticksToSettle : GoodIn wsX9_settlesIn (wsV RX9 151 RX1 yX1_ticksToSettle wsX1_ticksToSettle) := goodIn_app (goodIn_of _ (by decide +kernel)) ggX9_settlesIn_X1_ticksToSettle
theorem dX9_settlesIn_0 : decode cX9_settlesIn 0 = .ok (.aload_n 0, 1) := by decide +kernel
theorem dX9_settlesIn_1 : decode cX9_settlesIn 1 = .ok (.getfield 36, 3) := by decide +kernel
theorem dX9_settlesIn_4 : decode cX9_settlesIn 4 = .ok (.aload_n 0, 1) := by decide +kernel
theorem dX9_settlesIn_5 : decode cX9_settlesIn 5 = .ok (.getfield 10, 3) := by decide +kernel
theorem dX9_settlesIn_8 : decode cX9_settlesIn 8 = .ok (.invokevirtual 151, 3) := by decide +kernel
theorem dX9_settlesIn_11 : decode cX9_settlesIn 11 = .ok (.ireturn, 1) := by decide +kernel
set_option maxRecDepth 20000 in
theorem ggX9_period_X1_periodByKeeping : GoodIn wsX9_period wsX1_periodByKeeping := goodIn_r _ [7, 8, 9, 10, 11, 12, 13, 14, 15, 16, 17, 18, 19, 20, 21, 22, 23, 24, 25, 26, 27, 28, 29, 30, 31, 32, 33, 34, 44, 45, 46, 47, 48, 49, 50, 51, 52, 53, 54] (by decide +kernel) (by decide +kernel)
set_option maxRecDepth 20000 in
theorem gX9_period_X1_periodByKeeping : GoodIn wsX9_period (wsV RX9 154 RX1 yX1_periodByKeeping wsX1_periodByKeeping) := goodIn_app (goodIn_of _ (by decide +kernel)) ggX9_period_X1_periodByKeeping
theorem dX9_period_0 : decode cX9_period 0 = .ok (.aload_n 0, 1) := by decide +kernel
theorem dX9_period_1 : decode cX9_period 1 = .ok (.getfield 36, 3) := by decide +kernel
theorem dX9_period_4 : decode cX9_period 4 = .ok (.aload_n 0, 1) := by decide +kernel
theorem dX9_period_5 : decode cX9_period 5 = .ok (.getfield 10, 3) := by decide +kernel
theorem dX9_period_8 : decode cX9_period 8 = .ok (.invokevirtual 154, 3) := by decide +kernel
theorem dX9_period_11 : decode cX9_period 11 = .ok (.ireturn, 1) := by decide +kernel
set_option maxRecDepth 20000 in
theorem ggX9_periodAgain_X1_periodByGoingOn : GoodIn wsX9_periodAgain wsX1_periodByGoingOn := goodIn_r _ [7, 8, 9, 10, 11, 12, 13, 14, 15, 16, 17, 18, 19, 20, 21, 22, 23, 24, 25, 26, 27, 28, 29, 30, 31, 32, 33, 34, 35, 6, 36, 46, 47, 48, 49, 50, 51, 52, 53, 54, 55] (by decide +kernel) (by decide +kernel)
set_option maxRecDepth 20000 in
theorem gX9_periodAgain_X1_periodByGoingOn : GoodIn wsX9_periodAgain (wsV RX9 157 RX1 yX1_periodByGoingOn wsX1_periodByGoingOn) := goodIn_app (goodIn_of _ (by decide +kernel)) ggX9_periodAgain_X1_periodByGoingOn
theorem dX9_periodAgain_0 : decode cX9_periodAgain 0 = .ok (.aload_n 0, 1) := by decide +kernel
theorem dX9_periodAgain_1 : decode cX9_periodAgain 1 = .ok (.getfield 36, 3) := by decide +kernel
theorem dX9_periodAgain_4 : decode cX9_periodAgain 4 = .ok (.aload_n 0, 1) := by decide +kernel
theorem dX9_periodAgain_5 : decode cX9_periodAgain 5 = .ok (.getfield 10, 3) := by decide +kernel
theorem dX9_periodAgain_8 : decode cX9_periodAgain 8 = .ok (.invokevirtual 157, 3) := by decide +kernel
theorem dX9_periodAgain_11 : decode cX9_periodAgain 11 = .ok (.ireturn, 1) := by decide +kernel
set_option maxRecDepth 20000 in
theorem ggX9_flickers_X2_isHung : GoodIn wsX9_flickers wsX2_isHung := goodIn_r _ [7, 8, 52, 53, 54, 55, 56, 57, 58, 59, 60, 61] (by decide +kernel) (by decide +kernel)
set_option maxRecDepth 20000 in
theorem gX9_flickers_X2_isHung : GoodIn wsX9_flickers (wsV RX9 91 RX2 yX2_isHung wsX2_isHung) := goodIn_app (goodIn_of _ (by decide +kernel)) ggX9_flickers_X2_isHung
set_option maxRecDepth 20000 in
theorem ggX9_flickers_X2_isSwitch : GoodIn wsX9_flickers wsX2_isSwitch := goodIn_r _ [12, 13, 14, 4, 5, 6, 7, 8, 52, 53, 54, 55, 56, 57, 58, 59, 60, 61] (by decide +kernel) (by decide +kernel)
set_option maxRecDepth 20000 in
theorem gX9_flickers_X2_isSwitch : GoodIn wsX9_flickers (wsV RX9 160 RX2 yX2_isSwitch wsX2_isSwitch) := goodIn_app (goodIn_of _ (by decide +kernel)) ggX9_flickers_X2_isSwitch
set_option maxRecDepth 20000 in
theorem ggX9_flickers_X1_flickersOf : GoodIn wsX9_flickers wsX1_flickersOf := goodIn_r _ [19, 20, 21, 22, 6, 23, 24, 25, 26, 27, 28, 8, 13, 29, 30, 31, 32, 33, 34, 35, 36, 37, 38, 39, 40, 41, 42, 52, 53, 54, 55, 56, 57, 58, 59, 60, 61] (by decide +kernel) (by decide +kernel)
set_option maxRecDepth 20000 in
theorem gX9_flickers_X1_flickersOf : GoodIn wsX9_flickers (wsV RX9 163 RX1 yX1_flickersOf wsX1_flickersOf) := goodIn_app (goodIn_of _ (by decide +kernel)) ggX9_flickers_X1_flickersOf
theorem dX9_flickers_0 : decode cX9_flickers 0 = .ok (.aload_n 0, 1) := by decide +kernel
theorem dX9_flickers_1 : decode cX9_flickers 1 = .ok (.getfield 10, 3) := by decide +kernel
theorem dX9_flickers_4 : decode cX9_flickers 4 = .ok (.iload_n 1, 1) := by decide +kernel
theorem dX9_flickers_5 : decode cX9_flickers 5 = .ok (.invokevirtual 91, 3) := by decide +kernel
theorem dX9_flickers_8 : decode cX9_flickers 8 = .ok (.ifCond .eq 14, 3) := by decide +kernel
theorem dX9_flickers_11 : decode cX9_flickers 11 = .ok (.aload_n 0, 1) := by decide +kernel
theorem dX9_flickers_12 : decode cX9_flickers 12 = .ok (.getfield 10, 3) := by decide +kernel
theorem dX9_flickers_15 : decode cX9_flickers 15 = .ok (.iload_n 2, 1) := by decide +kernel
theorem dX9_flickers_16 : decode cX9_flickers 16 = .ok (.invokevirtual 91, 3) := by decide +kernel
theorem dX9_flickers_19 : decode cX9_flickers 19 = .ok (.ifCond .ne 6, 3) := by decide +kernel
theorem dX9_flickers_22 : decode cX9_flickers 22 = .ok (.bipush (-11), 2) := by decide +kernel
theorem dX9_flickers_24 : decode cX9_flickers 24 = .ok (.ireturn, 1) := by decide +kernel
theorem dX9_flickers_25 : decode cX9_flickers 25 = .ok (.aload_n 0, 1) := by decide +kernel
theorem dX9_flickers_26 : decode cX9_flickers 26 = .ok (.getfield 10, 3) := by decide +kernel
theorem dX9_flickers_29 : decode cX9_flickers 29 = .ok (.iload_n 1, 1) := by decide +kernel
theorem dX9_flickers_30 : decode cX9_flickers 30 = .ok (.invokevirtual 160, 3) := by decide +kernel
theorem dX9_flickers_33 : decode cX9_flickers 33 = .ok (.ifCond .ne 14, 3) := by decide +kernel
theorem dX9_flickers_36 : decode cX9_flickers 36 = .ok (.aload_n 0, 1) := by decide +kernel
theorem dX9_flickers_37 : decode cX9_flickers 37 = .ok (.getfield 10, 3) := by decide +kernel
theorem dX9_flickers_40 : decode cX9_flickers 40 = .ok (.iload_n 2, 1) := by decide +kernel
theorem dX9_flickers_41 : decode cX9_flickers 41 = .ok (.invokevirtual 160, 3) := by decide +kernel
theorem dX9_flickers_44 : decode cX9_flickers 44 = .ok (.ifCond .ne 6, 3) := by decide +kernel
theorem dX9_flickers_47 : decode cX9_flickers 47 = .ok (.bipush (-12), 2) := by decide +kernel
theorem dX9_flickers_49 : decode cX9_flickers 49 = .ok (.ireturn, 1) := by decide +kernel
theorem dX9_flickers_50 : decode cX9_flickers 50 = .ok (.aload_n 0, 1) := by decide +kernel
theorem dX9_flickers_51 : decode cX9_flickers 51 = .ok (.getfield 36, 3) := by decide +kernel
theorem dX9_flickers_54 : decode cX9_flickers 54 = .ok (.aload_n 0, 1) := by decide +kernel
theorem dX9_flickers_55 : decode cX9_flickers 55 = .ok (.getfield 10, 3) := by decide +kernel
theorem dX9_flickers_58 : decode cX9_flickers 58 = .ok (.iload_n 1, 1) := by decide +kernel
theorem dX9_flickers_59 : decode cX9_flickers 59 = .ok (.iload_n 2, 1) := by decide +kernel
theorem dX9_flickers_60 : decode cX9_flickers 60 = .ok (.invokevirtual 163, 3) := by decide +kernel
theorem dX9_flickers_63 : decode cX9_flickers 63 = .ok (.ireturn, 1) := by decide +kernel
set_option maxRecDepth 20000 in
theorem ggX9_switchesOf_X2_isHung : GoodIn wsX9_switchesOf wsX2_isHung := goodIn_r _ [6, 7, 45, 46, 47, 48, 49, 50, 51, 52, 53, 54] (by decide +kernel) (by decide +kernel)
set_option maxRecDepth 20000 in
theorem gX9_switchesOf_X2_isHung : GoodIn wsX9_switchesOf (wsV RX9 91 RX2 yX2_isHung wsX2_isHung) := goodIn_app (goodIn_of _ (by decide +kernel)) ggX9_switchesOf_X2_isHung
set_option maxRecDepth 20000 in
theorem ggX9_switchesOf_X5_switchesTo : GoodIn wsX9_switchesOf wsX5_switchesTo := goodIn_r _ [11, 12, 13, 14, 5, 15, 7, 16, 17, 18, 19, 20, 21, 3, 4, 6, 22, 23, 10, 24, 25, 26, 27, 28, 29, 30, 31, 32, 33, 34, 35, 45, 46, 47, 48, 49, 50, 51, 52, 53, 54] (by decide +kernel) (by decide +kernel)
set_option maxRecDepth 20000 in
theorem gX9_switchesOf_X5_switchesTo : GoodIn wsX9_switchesOf (va_wsS RX9 167 yX5_switchesTo wsX5_switchesTo) := goodIn_app (goodIn_of _ (by decide +kernel)) ggX9_switchesOf_X5_switchesTo
theorem dX9_switchesOf_0 : decode cX9_switchesOf 0 = .ok (.aload_n 0, 1) := by decide +kernel
theorem dX9_switchesOf_1 : decode cX9_switchesOf 1 = .ok (.getfield 10, 3) := by decide +kernel
theorem dX9_switchesOf_4 : decode cX9_switchesOf 4 = .ok (.iload_n 1, 1) := by decide +kernel
theorem dX9_switchesOf_5 : decode cX9_switchesOf 5 = .ok (.invokevirtual 91, 3) := by decide +kernel
theorem dX9_switchesOf_8 : decode cX9_switchesOf 8 = .ok (.ifCond .eq 14, 3) := by decide +kernel
theorem dX9_switchesOf_11 : decode cX9_switchesOf 11 = .ok (.aload_n 0, 1) := by decide +kernel
theorem dX9_switchesOf_12 : decode cX9_switchesOf 12 = .ok (.getfield 10, 3) := by decide +kernel
theorem dX9_switchesOf_15 : decode cX9_switchesOf 15 = .ok (.iload_n 1, 1) := by decide +kernel
theorem dX9_switchesOf_16 : decode cX9_switchesOf 16 = .ok (.invokestatic 167, 3) := by decide +kernel
theorem dX9_switchesOf_19 : decode cX9_switchesOf 19 = .ok (.goto 5, 3) := by decide +kernel
theorem dX9_switchesOf_22 : decode cX9_switchesOf 22 = .ok (.bipush (-11), 2) := by decide +kernel
theorem dX9_switchesOf_24 : decode cX9_switchesOf 24 = .ok (.ireturn, 1) := by decide +kernel
set_option maxRecDepth 20000 in
theorem ggX9_table_X2_isHung : GoodIn wsX9_table wsX2_isHung := goodIn_r _ [6, 7, 112, 113, 114, 115, 116, 117, 118, 119, 120, 121] (by decide +kernel) (by decide +kernel)
set_option maxRecDepth 20000 in
theorem gX9_table_X2_isHung : GoodIn wsX9_table (wsV RX9 91 RX2 yX2_isHung wsX2_isHung) := goodIn_app (goodIn_of _ (by decide +kernel)) ggX9_table_X2_isHung
set_option maxRecDepth 20000 in
theorem ggX9_table_X9_hasTable : GoodIn wsX9_table wsX9_hasTable := goodIn_r _ [12, 1, 13, 14, 15, 16, 5, 17, 18, 19, 3, 4, 6, 7, 20, 21, 22, 23, 24, 25, 26, 27, 28, 29, 30, 31, 32, 33, 34, 35, 36, 37, 38, 39, 40, 41, 42, 43, 44, 45, 46, 47, 48, 49, 50, 51, 52, 53, 54, 55, 56, 57, 58, 59, 60, 61, 62, 63, 64, 65, 66, 67, 68, 69, 70, 71, 11, 72, 73, 74, 75, 76, 77, 78, 79, 103, 104, 105, 106, 107, 108, 109, 110, 111, 112, 113, 114, 115, 116, 117, 118, 119, 120, 121, 122] (by decide +kernel) (by decide +kernel)
set_option maxRecDepth 20000 in
theorem gX9_table_X9_hasTable : GoodIn wsX9_table (wsV RX9 170 RX9 yX9_hasTable wsX9_hasTable) := goodIn_app (goodIn_of _ (by decide +kernel)) ggX9_table_X9_hasTable
set_option maxRecDepth 20000 in
theorem ggX9_table_X7_byFinding : GoodIn wsX9_table wsX7_byFinding := goodIn_r _ [83, 84, 53, 54, 55, 56, 57, 58, 5, 59, 7, 60, 15, 16, 17, 18, 19, 3, 4, 6, 61, 62, 63, 64, 65, 66, 67, 68, 69, 70, 42, 71, 11, 72, 85, 74, 75, 76, 77, 78, 79, 86, 87, 82, 88, 89, 90, 91, 92, 93, 94, 95, 96, 97, 98, 99, 100, 101, 102, 112, 113, 114, 115, 116, 117, 118, 119, 120, 121] (by decide +kernel) (by decide +kernel)
set_option maxRecDepth 20000 in
theorem gX9_table_X7_byFinding : GoodIn wsX9_table (va_wsS RX9 173 yX7_byFinding wsX7_byFinding) := goodIn_app (goodIn_of _ (by decide +kernel)) ggX9_table_X7_byFinding
theorem dX9_table_0 : decode cX9_table 0 = .ok (.aload_n 0, 1) := by decide +kernel
theorem dX9_table_1 : decode cX9_table 1 = .ok (.getfield 10, 3) := by decide +kernel
theorem dX9_table_4 : decode cX9_table 4 = .ok (.iload_n 1, 1) := by decide +kernel
theorem dX9_table_5 : decode cX9_table 5 = .ok (.invokevirtual 91, 3) := by decide +kernel
theorem dX9_table_8 : decode cX9_table 8 = .ok (.ifCond .ne 6, 3) := by decide +kernel
theorem dX9_table_11 : decode cX9_table 11 = .ok (.bipush (-11), 2) := by decide +kernel
theorem dX9_table_13 : decode cX9_table 13 = .ok (.ireturn, 1) := by decide +kernel
theorem dX9_table_14 : decode cX9_table 14 = .ok (.aload_n 0, 1) := by decide +kernel
theorem dX9_table_15 : decode cX9_table 15 = .ok (.iload_n 1, 1) := by decide +kernel
theorem dX9_table_16 : decode cX9_table 16 = .ok (.invokevirtual 170, 3) := by decide +kernel
theorem dX9_table_19 : decode cX9_table 19 = .ok (.ifCond .eq 14, 3) := by decide +kernel
theorem dX9_table_22 : decode cX9_table 22 = .ok (.aload_n 0, 1) := by decide +kernel
theorem dX9_table_23 : decode cX9_table 23 = .ok (.getfield 10, 3) := by decide +kernel
theorem dX9_table_26 : decode cX9_table 26 = .ok (.iload_n 1, 1) := by decide +kernel
theorem dX9_table_27 : decode cX9_table 27 = .ok (.invokestatic 173, 3) := by decide +kernel
theorem dX9_table_30 : decode cX9_table 30 = .ok (.goto 5, 3) := by decide +kernel
theorem dX9_table_33 : decode cX9_table 33 = .ok (.bipush (-15), 2) := by decide +kernel
theorem dX9_table_35 : decode cX9_table 35 = .ok (.ireturn, 1) := by decide +kernel
set_option maxRecDepth 20000 in
theorem ggX9_tableAgain_X2_isHung : GoodIn wsX9_tableAgain wsX2_isHung := goodIn_r _ [7, 8, 120, 121, 122, 123, 124, 125, 126, 127, 128, 129] (by decide +kernel) (by decide +kernel)
set_option maxRecDepth 20000 in
theorem gX9_tableAgain_X2_isHung : GoodIn wsX9_tableAgain (wsV RX9 91 RX2 yX2_isHung wsX2_isHung) := goodIn_app (goodIn_of _ (by decide +kernel)) ggX9_tableAgain_X2_isHung
set_option maxRecDepth 20000 in
theorem ggX9_tableAgain_X9_hasTable : GoodIn wsX9_tableAgain wsX9_hasTable := goodIn_r _ [13, 1, 2, 14, 15, 16, 6, 17, 18, 19, 4, 5, 7, 8, 20, 21, 22, 23, 24, 25, 26, 27, 28, 29, 30, 31, 32, 33, 34, 35, 36, 37, 38, 39, 40, 41, 42, 43, 44, 45, 46, 47, 48, 49, 50, 51, 52, 53, 54, 55, 56, 57, 58, 59, 60, 61, 62, 63, 64, 65, 66, 67, 68, 69, 70, 71, 12, 72, 73, 74, 75, 76, 77, 78, 79, 111, 112, 113, 114, 115, 116, 117, 118, 119, 120, 121, 122, 123, 124, 125, 126, 127, 128, 129, 130] (by decide +kernel) (by decide +kernel)
set_option maxRecDepth 20000 in
theorem gX9_tableAgain_X9_hasTable : GoodIn wsX9_tableAgain (wsV RX9 170 RX9 yX9_hasTable wsX9_hasTable) := goodIn_app (goodIn_of _ (by decide +kernel)) ggX9_tableAgain_X9_hasTable
set_option maxRecDepth 20000 in
theorem ggX9_tableAgain_X0_byWires : GoodIn wsX9_tableAgain wsX0_byWires := goodIn_r _ [24, 25, 26, 27, 28, 29, 30, 31, 23, 32, 33, 34, 35, 36, 37, 4, 5, 6, 7, 8, 38, 39, 40, 41, 42, 43, 44, 45, 46, 15, 16, 17, 18, 19, 47, 48, 49, 50, 51, 130, 120, 121, 122, 123, 124, 125, 126, 127, 128, 129] (by decide +kernel) (by decide +kernel)
set_option maxRecDepth 20000 in
theorem gX9_tableAgain_X0_byWires : GoodIn wsX9_tableAgain (wsV RX9 145 RX0 yX0_byWires wsX0_byWires) := goodIn_app (goodIn_of _ (by decide +kernel)) ggX9_tableAgain_X0_byWires
set_option maxRecDepth 20000 in
theorem ggX9_tableAgain_X7_byTicks : GoodIn wsX9_tableAgain wsX7_byTicks := goodIn_r _ [83, 84, 85, 53, 54, 55, 56, 57, 58, 6, 59, 8, 60, 15, 16, 17, 18, 19, 4, 5, 7, 61, 62, 63, 64, 65, 66, 67, 68, 69, 70, 42, 71, 12, 72, 86, 74, 75, 76, 77, 78, 79, 87, 88, 89, 90, 91, 92, 93, 82, 94, 95, 96, 97, 98, 51, 99, 100, 101, 102, 103, 104, 105, 106, 107, 108, 109, 110, 120, 121, 122, 123, 124, 125, 126, 127, 128, 129] (by decide +kernel) (by decide +kernel)
set_option maxRecDepth 20000 in
theorem gX9_tableAgain_X7_byTicks : GoodIn wsX9_tableAgain (va_wsS RX9 178 yX7_byTicks wsX7_byTicks) := goodIn_app (goodIn_of _ (by decide +kernel)) ggX9_tableAgain_X7_byTicks
theorem dX9_tableAgain_0 : decode cX9_tableAgain 0 = .ok (.aload_n 0, 1) := by decide +kernel
theorem dX9_tableAgain_1 : decode cX9_tableAgain 1 = .ok (.getfield 10, 3) := by decide +kernel
theorem dX9_tableAgain_4 : decode cX9_tableAgain 4 = .ok (.iload_n 1, 1) := by decide +kernel
theorem dX9_tableAgain_5 : decode cX9_tableAgain 5 = .ok (.invokevirtual 91, 3) := by decide +kernel
theorem dX9_tableAgain_8 : decode cX9_tableAgain 8 = .ok (.ifCond .ne 6, 3) := by decide +kernel
theorem dX9_tableAgain_11 : decode cX9_tableAgain 11 = .ok (.bipush (-11), 2) := by decide +kernel
theorem dX9_tableAgain_13 : decode cX9_tableAgain 13 = .ok (.ireturn, 1) := by decide +kernel
theorem dX9_tableAgain_14 : decode cX9_tableAgain 14 = .ok (.aload_n 0, 1) := by decide +kernel
theorem dX9_tableAgain_15 : decode cX9_tableAgain 15 = .ok (.iload_n 1, 1) := by decide +kernel
theorem dX9_tableAgain_16 : decode cX9_tableAgain 16 = .ok (.invokevirtual 170, 3) := by decide +kernel
theorem dX9_tableAgain_19 : decode cX9_tableAgain 19 = .ok (.ifCond .eq 26, 3) := by decide +kernel
theorem dX9_tableAgain_22 : decode cX9_tableAgain 22 = .ok (.aload_n 0, 1) := by decide +kernel
theorem dX9_tableAgain_23 : decode cX9_tableAgain 23 = .ok (.getfield 10, 3) := by decide +kernel
theorem dX9_tableAgain_26 : decode cX9_tableAgain 26 = .ok (.iload_n 1, 1) := by decide +kernel
theorem dX9_tableAgain_27 : decode cX9_tableAgain 27 = .ok (.aload_n 0, 1) := by decide +kernel
theorem dX9_tableAgain_28 : decode cX9_tableAgain 28 = .ok (.getfield 29, 3) := by decide +kernel
theorem dX9_tableAgain_31 : decode cX9_tableAgain 31 = .ok (.aload_n 0, 1) := by decide +kernel
theorem dX9_tableAgain_32 : decode cX9_tableAgain 32 = .ok (.getfield 10, 3) := by decide +kernel
theorem dX9_tableAgain_35 : decode cX9_tableAgain 35 = .ok (.iload_n 1, 1) := by decide +kernel
theorem dX9_tableAgain_36 : decode cX9_tableAgain 36 = .ok (.invokevirtual 145, 3) := by decide +kernel
theorem dX9_tableAgain_39 : decode cX9_tableAgain 39 = .ok (.invokestatic 178, 3) := by decide +kernel
theorem dX9_tableAgain_42 : decode cX9_tableAgain 42 = .ok (.goto 5, 3) := by decide +kernel
theorem dX9_tableAgain_45 : decode cX9_tableAgain 45 = .ok (.bipush (-15), 2) := by decide +kernel
theorem dX9_tableAgain_47 : decode cX9_tableAgain 47 = .ok (.ireturn, 1) := by decide +kernel
set_option maxRecDepth 20000 in
theorem ggX9_append_X8_add : GoodIn wsX9_append wsX8_add := goodIn_r _ [6, 7, 8, 18, 19, 20, 21, 22, 23, 24, 25] (by decide +kernel) (by decide +kernel)
set_option maxRecDepth 20000 in
theorem gX9_append_X8_add : GoodIn wsX9_append (wsV RX9 181 RX8 yX8_add wsX8_add) := goodIn_app (goodIn_of _ (by decide +kernel)) ggX9_append_X8_add
theorem dX9_append_0 : decode cX9_append 0 = .ok (.aload_n 0, 1) := by decide +kernel
theorem dX9_append_1 : decode cX9_append 1 = .ok (.getfield 43, 3) := by decide +kernel
theorem dX9_append_4 : decode cX9_append 4 = .ok (.iload_n 1, 1) := by decide +kernel
theorem dX9_append_5 : decode cX9_append 5 = .ok (.invokevirtual 181, 3) := by decide +kernel
theorem dX9_append_8 : decode cX9_append 8 = .ok (.ireturn, 1) := by decide +kernel
set_option maxRecDepth 20000 in
theorem ggX9_run_X8_isRight : GoodIn wsX9_run wsX8_isRight := goodIn_r _ [6, 7, 8, 9, 10, 11, 5, 12, 13, 14, 15, 16, 17, 18, 19, 20, 21, 22, 23, 24, 25, 26, 27, 28, 29, 30, 31, 32, 33, 34, 35, 36, 37, 38, 39, 40, 41, 42, 43, 44, 45, 46, 47, 48, 49, 50, 51, 52, 53, 54, 55, 56, 57, 58, 59, 60, 61, 62, 63, 64, 65, 66, 67, 68, 69, 70, 71, 72, 73, 74, 75, 76, 77, 78, 79, 80, 81, 82, 83, 84, 85, 86, 87, 88, 89, 90, 91, 92, 93, 94, 95, 96, 97, 98, 99, 100, 101, 102, 103, 104, 105, 106, 107, 348, 349, 350, 351, 352, 353, 354, 355] (by decide +kernel) (by decide +kernel)
set_option maxRecDepth 20000 in
theorem gX9_run_X8_isRight : GoodIn wsX9_run (wsV RX9 184 RX8 yX8_isRight wsX8_isRight) := goodIn_app (goodIn_of _ (by decide +kernel)) ggX9_run_X8_isRight
set_option maxRecDepth 20000 in
theorem ggX9_run_X9_carryOutAll : GoodIn wsX9_run wsX9_carryOutAll := goodIn_r _ [112, 113, 114, 1, 115, 116, 117, 118, 119, 120, 121, 122, 123, 124, 125, 126, 127, 128, 129, 130, 131, 132, 133, 134, 135, 136, 137, 138, 139, 140, 141, 142, 143, 144, 145, 10, 11, 5, 12, 7, 146, 147, 148, 149, 18, 19, 20, 21, 8, 22, 13, 14, 15, 16, 17, 23, 24, 25, 26, 27, 28, 29, 30, 31, 32, 33, 34, 35, 36, 37, 38, 39, 40, 41, 42, 43, 44, 45, 46, 47, 48, 49, 50, 51, 52, 53, 54, 55, 56, 57, 58, 59, 60, 61, 62, 63, 64, 65, 66, 67, 68, 69, 70, 71, 72, 73, 74, 75, 76, 77, 78, 79, 80, 81, 82, 83, 84, 85, 86, 87, 88, 89, 90, 91, 92, 93, 94, 95, 96, 97, 98, 99, 100, 101, 102, 103, 104, 105, 106, 107, 150, 151, 152, 111, 153, 154, 155, 156, 157, 158, 159, 160, 161, 162, 163, 164, 165, 166, 167, 168, 169, 170, 171, 172, 173, 174, 175, 176, 177, 178, 179, 180, 181, 182, 183, 184, 185, 186, 187, 188, 189, 190, 191, 192, 193, 194, 195, 196, 197, 198, 199, 200, 201, 202, 203, 204, 205, 206, 207, 208, 209, 210, 211, 212, 213, 214, 215, 216, 217, 218, 219, 220, 221, 222, 223, 224, 225, 226, 227, 228, 229, 230, 231, 232, 233, 234, 235, 236, 237, 238, 239, 240, 241, 242, 243, 244, 245, 246, 247, 248, 249, 250, 251, 252, 253, 254, 255, 256, 257, 258, 259, 260, 261, 262, 263, 264, 265, 266, 267, 268, 269, 270, 271, 272, 273, 274, 275, 276, 277, 278, 279, 280, 281, 282, 283, 284, 285, 286, 287, 288, 289, 290, 291, 292, 293, 294, 295, 296, 297, 298, 299, 300, 301, 302, 303, 304, 305, 306, 307, 308, 309, 310, 311, 312, 313, 314, 315, 316, 317, 318, 319, 320, 321, 322, 323, 324, 325, 326, 327, 328, 329, 330, 339, 340, 341, 342, 343, 344, 345, 346, 347, 356, 357, 358, 359, 360, 361, 362, 363, 364, 365, 366, 367, 368, 348, 349, 350, 351, 352, 353, 354, 355, 369, 370, 371] (by decide +kernel) (by decide +kernel)
set_option maxRecDepth 20000 in
theorem gX9_run_X9_carryOutAll : GoodIn wsX9_run (wsV RX9 188 RX9 yX9_carryOutAll wsX9_carryOutAll) := goodIn_app (goodIn_of _ (by decide +kernel)) ggX9_run_X9_carryOutAll
set_option maxRecDepth 20000 in
theorem ggX9_run_X8_position : GoodIn wsX9_run wsX8_position := goodIn_r _ [334, 7, 348, 349, 350, 351, 352, 353, 354, 355] (by decide +kernel) (by decide +kernel)
set_option maxRecDepth 20000 in
theorem gX9_run_X8_position : GoodIn wsX9_run (wsV RX9 191 RX8 yX8_position wsX8_position) := goodIn_app (goodIn_of _ (by decide +kernel)) ggX9_run_X8_position
set_option maxRecDepth 20000 in
theorem ggX9_run_X8_empty : GoodIn wsX9_run wsX8_empty := goodIn_r _ [338, 8, 348, 349, 350, 351, 352, 353, 354, 355] (by decide +kernel) (by decide +kernel)
set_option maxRecDepth 20000 in
theorem gX9_run_X8_empty : GoodIn wsX9_run (wsV RX9 194 RX8 yX8_empty wsX8_empty) := goodIn_app (goodIn_of _ (by decide +kernel)) ggX9_run_X8_empty
theorem dX9_run_0 : decode cX9_run 0 = .ok (.aload_n 0, 1) := by decide +kernel
theorem dX9_run_1 : decode cX9_run 1 = .ok (.getfield 43, 3) := by decide +kernel
theorem dX9_run_4 : decode cX9_run 4 = .ok (.invokevirtual 184, 3) := by decide +kernel
theorem dX9_run_7 : decode cX9_run 7 = .ok (.ifCond .eq 10, 3) := by decide +kernel
theorem dX9_run_10 : decode cX9_run 10 = .ok (.aload_n 0, 1) := by decide +kernel
theorem dX9_run_11 : decode cX9_run 11 = .ok (.invokevirtual 188, 3) := by decide +kernel
theorem dX9_run_14 : decode cX9_run 14 = .ok (.goto 14, 3) := by decide +kernel
theorem dX9_run_17 : decode cX9_run 17 = .ok (.sipush (-1000), 3) := by decide +kernel
theorem dX9_run_20 : decode cX9_run 20 = .ok (.aload_n 0, 1) := by decide +kernel
theorem dX9_run_21 : decode cX9_run 21 = .ok (.getfield 43, 3) := by decide +kernel
theorem dX9_run_24 : decode cX9_run 24 = .ok (.invokevirtual 191, 3) := by decide +kernel
theorem dX9_run_27 : decode cX9_run 27 = .ok (.isub, 1) := by decide +kernel
theorem dX9_run_28 : decode cX9_run 28 = .ok (.istore_n 1, 1) := by decide +kernel
theorem dX9_run_29 : decode cX9_run 29 = .ok (.aload_n 0, 1) := by decide +kernel
theorem dX9_run_30 : decode cX9_run 30 = .ok (.getfield 43, 3) := by decide +kernel
theorem dX9_run_33 : decode cX9_run 33 = .ok (.invokevirtual 194, 3) := by decide +kernel
theorem dX9_run_36 : decode cX9_run 36 = .ok (.iload_n 1, 1) := by decide +kernel
theorem dX9_run_37 : decode cX9_run 37 = .ok (.ireturn, 1) := by decide +kernel
set_option maxRecDepth 20000 in
theorem ggX9_tell_X3_empty : GoodIn wsX9_tell wsX3_empty := goodIn_r _ [7, 8, 49, 50] (by decide +kernel) (by decide +kernel)
set_option maxRecDepth 20000 in
theorem gX9_tell_X3_empty : GoodIn wsX9_tell (wsV RX9 197 RX3 yX3_empty wsX3_empty) := goodIn_app (goodIn_of _ (by decide +kernel)) ggX9_tell_X3_empty
set_option maxRecDepth 20000 in
theorem ggX9_tell_X2_count : GoodIn wsX9_tell wsX2_count := goodIn_r _ [13, 14, 51, 52, 53, 54, 55, 56, 57, 58, 59, 60] (by decide +kernel) (by decide +kernel)
set_option maxRecDepth 20000 in
theorem gX9_tell_X2_count : GoodIn wsX9_tell (wsV RX9 198 RX2 yX2_count wsX2_count) := goodIn_app (goodIn_of _ (by decide +kernel)) ggX9_tell_X2_count
set_option maxRecDepth 20000 in
theorem ggX9_tell_X2_isGlowing : GoodIn wsX9_tell wsX2_isGlowing := goodIn_r _ [18, 19, 20, 21, 12, 22, 23, 24, 25, 26, 27, 28, 29, 30, 51, 52, 53, 54, 55, 56, 57, 58, 59, 60] (by decide +kernel) (by decide +kernel)
set_option maxRecDepth 20000 in
theorem gX9_tell_X2_isGlowing : GoodIn wsX9_tell (wsV RX9 101 RX2 yX2_isGlowing wsX2_isGlowing) := goodIn_app (goodIn_of _ (by decide +kernel)) ggX9_tell_X2_isGlowing
set_option maxRecDepth 20000 in
theorem ggX9_tell_X3_add : GoodIn wsX9_tell wsX3_add := goodIn_r _ [34, 8, 35, 49, 50] (by decide +kernel) (by decide +kernel)
set_option maxRecDepth 20000 in
theorem gX9_tell_X3_add : GoodIn wsX9_tell (wsV RX9 201 RX3 yX3_add wsX3_add) := goodIn_app (goodIn_of _ (by decide +kernel)) ggX9_tell_X3_add
set_option maxRecDepth 20000 in
theorem ggX9_tell_X3_length : GoodIn wsX9_tell wsX3_length := goodIn_r _ [39, 8, 49, 50] (by decide +kernel) (by decide +kernel)
set_option maxRecDepth 20000 in
theorem gX9_tell_X3_length : GoodIn wsX9_tell (wsV RX9 204 RX3 yX3_length wsX3_length) := goodIn_app (goodIn_of _ (by decide +kernel)) ggX9_tell_X3_length
theorem dX9_tell_0 : decode cX9_tell 0 = .ok (.aload_n 0, 1) := by decide +kernel
theorem dX9_tell_1 : decode cX9_tell 1 = .ok (.getfield 50, 3) := by decide +kernel
theorem dX9_tell_4 : decode cX9_tell 4 = .ok (.invokevirtual 197, 3) := by decide +kernel
theorem dX9_tell_7 : decode cX9_tell 7 = .ok (.iconst 0, 1) := by decide +kernel
theorem dX9_tell_8 : decode cX9_tell 8 = .ok (.istore_n 1, 1) := by decide +kernel
theorem dX9_tell_9 : decode cX9_tell 9 = .ok (.iload_n 1, 1) := by decide +kernel
theorem dX9_tell_10 : decode cX9_tell 10 = .ok (.aload_n 0, 1) := by decide +kernel
theorem dX9_tell_11 : decode cX9_tell 11 = .ok (.getfield 10, 3) := by decide +kernel
theorem dX9_tell_14 : decode cX9_tell 14 = .ok (.invokevirtual 198, 3) := by decide +kernel
theorem dX9_tell_17 : decode cX9_tell 17 = .ok (.if_icmp .ge 34, 3) := by decide +kernel
theorem dX9_tell_20 : decode cX9_tell 20 = .ok (.aload_n 0, 1) := by decide +kernel
theorem dX9_tell_21 : decode cX9_tell 21 = .ok (.getfield 50, 3) := by decide +kernel
theorem dX9_tell_24 : decode cX9_tell 24 = .ok (.aload_n 0, 1) := by decide +kernel
theorem dX9_tell_25 : decode cX9_tell 25 = .ok (.getfield 10, 3) := by decide +kernel
theorem dX9_tell_28 : decode cX9_tell 28 = .ok (.iload_n 1, 1) := by decide +kernel
theorem dX9_tell_29 : decode cX9_tell 29 = .ok (.invokevirtual 101, 3) := by decide +kernel
theorem dX9_tell_32 : decode cX9_tell 32 = .ok (.ifCond .eq 8, 3) := by decide +kernel
theorem dX9_tell_35 : decode cX9_tell 35 = .ok (.bipush 35, 2) := by decide +kernel
theorem dX9_tell_37 : decode cX9_tell 37 = .ok (.goto 5, 3) := by decide +kernel
theorem dX9_tell_40 : decode cX9_tell 40 = .ok (.bipush 46, 2) := by decide +kernel
theorem dX9_tell_42 : decode cX9_tell 42 = .ok (.invokevirtual 201, 3) := by decide +kernel
theorem dX9_tell_45 : decode cX9_tell 45 = .ok (.iinc 1 1, 3) := by decide +kernel
theorem dX9_tell_48 : decode cX9_tell 48 = .ok (.goto (-39), 3) := by decide +kernel
theorem dX9_tell_51 : decode cX9_tell 51 = .ok (.aload_n 0, 1) := by decide +kernel
theorem dX9_tell_52 : decode cX9_tell 52 = .ok (.getfield 50, 3) := by decide +kernel
theorem dX9_tell_55 : decode cX9_tell 55 = .ok (.invokevirtual 204, 3) := by decide +kernel
theorem dX9_tell_58 : decode cX9_tell 58 = .ok (.ireturn, 1) := by decide +kernel
set_option maxRecDepth 20000 in
theorem ggX9_tellLantern_X2_isHung : GoodIn wsX9_tellLantern wsX2_isHung := goodIn_r _ [7, 8, 137, 138, 139, 140, 141, 142, 143, 144, 145, 146] (by decide +kernel) (by decide +kernel)
set_option maxRecDepth 20000 in
theorem gX9_tellLantern_X2_isHung : GoodIn wsX9_tellLantern (wsV RX9 91 RX2 yX2_isHung wsX2_isHung) := goodIn_app (goodIn_of _ (by decide +kernel)) ggX9_tellLantern_X2_isHung
set_option maxRecDepth 20000 in
theorem ggX9_tellLantern_X3_empty : GoodIn wsX9_tellLantern wsX3_empty := goodIn_r _ [13, 14, 147, 148] (by decide +kernel) (by decide +kernel)
set_option maxRecDepth 20000 in
theorem gX9_tellLantern_X3_empty : GoodIn wsX9_tellLantern (wsV RX9 197 RX3 yX3_empty wsX3_empty) := goodIn_app (goodIn_of _ (by decide +kernel)) ggX9_tellLantern_X3_empty
set_option maxRecDepth 20000 in
theorem ggX9_tellLantern_X3_addNumber : GoodIn wsX9_tellLantern wsX3_addNumber := goodIn_r _ [18, 19, 20, 21, 12, 22, 14, 23, 147, 148] (by decide +kernel) (by decide +kernel)
set_option maxRecDepth 20000 in
theorem gX9_tellLantern_X3_addNumber : GoodIn wsX9_tellLantern (wsV RX9 207 RX3 yX3_addNumber wsX3_addNumber) := goodIn_app (goodIn_of _ (by decide +kernel)) ggX9_tellLantern_X3_addNumber
set_option maxRecDepth 20000 in
theorem ggX9_tellLantern_X3_add : GoodIn wsX9_tellLantern wsX3_add := goodIn_r _ [22, 14, 23, 147, 148] (by decide +kernel) (by decide +kernel)
set_option maxRecDepth 20000 in
theorem gX9_tellLantern_X3_add : GoodIn wsX9_tellLantern (wsV RX9 201 RX3 yX3_add wsX3_add) := goodIn_app (goodIn_of _ (by decide +kernel)) ggX9_tellLantern_X3_add
set_option maxRecDepth 20000 in
theorem ggX9_tellLantern_X2_kindOf : GoodIn wsX9_tellLantern wsX2_kindOf := goodIn_r _ [28, 29, 30, 4, 5, 6, 7, 8, 137, 138, 139, 140, 141, 142, 143, 144, 145, 146] (by decide +kernel) (by decide +kernel)
set_option maxRecDepth 20000 in
theorem gX9_tellLantern_X2_kindOf : GoodIn wsX9_tellLantern (wsV RX9 95 RX2 yX2_kindOf wsX2_kindOf) := goodIn_app (goodIn_of _ (by decide +kernel)) ggX9_tellLantern_X2_kindOf
set_option maxRecDepth 20000 in
theorem ggX9_tellLantern_X9_wordOf : GoodIn wsX9_tellLantern wsX9_wordOf := goodIn_r _ [34] (by decide +kernel) (by decide +kernel)
set_option maxRecDepth 20000 in
theorem gX9_tellLantern_X9_wordOf : GoodIn wsX9_tellLantern (va_wsS RX9 211 yX9_wordOf wsX9_wordOf) := goodIn_app (goodIn_of _ (by decide +kernel)) ggX9_tellLantern_X9_wordOf
set_option maxRecDepth 20000 in
theorem ggX9_tellLantern_X3_addWord : GoodIn wsX9_tellLantern wsX3_addWord := goodIn_r _ [38, 39, 40, 41, 42, 43, 44, 45, 46, 47, 48, 49, 50, 51, 52, 53, 54, 55, 56, 57, 58, 59, 60, 61, 62, 63, 64, 65, 66, 67, 68, 69, 70, 71, 72, 73, 74, 75, 76, 77, 78, 79, 80, 81, 82, 83, 84, 85, 86, 87, 19, 20, 21, 12, 22, 14, 23, 147, 148] (by decide +kernel) (by decide +kernel)
set_option maxRecDepth 20000 in
theorem gX9_tellLantern_X3_addWord : GoodIn wsX9_tellLantern (wsV RX9 215 RX3 yX3_addWord wsX3_addWord) := goodIn_app (goodIn_of _ (by decide +kernel)) ggX9_tellLantern_X3_addWord
set_option maxRecDepth 20000 in
theorem ggX9_tellLantern_X2_wickOf : GoodIn wsX9_tellLantern wsX2_wickOf := goodIn_r _ [91, 92, 30, 4, 5, 6, 7, 8, 137, 138, 139, 140, 141, 142, 143, 144, 145, 146] (by decide +kernel) (by decide +kernel)
set_option maxRecDepth 20000 in
theorem gX9_tellLantern_X2_wickOf : GoodIn wsX9_tellLantern (wsV RX9 98 RX2 yX2_wickOf wsX2_wickOf) := goodIn_app (goodIn_of _ (by decide +kernel)) ggX9_tellLantern_X2_wickOf
set_option maxRecDepth 20000 in
theorem ggX9_tellLantern_X2_isSwitch : GoodIn wsX9_tellLantern wsX2_isSwitch := goodIn_r _ [96, 29, 30, 4, 5, 6, 7, 8, 137, 138, 139, 140, 141, 142, 143, 144, 145, 146] (by decide +kernel) (by decide +kernel)
set_option maxRecDepth 20000 in
theorem gX9_tellLantern_X2_isSwitch : GoodIn wsX9_tellLantern (wsV RX9 160 RX2 yX2_isSwitch wsX2_isSwitch) := goodIn_app (goodIn_of _ (by decide +kernel)) ggX9_tellLantern_X2_isSwitch
set_option maxRecDepth 20000 in
theorem ggX9_tellLantern_X9_addWires : GoodIn wsX9_tellLantern wsX9_addWires := goodIn_r _ [100, 1, 2, 25, 26, 27, 6, 28, 29, 30, 4, 5, 7, 8, 101, 102, 33, 103, 24, 20, 21, 12, 22, 14, 23, 104, 105, 106, 107, 108, 15, 16, 17, 18, 19, 128, 129, 130, 131, 132, 133, 134, 135, 136, 137, 138, 139, 140, 141, 142, 143, 144, 145, 146, 147, 148] (by decide +kernel) (by decide +kernel)
set_option maxRecDepth 20000 in
theorem gX9_tellLantern_X9_addWires : GoodIn wsX9_tellLantern (wsV RX9 219 RX9 yX9_addWires wsX9_addWires) := goodIn_app (goodIn_of _ (by decide +kernel)) ggX9_tellLantern_X9_addWires
set_option maxRecDepth 20000 in
theorem ggX9_tellLantern_X2_isGlowing : GoodIn wsX9_tellLantern wsX2_isGlowing := goodIn_r _ [112, 113, 114, 115, 6, 116, 117, 118, 119, 120, 121, 122, 33, 123, 137, 138, 139, 140, 141, 142, 143, 144, 145, 146] (by decide +kernel) (by decide +kernel)
set_option maxRecDepth 20000 in
theorem gX9_tellLantern_X2_isGlowing : GoodIn wsX9_tellLantern (wsV RX9 101 RX2 yX2_isGlowing wsX2_isGlowing) := goodIn_app (goodIn_of _ (by decide +kernel)) ggX9_tellLantern_X2_isGlowing
set_option maxRecDepth 20000 in
theorem ggX9_tellLantern_X3_length : GoodIn wsX9_tellLantern wsX3_length := goodIn_r _ [127, 14, 147, 148] (by decide +kernel) (by decide +kernel)
set_option maxRecDepth 20000 in
theorem gX9_tellLantern_X3_length : GoodIn wsX9_tellLantern (wsV RX9 204 RX3 yX3_length wsX3_length) := goodIn_app (goodIn_of _ (by decide +kernel)) ggX9_tellLantern_X3_length
theorem dX9_tellLantern_0 : decode cX9_tellLantern 0 = .ok (.aload_n 0, 1) := by decide +kernel
theorem dX9_tellLantern_1 : decode cX9_tellLantern 1 = .ok (.getfield 10, 3) := by decide +kernel
theorem dX9_tellLantern_4 : decode cX9_tellLantern 4 = .ok (.iload_n 1, 1) := by decide +kernel
theorem dX9_tellLantern_5 : decode cX9_tellLantern 5 = .ok (.invokevirtual 91, 3) := by decide +kernel
theorem dX9_tellLantern_8 : decode cX9_tellLantern 8 = .ok (.ifCond .ne 6, 3) := by decide +kernel
theorem dX9_tellLantern_11 : decode cX9_tellLantern 11 = .ok (.bipush (-11), 2) := by decide +kernel
theorem dX9_tellLantern_13 : decode cX9_tellLantern 13 = .ok (.ireturn, 1) := by decide +kernel
theorem dX9_tellLantern_14 : decode cX9_tellLantern 14 = .ok (.aload_n 0, 1) := by decide +kernel
theorem dX9_tellLantern_15 : decode cX9_tellLantern 15 = .ok (.getfield 50, 3) := by decide +kernel
theorem dX9_tellLantern_18 : decode cX9_tellLantern 18 = .ok (.invokevirtual 197, 3) := by decide +kernel
theorem dX9_tellLantern_21 : decode cX9_tellLantern 21 = .ok (.aload_n 0, 1) := by decide +kernel
theorem dX9_tellLantern_22 : decode cX9_tellLantern 22 = .ok (.getfield 50, 3) := by decide +kernel
theorem dX9_tellLantern_25 : decode cX9_tellLantern 25 = .ok (.iload_n 1, 1) := by decide +kernel
theorem dX9_tellLantern_26 : decode cX9_tellLantern 26 = .ok (.invokevirtual 207, 3) := by decide +kernel
theorem dX9_tellLantern_29 : decode cX9_tellLantern 29 = .ok (.aload_n 0, 1) := by decide +kernel
theorem dX9_tellLantern_30 : decode cX9_tellLantern 30 = .ok (.getfield 50, 3) := by decide +kernel
theorem dX9_tellLantern_33 : decode cX9_tellLantern 33 = .ok (.bipush 58, 2) := by decide +kernel
theorem dX9_tellLantern_35 : decode cX9_tellLantern 35 = .ok (.invokevirtual 201, 3) := by decide +kernel
theorem dX9_tellLantern_38 : decode cX9_tellLantern 38 = .ok (.aload_n 0, 1) := by decide +kernel
theorem dX9_tellLantern_39 : decode cX9_tellLantern 39 = .ok (.getfield 50, 3) := by decide +kernel
theorem dX9_tellLantern_42 : decode cX9_tellLantern 42 = .ok (.aload_n 0, 1) := by decide +kernel
theorem dX9_tellLantern_43 : decode cX9_tellLantern 43 = .ok (.getfield 10, 3) := by decide +kernel
theorem dX9_tellLantern_46 : decode cX9_tellLantern 46 = .ok (.iload_n 1, 1) := by decide +kernel
theorem dX9_tellLantern_47 : decode cX9_tellLantern 47 = .ok (.invokevirtual 95, 3) := by decide +kernel
theorem dX9_tellLantern_50 : decode cX9_tellLantern 50 = .ok (.invokestatic 211, 3) := by decide +kernel
theorem dX9_tellLantern_53 : decode cX9_tellLantern 53 = .ok (.invokevirtual 215, 3) := by decide +kernel
theorem dX9_tellLantern_56 : decode cX9_tellLantern 56 = .ok (.aload_n 0, 1) := by decide +kernel
theorem dX9_tellLantern_57 : decode cX9_tellLantern 57 = .ok (.getfield 50, 3) := by decide +kernel
theorem dX9_tellLantern_60 : decode cX9_tellLantern 60 = .ok (.aload_n 0, 1) := by decide +kernel
theorem dX9_tellLantern_61 : decode cX9_tellLantern 61 = .ok (.getfield 10, 3) := by decide +kernel
theorem dX9_tellLantern_64 : decode cX9_tellLantern 64 = .ok (.iload_n 1, 1) := by decide +kernel
theorem dX9_tellLantern_65 : decode cX9_tellLantern 65 = .ok (.invokevirtual 98, 3) := by decide +kernel
theorem dX9_tellLantern_68 : decode cX9_tellLantern 68 = .ok (.invokevirtual 207, 3) := by decide +kernel
theorem dX9_tellLantern_71 : decode cX9_tellLantern 71 = .ok (.aload_n 0, 1) := by decide +kernel
theorem dX9_tellLantern_72 : decode cX9_tellLantern 72 = .ok (.getfield 10, 3) := by decide +kernel
theorem dX9_tellLantern_75 : decode cX9_tellLantern 75 = .ok (.iload_n 1, 1) := by decide +kernel
theorem dX9_tellLantern_76 : decode cX9_tellLantern 76 = .ok (.invokevirtual 160, 3) := by decide +kernel
theorem dX9_tellLantern_79 : decode cX9_tellLantern 79 = .ok (.ifCond .ne 8, 3) := by decide +kernel
theorem dX9_tellLantern_82 : decode cX9_tellLantern 82 = .ok (.aload_n 0, 1) := by decide +kernel
theorem dX9_tellLantern_83 : decode cX9_tellLantern 83 = .ok (.iload_n 1, 1) := by decide +kernel
theorem dX9_tellLantern_84 : decode cX9_tellLantern 84 = .ok (.invokevirtual 219, 3) := by decide +kernel
theorem dX9_tellLantern_87 : decode cX9_tellLantern 87 = .ok (.aload_n 0, 1) := by decide +kernel
theorem dX9_tellLantern_88 : decode cX9_tellLantern 88 = .ok (.getfield 10, 3) := by decide +kernel
theorem dX9_tellLantern_91 : decode cX9_tellLantern 91 = .ok (.iload_n 1, 1) := by decide +kernel
theorem dX9_tellLantern_92 : decode cX9_tellLantern 92 = .ok (.invokevirtual 101, 3) := by decide +kernel
theorem dX9_tellLantern_95 : decode cX9_tellLantern 95 = .ok (.ifCond .eq 12, 3) := by decide +kernel
theorem dX9_tellLantern_98 : decode cX9_tellLantern 98 = .ok (.aload_n 0, 1) := by decide +kernel
theorem dX9_tellLantern_99 : decode cX9_tellLantern 99 = .ok (.getfield 50, 3) := by decide +kernel
theorem dX9_tellLantern_102 : decode cX9_tellLantern 102 = .ok (.bipush 35, 2) := by decide +kernel
theorem dX9_tellLantern_104 : decode cX9_tellLantern 104 = .ok (.invokevirtual 201, 3) := by decide +kernel
theorem dX9_tellLantern_107 : decode cX9_tellLantern 107 = .ok (.aload_n 0, 1) := by decide +kernel
theorem dX9_tellLantern_108 : decode cX9_tellLantern 108 = .ok (.getfield 50, 3) := by decide +kernel
theorem dX9_tellLantern_111 : decode cX9_tellLantern 111 = .ok (.invokevirtual 204, 3) := by decide +kernel
theorem dX9_tellLantern_114 : decode cX9_tellLantern 114 = .ok (.ireturn, 1) := by decide +kernel
set_option maxRecDepth 20000 in
theorem ggX9_character_X3_codeAt : GoodIn wsX9_character wsX3_codeAt := goodIn_r _ [6, 7, 8, 18, 19] (by decide +kernel) (by decide +kernel)
set_option maxRecDepth 20000 in
theorem gX9_character_X3_codeAt : GoodIn wsX9_character (wsV RX9 222 RX3 yX3_codeAt wsX3_codeAt) := goodIn_app (goodIn_of _ (by decide +kernel)) ggX9_character_X3_codeAt
theorem dX9_character_0 : decode cX9_character 0 = .ok (.aload_n 0, 1) := by decide +kernel
theorem dX9_character_1 : decode cX9_character 1 = .ok (.getfield 50, 3) := by decide +kernel
theorem dX9_character_4 : decode cX9_character 4 = .ok (.iload_n 1, 1) := by decide +kernel
theorem dX9_character_5 : decode cX9_character 5 = .ok (.invokevirtual 222, 3) := by decide +kernel
theorem dX9_character_8 : decode cX9_character 8 = .ok (.ireturn, 1) := by decide +kernel
set_option maxRecDepth 20000 in
theorem ggX9_reason_X6_detailAt : GoodIn wsX9_reason wsX6_detailAt := goodIn_r _ [6, 7, 8, 9, 10, 5, 11, 12, 27, 28, 29] (by decide +kernel) (by decide +kernel)
set_option maxRecDepth 20000 in
theorem gX9_reason_X6_detailAt : GoodIn wsX9_reason (wsV RX9 225 RX6 yX6_detailAt wsX6_detailAt) := goodIn_app (goodIn_of _ (by decide +kernel)) ggX9_reason_X6_detailAt
set_option maxRecDepth 20000 in
theorem ggX9_reason_X6_numberAt : GoodIn wsX9_reason wsX6_numberAt := goodIn_r _ [16, 17, 8, 9, 10, 5, 11, 12, 27, 28, 29] (by decide +kernel) (by decide +kernel)
set_option maxRecDepth 20000 in
theorem gX9_reason_X6_numberAt : GoodIn wsX9_reason (wsV RX9 228 RX6 yX6_numberAt wsX6_numberAt) := goodIn_app (goodIn_of _ (by decide +kernel)) ggX9_reason_X6_numberAt
theorem dX9_reason_0 : decode cX9_reason 0 = .ok (.iload_n 2, 1) := by decide +kernel
theorem dX9_reason_1 : decode cX9_reason 1 = .ok (.ifCond .eq 14, 3) := by decide +kernel
theorem dX9_reason_4 : decode cX9_reason 4 = .ok (.aload_n 0, 1) := by decide +kernel
theorem dX9_reason_5 : decode cX9_reason 5 = .ok (.getfield 57, 3) := by decide +kernel
theorem dX9_reason_8 : decode cX9_reason 8 = .ok (.iload_n 1, 1) := by decide +kernel
theorem dX9_reason_9 : decode cX9_reason 9 = .ok (.invokevirtual 225, 3) := by decide +kernel
theorem dX9_reason_12 : decode cX9_reason 12 = .ok (.goto 11, 3) := by decide +kernel
theorem dX9_reason_15 : decode cX9_reason 15 = .ok (.aload_n 0, 1) := by decide +kernel
theorem dX9_reason_16 : decode cX9_reason 16 = .ok (.getfield 57, 3) := by decide +kernel
theorem dX9_reason_19 : decode cX9_reason 19 = .ok (.iload_n 1, 1) := by decide +kernel
theorem dX9_reason_20 : decode cX9_reason 20 = .ok (.invokevirtual 228, 3) := by decide +kernel
theorem dX9_reason_23 : decode cX9_reason 23 = .ok (.ireturn, 1) := by decide +kernel
set_option maxRecDepth 20000 in
theorem ggX9_account_X2_ticks : GoodIn wsX9_account wsX2_ticks := goodIn_r _ [9, 10, 150, 151, 152, 153, 154, 155, 156, 157, 158, 159] (by decide +kernel) (by decide +kernel)
set_option maxRecDepth 20000 in
theorem gX9_account_X2_ticks : GoodIn wsX9_account (wsV RX9 231 RX2 yX2_ticks wsX2_ticks) := goodIn_app (goodIn_of _ (by decide +kernel)) ggX9_account_X2_ticks
set_option maxRecDepth 20000 in
theorem ggX9_account_X2_count : GoodIn wsX9_account wsX2_count := goodIn_r _ [14, 15, 150, 151, 152, 153, 154, 155, 156, 157, 158, 159] (by decide +kernel) (by decide +kernel)
set_option maxRecDepth 20000 in
theorem gX9_account_X2_count : GoodIn wsX9_account (wsV RX9 198 RX2 yX2_count wsX2_count) := goodIn_app (goodIn_of _ (by decide +kernel)) ggX9_account_X2_count
set_option maxRecDepth 20000 in
theorem ggX9_account_X2_switches : GoodIn wsX9_account wsX2_switches := goodIn_r _ [19, 15, 20, 21, 22, 8, 23, 24, 25, 26, 27, 28, 150, 151, 152, 153, 154, 155, 156, 157, 158, 159] (by decide +kernel) (by decide +kernel)
set_option maxRecDepth 20000 in
theorem gX9_account_X2_switches : GoodIn wsX9_account (wsV RX9 234 RX2 yX2_switches wsX2_switches) := goodIn_app (goodIn_of _ (by decide +kernel)) ggX9_account_X2_switches
set_option maxRecDepth 20000 in
theorem ggX9_account_J6_bitCount_0f7a4 : GoodIn wsX9_account wsJ6_bitCount_0f7a4 := goodIn_r _ [32, 33, 34, 35] (by decide +kernel) (by decide +kernel)
set_option maxRecDepth 20000 in
theorem gX9_account_J6_bitCount_0f7a4 : GoodIn wsX9_account (va_wsS RX9 237 yJ6_bitCount_0f7a4 wsJ6_bitCount_0f7a4) := goodIn_app (goodIn_of _ (by decide +kernel)) ggX9_account_J6_bitCount_0f7a4
set_option maxRecDepth 20000 in
theorem ggX9_account_X2_wires : GoodIn wsX9_account wsX2_wires := goodIn_r _ [39, 15, 40, 41, 42, 8, 43, 44, 45, 46, 47, 48, 150, 151, 152, 153, 154, 155, 156, 157, 158, 159] (by decide +kernel) (by decide +kernel)
set_option maxRecDepth 20000 in
theorem gX9_account_X2_wires : GoodIn wsX9_account (wsV RX9 242 RX2 yX2_wires wsX2_wires) := goodIn_app (goodIn_of _ (by decide +kernel)) ggX9_account_X2_wires
set_option maxRecDepth 20000 in
theorem ggX9_account_X2_glow : GoodIn wsX9_account wsX2_glow := goodIn_r _ [52, 53, 54, 55, 8, 56, 57, 150, 151, 152, 153, 154, 155, 156, 157, 158, 159] (by decide +kernel) (by decide +kernel)
set_option maxRecDepth 20000 in
theorem gX9_account_X2_glow : GoodIn wsX9_account (wsV RX9 113 RX2 yX2_glow wsX2_glow) := goodIn_app (goodIn_of _ (by decide +kernel)) ggX9_account_X2_glow
set_option maxRecDepth 20000 in
theorem ggX9_account_X5_inLoops : GoodIn wsX9_account wsX5_inLoops := goodIn_r _ [61, 62, 12, 13, 8, 14, 15, 63, 64, 60, 65, 66, 67, 68, 69, 70, 71, 72, 48, 73, 74, 75, 150, 151, 152, 153, 154, 155, 156, 157, 158, 159] (by decide +kernel) (by decide +kernel)
set_option maxRecDepth 20000 in
theorem gX9_account_X5_inLoops : GoodIn wsX9_account (va_wsS RX9 141 yX5_inLoops wsX5_inLoops) := goodIn_app (goodIn_of _ (by decide +kernel)) ggX9_account_X5_inLoops
set_option maxRecDepth 20000 in
theorem ggX9_account_X2_areLoopsAllowed : GoodIn wsX9_account wsX2_areLoopsAllowed := goodIn_r _ [79, 80, 150, 151, 152, 153, 154, 155, 156, 157, 158, 159] (by decide +kernel) (by decide +kernel)
set_option maxRecDepth 20000 in
theorem gX9_account_X2_areLoopsAllowed : GoodIn wsX9_account (wsV RX9 245 RX2 yX2_areLoopsAllowed wsX2_areLoopsAllowed) := goodIn_app (goodIn_of _ (by decide +kernel)) ggX9_account_X2_areLoopsAllowed
set_option maxRecDepth 20000 in
theorem ggX9_account_X2_changes : GoodIn wsX9_account wsX2_changes := goodIn_r _ [84, 15, 85, 86, 87, 8, 88, 89, 25, 26, 27, 28, 150, 151, 152, 153, 154, 155, 156, 157, 158, 159] (by decide +kernel) (by decide +kernel)
set_option maxRecDepth 20000 in
theorem gX9_account_X2_changes : GoodIn wsX9_account (wsV RX9 248 RX2 yX2_changes wsX2_changes) := goodIn_app (goodIn_of _ (by decide +kernel)) ggX9_account_X2_changes
set_option maxRecDepth 20000 in
theorem ggX9_account_X2_tickChanges : GoodIn wsX9_account wsX2_tickChanges := goodIn_r _ [93, 94, 150, 151, 152, 153, 154, 155, 156, 157, 158, 159] (by decide +kernel) (by decide +kernel)
set_option maxRecDepth 20000 in
theorem gX9_account_X2_tickChanges : GoodIn wsX9_account (wsV RX9 251 RX2 yX2_tickChanges wsX2_tickChanges) := goodIn_app (goodIn_of _ (by decide +kernel)) ggX9_account_X2_tickChanges
set_option maxRecDepth 20000 in
theorem ggX9_account_X2_sets : GoodIn wsX9_account wsX2_sets := goodIn_r _ [98, 99, 150, 151, 152, 153, 154, 155, 156, 157, 158, 159] (by decide +kernel) (by decide +kernel)
set_option maxRecDepth 20000 in
theorem gX9_account_X2_sets : GoodIn wsX9_account (wsV RX9 254 RX2 yX2_sets wsX2_sets) := goodIn_app (goodIn_of _ (by decide +kernel)) ggX9_account_X2_sets
set_option maxRecDepth 20000 in
theorem ggX9_account_X0_greatest : GoodIn wsX9_account wsX0_greatest := goodIn_r _ [104, 105, 106, 107, 108, 109, 110, 111, 112, 113, 114, 12, 13, 8, 14, 15, 115, 116, 103, 117, 118, 26, 27, 28, 119, 45, 46, 47, 48, 120, 121, 122, 123, 21, 22, 23, 24, 25, 124, 125, 126, 127, 128, 160, 150, 151, 152, 153, 154, 155, 156, 157, 158, 159] (by decide +kernel) (by decide +kernel)
set_option maxRecDepth 20000 in
theorem gX9_account_X0_greatest : GoodIn wsX9_account (wsV RX9 257 RX0 yX0_greatest wsX0_greatest) := goodIn_app (goodIn_of _ (by decide +kernel)) ggX9_account_X0_greatest
set_option maxRecDepth 20000 in
theorem ggX9_account_X8_length : GoodIn wsX9_account wsX8_length := goodIn_r _ [133, 134, 161, 162, 163, 164, 165, 166, 167, 168] (by decide +kernel) (by decide +kernel)
set_option maxRecDepth 20000 in
theorem gX9_account_X8_length : GoodIn wsX9_account (wsV RX9 260 RX8 yX8_length wsX8_length) := goodIn_app (goodIn_of _ (by decide +kernel)) ggX9_account_X8_length
set_option maxRecDepth 20000 in
theorem ggX9_account_X4_undoable : GoodIn wsX9_account wsX4_undoable := goodIn_r _ [139, 140, 169, 170, 171] (by decide +kernel) (by decide +kernel)
set_option maxRecDepth 20000 in
theorem gX9_account_X4_undoable : GoodIn wsX9_account (wsV RX9 261 RX4 yX4_undoable wsX4_undoable) := goodIn_app (goodIn_of _ (by decide +kernel)) ggX9_account_X4_undoable
theorem dX9_account_0 : decode cX9_account 0 = .ok (.iload_n 1, 1) := by decide +kernel
theorem dX9_account_1 : decode cX9_account 1 = .ok (.tableswitch 192 0 12 #[67, 75, 83, 94, 102, 113, 124, 140, 148, 156, 164, 176, 184], 67) := by decide +kernel
theorem dX9_account_68 : decode cX9_account 68 = .ok (.aload_n 0, 1) := by decide +kernel
theorem dX9_account_69 : decode cX9_account 69 = .ok (.getfield 10, 3) := by decide +kernel
theorem dX9_account_72 : decode cX9_account 72 = .ok (.invokevirtual 231, 3) := by decide +kernel
theorem dX9_account_75 : decode cX9_account 75 = .ok (.ireturn, 1) := by decide +kernel
theorem dX9_account_76 : decode cX9_account 76 = .ok (.aload_n 0, 1) := by decide +kernel
theorem dX9_account_77 : decode cX9_account 77 = .ok (.getfield 10, 3) := by decide +kernel
theorem dX9_account_80 : decode cX9_account 80 = .ok (.invokevirtual 198, 3) := by decide +kernel
theorem dX9_account_83 : decode cX9_account 83 = .ok (.ireturn, 1) := by decide +kernel
theorem dX9_account_84 : decode cX9_account 84 = .ok (.aload_n 0, 1) := by decide +kernel
theorem dX9_account_85 : decode cX9_account 85 = .ok (.getfield 10, 3) := by decide +kernel
theorem dX9_account_88 : decode cX9_account 88 = .ok (.invokevirtual 234, 3) := by decide +kernel
theorem dX9_account_91 : decode cX9_account 91 = .ok (.invokestatic 237, 3) := by decide +kernel
theorem dX9_account_94 : decode cX9_account 94 = .ok (.ireturn, 1) := by decide +kernel
theorem dX9_account_95 : decode cX9_account 95 = .ok (.aload_n 0, 1) := by decide +kernel
theorem dX9_account_96 : decode cX9_account 96 = .ok (.getfield 10, 3) := by decide +kernel
theorem dX9_account_99 : decode cX9_account 99 = .ok (.invokevirtual 242, 3) := by decide +kernel
theorem dX9_account_102 : decode cX9_account 102 = .ok (.ireturn, 1) := by decide +kernel
theorem dX9_account_103 : decode cX9_account 103 = .ok (.aload_n 0, 1) := by decide +kernel
theorem dX9_account_104 : decode cX9_account 104 = .ok (.getfield 10, 3) := by decide +kernel
theorem dX9_account_107 : decode cX9_account 107 = .ok (.invokevirtual 113, 3) := by decide +kernel
theorem dX9_account_110 : decode cX9_account 110 = .ok (.invokestatic 237, 3) := by decide +kernel
theorem dX9_account_113 : decode cX9_account 113 = .ok (.ireturn, 1) := by decide +kernel
theorem dX9_account_114 : decode cX9_account 114 = .ok (.aload_n 0, 1) := by decide +kernel
theorem dX9_account_115 : decode cX9_account 115 = .ok (.getfield 10, 3) := by decide +kernel
theorem dX9_account_118 : decode cX9_account 118 = .ok (.invokestatic 141, 3) := by decide +kernel
theorem dX9_account_121 : decode cX9_account 121 = .ok (.invokestatic 237, 3) := by decide +kernel
theorem dX9_account_124 : decode cX9_account 124 = .ok (.ireturn, 1) := by decide +kernel
theorem dX9_account_125 : decode cX9_account 125 = .ok (.aload_n 0, 1) := by decide +kernel
theorem dX9_account_126 : decode cX9_account 126 = .ok (.getfield 10, 3) := by decide +kernel
theorem dX9_account_129 : decode cX9_account 129 = .ok (.invokevirtual 245, 3) := by decide +kernel
theorem dX9_account_132 : decode cX9_account 132 = .ok (.ifCond .eq 7, 3) := by decide +kernel
theorem dX9_account_135 : decode cX9_account 135 = .ok (.iconst 1, 1) := by decide +kernel
theorem dX9_account_136 : decode cX9_account 136 = .ok (.goto 4, 3) := by decide +kernel
theorem dX9_account_139 : decode cX9_account 139 = .ok (.iconst 0, 1) := by decide +kernel
theorem dX9_account_140 : decode cX9_account 140 = .ok (.ireturn, 1) := by decide +kernel
theorem dX9_account_141 : decode cX9_account 141 = .ok (.aload_n 0, 1) := by decide +kernel
theorem dX9_account_142 : decode cX9_account 142 = .ok (.getfield 10, 3) := by decide +kernel
theorem dX9_account_145 : decode cX9_account 145 = .ok (.invokevirtual 248, 3) := by decide +kernel
theorem dX9_account_148 : decode cX9_account 148 = .ok (.ireturn, 1) := by decide +kernel
theorem dX9_account_149 : decode cX9_account 149 = .ok (.aload_n 0, 1) := by decide +kernel
theorem dX9_account_150 : decode cX9_account 150 = .ok (.getfield 10, 3) := by decide +kernel
theorem dX9_account_153 : decode cX9_account 153 = .ok (.invokevirtual 251, 3) := by decide +kernel
theorem dX9_account_156 : decode cX9_account 156 = .ok (.ireturn, 1) := by decide +kernel
theorem dX9_account_157 : decode cX9_account 157 = .ok (.aload_n 0, 1) := by decide +kernel
theorem dX9_account_158 : decode cX9_account 158 = .ok (.getfield 10, 3) := by decide +kernel
theorem dX9_account_161 : decode cX9_account 161 = .ok (.invokevirtual 254, 3) := by decide +kernel
theorem dX9_account_164 : decode cX9_account 164 = .ok (.ireturn, 1) := by decide +kernel
theorem dX9_account_165 : decode cX9_account 165 = .ok (.aload_n 0, 1) := by decide +kernel
theorem dX9_account_166 : decode cX9_account 166 = .ok (.getfield 29, 3) := by decide +kernel
theorem dX9_account_169 : decode cX9_account 169 = .ok (.aload_n 0, 1) := by decide +kernel
theorem dX9_account_170 : decode cX9_account 170 = .ok (.getfield 10, 3) := by decide +kernel
theorem dX9_account_173 : decode cX9_account 173 = .ok (.invokevirtual 257, 3) := by decide +kernel
theorem dX9_account_176 : decode cX9_account 176 = .ok (.ireturn, 1) := by decide +kernel
theorem dX9_account_177 : decode cX9_account 177 = .ok (.aload_n 0, 1) := by decide +kernel
theorem dX9_account_178 : decode cX9_account 178 = .ok (.getfield 43, 3) := by decide +kernel
theorem dX9_account_181 : decode cX9_account 181 = .ok (.invokevirtual 260, 3) := by decide +kernel
theorem dX9_account_184 : decode cX9_account 184 = .ok (.ireturn, 1) := by decide +kernel
theorem dX9_account_185 : decode cX9_account 185 = .ok (.aload_n 0, 1) := by decide +kernel
theorem dX9_account_186 : decode cX9_account 186 = .ok (.getfield 22, 3) := by decide +kernel
theorem dX9_account_189 : decode cX9_account 189 = .ok (.invokevirtual 261, 3) := by decide +kernel
theorem dX9_account_192 : decode cX9_account 192 = .ok (.ireturn, 1) := by decide +kernel
theorem dX9_account_193 : decode cX9_account 193 = .ok (.bipush (-12), 2) := by decide +kernel
theorem dX9_account_195 : decode cX9_account 195 = .ok (.ireturn, 1) := by decide +kernel
set_option maxRecDepth 20000 in
theorem ggX9_isBalanced_X2_count : GoodIn wsX9_isBalanced wsX2_count := goodIn_r _ [6, 7, 57, 58, 59, 60, 61, 62, 63, 64, 65, 66] (by decide +kernel) (by decide +kernel)
set_option maxRecDepth 20000 in
theorem gX9_isBalanced_X2_count : GoodIn wsX9_isBalanced (wsV RX9 198 RX2 yX2_count wsX2_count) := goodIn_app (goodIn_of _ (by decide +kernel)) ggX9_isBalanced_X2_count
set_option maxRecDepth 20000 in
theorem ggX9_isBalanced_X2_changesOf : GoodIn wsX9_isBalanced wsX2_changesOf := goodIn_r _ [11, 12, 13, 14, 15, 5, 16, 7, 57, 58, 59, 60, 61, 62, 63, 64, 65, 66] (by decide +kernel) (by decide +kernel)
set_option maxRecDepth 20000 in
theorem gX9_isBalanced_X2_changesOf : GoodIn wsX9_isBalanced (wsV RX9 110 RX2 yX2_changesOf wsX2_changesOf) := goodIn_app (goodIn_of _ (by decide +kernel)) ggX9_isBalanced_X2_changesOf
set_option maxRecDepth 20000 in
theorem ggX9_isBalanced_X2_isGlowing : GoodIn wsX9_isBalanced wsX2_isGlowing := goodIn_r _ [20, 21, 22, 23, 5, 24, 25, 26, 27, 28, 29, 30, 31, 32, 57, 58, 59, 60, 61, 62, 63, 64, 65, 66] (by decide +kernel) (by decide +kernel)
set_option maxRecDepth 20000 in
theorem gX9_isBalanced_X2_isGlowing : GoodIn wsX9_isBalanced (wsV RX9 101 RX2 yX2_isGlowing wsX2_isGlowing) := goodIn_app (goodIn_of _ (by decide +kernel)) ggX9_isBalanced_X2_isGlowing
set_option maxRecDepth 20000 in
theorem ggX9_isBalanced_X2_changes : GoodIn wsX9_isBalanced wsX2_changes := goodIn_r _ [36, 7, 37, 9, 10, 5, 11, 12, 13, 14, 15, 16, 57, 58, 59, 60, 61, 62, 63, 64, 65, 66] (by decide +kernel) (by decide +kernel)
set_option maxRecDepth 20000 in
theorem gX9_isBalanced_X2_changes : GoodIn wsX9_isBalanced (wsV RX9 248 RX2 yX2_changes wsX2_changes) := goodIn_app (goodIn_of _ (by decide +kernel)) ggX9_isBalanced_X2_changes
set_option maxRecDepth 20000 in
theorem ggX9_isBalanced_X2_tickChanges : GoodIn wsX9_isBalanced wsX2_tickChanges := goodIn_r _ [41, 42, 57, 58, 59, 60, 61, 62, 63, 64, 65, 66] (by decide +kernel) (by decide +kernel)
set_option maxRecDepth 20000 in
theorem gX9_isBalanced_X2_tickChanges : GoodIn wsX9_isBalanced (wsV RX9 251 RX2 yX2_tickChanges wsX2_tickChanges) := goodIn_app (goodIn_of _ (by decide +kernel)) ggX9_isBalanced_X2_tickChanges
set_option maxRecDepth 20000 in
theorem ggX9_isBalanced_X2_sets : GoodIn wsX9_isBalanced wsX2_sets := goodIn_r _ [46, 47, 57, 58, 59, 60, 61, 62, 63, 64, 65, 66] (by decide +kernel) (by decide +kernel)
set_option maxRecDepth 20000 in
theorem gX9_isBalanced_X2_sets : GoodIn wsX9_isBalanced (wsV RX9 254 RX2 yX2_sets wsX2_sets) := goodIn_app (goodIn_of _ (by decide +kernel)) ggX9_isBalanced_X2_sets
theorem dX9_isBalanced_0 : decode cX9_isBalanced 0 = .ok (.iconst 0, 1) := by decide +kernel
theorem dX9_isBalanced_1 : decode cX9_isBalanced 1 = .ok (.istore_n 1, 1) := by decide +kernel
theorem dX9_isBalanced_2 : decode cX9_isBalanced 2 = .ok (.iload_n 1, 1) := by decide +kernel
theorem dX9_isBalanced_3 : decode cX9_isBalanced 3 = .ok (.aload_n 0, 1) := by decide +kernel
theorem dX9_isBalanced_4 : decode cX9_isBalanced 4 = .ok (.getfield 10, 3) := by decide +kernel
theorem dX9_isBalanced_7 : decode cX9_isBalanced 7 = .ok (.invokevirtual 198, 3) := by decide +kernel
theorem dX9_isBalanced_10 : decode cX9_isBalanced 10 = .ok (.if_icmp .ge 43, 3) := by decide +kernel
theorem dX9_isBalanced_13 : decode cX9_isBalanced 13 = .ok (.aload_n 0, 1) := by decide +kernel
theorem dX9_isBalanced_14 : decode cX9_isBalanced 14 = .ok (.getfield 10, 3) := by decide +kernel
theorem dX9_isBalanced_17 : decode cX9_isBalanced 17 = .ok (.iload_n 1, 1) := by decide +kernel
theorem dX9_isBalanced_18 : decode cX9_isBalanced 18 = .ok (.invokevirtual 110, 3) := by decide +kernel
theorem dX9_isBalanced_21 : decode cX9_isBalanced 21 = .ok (.iconst 1, 1) := by decide +kernel
theorem dX9_isBalanced_22 : decode cX9_isBalanced 22 = .ok (.iand, 1) := by decide +kernel
theorem dX9_isBalanced_23 : decode cX9_isBalanced 23 = .ok (.iconst 1, 1) := by decide +kernel
theorem dX9_isBalanced_24 : decode cX9_isBalanced 24 = .ok (.if_icmp .ne 7, 3) := by decide +kernel
theorem dX9_isBalanced_27 : decode cX9_isBalanced 27 = .ok (.iconst 1, 1) := by decide +kernel
theorem dX9_isBalanced_28 : decode cX9_isBalanced 28 = .ok (.goto 4, 3) := by decide +kernel
theorem dX9_isBalanced_31 : decode cX9_isBalanced 31 = .ok (.iconst 0, 1) := by decide +kernel
theorem dX9_isBalanced_32 : decode cX9_isBalanced 32 = .ok (.istore_n 2, 1) := by decide +kernel
theorem dX9_isBalanced_33 : decode cX9_isBalanced 33 = .ok (.iload_n 2, 1) := by decide +kernel
theorem dX9_isBalanced_34 : decode cX9_isBalanced 34 = .ok (.aload_n 0, 1) := by decide +kernel
theorem dX9_isBalanced_35 : decode cX9_isBalanced 35 = .ok (.getfield 10, 3) := by decide +kernel
theorem dX9_isBalanced_38 : decode cX9_isBalanced 38 = .ok (.iload_n 1, 1) := by decide +kernel
theorem dX9_isBalanced_39 : decode cX9_isBalanced 39 = .ok (.invokevirtual 101, 3) := by decide +kernel
theorem dX9_isBalanced_42 : decode cX9_isBalanced 42 = .ok (.if_icmp .eq 5, 3) := by decide +kernel
theorem dX9_isBalanced_45 : decode cX9_isBalanced 45 = .ok (.iconst 0, 1) := by decide +kernel
theorem dX9_isBalanced_46 : decode cX9_isBalanced 46 = .ok (.ireturn, 1) := by decide +kernel
theorem dX9_isBalanced_47 : decode cX9_isBalanced 47 = .ok (.iinc 1 1, 3) := by decide +kernel
theorem dX9_isBalanced_50 : decode cX9_isBalanced 50 = .ok (.goto (-48), 3) := by decide +kernel
theorem dX9_isBalanced_53 : decode cX9_isBalanced 53 = .ok (.aload_n 0, 1) := by decide +kernel
theorem dX9_isBalanced_54 : decode cX9_isBalanced 54 = .ok (.getfield 10, 3) := by decide +kernel
theorem dX9_isBalanced_57 : decode cX9_isBalanced 57 = .ok (.invokevirtual 248, 3) := by decide +kernel
theorem dX9_isBalanced_60 : decode cX9_isBalanced 60 = .ok (.aload_n 0, 1) := by decide +kernel
theorem dX9_isBalanced_61 : decode cX9_isBalanced 61 = .ok (.getfield 10, 3) := by decide +kernel
theorem dX9_isBalanced_64 : decode cX9_isBalanced 64 = .ok (.invokevirtual 251, 3) := by decide +kernel
theorem dX9_isBalanced_67 : decode cX9_isBalanced 67 = .ok (.aload_n 0, 1) := by decide +kernel
theorem dX9_isBalanced_68 : decode cX9_isBalanced 68 = .ok (.getfield 10, 3) := by decide +kernel
theorem dX9_isBalanced_71 : decode cX9_isBalanced 71 = .ok (.invokevirtual 254, 3) := by decide +kernel
theorem dX9_isBalanced_74 : decode cX9_isBalanced 74 = .ok (.iadd, 1) := by decide +kernel
theorem dX9_isBalanced_75 : decode cX9_isBalanced 75 = .ok (.if_icmp .ne 7, 3) := by decide +kernel
theorem dX9_isBalanced_78 : decode cX9_isBalanced 78 = .ok (.iconst 1, 1) := by decide +kernel
theorem dX9_isBalanced_79 : decode cX9_isBalanced 79 = .ok (.goto 4, 3) := by decide +kernel
theorem dX9_isBalanced_82 : decode cX9_isBalanced 82 = .ok (.iconst 0, 1) := by decide +kernel
theorem dX9_isBalanced_83 : decode cX9_isBalanced 83 = .ok (.ireturn, 1) := by decide +kernel
set_option maxRecDepth 20000 in
theorem ggX9_meanWick_X2_count : GoodIn wsX9_meanWick wsX2_count := goodIn_r _ [6, 7, 31, 32, 33, 34, 35, 36, 37, 38, 39, 40] (by decide +kernel) (by decide +kernel)
set_option maxRecDepth 20000 in
theorem gX9_meanWick_X2_count : GoodIn wsX9_meanWick (wsV RX9 198 RX2 yX2_count wsX2_count) := goodIn_app (goodIn_of _ (by decide +kernel)) ggX9_meanWick_X2_count
set_option maxRecDepth 20000 in
theorem ggX9_meanWick_X2_isSwitch : GoodIn wsX9_meanWick wsX2_isSwitch := goodIn_r _ [11, 12, 13, 14, 15, 5, 16, 7, 31, 32, 33, 34, 35, 36, 37, 38, 39, 40] (by decide +kernel) (by decide +kernel)
set_option maxRecDepth 20000 in
theorem gX9_meanWick_X2_isSwitch : GoodIn wsX9_meanWick (wsV RX9 160 RX2 yX2_isSwitch wsX2_isSwitch) := goodIn_app (goodIn_of _ (by decide +kernel)) ggX9_meanWick_X2_isSwitch
set_option maxRecDepth 20000 in
theorem ggX9_meanWick_X2_wickOf : GoodIn wsX9_meanWick wsX2_wickOf := goodIn_r _ [20, 21, 13, 14, 15, 5, 16, 7, 31, 32, 33, 34, 35, 36, 37, 38, 39, 40] (by decide +kernel) (by decide +kernel)
set_option maxRecDepth 20000 in
theorem gX9_meanWick_X2_wickOf : GoodIn wsX9_meanWick (wsV RX9 98 RX2 yX2_wickOf wsX2_wickOf) := goodIn_app (goodIn_of _ (by decide +kernel)) ggX9_meanWick_X2_wickOf
theorem dX9_meanWick_0 : decode cX9_meanWick 0 = .ok (.iconst 0, 1) := by decide +kernel
theorem dX9_meanWick_1 : decode cX9_meanWick 1 = .ok (.istore_n 1, 1) := by decide +kernel
theorem dX9_meanWick_2 : decode cX9_meanWick 2 = .ok (.iconst 0, 1) := by decide +kernel
theorem dX9_meanWick_3 : decode cX9_meanWick 3 = .ok (.istore_n 2, 1) := by decide +kernel
theorem dX9_meanWick_4 : decode cX9_meanWick 4 = .ok (.iconst 0, 1) := by decide +kernel
theorem dX9_meanWick_5 : decode cX9_meanWick 5 = .ok (.istore_n 3, 1) := by decide +kernel
theorem dX9_meanWick_6 : decode cX9_meanWick 6 = .ok (.iload_n 3, 1) := by decide +kernel
theorem dX9_meanWick_7 : decode cX9_meanWick 7 = .ok (.aload_n 0, 1) := by decide +kernel
theorem dX9_meanWick_8 : decode cX9_meanWick 8 = .ok (.getfield 10, 3) := by decide +kernel
theorem dX9_meanWick_11 : decode cX9_meanWick 11 = .ok (.invokevirtual 198, 3) := by decide +kernel
theorem dX9_meanWick_14 : decode cX9_meanWick 14 = .ok (.if_icmp .ge 34, 3) := by decide +kernel
theorem dX9_meanWick_17 : decode cX9_meanWick 17 = .ok (.aload_n 0, 1) := by decide +kernel
theorem dX9_meanWick_18 : decode cX9_meanWick 18 = .ok (.getfield 10, 3) := by decide +kernel
theorem dX9_meanWick_21 : decode cX9_meanWick 21 = .ok (.iload_n 3, 1) := by decide +kernel
theorem dX9_meanWick_22 : decode cX9_meanWick 22 = .ok (.invokevirtual 160, 3) := by decide +kernel
theorem dX9_meanWick_25 : decode cX9_meanWick 25 = .ok (.ifCond .ne 17, 3) := by decide +kernel
theorem dX9_meanWick_28 : decode cX9_meanWick 28 = .ok (.iinc 1 1, 3) := by decide +kernel
theorem dX9_meanWick_31 : decode cX9_meanWick 31 = .ok (.iload_n 2, 1) := by decide +kernel
theorem dX9_meanWick_32 : decode cX9_meanWick 32 = .ok (.aload_n 0, 1) := by decide +kernel
theorem dX9_meanWick_33 : decode cX9_meanWick 33 = .ok (.getfield 10, 3) := by decide +kernel
theorem dX9_meanWick_36 : decode cX9_meanWick 36 = .ok (.iload_n 3, 1) := by decide +kernel
theorem dX9_meanWick_37 : decode cX9_meanWick 37 = .ok (.invokevirtual 98, 3) := by decide +kernel
theorem dX9_meanWick_40 : decode cX9_meanWick 40 = .ok (.iadd, 1) := by decide +kernel
theorem dX9_meanWick_41 : decode cX9_meanWick 41 = .ok (.istore_n 2, 1) := by decide +kernel
theorem dX9_meanWick_42 : decode cX9_meanWick 42 = .ok (.iinc 3 1, 3) := by decide +kernel
theorem dX9_meanWick_45 : decode cX9_meanWick 45 = .ok (.goto (-39), 3) := by decide +kernel
theorem dX9_meanWick_48 : decode cX9_meanWick 48 = .ok (.iload_n 1, 1) := by decide +kernel
theorem dX9_meanWick_49 : decode cX9_meanWick 49 = .ok (.ifCond .ne 7, 3) := by decide +kernel
theorem dX9_meanWick_52 : decode cX9_meanWick 52 = .ok (.dconst 0, 1) := by decide +kernel
theorem dX9_meanWick_53 : decode cX9_meanWick 53 = .ok (.goto 8, 3) := by decide +kernel
theorem dX9_meanWick_56 : decode cX9_meanWick 56 = .ok (.iload_n 2, 1) := by decide +kernel
theorem dX9_meanWick_57 : decode cX9_meanWick 57 = .ok (.i2d, 1) := by decide +kernel
theorem dX9_meanWick_58 : decode cX9_meanWick 58 = .ok (.iload_n 1, 1) := by decide +kernel
theorem dX9_meanWick_59 : decode cX9_meanWick 59 = .ok (.i2d, 1) := by decide +kernel
theorem dX9_meanWick_60 : decode cX9_meanWick 60 = .ok (.ddiv, 1) := by decide +kernel
theorem dX9_meanWick_61 : decode cX9_meanWick 61 = .ok (.dreturn, 1) := by decide +kernel
set_option maxRecDepth 20000 in
theorem ggX9_glowShare_X2_count : GoodIn wsX9_glowShare wsX2_count := goodIn_r _ [6, 7, 33, 34, 35, 36, 37, 38, 39, 40, 41, 42] (by decide +kernel) (by decide +kernel)
set_option maxRecDepth 20000 in
theorem gX9_glowShare_X2_count : GoodIn wsX9_glowShare (wsV RX9 198 RX2 yX2_count wsX2_count) := goodIn_app (goodIn_of _ (by decide +kernel)) ggX9_glowShare_X2_count
set_option maxRecDepth 20000 in
theorem ggX9_glowShare_X2_glow : GoodIn wsX9_glowShare wsX2_glow := goodIn_r _ [11, 12, 13, 14, 5, 15, 16, 33, 34, 35, 36, 37, 38, 39, 40, 41, 42] (by decide +kernel) (by decide +kernel)
set_option maxRecDepth 20000 in
theorem gX9_glowShare_X2_glow : GoodIn wsX9_glowShare (wsV RX9 113 RX2 yX2_glow wsX2_glow) := goodIn_app (goodIn_of _ (by decide +kernel)) ggX9_glowShare_X2_glow
set_option maxRecDepth 20000 in
theorem ggX9_glowShare_J6_bitCount_0f7a4 : GoodIn wsX9_glowShare wsJ6_bitCount_0f7a4 := goodIn_r _ [20, 21, 22, 23] (by decide +kernel) (by decide +kernel)
set_option maxRecDepth 20000 in
theorem gX9_glowShare_J6_bitCount_0f7a4 : GoodIn wsX9_glowShare (va_wsS RX9 237 yJ6_bitCount_0f7a4 wsJ6_bitCount_0f7a4) := goodIn_app (goodIn_of _ (by decide +kernel)) ggX9_glowShare_J6_bitCount_0f7a4
theorem dX9_glowShare_0 : decode cX9_glowShare 0 = .ok (.aload_n 0, 1) := by decide +kernel
theorem dX9_glowShare_1 : decode cX9_glowShare 1 = .ok (.getfield 10, 3) := by decide +kernel
theorem dX9_glowShare_4 : decode cX9_glowShare 4 = .ok (.invokevirtual 198, 3) := by decide +kernel
theorem dX9_glowShare_7 : decode cX9_glowShare 7 = .ok (.istore_n 1, 1) := by decide +kernel
theorem dX9_glowShare_8 : decode cX9_glowShare 8 = .ok (.iload_n 1, 1) := by decide +kernel
theorem dX9_glowShare_9 : decode cX9_glowShare 9 = .ok (.ifCond .ne 7, 3) := by decide +kernel
theorem dX9_glowShare_12 : decode cX9_glowShare 12 = .ok (.fconst 0, 1) := by decide +kernel
theorem dX9_glowShare_13 : decode cX9_glowShare 13 = .ok (.goto 17, 3) := by decide +kernel
theorem dX9_glowShare_16 : decode cX9_glowShare 16 = .ok (.aload_n 0, 1) := by decide +kernel
theorem dX9_glowShare_17 : decode cX9_glowShare 17 = .ok (.getfield 10, 3) := by decide +kernel
theorem dX9_glowShare_20 : decode cX9_glowShare 20 = .ok (.invokevirtual 113, 3) := by decide +kernel
theorem dX9_glowShare_23 : decode cX9_glowShare 23 = .ok (.invokestatic 237, 3) := by decide +kernel
theorem dX9_glowShare_26 : decode cX9_glowShare 26 = .ok (.i2f, 1) := by decide +kernel
theorem dX9_glowShare_27 : decode cX9_glowShare 27 = .ok (.iload_n 1, 1) := by decide +kernel
theorem dX9_glowShare_28 : decode cX9_glowShare 28 = .ok (.i2f, 1) := by decide +kernel
theorem dX9_glowShare_29 : decode cX9_glowShare 29 = .ok (.fdiv, 1) := by decide +kernel
theorem dX9_glowShare_30 : decode cX9_glowShare 30 = .ok (.freturn, 1) := by decide +kernel
set_option maxRecDepth 20000 in
theorem ggX9_undo_X4_undoable : GoodIn wsX9_undo wsX4_undoable := goodIn_r _ [7, 8, 47, 48, 49] (by decide +kernel) (by decide +kernel)
set_option maxRecDepth 20000 in
theorem gX9_undo_X4_undoable : GoodIn wsX9_undo (wsV RX9 261 RX4 yX4_undoable wsX4_undoable) := goodIn_app (goodIn_of _ (by decide +kernel)) ggX9_undo_X4_undoable
set_option maxRecDepth 20000 in
theorem ggX9_undo_X4_bringBackLatest : GoodIn wsX9_undo wsX4_bringBackLatest := goodIn_r _ [12, 13, 8, 14, 15, 16, 6, 17, 18, 19, 20, 21, 22, 23, 24, 25, 26, 27, 28, 29, 30, 31, 32, 33, 34, 35, 36, 37, 47, 48, 49, 50, 51, 52, 53, 54, 55, 56, 57, 58, 59] (by decide +kernel) (by decide +kernel)
set_option maxRecDepth 20000 in
theorem gX9_undo_X4_bringBackLatest : GoodIn wsX9_undo (wsV RX9 264 RX4 yX4_bringBackLatest wsX4_bringBackLatest) := goodIn_app (goodIn_of _ (by decide +kernel)) ggX9_undo_X4_bringBackLatest
theorem dX9_undo_0 : decode cX9_undo 0 = .ok (.aload_n 0, 1) := by decide +kernel
theorem dX9_undo_1 : decode cX9_undo 1 = .ok (.getfield 22, 3) := by decide +kernel
theorem dX9_undo_4 : decode cX9_undo 4 = .ok (.invokevirtual 261, 3) := by decide +kernel
theorem dX9_undo_7 : decode cX9_undo 7 = .ok (.ifCond .ne 6, 3) := by decide +kernel
theorem dX9_undo_10 : decode cX9_undo 10 = .ok (.bipush (-15), 2) := by decide +kernel
theorem dX9_undo_12 : decode cX9_undo 12 = .ok (.ireturn, 1) := by decide +kernel
theorem dX9_undo_13 : decode cX9_undo 13 = .ok (.aload_n 0, 1) := by decide +kernel
theorem dX9_undo_14 : decode cX9_undo 14 = .ok (.getfield 22, 3) := by decide +kernel
theorem dX9_undo_17 : decode cX9_undo 17 = .ok (.aload_n 0, 1) := by decide +kernel
theorem dX9_undo_18 : decode cX9_undo 18 = .ok (.getfield 10, 3) := by decide +kernel
theorem dX9_undo_21 : decode cX9_undo 21 = .ok (.invokevirtual 264, 3) := by decide +kernel
theorem dX9_undo_24 : decode cX9_undo 24 = .ok (.aload_n 0, 1) := by decide +kernel
theorem dX9_undo_25 : decode cX9_undo 25 = .ok (.getfield 22, 3) := by decide +kernel
theorem dX9_undo_28 : decode cX9_undo 28 = .ok (.invokevirtual 261, 3) := by decide +kernel
theorem dX9_undo_31 : decode cX9_undo 31 = .ok (.ireturn, 1) := by decide +kernel
set_option maxRecDepth 20000 in
theorem ggX9_save_X2_copyFrom : GoodIn wsX9_save wsX2_copyFrom := goodIn_r _ [8, 9, 10, 11, 12, 13, 14, 15, 16, 17, 18, 19, 20, 21, 22, 36, 37, 38, 39, 40, 41, 42, 43, 44, 45] (by decide +kernel) (by decide +kernel)
set_option maxRecDepth 20000 in
theorem gX9_save_X2_copyFrom : GoodIn wsX9_save (wsV RX9 267 RX2 yX2_copyFrom wsX2_copyFrom) := goodIn_app (goodIn_of _ (by decide +kernel)) ggX9_save_X2_copyFrom
set_option maxRecDepth 20000 in
theorem ggX9_save_X2_count : GoodIn wsX9_save wsX2_count := goodIn_r _ [26, 9, 36, 37, 38, 39, 40, 41, 42, 43, 44, 45] (by decide +kernel) (by decide +kernel)
set_option maxRecDepth 20000 in
theorem gX9_save_X2_count : GoodIn wsX9_save (wsV RX9 198 RX2 yX2_count wsX2_count) := goodIn_app (goodIn_of _ (by decide +kernel)) ggX9_save_X2_count
theorem dX9_save_0 : decode cX9_save 0 = .ok (.aload_n 0, 1) := by decide +kernel
theorem dX9_save_1 : decode cX9_save 1 = .ok (.getfield 16, 3) := by decide +kernel
theorem dX9_save_4 : decode cX9_save 4 = .ok (.aload_n 0, 1) := by decide +kernel
theorem dX9_save_5 : decode cX9_save 5 = .ok (.getfield 10, 3) := by decide +kernel
theorem dX9_save_8 : decode cX9_save 8 = .ok (.invokevirtual 267, 3) := by decide +kernel
theorem dX9_save_11 : decode cX9_save 11 = .ok (.aload_n 0, 1) := by decide +kernel
theorem dX9_save_12 : decode cX9_save 12 = .ok (.iconst 1, 1) := by decide +kernel
theorem dX9_save_13 : decode cX9_save 13 = .ok (.putfield 270, 3) := by decide +kernel
theorem dX9_save_16 : decode cX9_save 16 = .ok (.aload_n 0, 1) := by decide +kernel
theorem dX9_save_17 : decode cX9_save 17 = .ok (.getfield 10, 3) := by decide +kernel
theorem dX9_save_20 : decode cX9_save 20 = .ok (.invokevirtual 198, 3) := by decide +kernel
theorem dX9_save_23 : decode cX9_save 23 = .ok (.ireturn, 1) := by decide +kernel
set_option maxRecDepth 20000 in
theorem ggX9_restore_X2_copyFrom : GoodIn wsX9_restore wsX2_copyFrom := goodIn_r _ [9, 10, 11, 12, 13, 14, 15, 16, 17, 18, 19, 20, 21, 22, 23, 43, 44, 45, 46, 47, 48, 49, 50, 51, 52] (by decide +kernel) (by decide +kernel)
set_option maxRecDepth 20000 in
theorem gX9_restore_X2_copyFrom : GoodIn wsX9_restore (wsV RX9 267 RX2 yX2_copyFrom wsX2_copyFrom) := goodIn_app (goodIn_of _ (by decide +kernel)) ggX9_restore_X2_copyFrom
set_option maxRecDepth 20000 in
theorem ggX9_restore_X4_forget : GoodIn wsX9_restore wsX4_forget := goodIn_r _ [28, 29, 53, 54, 55] (by decide +kernel) (by decide +kernel)
set_option maxRecDepth 20000 in
theorem gX9_restore_X4_forget : GoodIn wsX9_restore (wsV RX9 274 RX4 yX4_forget wsX4_forget) := goodIn_app (goodIn_of _ (by decide +kernel)) ggX9_restore_X4_forget
set_option maxRecDepth 20000 in
theorem ggX9_restore_X2_count : GoodIn wsX9_restore wsX2_count := goodIn_r _ [33, 10, 43, 44, 45, 46, 47, 48, 49, 50, 51, 52] (by decide +kernel) (by decide +kernel)
set_option maxRecDepth 20000 in
theorem gX9_restore_X2_count : GoodIn wsX9_restore (wsV RX9 198 RX2 yX2_count wsX2_count) := goodIn_app (goodIn_of _ (by decide +kernel)) ggX9_restore_X2_count
theorem dX9_restore_0 : decode cX9_restore 0 = .ok (.aload_n 0, 1) := by decide +kernel
theorem dX9_restore_1 : decode cX9_restore 1 = .ok (.getfield 270, 3) := by decide +kernel
theorem dX9_restore_4 : decode cX9_restore 4 = .ok (.ifCond .ne 6, 3) := by decide +kernel
theorem dX9_restore_7 : decode cX9_restore 7 = .ok (.bipush (-15), 2) := by decide +kernel
theorem dX9_restore_9 : decode cX9_restore 9 = .ok (.ireturn, 1) := by decide +kernel
theorem dX9_restore_10 : decode cX9_restore 10 = .ok (.aload_n 0, 1) := by decide +kernel
theorem dX9_restore_11 : decode cX9_restore 11 = .ok (.getfield 10, 3) := by decide +kernel
theorem dX9_restore_14 : decode cX9_restore 14 = .ok (.aload_n 0, 1) := by decide +kernel
theorem dX9_restore_15 : decode cX9_restore 15 = .ok (.getfield 16, 3) := by decide +kernel
theorem dX9_restore_18 : decode cX9_restore 18 = .ok (.invokevirtual 267, 3) := by decide +kernel
theorem dX9_restore_21 : decode cX9_restore 21 = .ok (.aload_n 0, 1) := by decide +kernel
theorem dX9_restore_22 : decode cX9_restore 22 = .ok (.getfield 22, 3) := by decide +kernel
theorem dX9_restore_25 : decode cX9_restore 25 = .ok (.invokevirtual 274, 3) := by decide +kernel
theorem dX9_restore_28 : decode cX9_restore 28 = .ok (.aload_n 0, 1) := by decide +kernel
theorem dX9_restore_29 : decode cX9_restore 29 = .ok (.getfield 10, 3) := by decide +kernel
theorem dX9_restore_32 : decode cX9_restore 32 = .ok (.invokevirtual 198, 3) := by decide +kernel
theorem dX9_restore_35 : decode cX9_restore 35 = .ok (.ireturn, 1) := by decide +kernel
set_option maxRecDepth 20000 in
theorem ggX9_kept_X4_keepHeld : GoodIn wsX9_kept wsX4_keepHeld := goodIn_r _ [6, 7, 8, 9, 10, 11, 12, 22, 23, 24] (by decide +kernel) (by decide +kernel)
set_option maxRecDepth 20000 in
theorem gX9_kept_X4_keepHeld : GoodIn wsX9_kept (wsV RX9 277 RX4 yX4_keepHeld wsX4_keepHeld) := goodIn_app (goodIn_of _ (by decide +kernel)) ggX9_kept_X4_keepHeld
theorem dX9_kept_0 : decode cX9_kept 0 = .ok (.iload_n 1, 1) := by decide +kernel
theorem dX9_kept_1 : decode cX9_kept 1 = .ok (.ifCond .lt 10, 3) := by decide +kernel
theorem dX9_kept_4 : decode cX9_kept 4 = .ok (.aload_n 0, 1) := by decide +kernel
theorem dX9_kept_5 : decode cX9_kept 5 = .ok (.getfield 22, 3) := by decide +kernel
theorem dX9_kept_8 : decode cX9_kept 8 = .ok (.invokevirtual 277, 3) := by decide +kernel
theorem dX9_kept_11 : decode cX9_kept 11 = .ok (.iload_n 1, 1) := by decide +kernel
theorem dX9_kept_12 : decode cX9_kept 12 = .ok (.ireturn, 1) := by decide +kernel
set_option maxRecDepth 20000 in
theorem ggX9_refuse_X6_start : GoodIn wsX9_refuse wsX6_start := goodIn_r _ [6, 7, 8, 9, 19, 20, 21] (by decide +kernel) (by decide +kernel)
set_option maxRecDepth 20000 in
theorem gX9_refuse_X6_start : GoodIn wsX9_refuse (wsV RX9 280 RX6 yX6_start wsX6_start) := goodIn_app (goodIn_of _ (by decide +kernel)) ggX9_refuse_X6_start
theorem dX9_refuse_0 : decode cX9_refuse 0 = .ok (.aload_n 0, 1) := by decide +kernel
theorem dX9_refuse_1 : decode cX9_refuse 1 = .ok (.getfield 57, 3) := by decide +kernel
theorem dX9_refuse_4 : decode cX9_refuse 4 = .ok (.iload_n 1, 1) := by decide +kernel
theorem dX9_refuse_5 : decode cX9_refuse 5 = .ok (.iload_n 2, 1) := by decide +kernel
theorem dX9_refuse_6 : decode cX9_refuse 6 = .ok (.invokevirtual 280, 3) := by decide +kernel
theorem dX9_refuse_9 : decode cX9_refuse 9 = .ok (.bipush (-14), 2) := by decide +kernel
theorem dX9_refuse_11 : decode cX9_refuse 11 = .ok (.ireturn, 1) := by decide +kernel
set_option maxRecDepth 20000 in
theorem ggX9_hangUp_X2_add : GoodIn wsX9_hangUp wsX2_add := goodIn_r _ [6, 7, 8, 9, 33, 34, 35, 36, 37, 38, 39, 40, 41, 42] (by decide +kernel) (by decide +kernel)
set_option maxRecDepth 20000 in
theorem gX9_hangUp_X2_add : GoodIn wsX9_hangUp (wsV RX9 284 RX2 yX2_add wsX2_add) := goodIn_app (goodIn_of _ (by decide +kernel)) ggX9_hangUp_X2_add
set_option maxRecDepth 20000 in
theorem ggX9_hangUp_X9_refuse : GoodIn wsX9_hangUp wsX9_refuse := goodIn_r _ [14, 15, 16, 17, 18, 19, 20, 21, 22, 23, 24, 25, 26, 27, 28, 29, 30, 31, 32, 43, 44, 45] (by decide +kernel) (by decide +kernel)
set_option maxRecDepth 20000 in
theorem gX9_hangUp_X9_refuse : GoodIn wsX9_hangUp (wsV RX9 286 RX9 yX9_refuse wsX9_refuse) := goodIn_app (goodIn_of _ (by decide +kernel)) ggX9_hangUp_X9_refuse
theorem dX9_hangUp_0 : decode cX9_hangUp 0 = .ok (.iload_n 1, 1) := by decide +kernel
theorem dX9_hangUp_1 : decode cX9_hangUp 1 = .ok (.ifCond .lt 19, 3) := by decide +kernel
theorem dX9_hangUp_4 : decode cX9_hangUp 4 = .ok (.iload_n 1, 1) := by decide +kernel
theorem dX9_hangUp_5 : decode cX9_hangUp 5 = .ok (.bipush 6, 2) := by decide +kernel
theorem dX9_hangUp_7 : decode cX9_hangUp 7 = .ok (.if_icmp .gt 13, 3) := by decide +kernel
theorem dX9_hangUp_10 : decode cX9_hangUp 10 = .ok (.iload_n 2, 1) := by decide +kernel
theorem dX9_hangUp_11 : decode cX9_hangUp 11 = .ok (.iconst 1, 1) := by decide +kernel
theorem dX9_hangUp_12 : decode cX9_hangUp 12 = .ok (.if_icmp .lt 8, 3) := by decide +kernel
theorem dX9_hangUp_15 : decode cX9_hangUp 15 = .ok (.iload_n 2, 1) := by decide +kernel
theorem dX9_hangUp_16 : decode cX9_hangUp 16 = .ok (.iconst 4, 1) := by decide +kernel
theorem dX9_hangUp_17 : decode cX9_hangUp 17 = .ok (.if_icmp .le 6, 3) := by decide +kernel
theorem dX9_hangUp_20 : decode cX9_hangUp 20 = .ok (.bipush (-12), 2) := by decide +kernel
theorem dX9_hangUp_22 : decode cX9_hangUp 22 = .ok (.ireturn, 1) := by decide +kernel
theorem dX9_hangUp_23 : decode cX9_hangUp 23 = .ok (.aload_n 0, 1) := by decide +kernel
theorem dX9_hangUp_24 : decode cX9_hangUp 24 = .ok (.getfield 10, 3) := by decide +kernel
theorem dX9_hangUp_27 : decode cX9_hangUp 27 = .ok (.iload_n 1, 1) := by decide +kernel
theorem dX9_hangUp_28 : decode cX9_hangUp 28 = .ok (.iload_n 2, 1) := by decide +kernel
theorem dX9_hangUp_29 : decode cX9_hangUp 29 = .ok (.invokevirtual 284, 3) := by decide +kernel
theorem dX9_hangUp_32 : decode cX9_hangUp 32 = .ok (.istore_n 3, 1) := by decide +kernel
theorem dX9_hangUp_33 : decode cX9_hangUp 33 = .ok (.iload_n 3, 1) := by decide +kernel
theorem dX9_hangUp_34 : decode cX9_hangUp 34 = .ok (.bipush (-11), 2) := by decide +kernel
theorem dX9_hangUp_36 : decode cX9_hangUp 36 = .ok (.if_icmp .ne 13, 3) := by decide +kernel
theorem dX9_hangUp_39 : decode cX9_hangUp 39 = .ok (.aload_n 0, 1) := by decide +kernel
theorem dX9_hangUp_40 : decode cX9_hangUp 40 = .ok (.iconst 1, 1) := by decide +kernel
theorem dX9_hangUp_41 : decode cX9_hangUp 41 = .ok (.bipush 16, 2) := by decide +kernel
theorem dX9_hangUp_43 : decode cX9_hangUp 43 = .ok (.invokevirtual 286, 3) := by decide +kernel
theorem dX9_hangUp_46 : decode cX9_hangUp 46 = .ok (.goto 4, 3) := by decide +kernel
theorem dX9_hangUp_49 : decode cX9_hangUp 49 = .ok (.iload_n 3, 1) := by decide +kernel
theorem dX9_hangUp_50 : decode cX9_hangUp 50 = .ok (.ireturn, 1) := by decide +kernel
set_option maxRecDepth 20000 in
theorem ggX9_putWire_X2_isHung : GoodIn wsX9_putWire wsX2_isHung := goodIn_r _ [7, 8, 91, 92, 93, 94, 95, 96, 97, 98, 99, 100] (by decide +kernel) (by decide +kernel)
set_option maxRecDepth 20000 in
theorem gX9_putWire_X2_isHung : GoodIn wsX9_putWire (wsV RX9 91 RX2 yX2_isHung wsX2_isHung) := goodIn_app (goodIn_of _ (by decide +kernel)) ggX9_putWire_X2_isHung
set_option maxRecDepth 20000 in
theorem ggX9_putWire_X9_isPlace : GoodIn wsX9_putWire wsX9_isPlace := goodIn_r _ [12] (by decide +kernel) (by decide +kernel)
set_option maxRecDepth 20000 in
theorem gX9_putWire_X9_isPlace : GoodIn wsX9_putWire (va_wsS RX9 129 yX9_isPlace wsX9_isPlace) := goodIn_app (goodIn_of _ (by decide +kernel)) ggX9_putWire_X9_isPlace
set_option maxRecDepth 20000 in
theorem ggX9_putWire_X9_isPlaceRefused : GoodIn wsX9_putWire wsX9_isPlaceRefused := goodIn_r _ [16, 1, 17, 18, 19, 6, 20, 21, 22, 4, 5, 7, 8, 23, 24, 25, 11, 26, 2, 27, 28, 29, 30, 31, 32, 33, 34, 35, 36, 37, 38, 39, 40, 41, 82, 83, 84, 85, 86, 87, 88, 89, 90, 91, 92, 93, 94, 95, 96, 97, 98, 99, 100, 101, 102, 103] (by decide +kernel) (by decide +kernel)
set_option maxRecDepth 20000 in
theorem gX9_putWire_X9_isPlaceRefused : GoodIn wsX9_putWire (wsV RX9 289 RX9 yX9_isPlaceRefused wsX9_isPlaceRefused) := goodIn_app (goodIn_of _ (by decide +kernel)) ggX9_putWire_X9_isPlaceRefused
set_option maxRecDepth 20000 in
theorem ggX9_putWire_X2_sourceOf : GoodIn wsX9_putWire wsX2_sourceOf := goodIn_r _ [45, 46, 91, 92, 93, 94, 95, 96, 97, 98, 99, 100] (by decide +kernel) (by decide +kernel)
set_option maxRecDepth 20000 in
theorem gX9_putWire_X2_sourceOf : GoodIn wsX9_putWire (wsV RX9 132 RX2 yX2_sourceOf wsX2_sourceOf) := goodIn_app (goodIn_of _ (by decide +kernel)) ggX9_putWire_X2_sourceOf
set_option maxRecDepth 20000 in
theorem ggX9_putWire_X9_refuse : GoodIn wsX9_putWire wsX9_refuse := goodIn_r _ [26, 2, 27, 28, 29, 30, 31, 32, 33, 34, 82, 83, 84, 85, 86, 87, 88, 89, 90, 101, 102, 103] (by decide +kernel) (by decide +kernel)
set_option maxRecDepth 20000 in
theorem gX9_putWire_X9_refuse : GoodIn wsX9_putWire (wsV RX9 286 RX9 yX9_refuse wsX9_refuse) := goodIn_app (goodIn_of _ (by decide +kernel)) ggX9_putWire_X9_refuse
set_option maxRecDepth 20000 in
theorem ggX9_putWire_X2_areLoopsAllowed : GoodIn wsX9_putWire wsX2_areLoopsAllowed := goodIn_r _ [50, 51, 91, 92, 93, 94, 95, 96, 97, 98, 99, 100] (by decide +kernel) (by decide +kernel)
set_option maxRecDepth 20000 in
theorem gX9_putWire_X2_areLoopsAllowed : GoodIn wsX9_putWire (wsV RX9 245 RX2 yX2_areLoopsAllowed wsX2_areLoopsAllowed) := goodIn_app (goodIn_of _ (by decide +kernel)) ggX9_putWire_X2_areLoopsAllowed
set_option maxRecDepth 20000 in
theorem ggX9_putWire_X5_fewestWires : GoodIn wsX9_putWire wsX5_fewestWires := goodIn_r _ [55, 56, 11, 57, 58, 59, 54, 60, 61, 62, 63, 6, 64, 8, 65, 66, 67, 68, 46, 91, 92, 93, 94, 95, 96, 97, 98, 99, 100] (by decide +kernel) (by decide +kernel)
set_option maxRecDepth 20000 in
theorem gX9_putWire_X5_fewestWires : GoodIn wsX9_putWire (va_wsS RX9 292 yX5_fewestWires wsX5_fewestWires) := goodIn_app (goodIn_of _ (by decide +kernel)) ggX9_putWire_X5_fewestWires
set_option maxRecDepth 20000 in
theorem ggX9_putWire_X6_putBehind : GoodIn wsX9_putWire wsX6_putBehind := goodIn_r _ [72, 34, 32, 33, 101, 102, 103] (by decide +kernel) (by decide +kernel)
set_option maxRecDepth 20000 in
theorem gX9_putWire_X6_putBehind : GoodIn wsX9_putWire (wsV RX9 295 RX6 yX6_putBehind wsX6_putBehind) := goodIn_app (goodIn_of _ (by decide +kernel)) ggX9_putWire_X6_putBehind
set_option maxRecDepth 20000 in
theorem ggX9_putWire_X2_connect : GoodIn wsX9_putWire wsX2_connect := goodIn_r _ [76, 46, 22, 4, 5, 6, 7, 8, 10, 11, 12, 91, 92, 93, 94, 95, 96, 97, 98, 99, 100] (by decide +kernel) (by decide +kernel)
set_option maxRecDepth 20000 in
theorem gX9_putWire_X2_connect : GoodIn wsX9_putWire (wsV RX9 298 RX2 yX2_connect wsX2_connect) := goodIn_app (goodIn_of _ (by decide +kernel)) ggX9_putWire_X2_connect
set_option maxRecDepth 20000 in
theorem ggX9_putWire_X2_wiresTo : GoodIn wsX9_putWire wsX2_wiresTo := goodIn_r _ [80, 81, 43, 44, 6, 45, 46, 91, 92, 93, 94, 95, 96, 97, 98, 99, 100] (by decide +kernel) (by decide +kernel)
set_option maxRecDepth 20000 in
theorem gX9_putWire_X2_wiresTo : GoodIn wsX9_putWire (wsV RX9 104 RX2 yX2_wiresTo wsX2_wiresTo) := goodIn_app (goodIn_of _ (by decide +kernel)) ggX9_putWire_X2_wiresTo
theorem dX9_putWire_0 : decode cX9_putWire 0 = .ok (.aload_n 0, 1) := by decide +kernel
theorem dX9_putWire_1 : decode cX9_putWire 1 = .ok (.getfield 10, 3) := by decide +kernel
theorem dX9_putWire_4 : decode cX9_putWire 4 = .ok (.iload_n 1, 1) := by decide +kernel
theorem dX9_putWire_5 : decode cX9_putWire 5 = .ok (.invokevirtual 91, 3) := by decide +kernel
theorem dX9_putWire_8 : decode cX9_putWire 8 = .ok (.ifCond .eq 14, 3) := by decide +kernel
theorem dX9_putWire_11 : decode cX9_putWire 11 = .ok (.aload_n 0, 1) := by decide +kernel
theorem dX9_putWire_12 : decode cX9_putWire 12 = .ok (.getfield 10, 3) := by decide +kernel
theorem dX9_putWire_15 : decode cX9_putWire 15 = .ok (.iload_n 3, 1) := by decide +kernel
theorem dX9_putWire_16 : decode cX9_putWire 16 = .ok (.invokevirtual 91, 3) := by decide +kernel
theorem dX9_putWire_19 : decode cX9_putWire 19 = .ok (.ifCond .ne 6, 3) := by decide +kernel
theorem dX9_putWire_22 : decode cX9_putWire 22 = .ok (.bipush (-11), 2) := by decide +kernel
theorem dX9_putWire_24 : decode cX9_putWire 24 = .ok (.ireturn, 1) := by decide +kernel
theorem dX9_putWire_25 : decode cX9_putWire 25 = .ok (.iload_n 2, 1) := by decide +kernel
theorem dX9_putWire_26 : decode cX9_putWire 26 = .ok (.invokestatic 129, 3) := by decide +kernel
theorem dX9_putWire_29 : decode cX9_putWire 29 = .ok (.ifCond .ne 6, 3) := by decide +kernel
theorem dX9_putWire_32 : decode cX9_putWire 32 = .ok (.bipush (-12), 2) := by decide +kernel
theorem dX9_putWire_34 : decode cX9_putWire 34 = .ok (.ireturn, 1) := by decide +kernel
theorem dX9_putWire_35 : decode cX9_putWire 35 = .ok (.aload_n 0, 1) := by decide +kernel
theorem dX9_putWire_36 : decode cX9_putWire 36 = .ok (.iload_n 1, 1) := by decide +kernel
theorem dX9_putWire_37 : decode cX9_putWire 37 = .ok (.iload_n 2, 1) := by decide +kernel
theorem dX9_putWire_38 : decode cX9_putWire 38 = .ok (.invokevirtual 289, 3) := by decide +kernel
theorem dX9_putWire_41 : decode cX9_putWire 41 = .ok (.ifCond .eq 6, 3) := by decide +kernel
theorem dX9_putWire_44 : decode cX9_putWire 44 = .ok (.bipush (-14), 2) := by decide +kernel
theorem dX9_putWire_46 : decode cX9_putWire 46 = .ok (.ireturn, 1) := by decide +kernel
theorem dX9_putWire_47 : decode cX9_putWire 47 = .ok (.aload_n 0, 1) := by decide +kernel
theorem dX9_putWire_48 : decode cX9_putWire 48 = .ok (.getfield 10, 3) := by decide +kernel
theorem dX9_putWire_51 : decode cX9_putWire 51 = .ok (.iload_n 1, 1) := by decide +kernel
theorem dX9_putWire_52 : decode cX9_putWire 52 = .ok (.iload_n 2, 1) := by decide +kernel
theorem dX9_putWire_53 : decode cX9_putWire 53 = .ok (.invokevirtual 132, 3) := by decide +kernel
theorem dX9_putWire_56 : decode cX9_putWire 56 = .ok (.istore 4, 2) := by decide +kernel
theorem dX9_putWire_58 : decode cX9_putWire 58 = .ok (.iload 4, 2) := by decide +kernel
theorem dX9_putWire_60 : decode cX9_putWire 60 = .ok (.iconst (-1), 1) := by decide +kernel
theorem dX9_putWire_61 : decode cX9_putWire 61 = .ok (.if_icmp .eq 11, 3) := by decide +kernel
theorem dX9_putWire_64 : decode cX9_putWire 64 = .ok (.aload_n 0, 1) := by decide +kernel
theorem dX9_putWire_65 : decode cX9_putWire 65 = .ok (.iconst 4, 1) := by decide +kernel
theorem dX9_putWire_66 : decode cX9_putWire 66 = .ok (.iload 4, 2) := by decide +kernel
theorem dX9_putWire_68 : decode cX9_putWire 68 = .ok (.invokevirtual 286, 3) := by decide +kernel
theorem dX9_putWire_71 : decode cX9_putWire 71 = .ok (.ireturn, 1) := by decide +kernel
theorem dX9_putWire_72 : decode cX9_putWire 72 = .ok (.aload_n 0, 1) := by decide +kernel
theorem dX9_putWire_73 : decode cX9_putWire 73 = .ok (.getfield 10, 3) := by decide +kernel
theorem dX9_putWire_76 : decode cX9_putWire 76 = .ok (.invokevirtual 245, 3) := by decide +kernel
theorem dX9_putWire_79 : decode cX9_putWire 79 = .ok (.ifCond .eq 8, 3) := by decide +kernel
theorem dX9_putWire_82 : decode cX9_putWire 82 = .ok (.bipush (-15), 2) := by decide +kernel
theorem dX9_putWire_84 : decode cX9_putWire 84 = .ok (.goto 12, 3) := by decide +kernel
theorem dX9_putWire_87 : decode cX9_putWire 87 = .ok (.aload_n 0, 1) := by decide +kernel
theorem dX9_putWire_88 : decode cX9_putWire 88 = .ok (.getfield 10, 3) := by decide +kernel
theorem dX9_putWire_91 : decode cX9_putWire 91 = .ok (.iload_n 1, 1) := by decide +kernel
theorem dX9_putWire_92 : decode cX9_putWire 92 = .ok (.iload_n 3, 1) := by decide +kernel
theorem dX9_putWire_93 : decode cX9_putWire 93 = .ok (.invokestatic 292, 3) := by decide +kernel
theorem dX9_putWire_96 : decode cX9_putWire 96 = .ok (.istore 5, 2) := by decide +kernel
theorem dX9_putWire_98 : decode cX9_putWire 98 = .ok (.iload 5, 2) := by decide +kernel
theorem dX9_putWire_100 : decode cX9_putWire 100 = .ok (.ifCond .lt 27, 3) := by decide +kernel
theorem dX9_putWire_103 : decode cX9_putWire 103 = .ok (.aload_n 0, 1) := by decide +kernel
theorem dX9_putWire_104 : decode cX9_putWire 104 = .ok (.bipush 8, 2) := by decide +kernel
theorem dX9_putWire_106 : decode cX9_putWire 106 = .ok (.iload_n 3, 1) := by decide +kernel
theorem dX9_putWire_107 : decode cX9_putWire 107 = .ok (.invokevirtual 286, 3) := by decide +kernel
theorem dX9_putWire_110 : decode cX9_putWire 110 = .ok (.pop, 1) := by decide +kernel
theorem dX9_putWire_111 : decode cX9_putWire 111 = .ok (.aload_n 0, 1) := by decide +kernel
theorem dX9_putWire_112 : decode cX9_putWire 112 = .ok (.getfield 57, 3) := by decide +kernel
theorem dX9_putWire_115 : decode cX9_putWire 115 = .ok (.bipush 11, 2) := by decide +kernel
theorem dX9_putWire_117 : decode cX9_putWire 117 = .ok (.iload 5, 2) := by decide +kernel
theorem dX9_putWire_119 : decode cX9_putWire 119 = .ok (.iconst 1, 1) := by decide +kernel
theorem dX9_putWire_120 : decode cX9_putWire 120 = .ok (.iadd, 1) := by decide +kernel
theorem dX9_putWire_121 : decode cX9_putWire 121 = .ok (.invokevirtual 295, 3) := by decide +kernel
theorem dX9_putWire_124 : decode cX9_putWire 124 = .ok (.bipush (-14), 2) := by decide +kernel
theorem dX9_putWire_126 : decode cX9_putWire 126 = .ok (.ireturn, 1) := by decide +kernel
theorem dX9_putWire_127 : decode cX9_putWire 127 = .ok (.aload_n 0, 1) := by decide +kernel
theorem dX9_putWire_128 : decode cX9_putWire 128 = .ok (.getfield 10, 3) := by decide +kernel
theorem dX9_putWire_131 : decode cX9_putWire 131 = .ok (.iload_n 1, 1) := by decide +kernel
theorem dX9_putWire_132 : decode cX9_putWire 132 = .ok (.iload_n 2, 1) := by decide +kernel
theorem dX9_putWire_133 : decode cX9_putWire 133 = .ok (.iload_n 3, 1) := by decide +kernel
theorem dX9_putWire_134 : decode cX9_putWire 134 = .ok (.invokevirtual 298, 3) := by decide +kernel
theorem dX9_putWire_137 : decode cX9_putWire 137 = .ok (.aload_n 0, 1) := by decide +kernel
theorem dX9_putWire_138 : decode cX9_putWire 138 = .ok (.getfield 10, 3) := by decide +kernel
theorem dX9_putWire_141 : decode cX9_putWire 141 = .ok (.iload_n 1, 1) := by decide +kernel
theorem dX9_putWire_142 : decode cX9_putWire 142 = .ok (.invokevirtual 104, 3) := by decide +kernel
theorem dX9_putWire_145 : decode cX9_putWire 145 = .ok (.ireturn, 1) := by decide +kernel
set_option maxRecDepth 20000 in
theorem ggX9_cutWire_X2_isHung : GoodIn wsX9_cutWire wsX2_isHung := goodIn_r _ [6, 7, 60, 61, 62, 63, 64, 65, 66, 67, 68, 69] (by decide +kernel) (by decide +kernel)
set_option maxRecDepth 20000 in
theorem gX9_cutWire_X2_isHung : GoodIn wsX9_cutWire (wsV RX9 91 RX2 yX2_isHung wsX2_isHung) := goodIn_app (goodIn_of _ (by decide +kernel)) ggX9_cutWire_X2_isHung
set_option maxRecDepth 20000 in
theorem ggX9_cutWire_X9_isPlace : GoodIn wsX9_cutWire wsX9_isPlace := goodIn_r _ [11] (by decide +kernel) (by decide +kernel)
set_option maxRecDepth 20000 in
theorem gX9_cutWire_X9_isPlace : GoodIn wsX9_cutWire (va_wsS RX9 129 yX9_isPlace wsX9_isPlace) := goodIn_app (goodIn_of _ (by decide +kernel)) ggX9_cutWire_X9_isPlace
set_option maxRecDepth 20000 in
theorem ggX9_cutWire_X9_isPlaceRefused : GoodIn wsX9_cutWire wsX9_isPlaceRefused := goodIn_r _ [15, 1, 16, 17, 18, 5, 19, 20, 21, 3, 4, 6, 7, 22, 23, 24, 10, 25, 26, 27, 28, 29, 30, 31, 32, 33, 34, 35, 36, 37, 38, 39, 40, 41, 51, 52, 53, 54, 55, 56, 57, 58, 59, 60, 61, 62, 63, 64, 65, 66, 67, 68, 69, 70, 71, 72] (by decide +kernel) (by decide +kernel)
set_option maxRecDepth 20000 in
theorem gX9_cutWire_X9_isPlaceRefused : GoodIn wsX9_cutWire (wsV RX9 289 RX9 yX9_isPlaceRefused wsX9_isPlaceRefused) := goodIn_app (goodIn_of _ (by decide +kernel)) ggX9_cutWire_X9_isPlaceRefused
set_option maxRecDepth 20000 in
theorem ggX9_cutWire_X2_sourceOf : GoodIn wsX9_cutWire wsX2_sourceOf := goodIn_r _ [45, 46, 60, 61, 62, 63, 64, 65, 66, 67, 68, 69] (by decide +kernel) (by decide +kernel)
set_option maxRecDepth 20000 in
theorem gX9_cutWire_X2_sourceOf : GoodIn wsX9_cutWire (wsV RX9 132 RX2 yX2_sourceOf wsX2_sourceOf) := goodIn_app (goodIn_of _ (by decide +kernel)) ggX9_cutWire_X2_sourceOf
set_option maxRecDepth 20000 in
theorem ggX9_cutWire_X9_refuse : GoodIn wsX9_cutWire wsX9_refuse := goodIn_r _ [25, 26, 27, 28, 29, 30, 31, 32, 33, 34, 51, 52, 53, 54, 55, 56, 57, 58, 59, 70, 71, 72] (by decide +kernel) (by decide +kernel)
set_option maxRecDepth 20000 in
theorem gX9_cutWire_X9_refuse : GoodIn wsX9_cutWire (wsV RX9 286 RX9 yX9_refuse wsX9_refuse) := goodIn_app (goodIn_of _ (by decide +kernel)) ggX9_cutWire_X9_refuse
set_option maxRecDepth 20000 in
theorem ggX9_cutWire_X2_connect : GoodIn wsX9_cutWire wsX2_connect := goodIn_r _ [50, 46, 21, 3, 4, 5, 6, 7, 9, 10, 11, 60, 61, 62, 63, 64, 65, 66, 67, 68, 69] (by decide +kernel) (by decide +kernel)
set_option maxRecDepth 20000 in
theorem gX9_cutWire_X2_connect : GoodIn wsX9_cutWire (wsV RX9 298 RX2 yX2_connect wsX2_connect) := goodIn_app (goodIn_of _ (by decide +kernel)) ggX9_cutWire_X2_connect
theorem dX9_cutWire_0 : decode cX9_cutWire 0 = .ok (.aload_n 0, 1) := by decide +kernel
theorem dX9_cutWire_1 : decode cX9_cutWire 1 = .ok (.getfield 10, 3) := by decide +kernel
theorem dX9_cutWire_4 : decode cX9_cutWire 4 = .ok (.iload_n 1, 1) := by decide +kernel
theorem dX9_cutWire_5 : decode cX9_cutWire 5 = .ok (.invokevirtual 91, 3) := by decide +kernel
theorem dX9_cutWire_8 : decode cX9_cutWire 8 = .ok (.ifCond .ne 6, 3) := by decide +kernel
theorem dX9_cutWire_11 : decode cX9_cutWire 11 = .ok (.bipush (-11), 2) := by decide +kernel
theorem dX9_cutWire_13 : decode cX9_cutWire 13 = .ok (.ireturn, 1) := by decide +kernel
theorem dX9_cutWire_14 : decode cX9_cutWire 14 = .ok (.iload_n 2, 1) := by decide +kernel
theorem dX9_cutWire_15 : decode cX9_cutWire 15 = .ok (.invokestatic 129, 3) := by decide +kernel
theorem dX9_cutWire_18 : decode cX9_cutWire 18 = .ok (.ifCond .ne 6, 3) := by decide +kernel
theorem dX9_cutWire_21 : decode cX9_cutWire 21 = .ok (.bipush (-12), 2) := by decide +kernel
theorem dX9_cutWire_23 : decode cX9_cutWire 23 = .ok (.ireturn, 1) := by decide +kernel
theorem dX9_cutWire_24 : decode cX9_cutWire 24 = .ok (.aload_n 0, 1) := by decide +kernel
theorem dX9_cutWire_25 : decode cX9_cutWire 25 = .ok (.iload_n 1, 1) := by decide +kernel
theorem dX9_cutWire_26 : decode cX9_cutWire 26 = .ok (.iload_n 2, 1) := by decide +kernel
theorem dX9_cutWire_27 : decode cX9_cutWire 27 = .ok (.invokevirtual 289, 3) := by decide +kernel
theorem dX9_cutWire_30 : decode cX9_cutWire 30 = .ok (.ifCond .eq 6, 3) := by decide +kernel
theorem dX9_cutWire_33 : decode cX9_cutWire 33 = .ok (.bipush (-14), 2) := by decide +kernel
theorem dX9_cutWire_35 : decode cX9_cutWire 35 = .ok (.ireturn, 1) := by decide +kernel
theorem dX9_cutWire_36 : decode cX9_cutWire 36 = .ok (.aload_n 0, 1) := by decide +kernel
theorem dX9_cutWire_37 : decode cX9_cutWire 37 = .ok (.getfield 10, 3) := by decide +kernel
theorem dX9_cutWire_40 : decode cX9_cutWire 40 = .ok (.iload_n 1, 1) := by decide +kernel
theorem dX9_cutWire_41 : decode cX9_cutWire 41 = .ok (.iload_n 2, 1) := by decide +kernel
theorem dX9_cutWire_42 : decode cX9_cutWire 42 = .ok (.invokevirtual 132, 3) := by decide +kernel
theorem dX9_cutWire_45 : decode cX9_cutWire 45 = .ok (.istore_n 3, 1) := by decide +kernel
theorem dX9_cutWire_46 : decode cX9_cutWire 46 = .ok (.iload_n 3, 1) := by decide +kernel
theorem dX9_cutWire_47 : decode cX9_cutWire 47 = .ok (.iconst (-1), 1) := by decide +kernel
theorem dX9_cutWire_48 : decode cX9_cutWire 48 = .ok (.if_icmp .ne 10, 3) := by decide +kernel
theorem dX9_cutWire_51 : decode cX9_cutWire 51 = .ok (.aload_n 0, 1) := by decide +kernel
theorem dX9_cutWire_52 : decode cX9_cutWire 52 = .ok (.iconst 5, 1) := by decide +kernel
theorem dX9_cutWire_53 : decode cX9_cutWire 53 = .ok (.iload_n 2, 1) := by decide +kernel
theorem dX9_cutWire_54 : decode cX9_cutWire 54 = .ok (.invokevirtual 286, 3) := by decide +kernel
theorem dX9_cutWire_57 : decode cX9_cutWire 57 = .ok (.ireturn, 1) := by decide +kernel
theorem dX9_cutWire_58 : decode cX9_cutWire 58 = .ok (.aload_n 0, 1) := by decide +kernel
theorem dX9_cutWire_59 : decode cX9_cutWire 59 = .ok (.getfield 10, 3) := by decide +kernel
theorem dX9_cutWire_62 : decode cX9_cutWire 62 = .ok (.iload_n 1, 1) := by decide +kernel
theorem dX9_cutWire_63 : decode cX9_cutWire 63 = .ok (.iload_n 2, 1) := by decide +kernel
theorem dX9_cutWire_64 : decode cX9_cutWire 64 = .ok (.iconst (-1), 1) := by decide +kernel
theorem dX9_cutWire_65 : decode cX9_cutWire 65 = .ok (.invokevirtual 298, 3) := by decide +kernel
theorem dX9_cutWire_68 : decode cX9_cutWire 68 = .ok (.iload_n 3, 1) := by decide +kernel
theorem dX9_cutWire_69 : decode cX9_cutWire 69 = .ok (.ireturn, 1) := by decide +kernel
set_option maxRecDepth 20000 in
theorem ggX9_isPlaceRefused_X2_isSwitch : GoodIn wsX9_isPlaceRefused wsX2_isSwitch := goodIn_r _ [6, 7, 8, 9, 10, 5, 11, 12, 43, 44, 45, 46, 47, 48, 49, 50, 51, 52] (by decide +kernel) (by decide +kernel)
set_option maxRecDepth 20000 in
theorem gX9_isPlaceRefused_X2_isSwitch : GoodIn wsX9_isPlaceRefused (wsV RX9 160 RX2 yX2_isSwitch wsX2_isSwitch) := goodIn_app (goodIn_of _ (by decide +kernel)) ggX9_isPlaceRefused_X2_isSwitch
set_option maxRecDepth 20000 in
theorem ggX9_isPlaceRefused_X9_refuse : GoodIn wsX9_isPlaceRefused wsX9_refuse := goodIn_r _ [17, 18, 19, 20, 21, 22, 23, 24, 25, 26, 34, 35, 36, 37, 38, 39, 40, 41, 42, 53, 54, 55] (by decide +kernel) (by decide +kernel)
set_option maxRecDepth 20000 in
theorem gX9_isPlaceRefused_X9_refuse : GoodIn wsX9_isPlaceRefused (wsV RX9 286 RX9 yX9_refuse wsX9_refuse) := goodIn_app (goodIn_of _ (by decide +kernel)) ggX9_isPlaceRefused_X9_refuse
set_option maxRecDepth 20000 in
theorem ggX9_isPlaceRefused_X2_kindOf : GoodIn wsX9_isPlaceRefused wsX2_kindOf := goodIn_r _ [30, 7, 8, 9, 10, 5, 11, 12, 43, 44, 45, 46, 47, 48, 49, 50, 51, 52] (by decide +kernel) (by decide +kernel)
set_option maxRecDepth 20000 in
theorem gX9_isPlaceRefused_X2_kindOf : GoodIn wsX9_isPlaceRefused (wsV RX9 95 RX2 yX2_kindOf wsX2_kindOf) := goodIn_app (goodIn_of _ (by decide +kernel)) ggX9_isPlaceRefused_X2_kindOf
set_option maxRecDepth 20000 in
theorem ggX9_isPlaceRefused_X9_placesOf : GoodIn wsX9_isPlaceRefused wsX9_placesOf := goodIn_r _ [33] (by decide +kernel) (by decide +kernel)
set_option maxRecDepth 20000 in
theorem gX9_isPlaceRefused_X9_placesOf : GoodIn wsX9_isPlaceRefused (va_wsS RX9 302 yX9_placesOf wsX9_placesOf) := goodIn_app (goodIn_of _ (by decide +kernel)) ggX9_isPlaceRefused_X9_placesOf
theorem dX9_isPlaceRefused_0 : decode cX9_isPlaceRefused 0 = .ok (.aload_n 0, 1) := by decide +kernel
theorem dX9_isPlaceRefused_1 : decode cX9_isPlaceRefused 1 = .ok (.getfield 10, 3) := by decide +kernel
theorem dX9_isPlaceRefused_4 : decode cX9_isPlaceRefused 4 = .ok (.iload_n 1, 1) := by decide +kernel
theorem dX9_isPlaceRefused_5 : decode cX9_isPlaceRefused 5 = .ok (.invokevirtual 160, 3) := by decide +kernel
theorem dX9_isPlaceRefused_8 : decode cX9_isPlaceRefused 8 = .ok (.ifCond .eq 12, 3) := by decide +kernel
theorem dX9_isPlaceRefused_11 : decode cX9_isPlaceRefused 11 = .ok (.aload_n 0, 1) := by decide +kernel
theorem dX9_isPlaceRefused_12 : decode cX9_isPlaceRefused 12 = .ok (.iconst 2, 1) := by decide +kernel
theorem dX9_isPlaceRefused_13 : decode cX9_isPlaceRefused 13 = .ok (.iload_n 1, 1) := by decide +kernel
theorem dX9_isPlaceRefused_14 : decode cX9_isPlaceRefused 14 = .ok (.invokevirtual 286, 3) := by decide +kernel
theorem dX9_isPlaceRefused_17 : decode cX9_isPlaceRefused 17 = .ok (.pop, 1) := by decide +kernel
theorem dX9_isPlaceRefused_18 : decode cX9_isPlaceRefused 18 = .ok (.iconst 1, 1) := by decide +kernel
theorem dX9_isPlaceRefused_19 : decode cX9_isPlaceRefused 19 = .ok (.ireturn, 1) := by decide +kernel
theorem dX9_isPlaceRefused_20 : decode cX9_isPlaceRefused 20 = .ok (.aload_n 0, 1) := by decide +kernel
theorem dX9_isPlaceRefused_21 : decode cX9_isPlaceRefused 21 = .ok (.getfield 10, 3) := by decide +kernel
theorem dX9_isPlaceRefused_24 : decode cX9_isPlaceRefused 24 = .ok (.iload_n 1, 1) := by decide +kernel
theorem dX9_isPlaceRefused_25 : decode cX9_isPlaceRefused 25 = .ok (.invokevirtual 95, 3) := by decide +kernel
theorem dX9_isPlaceRefused_28 : decode cX9_isPlaceRefused 28 = .ok (.invokestatic 302, 3) := by decide +kernel
theorem dX9_isPlaceRefused_31 : decode cX9_isPlaceRefused 31 = .ok (.istore_n 3, 1) := by decide +kernel
theorem dX9_isPlaceRefused_32 : decode cX9_isPlaceRefused 32 = .ok (.iload_n 2, 1) := by decide +kernel
theorem dX9_isPlaceRefused_33 : decode cX9_isPlaceRefused 33 = .ok (.iload_n 3, 1) := by decide +kernel
theorem dX9_isPlaceRefused_34 : decode cX9_isPlaceRefused 34 = .ok (.if_icmp .lt 12, 3) := by decide +kernel
theorem dX9_isPlaceRefused_37 : decode cX9_isPlaceRefused 37 = .ok (.aload_n 0, 1) := by decide +kernel
theorem dX9_isPlaceRefused_38 : decode cX9_isPlaceRefused 38 = .ok (.iconst 3, 1) := by decide +kernel
theorem dX9_isPlaceRefused_39 : decode cX9_isPlaceRefused 39 = .ok (.iload_n 3, 1) := by decide +kernel
theorem dX9_isPlaceRefused_40 : decode cX9_isPlaceRefused 40 = .ok (.invokevirtual 286, 3) := by decide +kernel
theorem dX9_isPlaceRefused_43 : decode cX9_isPlaceRefused 43 = .ok (.pop, 1) := by decide +kernel
theorem dX9_isPlaceRefused_44 : decode cX9_isPlaceRefused 44 = .ok (.iconst 1, 1) := by decide +kernel
theorem dX9_isPlaceRefused_45 : decode cX9_isPlaceRefused 45 = .ok (.ireturn, 1) := by decide +kernel
theorem dX9_isPlaceRefused_46 : decode cX9_isPlaceRefused 46 = .ok (.iconst 0, 1) := by decide +kernel
theorem dX9_isPlaceRefused_47 : decode cX9_isPlaceRefused 47 = .ok (.ireturn, 1) := by decide +kernel
set_option maxRecDepth 20000 in
theorem ggX9_setSwitch_X2_isHung : GoodIn wsX9_setSwitch wsX2_isHung := goodIn_r _ [6, 7, 70, 71, 72, 73, 74, 75, 76, 77, 78, 79] (by decide +kernel) (by decide +kernel)
set_option maxRecDepth 20000 in
theorem gX9_setSwitch_X2_isHung : GoodIn wsX9_setSwitch (wsV RX9 91 RX2 yX2_isHung wsX2_isHung) := goodIn_app (goodIn_of _ (by decide +kernel)) ggX9_setSwitch_X2_isHung
set_option maxRecDepth 20000 in
theorem ggX9_setSwitch_X2_isSwitch : GoodIn wsX9_setSwitch wsX2_isSwitch := goodIn_r _ [11, 12, 13, 3, 4, 5, 6, 7, 70, 71, 72, 73, 74, 75, 76, 77, 78, 79] (by decide +kernel) (by decide +kernel)
set_option maxRecDepth 20000 in
theorem gX9_setSwitch_X2_isSwitch : GoodIn wsX9_setSwitch (wsV RX9 160 RX2 yX2_isSwitch wsX2_isSwitch) := goodIn_app (goodIn_of _ (by decide +kernel)) ggX9_setSwitch_X2_isSwitch
set_option maxRecDepth 20000 in
theorem ggX9_setSwitch_X2_kindOf : GoodIn wsX9_setSwitch wsX2_kindOf := goodIn_r _ [17, 12, 13, 3, 4, 5, 6, 7, 70, 71, 72, 73, 74, 75, 76, 77, 78, 79] (by decide +kernel) (by decide +kernel)
set_option maxRecDepth 20000 in
theorem gX9_setSwitch_X2_kindOf : GoodIn wsX9_setSwitch (wsV RX9 95 RX2 yX2_kindOf wsX2_kindOf) := goodIn_app (goodIn_of _ (by decide +kernel)) ggX9_setSwitch_X2_kindOf
set_option maxRecDepth 20000 in
theorem ggX9_setSwitch_X9_refuse : GoodIn wsX9_setSwitch wsX9_refuse := goodIn_r _ [22, 23, 24, 25, 26, 27, 28, 29, 30, 31, 61, 62, 63, 64, 65, 66, 67, 68, 69, 80, 81, 82] (by decide +kernel) (by decide +kernel)
set_option maxRecDepth 20000 in
theorem gX9_setSwitch_X9_refuse : GoodIn wsX9_setSwitch (wsV RX9 286 RX9 yX9_refuse wsX9_refuse) := goodIn_app (goodIn_of _ (by decide +kernel)) ggX9_setSwitch_X9_refuse
set_option maxRecDepth 20000 in
theorem ggX9_setSwitch_X2_isGlowing : GoodIn wsX9_setSwitch wsX2_isGlowing := goodIn_r _ [35, 36, 37, 38, 5, 39, 40, 41, 42, 43, 44, 45, 21, 46, 70, 71, 72, 73, 74, 75, 76, 77, 78, 79] (by decide +kernel) (by decide +kernel)
set_option maxRecDepth 20000 in
theorem gX9_setSwitch_X2_isGlowing : GoodIn wsX9_setSwitch (wsV RX9 101 RX2 yX2_isGlowing wsX2_isGlowing) := goodIn_app (goodIn_of _ (by decide +kernel)) ggX9_setSwitch_X2_isGlowing
set_option maxRecDepth 20000 in
theorem ggX9_setSwitch_X2_turn : GoodIn wsX9_setSwitch wsX2_turn := goodIn_r _ [50, 40, 51, 52, 13, 3, 4, 5, 6, 7, 70, 71, 72, 73, 74, 75, 76, 77, 78, 79] (by decide +kernel) (by decide +kernel)
set_option maxRecDepth 20000 in
theorem gX9_setSwitch_X2_turn : GoodIn wsX9_setSwitch (wsV RX9 305 RX2 yX2_turn wsX2_turn) := goodIn_app (goodIn_of _ (by decide +kernel)) ggX9_setSwitch_X2_turn
set_option maxRecDepth 20000 in
theorem ggX9_setSwitch_X2_glow : GoodIn wsX9_setSwitch wsX2_glow := goodIn_r _ [39, 40, 41, 42, 5, 43, 44, 70, 71, 72, 73, 74, 75, 76, 77, 78, 79] (by decide +kernel) (by decide +kernel)
set_option maxRecDepth 20000 in
theorem gX9_setSwitch_X2_glow : GoodIn wsX9_setSwitch (wsV RX9 113 RX2 yX2_glow wsX2_glow) := goodIn_app (goodIn_of _ (by decide +kernel)) ggX9_setSwitch_X2_glow
set_option maxRecDepth 20000 in
theorem ggX9_setSwitch_J6_bitCount_0f7a4 : GoodIn wsX9_setSwitch wsJ6_bitCount_0f7a4 := goodIn_r _ [57, 58, 59, 60] (by decide +kernel) (by decide +kernel)
set_option maxRecDepth 20000 in
theorem gX9_setSwitch_J6_bitCount_0f7a4 : GoodIn wsX9_setSwitch (va_wsS RX9 237 yJ6_bitCount_0f7a4 wsJ6_bitCount_0f7a4) := goodIn_app (goodIn_of _ (by decide +kernel)) ggX9_setSwitch_J6_bitCount_0f7a4
theorem dX9_setSwitch_0 : decode cX9_setSwitch 0 = .ok (.aload_n 0, 1) := by decide +kernel
theorem dX9_setSwitch_1 : decode cX9_setSwitch 1 = .ok (.getfield 10, 3) := by decide +kernel
theorem dX9_setSwitch_4 : decode cX9_setSwitch 4 = .ok (.iload_n 1, 1) := by decide +kernel
theorem dX9_setSwitch_5 : decode cX9_setSwitch 5 = .ok (.invokevirtual 91, 3) := by decide +kernel
theorem dX9_setSwitch_8 : decode cX9_setSwitch 8 = .ok (.ifCond .ne 6, 3) := by decide +kernel
theorem dX9_setSwitch_11 : decode cX9_setSwitch 11 = .ok (.bipush (-11), 2) := by decide +kernel
theorem dX9_setSwitch_13 : decode cX9_setSwitch 13 = .ok (.ireturn, 1) := by decide +kernel
theorem dX9_setSwitch_14 : decode cX9_setSwitch 14 = .ok (.aload_n 0, 1) := by decide +kernel
theorem dX9_setSwitch_15 : decode cX9_setSwitch 15 = .ok (.getfield 10, 3) := by decide +kernel
theorem dX9_setSwitch_18 : decode cX9_setSwitch 18 = .ok (.iload_n 1, 1) := by decide +kernel
theorem dX9_setSwitch_19 : decode cX9_setSwitch 19 = .ok (.invokevirtual 160, 3) := by decide +kernel
theorem dX9_setSwitch_22 : decode cX9_setSwitch 22 = .ok (.ifCond .ne 18, 3) := by decide +kernel
theorem dX9_setSwitch_25 : decode cX9_setSwitch 25 = .ok (.aload_n 0, 1) := by decide +kernel
theorem dX9_setSwitch_26 : decode cX9_setSwitch 26 = .ok (.bipush 6, 2) := by decide +kernel
theorem dX9_setSwitch_28 : decode cX9_setSwitch 28 = .ok (.aload_n 0, 1) := by decide +kernel
theorem dX9_setSwitch_29 : decode cX9_setSwitch 29 = .ok (.getfield 10, 3) := by decide +kernel
theorem dX9_setSwitch_32 : decode cX9_setSwitch 32 = .ok (.iload_n 1, 1) := by decide +kernel
theorem dX9_setSwitch_33 : decode cX9_setSwitch 33 = .ok (.invokevirtual 95, 3) := by decide +kernel
theorem dX9_setSwitch_36 : decode cX9_setSwitch 36 = .ok (.invokevirtual 286, 3) := by decide +kernel
theorem dX9_setSwitch_39 : decode cX9_setSwitch 39 = .ok (.ireturn, 1) := by decide +kernel
theorem dX9_setSwitch_40 : decode cX9_setSwitch 40 = .ok (.aload_n 0, 1) := by decide +kernel
theorem dX9_setSwitch_41 : decode cX9_setSwitch 41 = .ok (.getfield 10, 3) := by decide +kernel
theorem dX9_setSwitch_44 : decode cX9_setSwitch 44 = .ok (.iload_n 1, 1) := by decide +kernel
theorem dX9_setSwitch_45 : decode cX9_setSwitch 45 = .ok (.invokevirtual 101, 3) := by decide +kernel
theorem dX9_setSwitch_48 : decode cX9_setSwitch 48 = .ok (.iload_n 2, 1) := by decide +kernel
theorem dX9_setSwitch_49 : decode cX9_setSwitch 49 = .ok (.if_icmp .ne 11, 3) := by decide +kernel
theorem dX9_setSwitch_52 : decode cX9_setSwitch 52 = .ok (.aload_n 0, 1) := by decide +kernel
theorem dX9_setSwitch_53 : decode cX9_setSwitch 53 = .ok (.bipush 7, 2) := by decide +kernel
theorem dX9_setSwitch_55 : decode cX9_setSwitch 55 = .ok (.iload_n 1, 1) := by decide +kernel
theorem dX9_setSwitch_56 : decode cX9_setSwitch 56 = .ok (.invokevirtual 286, 3) := by decide +kernel
theorem dX9_setSwitch_59 : decode cX9_setSwitch 59 = .ok (.ireturn, 1) := by decide +kernel
theorem dX9_setSwitch_60 : decode cX9_setSwitch 60 = .ok (.aload_n 0, 1) := by decide +kernel
theorem dX9_setSwitch_61 : decode cX9_setSwitch 61 = .ok (.getfield 10, 3) := by decide +kernel
theorem dX9_setSwitch_64 : decode cX9_setSwitch 64 = .ok (.iload_n 1, 1) := by decide +kernel
theorem dX9_setSwitch_65 : decode cX9_setSwitch 65 = .ok (.invokevirtual 305, 3) := by decide +kernel
theorem dX9_setSwitch_68 : decode cX9_setSwitch 68 = .ok (.aload_n 0, 1) := by decide +kernel
theorem dX9_setSwitch_69 : decode cX9_setSwitch 69 = .ok (.getfield 10, 3) := by decide +kernel
theorem dX9_setSwitch_72 : decode cX9_setSwitch 72 = .ok (.invokevirtual 113, 3) := by decide +kernel
theorem dX9_setSwitch_75 : decode cX9_setSwitch 75 = .ok (.invokestatic 237, 3) := by decide +kernel
theorem dX9_setSwitch_78 : decode cX9_setSwitch 78 = .ok (.ireturn, 1) := by decide +kernel
set_option maxRecDepth 20000 in
theorem ggX9_allowLoops_X5_inLoops : GoodIn wsX9_allowLoops wsX5_inLoops := goodIn_r _ [6, 7, 8, 9, 10, 11, 12, 13, 14, 5, 15, 16, 17, 18, 19, 20, 21, 22, 23, 24, 25, 26, 72, 73, 74, 75, 76, 77, 78, 79, 80, 81] (by decide +kernel) (by decide +kernel)
set_option maxRecDepth 20000 in
theorem gX9_allowLoops_X5_inLoops : GoodIn wsX9_allowLoops (va_wsS RX9 141 yX5_inLoops wsX5_inLoops) := goodIn_app (goodIn_of _ (by decide +kernel)) ggX9_allowLoops_X5_inLoops
set_option maxRecDepth 20000 in
theorem ggX9_allowLoops_X9_lowestIn : GoodIn wsX9_allowLoops wsX9_lowestIn := goodIn_r _ [29, 30, 24, 25, 26] (by decide +kernel) (by decide +kernel)
set_option maxRecDepth 20000 in
theorem gX9_allowLoops_X9_lowestIn : GoodIn wsX9_allowLoops (va_wsS RX9 308 yX9_lowestIn wsX9_lowestIn) := goodIn_app (goodIn_of _ (by decide +kernel)) ggX9_allowLoops_X9_lowestIn
set_option maxRecDepth 20000 in
theorem ggX9_allowLoops_X9_refuse : GoodIn wsX9_allowLoops wsX9_refuse := goodIn_r _ [34, 2, 35, 36, 37, 38, 39, 40, 41, 42, 63, 64, 65, 66, 67, 68, 69, 70, 71, 82, 83, 84] (by decide +kernel) (by decide +kernel)
set_option maxRecDepth 20000 in
theorem gX9_allowLoops_X9_refuse : GoodIn wsX9_allowLoops (wsV RX9 286 RX9 yX9_refuse wsX9_refuse) := goodIn_app (goodIn_of _ (by decide +kernel)) ggX9_allowLoops_X9_refuse
set_option maxRecDepth 20000 in
theorem ggX9_allowLoops_J6_bitCount_0f7a4 : GoodIn wsX9_allowLoops wsJ6_bitCount_0f7a4 := goodIn_r _ [46, 47, 48, 49] (by decide +kernel) (by decide +kernel)
set_option maxRecDepth 20000 in
theorem gX9_allowLoops_J6_bitCount_0f7a4 : GoodIn wsX9_allowLoops (va_wsS RX9 237 yJ6_bitCount_0f7a4 wsJ6_bitCount_0f7a4) := goodIn_app (goodIn_of _ (by decide +kernel)) ggX9_allowLoops_J6_bitCount_0f7a4
set_option maxRecDepth 20000 in
theorem ggX9_allowLoops_X6_putBehind : GoodIn wsX9_allowLoops wsX6_putBehind := goodIn_r _ [53, 42, 40, 41, 82, 83, 84] (by decide +kernel) (by decide +kernel)
set_option maxRecDepth 20000 in
theorem gX9_allowLoops_X6_putBehind : GoodIn wsX9_allowLoops (wsV RX9 295 RX6 yX6_putBehind wsX6_putBehind) := goodIn_app (goodIn_of _ (by decide +kernel)) ggX9_allowLoops_X6_putBehind
set_option maxRecDepth 20000 in
theorem ggX9_allowLoops_X2_areLoopsAllowed : GoodIn wsX9_allowLoops wsX2_areLoopsAllowed := goodIn_r _ [57, 58, 72, 73, 74, 75, 76, 77, 78, 79, 80, 81] (by decide +kernel) (by decide +kernel)
set_option maxRecDepth 20000 in
theorem gX9_allowLoops_X2_areLoopsAllowed : GoodIn wsX9_allowLoops (wsV RX9 245 RX2 yX2_areLoopsAllowed wsX2_areLoopsAllowed) := goodIn_app (goodIn_of _ (by decide +kernel)) ggX9_allowLoops_X2_areLoopsAllowed
set_option maxRecDepth 20000 in
theorem ggX9_allowLoops_X2_allowLoops : GoodIn wsX9_allowLoops wsX2_allowLoops := goodIn_r _ [62, 58, 72, 73, 74, 75, 76, 77, 78, 79, 80, 81] (by decide +kernel) (by decide +kernel)
set_option maxRecDepth 20000 in
theorem gX9_allowLoops_X2_allowLoops : GoodIn wsX9_allowLoops (wsV RX9 311 RX2 yX2_allowLoops wsX2_allowLoops) := goodIn_app (goodIn_of _ (by decide +kernel)) ggX9_allowLoops_X2_allowLoops
theorem dX9_allowLoops_0 : decode cX9_allowLoops 0 = .ok (.iload_n 1, 1) := by decide +kernel
theorem dX9_allowLoops_1 : decode cX9_allowLoops 1 = .ok (.ifCond .eq 7, 3) := by decide +kernel
theorem dX9_allowLoops_4 : decode cX9_allowLoops 4 = .ok (.iconst 0, 1) := by decide +kernel
theorem dX9_allowLoops_5 : decode cX9_allowLoops 5 = .ok (.goto 10, 3) := by decide +kernel
theorem dX9_allowLoops_8 : decode cX9_allowLoops 8 = .ok (.aload_n 0, 1) := by decide +kernel
theorem dX9_allowLoops_9 : decode cX9_allowLoops 9 = .ok (.getfield 10, 3) := by decide +kernel
theorem dX9_allowLoops_12 : decode cX9_allowLoops 12 = .ok (.invokestatic 141, 3) := by decide +kernel
theorem dX9_allowLoops_15 : decode cX9_allowLoops 15 = .ok (.istore_n 2, 1) := by decide +kernel
theorem dX9_allowLoops_16 : decode cX9_allowLoops 16 = .ok (.iload_n 2, 1) := by decide +kernel
theorem dX9_allowLoops_17 : decode cX9_allowLoops 17 = .ok (.ifCond .eq 30, 3) := by decide +kernel
theorem dX9_allowLoops_20 : decode cX9_allowLoops 20 = .ok (.aload_n 0, 1) := by decide +kernel
theorem dX9_allowLoops_21 : decode cX9_allowLoops 21 = .ok (.bipush 9, 2) := by decide +kernel
theorem dX9_allowLoops_23 : decode cX9_allowLoops 23 = .ok (.iload_n 2, 1) := by decide +kernel
theorem dX9_allowLoops_24 : decode cX9_allowLoops 24 = .ok (.invokestatic 308, 3) := by decide +kernel
theorem dX9_allowLoops_27 : decode cX9_allowLoops 27 = .ok (.invokevirtual 286, 3) := by decide +kernel
theorem dX9_allowLoops_30 : decode cX9_allowLoops 30 = .ok (.pop, 1) := by decide +kernel
theorem dX9_allowLoops_31 : decode cX9_allowLoops 31 = .ok (.aload_n 0, 1) := by decide +kernel
theorem dX9_allowLoops_32 : decode cX9_allowLoops 32 = .ok (.getfield 57, 3) := by decide +kernel
theorem dX9_allowLoops_35 : decode cX9_allowLoops 35 = .ok (.bipush 12, 2) := by decide +kernel
theorem dX9_allowLoops_37 : decode cX9_allowLoops 37 = .ok (.iload_n 2, 1) := by decide +kernel
theorem dX9_allowLoops_38 : decode cX9_allowLoops 38 = .ok (.invokestatic 237, 3) := by decide +kernel
theorem dX9_allowLoops_41 : decode cX9_allowLoops 41 = .ok (.invokevirtual 295, 3) := by decide +kernel
theorem dX9_allowLoops_44 : decode cX9_allowLoops 44 = .ok (.bipush (-14), 2) := by decide +kernel
theorem dX9_allowLoops_46 : decode cX9_allowLoops 46 = .ok (.ireturn, 1) := by decide +kernel
theorem dX9_allowLoops_47 : decode cX9_allowLoops 47 = .ok (.aload_n 0, 1) := by decide +kernel
theorem dX9_allowLoops_48 : decode cX9_allowLoops 48 = .ok (.getfield 10, 3) := by decide +kernel
theorem dX9_allowLoops_51 : decode cX9_allowLoops 51 = .ok (.invokevirtual 245, 3) := by decide +kernel
theorem dX9_allowLoops_54 : decode cX9_allowLoops 54 = .ok (.ifCond .eq 7, 3) := by decide +kernel
theorem dX9_allowLoops_57 : decode cX9_allowLoops 57 = .ok (.iconst 1, 1) := by decide +kernel
theorem dX9_allowLoops_58 : decode cX9_allowLoops 58 = .ok (.goto 4, 3) := by decide +kernel
theorem dX9_allowLoops_61 : decode cX9_allowLoops 61 = .ok (.iconst 0, 1) := by decide +kernel
theorem dX9_allowLoops_62 : decode cX9_allowLoops 62 = .ok (.istore_n 3, 1) := by decide +kernel
theorem dX9_allowLoops_63 : decode cX9_allowLoops 63 = .ok (.aload_n 0, 1) := by decide +kernel
theorem dX9_allowLoops_64 : decode cX9_allowLoops 64 = .ok (.getfield 10, 3) := by decide +kernel
theorem dX9_allowLoops_67 : decode cX9_allowLoops 67 = .ok (.iload_n 1, 1) := by decide +kernel
theorem dX9_allowLoops_68 : decode cX9_allowLoops 68 = .ok (.invokevirtual 311, 3) := by decide +kernel
theorem dX9_allowLoops_71 : decode cX9_allowLoops 71 = .ok (.iload_n 3, 1) := by decide +kernel
theorem dX9_allowLoops_72 : decode cX9_allowLoops 72 = .ok (.ireturn, 1) := by decide +kernel
set_option maxRecDepth 20000 in
theorem ggX9_letGoBy_X2_goOn : GoodIn wsX9_letGoBy wsX2_goOn := goodIn_r _ [6, 7, 8, 9, 10, 11, 12, 13, 5, 14, 15, 16, 17, 18, 19, 20, 21, 22, 23, 24, 25, 26, 27, 28, 29, 30, 31, 32, 33, 34, 35, 36, 37, 47, 48, 49, 50, 51, 52, 53, 54, 55, 56] (by decide +kernel) (by decide +kernel)
set_option maxRecDepth 20000 in
theorem gX9_letGoBy_X2_goOn : GoodIn wsX9_letGoBy (wsV RX9 314 RX2 yX2_goOn wsX2_goOn) := goodIn_app (goodIn_of _ (by decide +kernel)) ggX9_letGoBy_X2_goOn
theorem dX9_letGoBy_0 : decode cX9_letGoBy 0 = .ok (.iload_n 1, 1) := by decide +kernel
theorem dX9_letGoBy_1 : decode cX9_letGoBy 1 = .ok (.iconst 1, 1) := by decide +kernel
theorem dX9_letGoBy_2 : decode cX9_letGoBy 2 = .ok (.if_icmp .lt 9, 3) := by decide +kernel
theorem dX9_letGoBy_5 : decode cX9_letGoBy 5 = .ok (.iload_n 1, 1) := by decide +kernel
theorem dX9_letGoBy_6 : decode cX9_letGoBy 6 = .ok (.bipush 99, 2) := by decide +kernel
theorem dX9_letGoBy_8 : decode cX9_letGoBy 8 = .ok (.if_icmp .le 6, 3) := by decide +kernel
theorem dX9_letGoBy_11 : decode cX9_letGoBy 11 = .ok (.bipush (-12), 2) := by decide +kernel
theorem dX9_letGoBy_13 : decode cX9_letGoBy 13 = .ok (.ireturn, 1) := by decide +kernel
theorem dX9_letGoBy_14 : decode cX9_letGoBy 14 = .ok (.iconst 0, 1) := by decide +kernel
theorem dX9_letGoBy_15 : decode cX9_letGoBy 15 = .ok (.istore_n 2, 1) := by decide +kernel
theorem dX9_letGoBy_16 : decode cX9_letGoBy 16 = .ok (.iconst 0, 1) := by decide +kernel
theorem dX9_letGoBy_17 : decode cX9_letGoBy 17 = .ok (.istore_n 3, 1) := by decide +kernel
theorem dX9_letGoBy_18 : decode cX9_letGoBy 18 = .ok (.iload_n 3, 1) := by decide +kernel
theorem dX9_letGoBy_19 : decode cX9_letGoBy 19 = .ok (.iload_n 1, 1) := by decide +kernel
theorem dX9_letGoBy_20 : decode cX9_letGoBy 20 = .ok (.if_icmp .ge 19, 3) := by decide +kernel
theorem dX9_letGoBy_23 : decode cX9_letGoBy 23 = .ok (.iload_n 2, 1) := by decide +kernel
theorem dX9_letGoBy_24 : decode cX9_letGoBy 24 = .ok (.aload_n 0, 1) := by decide +kernel
theorem dX9_letGoBy_25 : decode cX9_letGoBy 25 = .ok (.getfield 10, 3) := by decide +kernel
theorem dX9_letGoBy_28 : decode cX9_letGoBy 28 = .ok (.invokevirtual 314, 3) := by decide +kernel
theorem dX9_letGoBy_31 : decode cX9_letGoBy 31 = .ok (.iadd, 1) := by decide +kernel
theorem dX9_letGoBy_32 : decode cX9_letGoBy 32 = .ok (.istore_n 2, 1) := by decide +kernel
theorem dX9_letGoBy_33 : decode cX9_letGoBy 33 = .ok (.iinc 3 1, 3) := by decide +kernel
theorem dX9_letGoBy_36 : decode cX9_letGoBy 36 = .ok (.goto (-18), 3) := by decide +kernel
theorem dX9_letGoBy_39 : decode cX9_letGoBy 39 = .ok (.iload_n 2, 1) := by decide +kernel
