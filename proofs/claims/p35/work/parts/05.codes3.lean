theorem dX9_depthAgain_19 : decode cX9_depthAgain 19 = .ok (.iload_n 1, 1) := by decide +kernel
theorem dX9_depthAgain_20 : decode cX9_depthAgain 20 = .ok (.invokevirtual 148, 3) := by decide +kernel
theorem dX9_depthAgain_23 : decode cX9_depthAgain 23 = .ok (.goto 5, 3) := by decide +kernel
theorem dX9_depthAgain_26 : decode cX9_depthAgain 26 = .ok (.bipush (-11), 2) := by decide +kernel
theorem dX9_depthAgain_28 : decode cX9_depthAgain 28 = .ok (.ireturn, 1) := by decide +kernel
set_option maxRecDepth 20000 in
theorem ggX9_settlesIn_X1_ticksToSettle : GoodIn wsX9_settlesIn wsX1_ticksToSettle := goodIn_r _ [7, 8, 9, 10, 11, 12, 13, 14, 15, 16, 17, 18, 19, 20, 21, 22, 23, 24, 25, 26, 27, 28, 29, 30, 31, 32, 33, 43, 44, 45, 46, 47, 48, 49, 50, 51, 52] (by decide +kernel) (by decide +kernel)
set_option maxRecDepth 20000 in
theorem gX9_settlesIn_X1_ticksToSettle : GoodIn wsX9_settlesIn (wsV RX9 151 RX1 yX1_ticksToSettle wsX1_ticksToSettle) := goodIn_app (goodIn_of _ (by decide +kernel)) ggX9_settlesIn_X1_ticksToSettle
theorem dX9_settlesIn_0 : decode cX9_settlesIn 0 = .ok (.aload_n 0, 1) := by decide +kernel
theorem dX9_settlesIn_1 : decode cX9_settlesIn 1 = .ok (.getfield 36, 3) := by decide +kernel
theorem dX9_settlesIn_4 : decode cX9_settlesIn 4 = .ok (.aload_n 0, 1) := by decide +kernel
theorem dX9_settlesIn_5 : decode cX9_settlesIn 5 = .ok (.getfield 10, 3) := by decide +kernel
theorem dX9_settlesIn_8 : decode cX9_settlesIn 8 = .ok (.invokevirtual 151, 3) := by decide +kernel
theorem dX9_settlesIn_11 : decode cX9_settlesIn 11 = .ok (.ireturn, 1) := by decide +kernel
set_option maxRecDepth 20000 in
theorem ggX9_period_X1_periodByKeeping : GoodIn wsX9_period wsX1_periodByKeeping := goodIn_r _ [7, 8, 9, 10, 11, 12, 13, 14, 15, 16, 17, 18, 19, 20, 21, 22, 23, 24, 25, 26, 27, 28, 29, 30, 31, 32, 33, 34, 44, 45, 46, 47, 48, 49, 50, 51, 52, 53, 54] (by decide +kernel) (by decide +kernel)
set_option maxRecDepth 20000 in
theorem gX9_period_X1_periodByKeeping : GoodIn wsX9_period (wsV RX9 154 RX1 yX1_periodByKeeping wsX1_periodByKeeping) := goodIn_app (goodIn_of _ (by decide +kernel)) ggX9_period_X1_periodByKeeping
theorem dX9_period_0 : decode cX9_period 0 = .ok (.aload_n 0, 1) := by decide +kernel
theorem dX9_period_1 : decode cX9_period 1 = .ok (.getfield 36, 3) := by decide +kernel
theorem dX9_period_4 : decode cX9_period 4 = .ok (.aload_n 0, 1) := by decide +kernel
theorem dX9_period_5 : decode cX9_period 5 = .ok (.getfield 10, 3) := by decide +kernel
theorem dX9_period_8 : decode cX9_period 8 = .ok (.invokevirtual 154, 3) := by decide +kernel
theorem dX9_period_11 : decode cX9_period 11 = .ok (.ireturn, 1) := by decide +kernel
set_option maxRecDepth 20000 in
theorem ggX9_periodAgain_X1_periodByGoingOn : GoodIn wsX9_periodAgain wsX1_periodByGoingOn := goodIn_r _ [7, 8, 9, 10, 11, 12, 13, 14, 15, 16, 17, 18, 19, 20, 21, 22, 23, 24, 25, 26, 27, 28, 29, 30, 31, 32, 33, 34, 35, 6, 36, 46, 47, 48, 49, 50, 51, 52, 53, 54, 55] (by decide +kernel) (by decide +kernel)
set_option maxRecDepth 20000 in
theorem gX9_periodAgain_X1_periodByGoingOn : GoodIn wsX9_periodAgain (wsV RX9 157 RX1 yX1_periodByGoingOn wsX1_periodByGoingOn) := goodIn_app (goodIn_of _ (by decide +kernel)) ggX9_periodAgain_X1_periodByGoingOn
theorem dX9_periodAgain_0 : decode cX9_periodAgain 0 = .ok (.aload_n 0, 1) := by decide +kernel
theorem dX9_periodAgain_1 : decode cX9_periodAgain 1 = .ok (.getfield 36, 3) := by decide +kernel
theorem dX9_periodAgain_4 : decode cX9_periodAgain 4 = .ok (.aload_n 0, 1) := by decide +kernel
theorem dX9_periodAgain_5 : decode cX9_periodAgain 5 = .ok (.getfield 10, 3) := by decide +kernel
theorem dX9_periodAgain_8 : decode cX9_periodAgain 8 = .ok (.invokevirtual 157, 3) := by decide +kernel
theorem dX9_periodAgain_11 : decode cX9_periodAgain 11 = .ok (.ireturn, 1) := by decide +kernel
set_option maxRecDepth 20000 in
theorem ggX9_flickers_X2_isHung : GoodIn wsX9_flickers wsX2_isHung := goodIn_r _ [7, 8, 52, 53, 54, 55, 56, 57, 58, 59, 60, 61] (by decide +kernel) (by decide +kernel)
set_option maxRecDepth 20000 in
theorem gX9_flickers_X2_isHung : GoodIn wsX9_flickers (wsV RX9 91 RX2 yX2_isHung wsX2_isHung) := goodIn_app (goodIn_of _ (by decide +kernel)) ggX9_flickers_X2_isHung
set_option maxRecDepth 20000 in
theorem ggX9_flickers_X2_isSwitch : GoodIn wsX9_flickers wsX2_isSwitch := goodIn_r _ [12, 13, 14, 4, 5, 6, 7, 8, 52, 53, 54, 55, 56, 57, 58, 59, 60, 61] (by decide +kernel) (by decide +kernel)
set_option maxRecDepth 20000 in
theorem gX9_flickers_X2_isSwitch : GoodIn wsX9_flickers (wsV RX9 160 RX2 yX2_isSwitch wsX2_isSwitch) := goodIn_app (goodIn_of _ (by decide +kernel)) ggX9_flickers_X2_isSwitch
set_option maxRecDepth 20000 in
theorem ggX9_flickers_X1_flickersOf : GoodIn wsX9_flickers wsX1_flickersOf := goodIn_r _ [19, 20, 21, 22, 6, 23, 24, 25, 26, 27, 28, 8, 13, 29, 30, 31, 32, 33, 34, 35, 36, 37, 38, 39, 40, 41, 42, 52, 53, 54, 55, 56, 57, 58, 59, 60, 61] (by decide +kernel) (by decide +kernel)
set_option maxRecDepth 20000 in
theorem gX9_flickers_X1_flickersOf : GoodIn wsX9_flickers (wsV RX9 163 RX1 yX1_flickersOf wsX1_flickersOf) := goodIn_app (goodIn_of _ (by decide +kernel)) ggX9_flickers_X1_flickersOf
theorem dX9_flickers_0 : decode cX9_flickers 0 = .ok (.aload_n 0, 1) := by decide +kernel
theorem dX9_flickers_1 : decode cX9_flickers 1 = .ok (.getfield 10, 3) := by decide +kernel
theorem dX9_flickers_4 : decode cX9_flickers 4 = .ok (.iload_n 1, 1) := by decide +kernel
theorem dX9_flickers_5 : decode cX9_flickers 5 = .ok (.invokevirtual 91, 3) := by decide +kernel
theorem dX9_flickers_8 : decode cX9_flickers 8 = .ok (.ifCond .eq 14, 3) := by decide +kernel
theorem dX9_flickers_11 : decode cX9_flickers 11 = .ok (.aload_n 0, 1) := by decide +kernel
theorem dX9_flickers_12 : decode cX9_flickers 12 = .ok (.getfield 10, 3) := by decide +kernel
theorem dX9_flickers_15 : decode cX9_flickers 15 = .ok (.iload_n 2, 1) := by decide +kernel
theorem dX9_flickers_16 : decode cX9_flickers 16 = .ok (.invokevirtual 91, 3) := by decide +kernel
theorem dX9_flickers_19 : decode cX9_flickers 19 = .ok (.ifCond .ne 6, 3) := by decide +kernel
theorem dX9_flickers_22 : decode cX9_flickers 22 = .ok (.bipush (-11), 2) := by decide +kernel
theorem dX9_flickers_24 : decode cX9_flickers 24 = .ok (.ireturn, 1) := by decide +kernel
theorem dX9_flickers_25 : decode cX9_flickers 25 = .ok (.aload_n 0, 1) := by decide +kernel
theorem dX9_flickers_26 : decode cX9_flickers 26 = .ok (.getfield 10, 3) := by decide +kernel
theorem dX9_flickers_29 : decode cX9_flickers 29 = .ok (.iload_n 1, 1) := by decide +kernel
theorem dX9_flickers_30 : decode cX9_flickers 30 = .ok (.invokevirtual 160, 3) := by decide +kernel
theorem dX9_flickers_33 : decode cX9_flickers 33 = .ok (.ifCond .ne 14, 3) := by decide +kernel
theorem dX9_flickers_36 : decode cX9_flickers 36 = .ok (.aload_n 0, 1) := by decide +kernel
theorem dX9_flickers_37 : decode cX9_flickers 37 = .ok (.getfield 10, 3) := by decide +kernel
theorem dX9_flickers_40 : decode cX9_flickers 40 = .ok (.iload_n 2, 1) := by decide +kernel
theorem dX9_flickers_41 : decode cX9_flickers 41 = .ok (.invokevirtual 160, 3) := by decide +kernel
theorem dX9_flickers_44 : decode cX9_flickers 44 = .ok (.ifCond .ne 6, 3) := by decide +kernel
theorem dX9_flickers_47 : decode cX9_flickers 47 = .ok (.bipush (-12), 2) := by decide +kernel
theorem dX9_flickers_49 : decode cX9_flickers 49 = .ok (.ireturn, 1) := by decide +kernel
theorem dX9_flickers_50 : decode cX9_flickers 50 = .ok (.aload_n 0, 1) := by decide +kernel
theorem dX9_flickers_51 : decode cX9_flickers 51 = .ok (.getfield 36, 3) := by decide +kernel
theorem dX9_flickers_54 : decode cX9_flickers 54 = .ok (.aload_n 0, 1) := by decide +kernel
theorem dX9_flickers_55 : decode cX9_flickers 55 = .ok (.getfield 10, 3) := by decide +kernel
theorem dX9_flickers_58 : decode cX9_flickers 58 = .ok (.iload_n 1, 1) := by decide +kernel
theorem dX9_flickers_59 : decode cX9_flickers 59 = .ok (.iload_n 2, 1) := by decide +kernel
theorem dX9_flickers_60 : decode cX9_flickers 60 = .ok (.invokevirtual 163, 3) := by decide +kernel
theorem dX9_flickers_63 : decode cX9_flickers 63 = .ok (.ireturn, 1) := by decide +kernel
set_option maxRecDepth 20000 in
theorem ggX9_switchesOf_X2_isHung : GoodIn wsX9_switchesOf wsX2_isHung := goodIn_r _ [6, 7, 45, 46, 47, 48, 49, 50, 51, 52, 53, 54] (by decide +kernel) (by decide +kernel)
set_option maxRecDepth 20000 in
theorem gX9_switchesOf_X2_isHung : GoodIn wsX9_switchesOf (wsV RX9 91 RX2 yX2_isHung wsX2_isHung) := goodIn_app (goodIn_of _ (by decide +kernel)) ggX9_switchesOf_X2_isHung
set_option maxRecDepth 20000 in
theorem ggX9_switchesOf_X5_switchesTo : GoodIn wsX9_switchesOf wsX5_switchesTo := goodIn_r _ [11, 12, 13, 14, 5, 15, 7, 16, 17, 18, 19, 20, 21, 3, 4, 6, 22, 23, 10, 24, 25, 26, 27, 28, 29, 30, 31, 32, 33, 34, 35, 45, 46, 47, 48, 49, 50, 51, 52, 53, 54] (by decide +kernel) (by decide +kernel)
set_option maxRecDepth 20000 in
theorem gX9_switchesOf_X5_switchesTo : GoodIn wsX9_switchesOf (va_wsS RX9 167 yX5_switchesTo wsX5_switchesTo) := goodIn_app (goodIn_of _ (by decide +kernel)) ggX9_switchesOf_X5_switchesTo
theorem dX9_switchesOf_0 : decode cX9_switchesOf 0 = .ok (.aload_n 0, 1) := by decide +kernel
theorem dX9_switchesOf_1 : decode cX9_switchesOf 1 = .ok (.getfield 10, 3) := by decide +kernel
theorem dX9_switchesOf_4 : decode cX9_switchesOf 4 = .ok (.iload_n 1, 1) := by decide +kernel
theorem dX9_switchesOf_5 : decode cX9_switchesOf 5 = .ok (.invokevirtual 91, 3) := by decide +kernel
theorem dX9_switchesOf_8 : decode cX9_switchesOf 8 = .ok (.ifCond .eq 14, 3) := by decide +kernel
theorem dX9_switchesOf_11 : decode cX9_switchesOf 11 = .ok (.aload_n 0, 1) := by decide +kernel
theorem dX9_switchesOf_12 : decode cX9_switchesOf 12 = .ok (.getfield 10, 3) := by decide +kernel
theorem dX9_switchesOf_15 : decode cX9_switchesOf 15 = .ok (.iload_n 1, 1) := by decide +kernel
theorem dX9_switchesOf_16 : decode cX9_switchesOf 16 = .ok (.invokestatic 167, 3) := by decide +kernel
theorem dX9_switchesOf_19 : decode cX9_switchesOf 19 = .ok (.goto 5, 3) := by decide +kernel
theorem dX9_switchesOf_22 : decode cX9_switchesOf 22 = .ok (.bipush (-11), 2) := by decide +kernel
theorem dX9_switchesOf_24 : decode cX9_switchesOf 24 = .ok (.ireturn, 1) := by decide +kernel
set_option maxRecDepth 20000 in
theorem ggX9_table_X2_isHung : GoodIn wsX9_table wsX2_isHung := goodIn_r _ [6, 7, 112, 113, 114, 115, 116, 117, 118, 119, 120, 121] (by decide +kernel) (by decide +kernel)
set_option maxRecDepth 20000 in
theorem gX9_table_X2_isHung : GoodIn wsX9_table (wsV RX9 91 RX2 yX2_isHung wsX2_isHung) := goodIn_app (goodIn_of _ (by decide +kernel)) ggX9_table_X2_isHung
set_option maxRecDepth 20000 in
theorem ggX9_table_X9_hasTable : GoodIn wsX9_table wsX9_hasTable := goodIn_r _ [12, 1, 13, 14, 15, 16, 5, 17, 18, 19, 3, 4, 6, 7, 20, 21, 22, 23, 24, 25, 26, 27, 28, 29, 30, 31, 32, 33, 34, 35, 36, 37, 38, 39, 40, 41, 42, 43, 44, 45, 46, 47, 48, 49, 50, 51, 52, 53, 54, 55, 56, 57, 58, 59, 60, 61, 62, 63, 64, 65, 66, 67, 68, 69, 70, 71, 11, 72, 73, 74, 75, 76, 77, 78, 79, 103, 104, 105, 106, 107, 108, 109, 110, 111, 112, 113, 114, 115, 116, 117, 118, 119, 120, 121, 122] (by decide +kernel) (by decide +kernel)
set_option maxRecDepth 20000 in
theorem gX9_table_X9_hasTable : GoodIn wsX9_table (wsV RX9 170 RX9 yX9_hasTable wsX9_hasTable) := goodIn_app (goodIn_of _ (by decide +kernel)) ggX9_table_X9_hasTable
set_option maxRecDepth 20000 in
theorem ggX9_table_X7_byFinding : GoodIn wsX9_table wsX7_byFinding := goodIn_r _ [83, 84, 53, 54, 55, 56, 57, 58, 5, 59, 7, 60, 15, 16, 17, 18, 19, 3, 4, 6, 61, 62, 63, 64, 65, 66, 67, 68, 69, 70, 42, 71, 11, 72, 85, 74, 75, 76, 77, 78, 79, 86, 87, 82, 88, 89, 90, 91, 92, 93, 94, 95, 96, 97, 98, 99, 100, 101, 102, 112, 113, 114, 115, 116, 117, 118, 119, 120, 121] (by decide +kernel) (by decide +kernel)
set_option maxRecDepth 20000 in
theorem gX9_table_X7_byFinding : GoodIn wsX9_table (va_wsS RX9 173 yX7_byFinding wsX7_byFinding) := goodIn_app (goodIn_of _ (by decide +kernel)) ggX9_table_X7_byFinding
theorem dX9_table_0 : decode cX9_table 0 = .ok (.aload_n 0, 1) := by decide +kernel
theorem dX9_table_1 : decode cX9_table 1 = .ok (.getfield 10, 3) := by decide +kernel
theorem dX9_table_4 : decode cX9_table 4 = .ok (.iload_n 1, 1) := by decide +kernel
theorem dX9_table_5 : decode cX9_table 5 = .ok (.invokevirtual 91, 3) := by decide +kernel
theorem dX9_table_8 : decode cX9_table 8 = .ok (.ifCond .ne 6, 3) := by decide +kernel
theorem dX9_table_11 : decode cX9_table 11 = .ok (.bipush (-11), 2) := by decide +kernel
theorem dX9_table_13 : decode cX9_table 13 = .ok (.ireturn, 1) := by decide +kernel
theorem dX9_table_14 : decode cX9_table 14 = .ok (.aload_n 0, 1) := by decide +kernel
theorem dX9_table_15 : decode cX9_table 15 = .ok (.iload_n 1, 1) := by decide +kernel
theorem dX9_table_16 : decode cX9_table 16 = .ok (.invokevirtual 170, 3) := by decide +kernel
theorem dX9_table_19 : decode cX9_table 19 = .ok (.ifCond .eq 14, 3) := by decide +kernel
theorem dX9_table_22 : decode cX9_table 22 = .ok (.aload_n 0, 1) := by decide +kernel
theorem dX9_table_23 : decode cX9_table 23 = .ok (.getfield 10, 3) := by decide +kernel
theorem dX9_table_26 : decode cX9_table 26 = .ok (.iload_n 1, 1) := by decide +kernel
theorem dX9_table_27 : decode cX9_table 27 = .ok (.invokestatic 173, 3) := by decide +kernel
theorem dX9_table_30 : decode cX9_table 30 = .ok (.goto 5, 3) := by decide +kernel
theorem dX9_table_33 : decode cX9_table 33 = .ok (.bipush (-15), 2) := by decide +kernel
theorem dX9_table_35 : decode cX9_table 35 = .ok (.ireturn, 1) := by decide +kernel
set_option maxRecDepth 20000 in
theorem ggX9_tableAgain_X2_isHung : GoodIn wsX9_tableAgain wsX2_isHung := goodIn_r _ [7, 8, 120, 121, 122, 123, 124, 125, 126, 127, 128, 129] (by decide +kernel) (by decide +kernel)
set_option maxRecDepth 20000 in
theorem gX9_tableAgain_X2_isHung : GoodIn wsX9_tableAgain (wsV RX9 91 RX2 yX2_isHung wsX2_isHung) := goodIn_app (goodIn_of _ (by decide +kernel)) ggX9_tableAgain_X2_isHung
set_option maxRecDepth 20000 in
theorem ggX9_tableAgain_X9_hasTable : GoodIn wsX9_tableAgain wsX9_hasTable := goodIn_r _ [13, 1, 2, 14, 15, 16, 6, 17, 18, 19, 4, 5, 7, 8, 20, 21, 22, 23, 24, 25, 26, 27, 28, 29, 30, 31, 32, 33, 34, 35, 36, 37, 38, 39, 40, 41, 42, 43, 44, 45, 46, 47, 48, 49, 50, 51, 52, 53, 54, 55, 56, 57, 58, 59, 60, 61, 62, 63, 64, 65, 66, 67, 68, 69, 70, 71, 12, 72, 73, 74, 75, 76, 77, 78, 79, 111, 112, 113, 114, 115, 116, 117, 118, 119, 120, 121, 122, 123, 124, 125, 126, 127, 128, 129, 130] (by decide +kernel) (by decide +kernel)
set_option maxRecDepth 20000 in
theorem gX9_tableAgain_X9_hasTable : GoodIn wsX9_tableAgain (wsV RX9 170 RX9 yX9_hasTable wsX9_hasTable) := goodIn_app (goodIn_of _ (by decide +kernel)) ggX9_tableAgain_X9_hasTable
set_option maxRecDepth 20000 in
theorem ggX9_tableAgain_X0_byWires : GoodIn wsX9_tableAgain wsX0_byWires := goodIn_r _ [24, 25, 26, 27, 28, 29, 30, 31, 23, 32, 33, 34, 35, 36, 37, 4, 5, 6, 7, 8, 38, 39, 40, 41, 42, 43, 44, 45, 46, 15, 16, 17, 18, 19, 47, 48, 49, 50, 51, 130, 120, 121, 122, 123, 124, 125, 126, 127, 128, 129] (by decide +kernel) (by decide +kernel)
set_option maxRecDepth 20000 in
theorem gX9_tableAgain_X0_byWires : GoodIn wsX9_tableAgain (wsV RX9 145 RX0 yX0_byWires wsX0_byWires) := goodIn_app (goodIn_of _ (by decide +kernel)) ggX9_tableAgain_X0_byWires
set_option maxRecDepth 20000 in
theorem ggX9_tableAgain_X7_byTicks : GoodIn wsX9_tableAgain wsX7_byTicks := goodIn_r _ [83, 84, 85, 53, 54, 55, 56, 57, 58, 6, 59, 8, 60, 15, 16, 17, 18, 19, 4, 5, 7, 61, 62, 63, 64, 65, 66, 67, 68, 69, 70, 42, 71, 12, 72, 86, 74, 75, 76, 77, 78, 79, 87, 88, 89, 90, 91, 92, 93, 82, 94, 95, 96, 97, 98, 51, 99, 100, 101, 102, 103, 104, 105, 106, 107, 108, 109, 110, 120, 121, 122, 123, 124, 125, 126, 127, 128, 129] (by decide +kernel) (by decide +kernel)
set_option maxRecDepth 20000 in
theorem gX9_tableAgain_X7_byTicks : GoodIn wsX9_tableAgain (va_wsS RX9 178 yX7_byTicks wsX7_byTicks) := goodIn_app (goodIn_of _ (by decide +kernel)) ggX9_tableAgain_X7_byTicks
theorem dX9_tableAgain_0 : decode cX9_tableAgain 0 = .ok (.aload_n 0, 1) := by decide +kernel
theorem dX9_tableAgain_1 : decode cX9_tableAgain 1 = .ok (.getfield 10, 3) := by decide +kernel
theorem dX9_tableAgain_4 : decode cX9_tableAgain 4 = .ok (.iload_n 1, 1) := by decide +kernel
theorem dX9_tableAgain_5 : decode cX9_tableAgain 5 = .ok (.invokevirtual 91, 3) := by decide +kernel
theorem dX9_tableAgain_8 : decode cX9_tableAgain 8 = .ok (.ifCond .ne 6, 3) := by decide +kernel
theorem dX9_tableAgain_11 : decode cX9_tableAgain 11 = .ok (.bipush (-11), 2) := by decide +kernel
theorem dX9_tableAgain_13 : decode cX9_tableAgain 13 = .ok (.ireturn, 1) := by decide +kernel
theorem dX9_tableAgain_14 : decode cX9_tableAgain 14 = .ok (.aload_n 0, 1) := by decide +kernel
theorem dX9_tableAgain_15 : decode cX9_tableAgain 15 = .ok (.iload_n 1, 1) := by decide +kernel
theorem dX9_tableAgain_16 : decode cX9_tableAgain 16 = .ok (.invokevirtual 170, 3) := by decide +kernel
theorem dX9_tableAgain_19 : decode cX9_tableAgain 19 = .ok (.ifCond .eq 26, 3) := by decide +kernel
theorem dX9_tableAgain_22 : decode cX9_tableAgain 22 = .ok (.aload_n 0, 1) := by decide +kernel
theorem dX9_tableAgain_23 : decode cX9_tableAgain 23 = .ok (.getfield 10, 3) := by decide +kernel
theorem dX9_tableAgain_26 : decode cX9_tableAgain 26 = .ok (.iload_n 1, 1) := by decide +kernel
theorem dX9_tableAgain_27 : decode cX9_tableAgain 27 = .ok (.aload_n 0, 1) := by decide +kernel
theorem dX9_tableAgain_28 : decode cX9_tableAgain 28 = .ok (.getfield 29, 3) := by decide +kernel
theorem dX9_tableAgain_31 : decode cX9_tableAgain 31 = .ok (.aload_n 0, 1) := by decide +kernel
theorem dX9_tableAgain_32 : decode cX9_tableAgain 32 = .ok (.getfield 10, 3) := by decide +kernel
theorem dX9_tableAgain_35 : decode cX9_tableAgain 35 = .ok (.iload_n 1, 1) := by decide +kernel
theorem dX9_tableAgain_36 : decode cX9_tableAgain 36 = .ok (.invokevirtual 145, 3) := by decide +kernel
theorem dX9_tableAgain_39 : decode cX9_tableAgain 39 = .ok (.invokestatic 178, 3) := by decide +kernel
theorem dX9_tableAgain_42 : decode cX9_tableAgain 42 = .ok (.goto 5, 3) := by decide +kernel
theorem dX9_tableAgain_45 : decode cX9_tableAgain 45 = .ok (.bipush (-15), 2) := by decide +kernel
theorem dX9_tableAgain_47 : decode cX9_tableAgain 47 = .ok (.ireturn, 1) := by decide +kernel
set_option maxRecDepth 20000 in
theorem ggX9_append_X8_add : GoodIn wsX9_append wsX8_add := goodIn_r _ [6, 7, 8, 18, 19, 20, 21, 22, 23, 24, 25] (by decide +kernel) (by decide +kernel)
set_option maxRecDepth 20000 in
theorem gX9_append_X8_add : GoodIn wsX9_append (wsV RX9 181 RX8 yX8_add wsX8_add) := goodIn_app (goodIn_of _ (by decide +kernel)) ggX9_append_X8_add
theorem dX9_append_0 : decode cX9_append 0 = .ok (.aload_n 0, 1) := by decide +kernel
theorem dX9_append_1 : decode cX9_append 1 = .ok (.getfield 43, 3) := by decide +kernel
theorem dX9_append_4 : decode cX9_append 4 = .ok (.iload_n 1, 1) := by decide +kernel
theorem dX9_append_5 : decode cX9_append 5 = .ok (.invokevirtual 181, 3) := by decide +kernel
theorem dX9_append_8 : decode cX9_append 8 = .ok (.ireturn, 1) := by decide +kernel
set_option maxRecDepth 20000 in
theorem ggX9_run_X8_isRight : GoodIn wsX9_run wsX8_isRight := goodIn_r _ [6, 7, 8, 9, 10, 11, 5, 12, 13, 14, 15, 16, 17, 18, 19, 20, 21, 22, 23, 24, 25, 26, 27, 28, 29, 30, 31, 32, 33, 34, 35, 36, 37, 38, 39, 40, 41, 42, 43, 44, 45, 46, 47, 48, 49, 50, 51, 52, 53, 54, 55, 56, 57, 58, 59, 60, 61, 62, 63, 64, 65, 66, 67, 68, 69, 70, 71, 72, 73, 74, 75, 76, 77, 78, 79, 80, 81, 82, 83, 84, 85, 86, 87, 88, 89, 90, 91, 92, 93, 94, 95, 96, 97, 98, 99, 100, 101, 102, 103, 104, 105, 106, 107, 348, 349, 350, 351, 352, 353, 354, 355, 356, 357, 358, 359] (by decide +kernel) (by decide +kernel)
set_option maxRecDepth 20000 in
theorem gX9_run_X8_isRight : GoodIn wsX9_run (wsV RX9 184 RX8 yX8_isRight wsX8_isRight) := goodIn_app (goodIn_of _ (by decide +kernel)) ggX9_run_X8_isRight
set_option maxRecDepth 20000 in
theorem ggX9_run_X9_carryOutAll : GoodIn wsX9_run wsX9_carryOutAll := goodIn_r _ [112, 113, 114, 1, 115, 116, 117, 118, 119, 120, 121, 122, 123, 124, 125, 126, 127, 128, 129, 130, 131, 132, 133, 134, 135, 136, 137, 138, 139, 140, 141, 142, 143, 144, 145, 10, 11, 5, 12, 7, 146, 147, 148, 149, 18, 19, 20, 21, 8, 22, 13, 14, 15, 16, 17, 23, 24, 25, 26, 27, 28, 29, 30, 31, 32, 33, 34, 35, 36, 37, 38, 39, 40, 41, 42, 43, 44, 45, 46, 47, 48, 49, 50, 51, 52, 53, 54, 55, 56, 57, 58, 59, 60, 61, 62, 63, 64, 65, 66, 67, 68, 69, 70, 71, 72, 73, 74, 75, 76, 77, 78, 79, 80, 81, 82, 83, 84, 85, 86, 87, 88, 89, 90, 91, 92, 93, 94, 95, 96, 97, 98, 99, 100, 101, 102, 103, 104, 105, 106, 107, 150, 151, 152, 111, 153, 154, 155, 156, 157, 158, 159, 160, 161, 162, 163, 164, 165, 166, 167, 168, 169, 170, 171, 172, 173, 174, 175, 176, 177, 178, 179, 180, 181, 182, 183, 184, 185, 186, 187, 188, 189, 190, 191, 192, 193, 194, 195, 196, 197, 198, 199, 200, 201, 202, 203, 204, 205, 206, 207, 208, 209, 210, 211, 212, 213, 214, 215, 216, 217, 218, 219, 220, 221, 222, 223, 224, 225, 226, 227, 228, 229, 230, 231, 232, 233, 234, 235, 236, 237, 238, 239, 240, 241, 242, 243, 244, 245, 246, 247, 248, 249, 250, 251, 252, 253, 254, 255, 256, 257, 258, 259, 260, 261, 262, 263, 264, 265, 266, 267, 268, 269, 270, 271, 272, 273, 274, 275, 276, 277, 278, 279, 280, 281, 282, 283, 284, 285, 286, 287, 288, 289, 290, 291, 292, 293, 294, 295, 296, 297, 298, 299, 300, 301, 302, 303, 304, 305, 306, 307, 308, 309, 310, 311, 312, 313, 314, 315, 316, 317, 318, 319, 320, 321, 322, 323, 324, 325, 326, 327, 328, 329, 330, 339, 340, 341, 342, 343, 344, 345, 346, 347, 360, 361, 362, 363, 364, 365, 366, 367, 368, 369, 370, 371, 372, 348, 349, 350, 351, 352, 353, 354, 355, 356, 357, 358, 359, 373, 374, 375] (by decide +kernel) (by decide +kernel)
set_option maxRecDepth 20000 in
theorem gX9_run_X9_carryOutAll : GoodIn wsX9_run (wsV RX9 188 RX9 yX9_carryOutAll wsX9_carryOutAll) := goodIn_app (goodIn_of _ (by decide +kernel)) ggX9_run_X9_carryOutAll
set_option maxRecDepth 20000 in
theorem ggX9_run_X8_position : GoodIn wsX9_run wsX8_position := goodIn_r _ [334, 7, 348, 349, 350, 351, 352, 353, 354, 355] (by decide +kernel) (by decide +kernel)
set_option maxRecDepth 20000 in
theorem gX9_run_X8_position : GoodIn wsX9_run (wsV RX9 191 RX8 yX8_position wsX8_position) := goodIn_app (goodIn_of _ (by decide +kernel)) ggX9_run_X8_position
set_option maxRecDepth 20000 in
theorem ggX9_run_X8_empty : GoodIn wsX9_run wsX8_empty := goodIn_r _ [338, 8, 348, 349, 350, 351, 352, 353, 354, 355] (by decide +kernel) (by decide +kernel)
set_option maxRecDepth 20000 in
theorem gX9_run_X8_empty : GoodIn wsX9_run (wsV RX9 194 RX8 yX8_empty wsX8_empty) := goodIn_app (goodIn_of _ (by decide +kernel)) ggX9_run_X8_empty
theorem dX9_run_0 : decode cX9_run 0 = .ok (.aload_n 0, 1) := by decide +kernel
theorem dX9_run_1 : decode cX9_run 1 = .ok (.getfield 43, 3) := by decide +kernel
theorem dX9_run_4 : decode cX9_run 4 = .ok (.invokevirtual 184, 3) := by decide +kernel
theorem dX9_run_7 : decode cX9_run 7 = .ok (.ifCond .eq 10, 3) := by decide +kernel
theorem dX9_run_10 : decode cX9_run 10 = .ok (.aload_n 0, 1) := by decide +kernel
theorem dX9_run_11 : decode cX9_run 11 = .ok (.invokevirtual 188, 3) := by decide +kernel
theorem dX9_run_14 : decode cX9_run 14 = .ok (.goto 14, 3) := by decide +kernel
theorem dX9_run_17 : decode cX9_run 17 = .ok (.sipush (-1000), 3) := by decide +kernel
theorem dX9_run_20 : decode cX9_run 20 = .ok (.aload_n 0, 1) := by decide +kernel
theorem dX9_run_21 : decode cX9_run 21 = .ok (.getfield 43, 3) := by decide +kernel
theorem dX9_run_24 : decode cX9_run 24 = .ok (.invokevirtual 191, 3) := by decide +kernel
theorem dX9_run_27 : decode cX9_run 27 = .ok (.isub, 1) := by decide +kernel
theorem dX9_run_28 : decode cX9_run 28 = .ok (.istore_n 1, 1) := by decide +kernel
theorem dX9_run_29 : decode cX9_run 29 = .ok (.aload_n 0, 1) := by decide +kernel
theorem dX9_run_30 : decode cX9_run 30 = .ok (.getfield 43, 3) := by decide +kernel
theorem dX9_run_33 : decode cX9_run 33 = .ok (.invokevirtual 194, 3) := by decide +kernel
theorem dX9_run_36 : decode cX9_run 36 = .ok (.iload_n 1, 1) := by decide +kernel
theorem dX9_run_37 : decode cX9_run 37 = .ok (.ireturn, 1) := by decide +kernel
set_option maxRecDepth 20000 in
theorem ggX9_tell_X3_empty : GoodIn wsX9_tell wsX3_empty := goodIn_r _ [7, 8, 49, 50] (by decide +kernel) (by decide +kernel)
set_option maxRecDepth 20000 in
theorem gX9_tell_X3_empty : GoodIn wsX9_tell (wsV RX9 197 RX3 yX3_empty wsX3_empty) := goodIn_app (goodIn_of _ (by decide +kernel)) ggX9_tell_X3_empty
set_option maxRecDepth 20000 in
theorem ggX9_tell_X2_count : GoodIn wsX9_tell wsX2_count := goodIn_r _ [13, 14, 51, 52, 53, 54, 55, 56, 57, 58, 59, 60] (by decide +kernel) (by decide +kernel)
set_option maxRecDepth 20000 in
theorem gX9_tell_X2_count : GoodIn wsX9_tell (wsV RX9 198 RX2 yX2_count wsX2_count) := goodIn_app (goodIn_of _ (by decide +kernel)) ggX9_tell_X2_count
set_option maxRecDepth 20000 in
theorem ggX9_tell_X2_isGlowing : GoodIn wsX9_tell wsX2_isGlowing := goodIn_r _ [18, 19, 20, 21, 12, 22, 23, 24, 25, 26, 27, 28, 29, 30, 51, 52, 53, 54, 55, 56, 57, 58, 59, 60] (by decide +kernel) (by decide +kernel)
set_option maxRecDepth 20000 in
theorem gX9_tell_X2_isGlowing : GoodIn wsX9_tell (wsV RX9 101 RX2 yX2_isGlowing wsX2_isGlowing) := goodIn_app (goodIn_of _ (by decide +kernel)) ggX9_tell_X2_isGlowing
set_option maxRecDepth 20000 in
theorem ggX9_tell_X3_add : GoodIn wsX9_tell wsX3_add := goodIn_r _ [34, 8, 35, 49, 50] (by decide +kernel) (by decide +kernel)
set_option maxRecDepth 20000 in
theorem gX9_tell_X3_add : GoodIn wsX9_tell (wsV RX9 201 RX3 yX3_add wsX3_add) := goodIn_app (goodIn_of _ (by decide +kernel)) ggX9_tell_X3_add
set_option maxRecDepth 20000 in
theorem ggX9_tell_X3_length : GoodIn wsX9_tell wsX3_length := goodIn_r _ [39, 8, 49, 50] (by decide +kernel) (by decide +kernel)
set_option maxRecDepth 20000 in
theorem gX9_tell_X3_length : GoodIn wsX9_tell (wsV RX9 204 RX3 yX3_length wsX3_length) := goodIn_app (goodIn_of _ (by decide +kernel)) ggX9_tell_X3_length
theorem dX9_tell_0 : decode cX9_tell 0 = .ok (.aload_n 0, 1) := by decide +kernel
theorem dX9_tell_1 : decode cX9_tell 1 = .ok (.getfield 50, 3) := by decide +kernel
theorem dX9_tell_4 : decode cX9_tell 4 = .ok (.invokevirtual 197, 3) := by decide +kernel
theorem dX9_tell_7 : decode cX9_tell 7 = .ok (.iconst 0, 1) := by decide +kernel
theorem dX9_tell_8 : decode cX9_tell 8 = .ok (.istore_n 1, 1) := by decide +kernel
theorem dX9_tell_9 : decode cX9_tell 9 = .ok (.iload_n 1, 1) := by decide +kernel
theorem dX9_tell_10 : decode cX9_tell 10 = .ok (.aload_n 0, 1) := by decide +kernel
theorem dX9_tell_11 : decode cX9_tell 11 = .ok (.getfield 10, 3) := by decide +kernel
theorem dX9_tell_14 : decode cX9_tell 14 = .ok (.invokevirtual 198, 3) := by decide +kernel
theorem dX9_tell_17 : decode cX9_tell 17 = .ok (.if_icmp .ge 34, 3) := by decide +kernel
theorem dX9_tell_20 : decode cX9_tell 20 = .ok (.aload_n 0, 1) := by decide +kernel
theorem dX9_tell_21 : decode cX9_tell 21 = .ok (.getfield 50, 3) := by decide +kernel
theorem dX9_tell_24 : decode cX9_tell 24 = .ok (.aload_n 0, 1) := by decide +kernel
theorem dX9_tell_25 : decode cX9_tell 25 = .ok (.getfield 10, 3) := by decide +kernel
theorem dX9_tell_28 : decode cX9_tell 28 = .ok (.iload_n 1, 1) := by decide +kernel
theorem dX9_tell_29 : decode cX9_tell 29 = .ok (.invokevirtual 101, 3) := by decide +kernel
theorem dX9_tell_32 : decode cX9_tell 32 = .ok (.ifCond .eq 8, 3) := by decide +kernel
theorem dX9_tell_35 : decode cX9_tell 35 = .ok (.bipush 35, 2) := by decide +kernel
theorem dX9_tell_37 : decode cX9_tell 37 = .ok (.goto 5, 3) := by decide +kernel
theorem dX9_tell_40 : decode cX9_tell 40 = .ok (.bipush 46, 2) := by decide +kernel
theorem dX9_tell_42 : decode cX9_tell 42 = .ok (.invokevirtual 201, 3) := by decide +kernel
theorem dX9_tell_45 : decode cX9_tell 45 = .ok (.iinc 1 1, 3) := by decide +kernel
theorem dX9_tell_48 : decode cX9_tell 48 = .ok (.goto (-39), 3) := by decide +kernel
theorem dX9_tell_51 : decode cX9_tell 51 = .ok (.aload_n 0, 1) := by decide +kernel
theorem dX9_tell_52 : decode cX9_tell 52 = .ok (.getfield 50, 3) := by decide +kernel
theorem dX9_tell_55 : decode cX9_tell 55 = .ok (.invokevirtual 204, 3) := by decide +kernel
theorem dX9_tell_58 : decode cX9_tell 58 = .ok (.ireturn, 1) := by decide +kernel
set_option maxRecDepth 20000 in
theorem ggX9_tellLantern_X2_isHung : GoodIn wsX9_tellLantern wsX2_isHung := goodIn_r _ [7, 8, 137, 138, 139, 140, 141, 142, 143, 144, 145, 146] (by decide +kernel) (by decide +kernel)
set_option maxRecDepth 20000 in
theorem gX9_tellLantern_X2_isHung : GoodIn wsX9_tellLantern (wsV RX9 91 RX2 yX2_isHung wsX2_isHung) := goodIn_app (goodIn_of _ (by decide +kernel)) ggX9_tellLantern_X2_isHung
set_option maxRecDepth 20000 in
theorem ggX9_tellLantern_X3_empty : GoodIn wsX9_tellLantern wsX3_empty := goodIn_r _ [13, 14, 147, 148] (by decide +kernel) (by decide +kernel)
set_option maxRecDepth 20000 in
theorem gX9_tellLantern_X3_empty : GoodIn wsX9_tellLantern (wsV RX9 197 RX3 yX3_empty wsX3_empty) := goodIn_app (goodIn_of _ (by decide +kernel)) ggX9_tellLantern_X3_empty
set_option maxRecDepth 20000 in
theorem ggX9_tellLantern_X3_addNumber : GoodIn wsX9_tellLantern wsX3_addNumber := goodIn_r _ [18, 19, 20, 21, 12, 22, 14, 23, 147, 148] (by decide +kernel) (by decide +kernel)
set_option maxRecDepth 20000 in
theorem gX9_tellLantern_X3_addNumber : GoodIn wsX9_tellLantern (wsV RX9 207 RX3 yX3_addNumber wsX3_addNumber) := goodIn_app (goodIn_of _ (by decide +kernel)) ggX9_tellLantern_X3_addNumber
set_option maxRecDepth 20000 in
theorem ggX9_tellLantern_X3_add : GoodIn wsX9_tellLantern wsX3_add := goodIn_r _ [22, 14, 23, 147, 148] (by decide +kernel) (by decide +kernel)
set_option maxRecDepth 20000 in
theorem gX9_tellLantern_X3_add : GoodIn wsX9_tellLantern (wsV RX9 201 RX3 yX3_add wsX3_add) := goodIn_app (goodIn_of _ (by decide +kernel)) ggX9_tellLantern_X3_add
set_option maxRecDepth 20000 in
theorem ggX9_tellLantern_X2_kindOf : GoodIn wsX9_tellLantern wsX2_kindOf := goodIn_r _ [28, 29, 30, 4, 5, 6, 7, 8, 137, 138, 139, 140, 141, 142, 143, 144, 145, 146] (by decide +kernel) (by decide +kernel)
set_option maxRecDepth 20000 in
theorem gX9_tellLantern_X2_kindOf : GoodIn wsX9_tellLantern (wsV RX9 95 RX2 yX2_kindOf wsX2_kindOf) := goodIn_app (goodIn_of _ (by decide +kernel)) ggX9_tellLantern_X2_kindOf
set_option maxRecDepth 20000 in
theorem ggX9_tellLantern_X9_wordOf : GoodIn wsX9_tellLantern wsX9_wordOf := goodIn_r _ [34] (by decide +kernel) (by decide +kernel)
set_option maxRecDepth 20000 in
theorem gX9_tellLantern_X9_wordOf : GoodIn wsX9_tellLantern (va_wsS RX9 211 yX9_wordOf wsX9_wordOf) := goodIn_app (goodIn_of _ (by decide +kernel)) ggX9_tellLantern_X9_wordOf
set_option maxRecDepth 20000 in
theorem ggX9_tellLantern_X3_addWord : GoodIn wsX9_tellLantern wsX3_addWord := goodIn_r _ [38, 39, 40, 41, 42, 43, 44, 45, 46, 47, 48, 49, 50, 51, 52, 53, 54, 55, 56, 57, 58, 59, 60, 61, 62, 63, 64, 65, 66, 67, 68, 69, 70, 71, 72, 73, 74, 75, 76, 77, 78, 79, 80, 81, 82, 83, 84, 85, 86, 87, 19, 20, 21, 12, 22, 14, 23, 149, 150, 151, 152, 147, 148] (by decide +kernel) (by decide +kernel)
set_option maxRecDepth 20000 in
theorem gX9_tellLantern_X3_addWord : GoodIn wsX9_tellLantern (wsV RX9 215 RX3 yX3_addWord wsX3_addWord) := goodIn_app (goodIn_of _ (by decide +kernel)) ggX9_tellLantern_X3_addWord
set_option maxRecDepth 20000 in
theorem ggX9_tellLantern_X2_wickOf : GoodIn wsX9_tellLantern wsX2_wickOf := goodIn_r _ [91, 92, 30, 4, 5, 6, 7, 8, 137, 138, 139, 140, 141, 142, 143, 144, 145, 146] (by decide +kernel) (by decide +kernel)
set_option maxRecDepth 20000 in
theorem gX9_tellLantern_X2_wickOf : GoodIn wsX9_tellLantern (wsV RX9 98 RX2 yX2_wickOf wsX2_wickOf) := goodIn_app (goodIn_of _ (by decide +kernel)) ggX9_tellLantern_X2_wickOf
set_option maxRecDepth 20000 in
theorem ggX9_tellLantern_X2_isSwitch : GoodIn wsX9_tellLantern wsX2_isSwitch := goodIn_r _ [96, 29, 30, 4, 5, 6, 7, 8, 137, 138, 139, 140, 141, 142, 143, 144, 145, 146] (by decide +kernel) (by decide +kernel)
set_option maxRecDepth 20000 in
theorem gX9_tellLantern_X2_isSwitch : GoodIn wsX9_tellLantern (wsV RX9 160 RX2 yX2_isSwitch wsX2_isSwitch) := goodIn_app (goodIn_of _ (by decide +kernel)) ggX9_tellLantern_X2_isSwitch
set_option maxRecDepth 20000 in
theorem ggX9_tellLantern_X9_addWires : GoodIn wsX9_tellLantern wsX9_addWires := goodIn_r _ [100, 1, 2, 25, 26, 27, 6, 28, 29, 30, 4, 5, 7, 8, 101, 102, 33, 103, 24, 20, 21, 12, 22, 14, 23, 104, 105, 106, 107, 108, 15, 16, 17, 18, 19, 128, 129, 130, 131, 132, 133, 134, 135, 136, 137, 138, 139, 140, 141, 142, 143, 144, 145, 146, 147, 148] (by decide +kernel) (by decide +kernel)
set_option maxRecDepth 20000 in
theorem gX9_tellLantern_X9_addWires : GoodIn wsX9_tellLantern (wsV RX9 219 RX9 yX9_addWires wsX9_addWires) := goodIn_app (goodIn_of _ (by decide +kernel)) ggX9_tellLantern_X9_addWires
set_option maxRecDepth 20000 in
theorem ggX9_tellLantern_X2_isGlowing : GoodIn wsX9_tellLantern wsX2_isGlowing := goodIn_r _ [112, 113, 114, 115, 6, 116, 117, 118, 119, 120, 121, 122, 33, 123, 137, 138, 139, 140, 141, 142, 143, 144, 145, 146] (by decide +kernel) (by decide +kernel)
set_option maxRecDepth 20000 in
theorem gX9_tellLantern_X2_isGlowing : GoodIn wsX9_tellLantern (wsV RX9 101 RX2 yX2_isGlowing wsX2_isGlowing) := goodIn_app (goodIn_of _ (by decide +kernel)) ggX9_tellLantern_X2_isGlowing
set_option maxRecDepth 20000 in
theorem ggX9_tellLantern_X3_length : GoodIn wsX9_tellLantern wsX3_length := goodIn_r _ [127, 14, 147, 148] (by decide +kernel) (by decide +kernel)
set_option maxRecDepth 20000 in
theorem gX9_tellLantern_X3_length : GoodIn wsX9_tellLantern (wsV RX9 204 RX3 yX3_length wsX3_length) := goodIn_app (goodIn_of _ (by decide +kernel)) ggX9_tellLantern_X3_length
theorem dX9_tellLantern_0 : decode cX9_tellLantern 0 = .ok (.aload_n 0, 1) := by decide +kernel
theorem dX9_tellLantern_1 : decode cX9_tellLantern 1 = .ok (.getfield 10, 3) := by decide +kernel
theorem dX9_tellLantern_4 : decode cX9_tellLantern 4 = .ok (.iload_n 1, 1) := by decide +kernel
theorem dX9_tellLantern_5 : decode cX9_tellLantern 5 = .ok (.invokevirtual 91, 3) := by decide +kernel
theorem dX9_tellLantern_8 : decode cX9_tellLantern 8 = .ok (.ifCond .ne 6, 3) := by decide +kernel
theorem dX9_tellLantern_11 : decode cX9_tellLantern 11 = .ok (.bipush (-11), 2) := by decide +kernel
theorem dX9_tellLantern_13 : decode cX9_tellLantern 13 = .ok (.ireturn, 1) := by decide +kernel
theorem dX9_tellLantern_14 : decode cX9_tellLantern 14 = .ok (.aload_n 0, 1) := by decide +kernel
theorem dX9_tellLantern_15 : decode cX9_tellLantern 15 = .ok (.getfield 50, 3) := by decide +kernel
theorem dX9_tellLantern_18 : decode cX9_tellLantern 18 = .ok (.invokevirtual 197, 3) := by decide +kernel
theorem dX9_tellLantern_21 : decode cX9_tellLantern 21 = .ok (.aload_n 0, 1) := by decide +kernel
theorem dX9_tellLantern_22 : decode cX9_tellLantern 22 = .ok (.getfield 50, 3) := by decide +kernel
theorem dX9_tellLantern_25 : decode cX9_tellLantern 25 = .ok (.iload_n 1, 1) := by decide +kernel
theorem dX9_tellLantern_26 : decode cX9_tellLantern 26 = .ok (.invokevirtual 207, 3) := by decide +kernel
theorem dX9_tellLantern_29 : decode cX9_tellLantern 29 = .ok (.aload_n 0, 1) := by decide +kernel
theorem dX9_tellLantern_30 : decode cX9_tellLantern 30 = .ok (.getfield 50, 3) := by decide +kernel
theorem dX9_tellLantern_33 : decode cX9_tellLantern 33 = .ok (.bipush 58, 2) := by decide +kernel
theorem dX9_tellLantern_35 : decode cX9_tellLantern 35 = .ok (.invokevirtual 201, 3) := by decide +kernel
theorem dX9_tellLantern_38 : decode cX9_tellLantern 38 = .ok (.aload_n 0, 1) := by decide +kernel
theorem dX9_tellLantern_39 : decode cX9_tellLantern 39 = .ok (.getfield 50, 3) := by decide +kernel
theorem dX9_tellLantern_42 : decode cX9_tellLantern 42 = .ok (.aload_n 0, 1) := by decide +kernel
theorem dX9_tellLantern_43 : decode cX9_tellLantern 43 = .ok (.getfield 10, 3) := by decide +kernel
theorem dX9_tellLantern_46 : decode cX9_tellLantern 46 = .ok (.iload_n 1, 1) := by decide +kernel
theorem dX9_tellLantern_47 : decode cX9_tellLantern 47 = .ok (.invokevirtual 95, 3) := by decide +kernel
theorem dX9_tellLantern_50 : decode cX9_tellLantern 50 = .ok (.invokestatic 211, 3) := by decide +kernel
theorem dX9_tellLantern_53 : decode cX9_tellLantern 53 = .ok (.invokevirtual 215, 3) := by decide +kernel
theorem dX9_tellLantern_56 : decode cX9_tellLantern 56 = .ok (.aload_n 0, 1) := by decide +kernel
theorem dX9_tellLantern_57 : decode cX9_tellLantern 57 = .ok (.getfield 50, 3) := by decide +kernel
theorem dX9_tellLantern_60 : decode cX9_tellLantern 60 = .ok (.aload_n 0, 1) := by decide +kernel
theorem dX9_tellLantern_61 : decode cX9_tellLantern 61 = .ok (.getfield 10, 3) := by decide +kernel
theorem dX9_tellLantern_64 : decode cX9_tellLantern 64 = .ok (.iload_n 1, 1) := by decide +kernel
theorem dX9_tellLantern_65 : decode cX9_tellLantern 65 = .ok (.invokevirtual 98, 3) := by decide +kernel
theorem dX9_tellLantern_68 : decode cX9_tellLantern 68 = .ok (.invokevirtual 207, 3) := by decide +kernel
theorem dX9_tellLantern_71 : decode cX9_tellLantern 71 = .ok (.aload_n 0, 1) := by decide +kernel
theorem dX9_tellLantern_72 : decode cX9_tellLantern 72 = .ok (.getfield 10, 3) := by decide +kernel
theorem dX9_tellLantern_75 : decode cX9_tellLantern 75 = .ok (.iload_n 1, 1) := by decide +kernel
theorem dX9_tellLantern_76 : decode cX9_tellLantern 76 = .ok (.invokevirtual 160, 3) := by decide +kernel
theorem dX9_tellLantern_79 : decode cX9_tellLantern 79 = .ok (.ifCond .ne 8, 3) := by decide +kernel
theorem dX9_tellLantern_82 : decode cX9_tellLantern 82 = .ok (.aload_n 0, 1) := by decide +kernel
theorem dX9_tellLantern_83 : decode cX9_tellLantern 83 = .ok (.iload_n 1, 1) := by decide +kernel
theorem dX9_tellLantern_84 : decode cX9_tellLantern 84 = .ok (.invokevirtual 219, 3) := by decide +kernel
theorem dX9_tellLantern_87 : decode cX9_tellLantern 87 = .ok (.aload_n 0, 1) := by decide +kernel
theorem dX9_tellLantern_88 : decode cX9_tellLantern 88 = .ok (.getfield 10, 3) := by decide +kernel
theorem dX9_tellLantern_91 : decode cX9_tellLantern 91 = .ok (.iload_n 1, 1) := by decide +kernel
theorem dX9_tellLantern_92 : decode cX9_tellLantern 92 = .ok (.invokevirtual 101, 3) := by decide +kernel
theorem dX9_tellLantern_95 : decode cX9_tellLantern 95 = .ok (.ifCond .eq 12, 3) := by decide +kernel
theorem dX9_tellLantern_98 : decode cX9_tellLantern 98 = .ok (.aload_n 0, 1) := by decide +kernel
theorem dX9_tellLantern_99 : decode cX9_tellLantern 99 = .ok (.getfield 50, 3) := by decide +kernel
theorem dX9_tellLantern_102 : decode cX9_tellLantern 102 = .ok (.bipush 35, 2) := by decide +kernel
theorem dX9_tellLantern_104 : decode cX9_tellLantern 104 = .ok (.invokevirtual 201, 3) := by decide +kernel
theorem dX9_tellLantern_107 : decode cX9_tellLantern 107 = .ok (.aload_n 0, 1) := by decide +kernel
theorem dX9_tellLantern_108 : decode cX9_tellLantern 108 = .ok (.getfield 50, 3) := by decide +kernel
theorem dX9_tellLantern_111 : decode cX9_tellLantern 111 = .ok (.invokevirtual 204, 3) := by decide +kernel
theorem dX9_tellLantern_114 : decode cX9_tellLantern 114 = .ok (.ireturn, 1) := by decide +kernel
set_option maxRecDepth 20000 in
theorem ggX9_character_X3_codeAt : GoodIn wsX9_character wsX3_codeAt := goodIn_r _ [6, 7, 8, 18, 19] (by decide +kernel) (by decide +kernel)
set_option maxRecDepth 20000 in
theorem gX9_character_X3_codeAt : GoodIn wsX9_character (wsV RX9 222 RX3 yX3_codeAt wsX3_codeAt) := goodIn_app (goodIn_of _ (by decide +kernel)) ggX9_character_X3_codeAt
theorem dX9_character_0 : decode cX9_character 0 = .ok (.aload_n 0, 1) := by decide +kernel
theorem dX9_character_1 : decode cX9_character 1 = .ok (.getfield 50, 3) := by decide +kernel
theorem dX9_character_4 : decode cX9_character 4 = .ok (.iload_n 1, 1) := by decide +kernel
theorem dX9_character_5 : decode cX9_character 5 = .ok (.invokevirtual 222, 3) := by decide +kernel
theorem dX9_character_8 : decode cX9_character 8 = .ok (.ireturn, 1) := by decide +kernel
set_option maxRecDepth 20000 in
theorem ggX9_reason_X6_detailAt : GoodIn wsX9_reason wsX6_detailAt := goodIn_r _ [6, 7, 8, 9, 10, 5, 11, 12, 27, 28, 29] (by decide +kernel) (by decide +kernel)
set_option maxRecDepth 20000 in
theorem gX9_reason_X6_detailAt : GoodIn wsX9_reason (wsV RX9 225 RX6 yX6_detailAt wsX6_detailAt) := goodIn_app (goodIn_of _ (by decide +kernel)) ggX9_reason_X6_detailAt
set_option maxRecDepth 20000 in
theorem ggX9_reason_X6_numberAt : GoodIn wsX9_reason wsX6_numberAt := goodIn_r _ [16, 17, 8, 9, 10, 5, 11, 12, 27, 28, 29] (by decide +kernel) (by decide +kernel)
set_option maxRecDepth 20000 in
theorem gX9_reason_X6_numberAt : GoodIn wsX9_reason (wsV RX9 228 RX6 yX6_numberAt wsX6_numberAt) := goodIn_app (goodIn_of _ (by decide +kernel)) ggX9_reason_X6_numberAt
theorem dX9_reason_0 : decode cX9_reason 0 = .ok (.iload_n 2, 1) := by decide +kernel
theorem dX9_reason_1 : decode cX9_reason 1 = .ok (.ifCond .eq 14, 3) := by decide +kernel
theorem dX9_reason_4 : decode cX9_reason 4 = .ok (.aload_n 0, 1) := by decide +kernel
theorem dX9_reason_5 : decode cX9_reason 5 = .ok (.getfield 57, 3) := by decide +kernel
theorem dX9_reason_8 : decode cX9_reason 8 = .ok (.iload_n 1, 1) := by decide +kernel
theorem dX9_reason_9 : decode cX9_reason 9 = .ok (.invokevirtual 225, 3) := by decide +kernel
theorem dX9_reason_12 : decode cX9_reason 12 = .ok (.goto 11, 3) := by decide +kernel
theorem dX9_reason_15 : decode cX9_reason 15 = .ok (.aload_n 0, 1) := by decide +kernel
theorem dX9_reason_16 : decode cX9_reason 16 = .ok (.getfield 57, 3) := by decide +kernel
theorem dX9_reason_19 : decode cX9_reason 19 = .ok (.iload_n 1, 1) := by decide +kernel
theorem dX9_reason_20 : decode cX9_reason 20 = .ok (.invokevirtual 228, 3) := by decide +kernel
theorem dX9_reason_23 : decode cX9_reason 23 = .ok (.ireturn, 1) := by decide +kernel
set_option maxRecDepth 20000 in
theorem ggX9_account_X2_ticks : GoodIn wsX9_account wsX2_ticks := goodIn_r _ [9, 10, 150, 151, 152, 153, 154, 155, 156, 157, 158, 159] (by decide +kernel) (by decide +kernel)
set_option maxRecDepth 20000 in
theorem gX9_account_X2_ticks : GoodIn wsX9_account (wsV RX9 231 RX2 yX2_ticks wsX2_ticks) := goodIn_app (goodIn_of _ (by decide +kernel)) ggX9_account_X2_ticks
set_option maxRecDepth 20000 in
theorem ggX9_account_X2_count : GoodIn wsX9_account wsX2_count := goodIn_r _ [14, 15, 150, 151, 152, 153, 154, 155, 156, 157, 158, 159] (by decide +kernel) (by decide +kernel)
set_option maxRecDepth 20000 in
theorem gX9_account_X2_count : GoodIn wsX9_account (wsV RX9 198 RX2 yX2_count wsX2_count) := goodIn_app (goodIn_of _ (by decide +kernel)) ggX9_account_X2_count
set_option maxRecDepth 20000 in
theorem ggX9_account_X2_switches : GoodIn wsX9_account wsX2_switches := goodIn_r _ [19, 15, 20, 21, 22, 8, 23, 24, 25, 26, 27, 28, 150, 151, 152, 153, 154, 155, 156, 157, 158, 159] (by decide +kernel) (by decide +kernel)
set_option maxRecDepth 20000 in
theorem gX9_account_X2_switches : GoodIn wsX9_account (wsV RX9 234 RX2 yX2_switches wsX2_switches) := goodIn_app (goodIn_of _ (by decide +kernel)) ggX9_account_X2_switches
set_option maxRecDepth 20000 in
theorem ggX9_account_J6_bitCount_0f7a4 : GoodIn wsX9_account wsJ6_bitCount_0f7a4 := goodIn_r _ [32, 33, 34, 35] (by decide +kernel) (by decide +kernel)
set_option maxRecDepth 20000 in
theorem gX9_account_J6_bitCount_0f7a4 : GoodIn wsX9_account (va_wsS RX9 237 yJ6_bitCount_0f7a4 wsJ6_bitCount_0f7a4) := goodIn_app (goodIn_of _ (by decide +kernel)) ggX9_account_J6_bitCount_0f7a4
set_option maxRecDepth 20000 in
theorem ggX9_account_X2_wires : GoodIn wsX9_account wsX2_wires := goodIn_r _ [39, 15, 40, 41, 42, 8, 43, 44, 45, 46, 47, 48, 150, 151, 152, 153, 154, 155, 156, 157, 158, 159] (by decide +kernel) (by decide +kernel)
set_option maxRecDepth 20000 in
theorem gX9_account_X2_wires : GoodIn wsX9_account (wsV RX9 242 RX2 yX2_wires wsX2_wires) := goodIn_app (goodIn_of _ (by decide +kernel)) ggX9_account_X2_wires
set_option maxRecDepth 20000 in
theorem ggX9_account_X2_glow : GoodIn wsX9_account wsX2_glow := goodIn_r _ [52, 53, 54, 55, 8, 56, 57, 150, 151, 152, 153, 154, 155, 156, 157, 158, 159] (by decide +kernel) (by decide +kernel)
set_option maxRecDepth 20000 in
theorem gX9_account_X2_glow : GoodIn wsX9_account (wsV RX9 113 RX2 yX2_glow wsX2_glow) := goodIn_app (goodIn_of _ (by decide +kernel)) ggX9_account_X2_glow
set_option maxRecDepth 20000 in
theorem ggX9_account_X5_inLoops : GoodIn wsX9_account wsX5_inLoops := goodIn_r _ [61, 62, 12, 13, 8, 14, 15, 63, 64, 60, 65, 66, 67, 68, 69, 70, 71, 72, 48, 73, 74, 75, 150, 151, 152, 153, 154, 155, 156, 157, 158, 159] (by decide +kernel) (by decide +kernel)
set_option maxRecDepth 20000 in
theorem gX9_account_X5_inLoops : GoodIn wsX9_account (va_wsS RX9 141 yX5_inLoops wsX5_inLoops) := goodIn_app (goodIn_of _ (by decide +kernel)) ggX9_account_X5_inLoops
set_option maxRecDepth 20000 in
theorem ggX9_account_X2_areLoopsAllowed : GoodIn wsX9_account wsX2_areLoopsAllowed := goodIn_r _ [79, 80, 150, 151, 152, 153, 154, 155, 156, 157, 158, 159] (by decide +kernel) (by decide +kernel)
set_option maxRecDepth 20000 in
theorem gX9_account_X2_areLoopsAllowed : GoodIn wsX9_account (wsV RX9 245 RX2 yX2_areLoopsAllowed wsX2_areLoopsAllowed) := goodIn_app (goodIn_of _ (by decide +kernel)) ggX9_account_X2_areLoopsAllowed
set_option maxRecDepth 20000 in
theorem ggX9_account_X2_changes : GoodIn wsX9_account wsX2_changes := goodIn_r _ [84, 15, 85, 86, 87, 8, 88, 89, 25, 26, 27, 28, 150, 151, 152, 153, 154, 155, 156, 157, 158, 159] (by decide +kernel) (by decide +kernel)
set_option maxRecDepth 20000 in
theorem gX9_account_X2_changes : GoodIn wsX9_account (wsV RX9 248 RX2 yX2_changes wsX2_changes) := goodIn_app (goodIn_of _ (by decide +kernel)) ggX9_account_X2_changes
set_option maxRecDepth 20000 in
theorem ggX9_account_X2_tickChanges : GoodIn wsX9_account wsX2_tickChanges := goodIn_r _ [93, 94, 150, 151, 152, 153, 154, 155, 156, 157, 158, 159] (by decide +kernel) (by decide +kernel)
set_option maxRecDepth 20000 in
theorem gX9_account_X2_tickChanges : GoodIn wsX9_account (wsV RX9 251 RX2 yX2_tickChanges wsX2_tickChanges) := goodIn_app (goodIn_of _ (by decide +kernel)) ggX9_account_X2_tickChanges
set_option maxRecDepth 20000 in
theorem ggX9_account_X2_sets : GoodIn wsX9_account wsX2_sets := goodIn_r _ [98, 99, 150, 151, 152, 153, 154, 155, 156, 157, 158, 159] (by decide +kernel) (by decide +kernel)
set_option maxRecDepth 20000 in
theorem gX9_account_X2_sets : GoodIn wsX9_account (wsV RX9 254 RX2 yX2_sets wsX2_sets) := goodIn_app (goodIn_of _ (by decide +kernel)) ggX9_account_X2_sets
set_option maxRecDepth 20000 in
theorem ggX9_account_X0_greatest : GoodIn wsX9_account wsX0_greatest := goodIn_r _ [104, 105, 106, 107, 108, 109, 110, 111, 112, 113, 114, 12, 13, 8, 14, 15, 115, 116, 103, 117, 118, 26, 27, 28, 119, 45, 46, 47, 48, 120, 121, 122, 123, 21, 22, 23, 24, 25, 124, 125, 126, 127, 128, 160, 150, 151, 152, 153, 154, 155, 156, 157, 158, 159] (by decide +kernel) (by decide +kernel)
set_option maxRecDepth 20000 in
theorem gX9_account_X0_greatest : GoodIn wsX9_account (wsV RX9 257 RX0 yX0_greatest wsX0_greatest) := goodIn_app (goodIn_of _ (by decide +kernel)) ggX9_account_X0_greatest
set_option maxRecDepth 20000 in
theorem ggX9_account_X8_length : GoodIn wsX9_account wsX8_length := goodIn_r _ [133, 134, 161, 162, 163, 164, 165, 166, 167, 168] (by decide +kernel) (by decide +kernel)
set_option maxRecDepth 20000 in
theorem gX9_account_X8_length : GoodIn wsX9_account (wsV RX9 260 RX8 yX8_length wsX8_length) := goodIn_app (goodIn_of _ (by decide +kernel)) ggX9_account_X8_length
set_option maxRecDepth 20000 in
theorem ggX9_account_X4_undoable : GoodIn wsX9_account wsX4_undoable := goodIn_r _ [139, 140, 169, 170, 171] (by decide +kernel) (by decide +kernel)
set_option maxRecDepth 20000 in
theorem gX9_account_X4_undoable : GoodIn wsX9_account (wsV RX9 261 RX4 yX4_undoable wsX4_undoable) := goodIn_app (goodIn_of _ (by decide +kernel)) ggX9_account_X4_undoable
theorem dX9_account_0 : decode cX9_account 0 = .ok (.iload_n 1, 1) := by decide +kernel
theorem dX9_account_1 : decode cX9_account 1 = .ok (.tableswitch 192 0 12 #[67, 75, 83, 94, 102, 113, 124, 140, 148, 156, 164, 176, 184], 67) := by decide +kernel
theorem dX9_account_68 : decode cX9_account 68 = .ok (.aload_n 0, 1) := by decide +kernel
theorem dX9_account_69 : decode cX9_account 69 = .ok (.getfield 10, 3) := by decide +kernel
theorem dX9_account_72 : decode cX9_account 72 = .ok (.invokevirtual 231, 3) := by decide +kernel
theorem dX9_account_75 : decode cX9_account 75 = .ok (.ireturn, 1) := by decide +kernel
theorem dX9_account_76 : decode cX9_account 76 = .ok (.aload_n 0, 1) := by decide +kernel
theorem dX9_account_77 : decode cX9_account 77 = .ok (.getfield 10, 3) := by decide +kernel
theorem dX9_account_80 : decode cX9_account 80 = .ok (.invokevirtual 198, 3) := by decide +kernel
theorem dX9_account_83 : decode cX9_account 83 = .ok (.ireturn, 1) := by decide +kernel
theorem dX9_account_84 : decode cX9_account 84 = .ok (.aload_n 0, 1) := by decide +kernel
theorem dX9_account_85 : decode cX9_account 85 = .ok (.getfield 10, 3) := by decide +kernel
theorem dX9_account_88 : decode cX9_account 88 = .ok (.invokevirtual 234, 3) := by decide +kernel
theorem dX9_account_91 : decode cX9_account 91 = .ok (.invokestatic 237, 3) := by decide +kernel
theorem dX9_account_94 : decode cX9_account 94 = .ok (.ireturn, 1) := by decide +kernel
theorem dX9_account_95 : decode cX9_account 95 = .ok (.aload_n 0, 1) := by decide +kernel
theorem dX9_account_96 : decode cX9_account 96 = .ok (.getfield 10, 3) := by decide +kernel
theorem dX9_account_99 : decode cX9_account 99 = .ok (.invokevirtual 242, 3) := by decide +kernel
theorem dX9_account_102 : decode cX9_account 102 = .ok (.ireturn, 1) := by decide +kernel
theorem dX9_account_103 : decode cX9_account 103 = .ok (.aload_n 0, 1) := by decide +kernel
theorem dX9_account_104 : decode cX9_account 104 = .ok (.getfield 10, 3) := by decide +kernel
theorem dX9_account_107 : decode cX9_account 107 = .ok (.invokevirtual 113, 3) := by decide +kernel
theorem dX9_account_110 : decode cX9_account 110 = .ok (.invokestatic 237, 3) := by decide +kernel
theorem dX9_account_113 : decode cX9_account 113 = .ok (.ireturn, 1) := by decide +kernel
theorem dX9_account_114 : decode cX9_account 114 = .ok (.aload_n 0, 1) := by decide +kernel
theorem dX9_account_115 : decode cX9_account 115 = .ok (.getfield 10, 3) := by decide +kernel
theorem dX9_account_118 : decode cX9_account 118 = .ok (.invokestatic 141, 3) := by decide +kernel
theorem dX9_account_121 : decode cX9_account 121 = .ok (.invokestatic 237, 3) := by decide +kernel
theorem dX9_account_124 : decode cX9_account 124 = .ok (.ireturn, 1) := by decide +kernel
theorem dX9_account_125 : decode cX9_account 125 = .ok (.aload_n 0, 1) := by decide +kernel
theorem dX9_account_126 : decode cX9_account 126 = .ok (.getfield 10, 3) := by decide +kernel
theorem dX9_account_129 : decode cX9_account 129 = .ok (.invokevirtual 245, 3) := by decide +kernel
theorem dX9_account_132 : decode cX9_account 132 = .ok (.ifCond .eq 7, 3) := by decide +kernel
theorem dX9_account_135 : decode cX9_account 135 = .ok (.iconst 1, 1) := by decide +kernel
theorem dX9_account_136 : decode cX9_account 136 = .ok (.goto 4, 3) := by decide +kernel
theorem dX9_account_139 : decode cX9_account 139 = .ok (.iconst 0, 1) := by decide +kernel
theorem dX9_account_140 : decode cX9_account 140 = .ok (.ireturn, 1) := by decide +kernel
theorem dX9_account_141 : decode cX9_account 141 = .ok (.aload_n 0, 1) := by decide +kernel
theorem dX9_account_142 : decode cX9_account 142 = .ok (.getfield 10, 3) := by decide +kernel
theorem dX9_account_145 : decode cX9_account 145 = .ok (.invokevirtual 248, 3) := by decide +kernel
theorem dX9_account_148 : decode cX9_account 148 = .ok (.ireturn, 1) := by decide +kernel
theorem dX9_account_149 : decode cX9_account 149 = .ok (.aload_n 0, 1) := by decide +kernel
theorem dX9_account_150 : decode cX9_account 150 = .ok (.getfield 10, 3) := by decide +kernel
theorem dX9_account_153 : decode cX9_account 153 = .ok (.invokevirtual 251, 3) := by decide +kernel
theorem dX9_account_156 : decode cX9_account 156 = .ok (.ireturn, 1) := by decide +kernel
theorem dX9_account_157 : decode cX9_account 157 = .ok (.aload_n 0, 1) := by decide +kernel
theorem dX9_account_158 : decode cX9_account 158 = .ok (.getfield 10, 3) := by decide +kernel
theorem dX9_account_161 : decode cX9_account 161 = .ok (.invokevirtual 254, 3) := by decide +kernel
theorem dX9_account_164 : decode cX9_account 164 = .ok (.ireturn, 1) := by decide +kernel
theorem dX9_account_165 : decode cX9_account 165 = .ok (.aload_n 0, 1) := by decide +kernel
theorem dX9_account_166 : decode cX9_account 166 = .ok (.getfield 29, 3) := by decide +kernel
theorem dX9_account_169 : decode cX9_account 169 = .ok (.aload_n 0, 1) := by decide +kernel
theorem dX9_account_170 : decode cX9_account 170 = .ok (.getfield 10, 3) := by decide +kernel
theorem dX9_account_173 : decode cX9_account 173 = .ok (.invokevirtual 257, 3) := by decide +kernel
theorem dX9_account_176 : decode cX9_account 176 = .ok (.ireturn, 1) := by decide +kernel
theorem dX9_account_177 : decode cX9_account 177 = .ok (.aload_n 0, 1) := by decide +kernel
theorem dX9_account_178 : decode cX9_account 178 = .ok (.getfield 43, 3) := by decide +kernel
theorem dX9_account_181 : decode cX9_account 181 = .ok (.invokevirtual 260, 3) := by decide +kernel
theorem dX9_account_184 : decode cX9_account 184 = .ok (.ireturn, 1) := by decide +kernel
theorem dX9_account_185 : decode cX9_account 185 = .ok (.aload_n 0, 1) := by decide +kernel
theorem dX9_account_186 : decode cX9_account 186 = .ok (.getfield 22, 3) := by decide +kernel
theorem dX9_account_189 : decode cX9_account 189 = .ok (.invokevirtual 261, 3) := by decide +kernel
theorem dX9_account_192 : decode cX9_account 192 = .ok (.ireturn, 1) := by decide +kernel
theorem dX9_account_193 : decode cX9_account 193 = .ok (.bipush (-12), 2) := by decide +kernel
theorem dX9_account_195 : decode cX9_account 195 = .ok (.ireturn, 1) := by decide +kernel
set_option maxRecDepth 20000 in
theorem ggX9_isBalanced_X2_count : GoodIn wsX9_isBalanced wsX2_count := goodIn_r _ [6, 7, 57, 58, 59, 60, 61, 62, 63, 64, 65, 66] (by decide +kernel) (by decide +kernel)
set_option maxRecDepth 20000 in
theorem gX9_isBalanced_X2_count : GoodIn wsX9_isBalanced (wsV RX9 198 RX2 yX2_count wsX2_count) := goodIn_app (goodIn_of _ (by decide +kernel)) ggX9_isBalanced_X2_count
set_option maxRecDepth 20000 in
theorem ggX9_isBalanced_X2_changesOf : GoodIn wsX9_isBalanced wsX2_changesOf := goodIn_r _ [11, 12, 13, 14, 15, 5, 16, 7, 57, 58, 59, 60, 61, 62, 63, 64, 65, 66] (by decide +kernel) (by decide +kernel)
set_option maxRecDepth 20000 in
theorem gX9_isBalanced_X2_changesOf : GoodIn wsX9_isBalanced (wsV RX9 110 RX2 yX2_changesOf wsX2_changesOf) := goodIn_app (goodIn_of _ (by decide +kernel)) ggX9_isBalanced_X2_changesOf
set_option maxRecDepth 20000 in
theorem ggX9_isBalanced_X2_isGlowing : GoodIn wsX9_isBalanced wsX2_isGlowing := goodIn_r _ [20, 21, 22, 23, 5, 24, 25, 26, 27, 28, 29, 30, 31, 32, 57, 58, 59, 60, 61, 62, 63, 64, 65, 66] (by decide +kernel) (by decide +kernel)
set_option maxRecDepth 20000 in
theorem gX9_isBalanced_X2_isGlowing : GoodIn wsX9_isBalanced (wsV RX9 101 RX2 yX2_isGlowing wsX2_isGlowing) := goodIn_app (goodIn_of _ (by decide +kernel)) ggX9_isBalanced_X2_isGlowing
set_option maxRecDepth 20000 in
theorem ggX9_isBalanced_X2_changes : GoodIn wsX9_isBalanced wsX2_changes := goodIn_r _ [36, 7, 37, 9, 10, 5, 11, 12, 13, 14, 15, 16, 57, 58, 59, 60, 61, 62, 63, 64, 65, 66] (by decide +kernel) (by decide +kernel)
set_option maxRecDepth 20000 in
theorem gX9_isBalanced_X2_changes : GoodIn wsX9_isBalanced (wsV RX9 248 RX2 yX2_changes wsX2_changes) := goodIn_app (goodIn_of _ (by decide +kernel)) ggX9_isBalanced_X2_changes
set_option maxRecDepth 20000 in
theorem ggX9_isBalanced_X2_tickChanges : GoodIn wsX9_isBalanced wsX2_tickChanges := goodIn_r _ [41, 42, 57, 58, 59, 60, 61, 62, 63, 64, 65, 66] (by decide +kernel) (by decide +kernel)
set_option maxRecDepth 20000 in
theorem gX9_isBalanced_X2_tickChanges : GoodIn wsX9_isBalanced (wsV RX9 251 RX2 yX2_tickChanges wsX2_tickChanges) := goodIn_app (goodIn_of _ (by decide +kernel)) ggX9_isBalanced_X2_tickChanges
set_option maxRecDepth 20000 in
theorem ggX9_isBalanced_X2_sets : GoodIn wsX9_isBalanced wsX2_sets := goodIn_r _ [46, 47, 57, 58, 59, 60, 61, 62, 63, 64, 65, 66] (by decide +kernel) (by decide +kernel)
set_option maxRecDepth 20000 in
theorem gX9_isBalanced_X2_sets : GoodIn wsX9_isBalanced (wsV RX9 254 RX2 yX2_sets wsX2_sets) := goodIn_app (goodIn_of _ (by decide +kernel)) ggX9_isBalanced_X2_sets
theorem dX9_isBalanced_0 : decode cX9_isBalanced 0 = .ok (.iconst 0, 1) := by decide +kernel
theorem dX9_isBalanced_1 : decode cX9_isBalanced 1 = .ok (.istore_n 1, 1) := by decide +kernel
theorem dX9_isBalanced_2 : decode cX9_isBalanced 2 = .ok (.iload_n 1, 1) := by decide +kernel
theorem dX9_isBalanced_3 : decode cX9_isBalanced 3 = .ok (.aload_n 0, 1) := by decide +kernel
theorem dX9_isBalanced_4 : decode cX9_isBalanced 4 = .ok (.getfield 10, 3) := by decide +kernel
theorem dX9_isBalanced_7 : decode cX9_isBalanced 7 = .ok (.invokevirtual 198, 3) := by decide +kernel
theorem dX9_isBalanced_10 : decode cX9_isBalanced 10 = .ok (.if_icmp .ge 43, 3) := by decide +kernel
theorem dX9_isBalanced_13 : decode cX9_isBalanced 13 = .ok (.aload_n 0, 1) := by decide +kernel
theorem dX9_isBalanced_14 : decode cX9_isBalanced 14 = .ok (.getfield 10, 3) := by decide +kernel
theorem dX9_isBalanced_17 : decode cX9_isBalanced 17 = .ok (.iload_n 1, 1) := by decide +kernel
theorem dX9_isBalanced_18 : decode cX9_isBalanced 18 = .ok (.invokevirtual 110, 3) := by decide +kernel
theorem dX9_isBalanced_21 : decode cX9_isBalanced 21 = .ok (.iconst 1, 1) := by decide +kernel
theorem dX9_isBalanced_22 : decode cX9_isBalanced 22 = .ok (.iand, 1) := by decide +kernel
theorem dX9_isBalanced_23 : decode cX9_isBalanced 23 = .ok (.iconst 1, 1) := by decide +kernel
theorem dX9_isBalanced_24 : decode cX9_isBalanced 24 = .ok (.if_icmp .ne 7, 3) := by decide +kernel
theorem dX9_isBalanced_27 : decode cX9_isBalanced 27 = .ok (.iconst 1, 1) := by decide +kernel
theorem dX9_isBalanced_28 : decode cX9_isBalanced 28 = .ok (.goto 4, 3) := by decide +kernel
theorem dX9_isBalanced_31 : decode cX9_isBalanced 31 = .ok (.iconst 0, 1) := by decide +kernel
theorem dX9_isBalanced_32 : decode cX9_isBalanced 32 = .ok (.istore_n 2, 1) := by decide +kernel
theorem dX9_isBalanced_33 : decode cX9_isBalanced 33 = .ok (.iload_n 2, 1) := by decide +kernel
theorem dX9_isBalanced_34 : decode cX9_isBalanced 34 = .ok (.aload_n 0, 1) := by decide +kernel
theorem dX9_isBalanced_35 : decode cX9_isBalanced 35 = .ok (.getfield 10, 3) := by decide +kernel
theorem dX9_isBalanced_38 : decode cX9_isBalanced 38 = .ok (.iload_n 1, 1) := by decide +kernel
theorem dX9_isBalanced_39 : decode cX9_isBalanced 39 = .ok (.invokevirtual 101, 3) := by decide +kernel
theorem dX9_isBalanced_42 : decode cX9_isBalanced 42 = .ok (.if_icmp .eq 5, 3) := by decide +kernel
theorem dX9_isBalanced_45 : decode cX9_isBalanced 45 = .ok (.iconst 0, 1) := by decide +kernel
theorem dX9_isBalanced_46 : decode cX9_isBalanced 46 = .ok (.ireturn, 1) := by decide +kernel
theorem dX9_isBalanced_47 : decode cX9_isBalanced 47 = .ok (.iinc 1 1, 3) := by decide +kernel
theorem dX9_isBalanced_50 : decode cX9_isBalanced 50 = .ok (.goto (-48), 3) := by decide +kernel
theorem dX9_isBalanced_53 : decode cX9_isBalanced 53 = .ok (.aload_n 0, 1) := by decide +kernel
theorem dX9_isBalanced_54 : decode cX9_isBalanced 54 = .ok (.getfield 10, 3) := by decide +kernel
theorem dX9_isBalanced_57 : decode cX9_isBalanced 57 = .ok (.invokevirtual 248, 3) := by decide +kernel
theorem dX9_isBalanced_60 : decode cX9_isBalanced 60 = .ok (.aload_n 0, 1) := by decide +kernel
theorem dX9_isBalanced_61 : decode cX9_isBalanced 61 = .ok (.getfield 10, 3) := by decide +kernel
theorem dX9_isBalanced_64 : decode cX9_isBalanced 64 = .ok (.invokevirtual 251, 3) := by decide +kernel
theorem dX9_isBalanced_67 : decode cX9_isBalanced 67 = .ok (.aload_n 0, 1) := by decide +kernel
theorem dX9_isBalanced_68 : decode cX9_isBalanced 68 = .ok (.getfield 10, 3) := by decide +kernel
theorem dX9_isBalanced_71 : decode cX9_isBalanced 71 = .ok (.invokevirtual 254, 3) := by decide +kernel
theorem dX9_isBalanced_74 : decode cX9_isBalanced 74 = .ok (.iadd, 1) := by decide +kernel
theorem dX9_isBalanced_75 : decode cX9_isBalanced 75 = .ok (.if_icmp .ne 7, 3) := by decide +kernel
theorem dX9_isBalanced_78 : decode cX9_isBalanced 78 = .ok (.iconst 1, 1) := by decide +kernel
theorem dX9_isBalanced_79 : decode cX9_isBalanced 79 = .ok (.goto 4, 3) := by decide +kernel
theorem dX9_isBalanced_82 : decode cX9_isBalanced 82 = .ok (.iconst 0, 1) := by decide +kernel
theorem dX9_isBalanced_83 : decode cX9_isBalanced 83 = .ok (.ireturn, 1) := by decide +kernel
set_option maxRecDepth 20000 in
theorem ggX9_meanWick_X2_count : GoodIn wsX9_meanWick wsX2_count := goodIn_r _ [6, 7, 31, 32, 33, 34, 35, 36, 37, 38, 39, 40] (by decide +kernel) (by decide +kernel)
set_option maxRecDepth 20000 in
theorem gX9_meanWick_X2_count : GoodIn wsX9_meanWick (wsV RX9 198 RX2 yX2_count wsX2_count) := goodIn_app (goodIn_of _ (by decide +kernel)) ggX9_meanWick_X2_count
set_option maxRecDepth 20000 in
theorem ggX9_meanWick_X2_isSwitch : GoodIn wsX9_meanWick wsX2_isSwitch := goodIn_r _ [11, 12, 13, 14, 15, 5, 16, 7, 31, 32, 33, 34, 35, 36, 37, 38, 39, 40] (by decide +kernel) (by decide +kernel)
set_option maxRecDepth 20000 in
theorem gX9_meanWick_X2_isSwitch : GoodIn wsX9_meanWick (wsV RX9 160 RX2 yX2_isSwitch wsX2_isSwitch) := goodIn_app (goodIn_of _ (by decide +kernel)) ggX9_meanWick_X2_isSwitch
set_option maxRecDepth 20000 in
theorem ggX9_meanWick_X2_wickOf : GoodIn wsX9_meanWick wsX2_wickOf := goodIn_r _ [20, 21, 13, 14, 15, 5, 16, 7, 31, 32, 33, 34, 35, 36, 37, 38, 39, 40] (by decide +kernel) (by decide +kernel)
set_option maxRecDepth 20000 in
theorem gX9_meanWick_X2_wickOf : GoodIn wsX9_meanWick (wsV RX9 98 RX2 yX2_wickOf wsX2_wickOf) := goodIn_app (goodIn_of _ (by decide +kernel)) ggX9_meanWick_X2_wickOf
theorem dX9_meanWick_0 : decode cX9_meanWick 0 = .ok (.iconst 0, 1) := by decide +kernel
theorem dX9_meanWick_1 : decode cX9_meanWick 1 = .ok (.istore_n 1, 1) := by decide +kernel
theorem dX9_meanWick_2 : decode cX9_meanWick 2 = .ok (.iconst 0, 1) := by decide +kernel
theorem dX9_meanWick_3 : decode cX9_meanWick 3 = .ok (.istore_n 2, 1) := by decide +kernel
theorem dX9_meanWick_4 : decode cX9_meanWick 4 = .ok (.iconst 0, 1) := by decide +kernel
theorem dX9_meanWick_5 : decode cX9_meanWick 5 = .ok (.istore_n 3, 1) := by decide +kernel
theorem dX9_meanWick_6 : decode cX9_meanWick 6 = .ok (.iload_n 3, 1) := by decide +kernel
theorem dX9_meanWick_7 : decode cX9_meanWick 7 = .ok (.aload_n 0, 1) := by decide +kernel
theorem dX9_meanWick_8 : decode cX9_meanWick 8 = .ok (.getfield 10, 3) := by decide +kernel
theorem dX9_meanWick_11 : decode cX9_meanWick 11 = .ok (.invokevirtual 198, 3) := by decide +kernel
theorem dX9_meanWick_14 : decode cX9_meanWick 14 = .ok (.if_icmp .ge 34, 3) := by decide +kernel
theorem dX9_meanWick_17 : decode cX9_meanWick 17 = .ok (.aload_n 0, 1) := by decide +kernel
theorem dX9_meanWick_18 : decode cX9_meanWick 18 = .ok (.getfield 10, 3) := by decide +kernel
theorem dX9_meanWick_21 : decode cX9_meanWick 21 = .ok (.iload_n 3, 1) := by decide +kernel
theorem dX9_meanWick_22 : decode cX9_meanWick 22 = .ok (.invokevirtual 160, 3) := by decide +kernel
theorem dX9_meanWick_25 : decode cX9_meanWick 25 = .ok (.ifCond .ne 17, 3) := by decide +kernel
theorem dX9_meanWick_28 : decode cX9_meanWick 28 = .ok (.iinc 1 1, 3) := by decide +kernel
theorem dX9_meanWick_31 : decode cX9_meanWick 31 = .ok (.iload_n 2, 1) := by decide +kernel
theorem dX9_meanWick_32 : decode cX9_meanWick 32 = .ok (.aload_n 0, 1) := by decide +kernel
theorem dX9_meanWick_33 : decode cX9_meanWick 33 = .ok (.getfield 10, 3) := by decide +kernel
theorem dX9_meanWick_36 : decode cX9_meanWick 36 = .ok (.iload_n 3, 1) := by decide +kernel
theorem dX9_meanWick_37 : decode cX9_meanWick 37 = .ok (.invokevirtual 98, 3) := by decide +kernel
theorem dX9_meanWick_40 : decode cX9_meanWick 40 = .ok (.iadd, 1) := by decide +kernel
theorem dX9_meanWick_41 : decode cX9_meanWick 41 = .ok (.istore_n 2, 1) := by decide +kernel
theorem dX9_meanWick_42 : decode cX9_meanWick 42 = .ok (.iinc 3 1, 3) := by decide +kernel
theorem dX9_meanWick_45 : decode cX9_meanWick 45 = .ok (.goto (-39), 3) := by decide +kernel
theorem dX9_meanWick_48 : decode cX9_meanWick 48 = .ok (.iload_n 1, 1) := by decide +kernel
theorem dX9_meanWick_49 : decode cX9_meanWick 49 = .ok (.ifCond .ne 7, 3) := by decide +kernel
theorem dX9_meanWick_52 : decode cX9_meanWick 52 = .ok (.dconst 0, 1) := by decide +kernel
theorem dX9_meanWick_53 : decode cX9_meanWick 53 = .ok (.goto 8, 3) := by decide +kernel
theorem dX9_meanWick_56 : decode cX9_meanWick 56 = .ok (.iload_n 2, 1) := by decide +kernel
theorem dX9_meanWick_57 : decode cX9_meanWick 57 = .ok (.i2d, 1) := by decide +kernel
theorem dX9_meanWick_58 : decode cX9_meanWick 58 = .ok (.iload_n 1, 1) := by decide +kernel
theorem dX9_meanWick_59 : decode cX9_meanWick 59 = .ok (.i2d, 1) := by decide +kernel
theorem dX9_meanWick_60 : decode cX9_meanWick 60 = .ok (.ddiv, 1) := by decide +kernel
theorem dX9_meanWick_61 : decode cX9_meanWick 61 = .ok (.dreturn, 1) := by decide +kernel
set_option maxRecDepth 20000 in
theorem ggX9_glowShare_X2_count : GoodIn wsX9_glowShare wsX2_count := goodIn_r _ [6, 7, 33, 34, 35, 36, 37, 38, 39, 40, 41, 42] (by decide +kernel) (by decide +kernel)
set_option maxRecDepth 20000 in
theorem gX9_glowShare_X2_count : GoodIn wsX9_glowShare (wsV RX9 198 RX2 yX2_count wsX2_count) := goodIn_app (goodIn_of _ (by decide +kernel)) ggX9_glowShare_X2_count
set_option maxRecDepth 20000 in
theorem ggX9_glowShare_X2_glow : GoodIn wsX9_glowShare wsX2_glow := goodIn_r _ [11, 12, 13, 14, 5, 15, 16, 33, 34, 35, 36, 37, 38, 39, 40, 41, 42] (by decide +kernel) (by decide +kernel)
set_option maxRecDepth 20000 in
theorem gX9_glowShare_X2_glow : GoodIn wsX9_glowShare (wsV RX9 113 RX2 yX2_glow wsX2_glow) := goodIn_app (goodIn_of _ (by decide +kernel)) ggX9_glowShare_X2_glow
set_option maxRecDepth 20000 in
theorem ggX9_glowShare_J6_bitCount_0f7a4 : GoodIn wsX9_glowShare wsJ6_bitCount_0f7a4 := goodIn_r _ [20, 21, 22, 23] (by decide +kernel) (by decide +kernel)
set_option maxRecDepth 20000 in
theorem gX9_glowShare_J6_bitCount_0f7a4 : GoodIn wsX9_glowShare (va_wsS RX9 237 yJ6_bitCount_0f7a4 wsJ6_bitCount_0f7a4) := goodIn_app (goodIn_of _ (by decide +kernel)) ggX9_glowShare_J6_bitCount_0f7a4
theorem dX9_glowShare_0 : decode cX9_glowShare 0 = .ok (.aload_n 0, 1) := by decide +kernel
theorem dX9_glowShare_1 : decode cX9_glowShare 1 = .ok (.getfield 10, 3) := by decide +kernel
theorem dX9_glowShare_4 : decode cX9_glowShare 4 = .ok (.invokevirtual 198, 3) := by decide +kernel
theorem dX9_glowShare_7 : decode cX9_glowShare 7 = .ok (.istore_n 1, 1) := by decide +kernel
theorem dX9_glowShare_8 : decode cX9_glowShare 8 = .ok (.iload_n 1, 1) := by decide +kernel
theorem dX9_glowShare_9 : decode cX9_glowShare 9 = .ok (.ifCond .ne 7, 3) := by decide +kernel
theorem dX9_glowShare_12 : decode cX9_glowShare 12 = .ok (.fconst 0, 1) := by decide +kernel
theorem dX9_glowShare_13 : decode cX9_glowShare 13 = .ok (.goto 17, 3) := by decide +kernel
theorem dX9_glowShare_16 : decode cX9_glowShare 16 = .ok (.aload_n 0, 1) := by decide +kernel
theorem dX9_glowShare_17 : decode cX9_glowShare 17 = .ok (.getfield 10, 3) := by decide +kernel
theorem dX9_glowShare_20 : decode cX9_glowShare 20 = .ok (.invokevirtual 113, 3) := by decide +kernel
theorem dX9_glowShare_23 : decode cX9_glowShare 23 = .ok (.invokestatic 237, 3) := by decide +kernel
theorem dX9_glowShare_26 : decode cX9_glowShare 26 = .ok (.i2f, 1) := by decide +kernel
theorem dX9_glowShare_27 : decode cX9_glowShare 27 = .ok (.iload_n 1, 1) := by decide +kernel
theorem dX9_glowShare_28 : decode cX9_glowShare 28 = .ok (.i2f, 1) := by decide +kernel
theorem dX9_glowShare_29 : decode cX9_glowShare 29 = .ok (.fdiv, 1) := by decide +kernel
theorem dX9_glowShare_30 : decode cX9_glowShare 30 = .ok (.freturn, 1) := by decide +kernel
set_option maxRecDepth 20000 in
theorem ggX9_undo_X4_undoable : GoodIn wsX9_undo wsX4_undoable := goodIn_r _ [7, 8, 47, 48, 49] (by decide +kernel) (by decide +kernel)
set_option maxRecDepth 20000 in
theorem gX9_undo_X4_undoable : GoodIn wsX9_undo (wsV RX9 261 RX4 yX4_undoable wsX4_undoable) := goodIn_app (goodIn_of _ (by decide +kernel)) ggX9_undo_X4_undoable
set_option maxRecDepth 20000 in
theorem ggX9_undo_X4_bringBackLatest : GoodIn wsX9_undo wsX4_bringBackLatest := goodIn_r _ [12, 13, 8, 14, 15, 16, 6, 17, 18, 19, 20, 21, 22, 23, 24, 25, 26, 27, 28, 29, 30, 31, 32, 33, 34, 35, 36, 37, 47, 48, 49, 50, 51, 52, 53, 54, 55, 56, 57, 58, 59] (by decide +kernel) (by decide +kernel)
set_option maxRecDepth 20000 in
theorem gX9_undo_X4_bringBackLatest : GoodIn wsX9_undo (wsV RX9 264 RX4 yX4_bringBackLatest wsX4_bringBackLatest) := goodIn_app (goodIn_of _ (by decide +kernel)) ggX9_undo_X4_bringBackLatest
theorem dX9_undo_0 : decode cX9_undo 0 = .ok (.aload_n 0, 1) := by decide +kernel
theorem dX9_undo_1 : decode cX9_undo 1 = .ok (.getfield 22, 3) := by decide +kernel
theorem dX9_undo_4 : decode cX9_undo 4 = .ok (.invokevirtual 261, 3) := by decide +kernel
theorem dX9_undo_7 : decode cX9_undo 7 = .ok (.ifCond .ne 6, 3) := by decide +kernel
theorem dX9_undo_10 : decode cX9_undo 10 = .ok (.bipush (-15), 2) := by decide +kernel
theorem dX9_undo_12 : decode cX9_undo 12 = .ok (.ireturn, 1) := by decide +kernel
theorem dX9_undo_13 : decode cX9_undo 13 = .ok (.aload_n 0, 1) := by decide +kernel
theorem dX9_undo_14 : decode cX9_undo 14 = .ok (.getfield 22, 3) := by decide +kernel
theorem dX9_undo_17 : decode cX9_undo 17 = .ok (.aload_n 0, 1) := by decide +kernel
theorem dX9_undo_18 : decode cX9_undo 18 = .ok (.getfield 10, 3) := by decide +kernel
theorem dX9_undo_21 : decode cX9_undo 21 = .ok (.invokevirtual 264, 3) := by decide +kernel
theorem dX9_undo_24 : decode cX9_undo 24 = .ok (.aload_n 0, 1) := by decide +kernel
theorem dX9_undo_25 : decode cX9_undo 25 = .ok (.getfield 22, 3) := by decide +kernel
theorem dX9_undo_28 : decode cX9_undo 28 = .ok (.invokevirtual 261, 3) := by decide +kernel
theorem dX9_undo_31 : decode cX9_undo 31 = .ok (.ireturn, 1) := by decide +kernel
set_option maxRecDepth 20000 in
theorem ggX9_save_X2_copyFrom : GoodIn wsX9_save wsX2_copyFrom := goodIn_r _ [8, 9, 10, 11, 12, 13, 14, 15, 16, 17, 18, 19, 20, 21, 22, 36, 37, 38, 39, 40, 41, 42, 43, 44, 45] (by decide +kernel) (by decide +kernel)
set_option maxRecDepth 20000 in
theorem gX9_save_X2_copyFrom : GoodIn wsX9_save (wsV RX9 267 RX2 yX2_copyFrom wsX2_copyFrom) := goodIn_app (goodIn_of _ (by decide +kernel)) ggX9_save_X2_copyFrom
set_option maxRecDepth 20000 in
theorem ggX9_save_X2_count : GoodIn wsX9_save wsX2_count := goodIn_r _ [26, 9, 36, 37, 38, 39, 40, 41, 42, 43, 44, 45] (by decide +kernel) (by decide +kernel)
set_option maxRecDepth 20000 in
theorem gX9_save_X2_count : GoodIn wsX9_save (wsV RX9 198 RX2 yX2_count wsX2_count) := goodIn_app (goodIn_of _ (by decide +kernel)) ggX9_save_X2_count
theorem dX9_save_0 : decode cX9_save 0 = .ok (.aload_n 0, 1) := by decide +kernel
theorem dX9_save_1 : decode cX9_save 1 = .ok (.getfield 16, 3) := by decide +kernel
theorem dX9_save_4 : decode cX9_save 4 = .ok (.aload_n 0, 1) := by decide +kernel
theorem dX9_save_5 : decode cX9_save 5 = .ok (.getfield 10, 3) := by decide +kernel
theorem dX9_save_8 : decode cX9_save 8 = .ok (.invokevirtual 267, 3) := by decide +kernel
theorem dX9_save_11 : decode cX9_save 11 = .ok (.aload_n 0, 1) := by decide +kernel
theorem dX9_save_12 : decode cX9_save 12 = .ok (.iconst 1, 1) := by decide +kernel
theorem dX9_save_13 : decode cX9_save 13 = .ok (.putfield 270, 3) := by decide +kernel
theorem dX9_save_16 : decode cX9_save 16 = .ok (.aload_n 0, 1) := by decide +kernel
theorem dX9_save_17 : decode cX9_save 17 = .ok (.getfield 10, 3) := by decide +kernel
theorem dX9_save_20 : decode cX9_save 20 = .ok (.invokevirtual 198, 3) := by decide +kernel
theorem dX9_save_23 : decode cX9_save 23 = .ok (.ireturn, 1) := by decide +kernel
set_option maxRecDepth 20000 in
theorem ggX9_restore_X2_copyFrom : GoodIn wsX9_restore wsX2_copyFrom := goodIn_r _ [9, 10, 11, 12, 13, 14, 15, 16, 17, 18, 19, 20, 21, 22, 23, 43, 44, 45, 46, 47, 48, 49, 50, 51, 52] (by decide +kernel) (by decide +kernel)
set_option maxRecDepth 20000 in
theorem gX9_restore_X2_copyFrom : GoodIn wsX9_restore (wsV RX9 267 RX2 yX2_copyFrom wsX2_copyFrom) := goodIn_app (goodIn_of _ (by decide +kernel)) ggX9_restore_X2_copyFrom
set_option maxRecDepth 20000 in
theorem ggX9_restore_X4_forget : GoodIn wsX9_restore wsX4_forget := goodIn_r _ [28, 29, 53, 54, 55] (by decide +kernel) (by decide +kernel)
set_option maxRecDepth 20000 in
theorem gX9_restore_X4_forget : GoodIn wsX9_restore (wsV RX9 274 RX4 yX4_forget wsX4_forget) := goodIn_app (goodIn_of _ (by decide +kernel)) ggX9_restore_X4_forget
set_option maxRecDepth 20000 in
theorem ggX9_restore_X2_count : GoodIn wsX9_restore wsX2_count := goodIn_r _ [33, 10, 43, 44, 45, 46, 47, 48, 49, 50, 51, 52] (by decide +kernel) (by decide +kernel)
set_option maxRecDepth 20000 in
theorem gX9_restore_X2_count : GoodIn wsX9_restore (wsV RX9 198 RX2 yX2_count wsX2_count) := goodIn_app (goodIn_of _ (by decide +kernel)) ggX9_restore_X2_count
theorem dX9_restore_0 : decode cX9_restore 0 = .ok (.aload_n 0, 1) := by decide +kernel
theorem dX9_restore_1 : decode cX9_restore 1 = .ok (.getfield 270, 3) := by decide +kernel
theorem dX9_restore_4 : decode cX9_restore 4 = .ok (.ifCond .ne 6, 3) := by decide +kernel
theorem dX9_restore_7 : decode cX9_restore 7 = .ok (.bipush (-15), 2) := by decide +kernel
theorem dX9_restore_9 : decode cX9_restore 9 = .ok (.ireturn, 1) := by decide +kernel
theorem dX9_restore_10 : decode cX9_restore 10 = .ok (.aload_n 0, 1) := by decide +kernel
theorem dX9_restore_11 : decode cX9_restore 11 = .ok (.getfield 10, 3) := by decide +kernel
theorem dX9_restore_14 : decode cX9_restore 14 = .ok (.aload_n 0, 1) := by decide +kernel
theorem dX9_restore_15 : decode cX9_restore 15 = .ok (.getfield 16, 3) := by decide +kernel
theorem dX9_restore_18 : decode cX9_restore 18 = .ok (.invokevirtual 267, 3) := by decide +kernel
theorem dX9_restore_21 : decode cX9_restore 21 = .ok (.aload_n 0, 1) := by decide +kernel
theorem dX9_restore_22 : decode cX9_restore 22 = .ok (.getfield 22, 3) := by decide +kernel
theorem dX9_restore_25 : decode cX9_restore 25 = .ok (.invokevirtual 274, 3) := by decide +kernel
theorem dX9_restore_28 : decode cX9_restore 28 = .ok (.aload_n 0, 1) := by decide +kernel
theorem dX9_restore_29 : decode cX9_restore 29 = .ok (.getfield 10, 3) := by decide +kernel
theorem dX9_restore_32 : decode cX9_restore 32 = .ok (.invokevirtual 198, 3) := by decide +kernel
theorem dX9_restore_35 : decode cX9_restore 35 = .ok (.ireturn, 1) := by decide +kernel
set_option maxRecDepth 20000 in
theorem ggX9_kept_X4_keepHeld : GoodIn wsX9_kept wsX4_keepHeld := goodIn_r _ [6, 7, 8, 9, 10, 11, 12, 22, 23, 24] (by decide +kernel) (by decide +kernel)
set_option maxRecDepth 20000 in
theorem gX9_kept_X4_keepHeld : GoodIn wsX9_kept (wsV RX9 277 RX4 yX4_keepHeld wsX4_keepHeld) := goodIn_app (goodIn_of _ (by decide +kernel)) ggX9_kept_X4_keepHeld
theorem dX9_kept_0 : decode cX9_kept 0 = .ok (.iload_n 1, 1) := by decide +kernel
theorem dX9_kept_1 : decode cX9_kept 1 = .ok (.ifCond .lt 10, 3) := by decide +kernel
theorem dX9_kept_4 : decode cX9_kept 4 = .ok (.aload_n 0, 1) := by decide +kernel
theorem dX9_kept_5 : decode cX9_kept 5 = .ok (.getfield 22, 3) := by decide +kernel
theorem dX9_kept_8 : decode cX9_kept 8 = .ok (.invokevirtual 277, 3) := by decide +kernel
theorem dX9_kept_11 : decode cX9_kept 11 = .ok (.iload_n 1, 1) := by decide +kernel
theorem dX9_kept_12 : decode cX9_kept 12 = .ok (.ireturn, 1) := by decide +kernel
set_option maxRecDepth 20000 in
theorem ggX9_refuse_X6_start : GoodIn wsX9_refuse wsX6_start := goodIn_r _ [6, 7, 8, 9, 19, 20, 21] (by decide +kernel) (by decide +kernel)
set_option maxRecDepth 20000 in
theorem gX9_refuse_X6_start : GoodIn wsX9_refuse (wsV RX9 280 RX6 yX6_start wsX6_start) := goodIn_app (goodIn_of _ (by decide +kernel)) ggX9_refuse_X6_start
theorem dX9_refuse_0 : decode cX9_refuse 0 = .ok (.aload_n 0, 1) := by decide +kernel
theorem dX9_refuse_1 : decode cX9_refuse 1 = .ok (.getfield 57, 3) := by decide +kernel
theorem dX9_refuse_4 : decode cX9_refuse 4 = .ok (.iload_n 1, 1) := by decide +kernel
theorem dX9_refuse_5 : decode cX9_refuse 5 = .ok (.iload_n 2, 1) := by decide +kernel
theorem dX9_refuse_6 : decode cX9_refuse 6 = .ok (.invokevirtual 280, 3) := by decide +kernel
theorem dX9_refuse_9 : decode cX9_refuse 9 = .ok (.bipush (-14), 2) := by decide +kernel
theorem dX9_refuse_11 : decode cX9_refuse 11 = .ok (.ireturn, 1) := by decide +kernel
set_option maxRecDepth 20000 in
theorem ggX9_hangUp_X2_add : GoodIn wsX9_hangUp wsX2_add := goodIn_r _ [6, 7, 8, 9, 33, 34, 35, 36, 37, 38, 39, 40, 41, 42] (by decide +kernel) (by decide +kernel)
set_option maxRecDepth 20000 in
theorem gX9_hangUp_X2_add : GoodIn wsX9_hangUp (wsV RX9 284 RX2 yX2_add wsX2_add) := goodIn_app (goodIn_of _ (by decide +kernel)) ggX9_hangUp_X2_add
set_option maxRecDepth 20000 in
theorem ggX9_hangUp_X9_refuse : GoodIn wsX9_hangUp wsX9_refuse := goodIn_r _ [14, 15, 16, 17, 18, 19, 20, 21, 22, 23, 24, 25, 26, 27, 28, 29, 30, 31, 32, 43, 44, 45] (by decide +kernel) (by decide +kernel)
set_option maxRecDepth 20000 in
theorem gX9_hangUp_X9_refuse : GoodIn wsX9_hangUp (wsV RX9 286 RX9 yX9_refuse wsX9_refuse) := goodIn_app (goodIn_of _ (by decide +kernel)) ggX9_hangUp_X9_refuse
theorem dX9_hangUp_0 : decode cX9_hangUp 0 = .ok (.iload_n 1, 1) := by decide +kernel
theorem dX9_hangUp_1 : decode cX9_hangUp 1 = .ok (.ifCond .lt 19, 3) := by decide +kernel
theorem dX9_hangUp_4 : decode cX9_hangUp 4 = .ok (.iload_n 1, 1) := by decide +kernel
theorem dX9_hangUp_5 : decode cX9_hangUp 5 = .ok (.bipush 6, 2) := by decide +kernel
theorem dX9_hangUp_7 : decode cX9_hangUp 7 = .ok (.if_icmp .gt 13, 3) := by decide +kernel
theorem dX9_hangUp_10 : decode cX9_hangUp 10 = .ok (.iload_n 2, 1) := by decide +kernel
theorem dX9_hangUp_11 : decode cX9_hangUp 11 = .ok (.iconst 1, 1) := by decide +kernel
theorem dX9_hangUp_12 : decode cX9_hangUp 12 = .ok (.if_icmp .lt 8, 3) := by decide +kernel
theorem dX9_hangUp_15 : decode cX9_hangUp 15 = .ok (.iload_n 2, 1) := by decide +kernel
theorem dX9_hangUp_16 : decode cX9_hangUp 16 = .ok (.iconst 4, 1) := by decide +kernel
theorem dX9_hangUp_17 : decode cX9_hangUp 17 = .ok (.if_icmp .le 6, 3) := by decide +kernel
theorem dX9_hangUp_20 : decode cX9_hangUp 20 = .ok (.bipush (-12), 2) := by decide +kernel
theorem dX9_hangUp_22 : decode cX9_hangUp 22 = .ok (.ireturn, 1) := by decide +kernel
theorem dX9_hangUp_23 : decode cX9_hangUp 23 = .ok (.aload_n 0, 1) := by decide +kernel
theorem dX9_hangUp_24 : decode cX9_hangUp 24 = .ok (.getfield 10, 3) := by decide +kernel
theorem dX9_hangUp_27 : decode cX9_hangUp 27 = .ok (.iload_n 1, 1) := by decide +kernel
theorem dX9_hangUp_28 : decode cX9_hangUp 28 = .ok (.iload_n 2, 1) := by decide +kernel
theorem dX9_hangUp_29 : decode cX9_hangUp 29 = .ok (.invokevirtual 284, 3) := by decide +kernel
theorem dX9_hangUp_32 : decode cX9_hangUp 32 = .ok (.istore_n 3, 1) := by decide +kernel
theorem dX9_hangUp_33 : decode cX9_hangUp 33 = .ok (.iload_n 3, 1) := by decide +kernel
theorem dX9_hangUp_34 : decode cX9_hangUp 34 = .ok (.bipush (-11), 2) := by decide +kernel
theorem dX9_hangUp_36 : decode cX9_hangUp 36 = .ok (.if_icmp .ne 13, 3) := by decide +kernel
theorem dX9_hangUp_39 : decode cX9_hangUp 39 = .ok (.aload_n 0, 1) := by decide +kernel
theorem dX9_hangUp_40 : decode cX9_hangUp 40 = .ok (.iconst 1, 1) := by decide +kernel
theorem dX9_hangUp_41 : decode cX9_hangUp 41 = .ok (.bipush 16, 2) := by decide +kernel
theorem dX9_hangUp_43 : decode cX9_hangUp 43 = .ok (.invokevirtual 286, 3) := by decide +kernel
theorem dX9_hangUp_46 : decode cX9_hangUp 46 = .ok (.goto 4, 3) := by decide +kernel
theorem dX9_hangUp_49 : decode cX9_hangUp 49 = .ok (.iload_n 3, 1) := by decide +kernel
theorem dX9_hangUp_50 : decode cX9_hangUp 50 = .ok (.ireturn, 1) := by decide +kernel
set_option maxRecDepth 20000 in
theorem ggX9_putWire_X2_isHung : GoodIn wsX9_putWire wsX2_isHung := goodIn_r _ [7, 8, 91, 92, 93, 94, 95, 96, 97, 98, 99, 100] (by decide +kernel) (by decide +kernel)
set_option maxRecDepth 20000 in
theorem gX9_putWire_X2_isHung : GoodIn wsX9_putWire (wsV RX9 91 RX2 yX2_isHung wsX2_isHung) := goodIn_app (goodIn_of _ (by decide +kernel)) ggX9_putWire_X2_isHung
set_option maxRecDepth 20000 in
theorem ggX9_putWire_X9_isPlace : GoodIn wsX9_putWire wsX9_isPlace := goodIn_r _ [12] (by decide +kernel) (by decide +kernel)
set_option maxRecDepth 20000 in
theorem gX9_putWire_X9_isPlace : GoodIn wsX9_putWire (va_wsS RX9 129 yX9_isPlace wsX9_isPlace) := goodIn_app (goodIn_of _ (by decide +kernel)) ggX9_putWire_X9_isPlace
set_option maxRecDepth 20000 in
theorem ggX9_putWire_X9_isPlaceRefused : GoodIn wsX9_putWire wsX9_isPlaceRefused := goodIn_r _ [16, 1, 17, 18, 19, 6, 20, 21, 22, 4, 5, 7, 8, 23, 24, 25, 11, 26, 2, 27, 28, 29, 30, 31, 32, 33, 34, 35, 36, 37, 38, 39, 40, 41, 82, 83, 84, 85, 86, 87, 88, 89, 90, 91, 92, 93, 94, 95, 96, 97, 98, 99, 100, 101, 102, 103] (by decide +kernel) (by decide +kernel)
set_option maxRecDepth 20000 in
theorem gX9_putWire_X9_isPlaceRefused : GoodIn wsX9_putWire (wsV RX9 289 RX9 yX9_isPlaceRefused wsX9_isPlaceRefused) := goodIn_app (goodIn_of _ (by decide +kernel)) ggX9_putWire_X9_isPlaceRefused
set_option maxRecDepth 20000 in
theorem ggX9_putWire_X2_sourceOf : GoodIn wsX9_putWire wsX2_sourceOf := goodIn_r _ [45, 46, 91, 92, 93, 94, 95, 96, 97, 98, 99, 100] (by decide +kernel) (by decide +kernel)
set_option maxRecDepth 20000 in
theorem gX9_putWire_X2_sourceOf : GoodIn wsX9_putWire (wsV RX9 132 RX2 yX2_sourceOf wsX2_sourceOf) := goodIn_app (goodIn_of _ (by decide +kernel)) ggX9_putWire_X2_sourceOf
set_option maxRecDepth 20000 in
theorem ggX9_putWire_X9_refuse : GoodIn wsX9_putWire wsX9_refuse := goodIn_r _ [26, 2, 27, 28, 29, 30, 31, 32, 33, 34, 82, 83, 84, 85, 86, 87, 88, 89, 90, 101, 102, 103] (by decide +kernel) (by decide +kernel)
set_option maxRecDepth 20000 in
theorem gX9_putWire_X9_refuse : GoodIn wsX9_putWire (wsV RX9 286 RX9 yX9_refuse wsX9_refuse) := goodIn_app (goodIn_of _ (by decide +kernel)) ggX9_putWire_X9_refuse
set_option maxRecDepth 20000 in
theorem ggX9_putWire_X2_areLoopsAllowed : GoodIn wsX9_putWire wsX2_areLoopsAllowed := goodIn_r _ [50, 51, 91, 92, 93, 94, 95, 96, 97, 98, 99, 100] (by decide +kernel) (by decide +kernel)
set_option maxRecDepth 20000 in
theorem gX9_putWire_X2_areLoopsAllowed : GoodIn wsX9_putWire (wsV RX9 245 RX2 yX2_areLoopsAllowed wsX2_areLoopsAllowed) := goodIn_app (goodIn_of _ (by decide +kernel)) ggX9_putWire_X2_areLoopsAllowed
set_option maxRecDepth 20000 in
theorem ggX9_putWire_X5_fewestWires : GoodIn wsX9_putWire wsX5_fewestWires := goodIn_r _ [55, 56, 11, 57, 58, 59, 54, 60, 61, 62, 63, 6, 64, 8, 65, 66, 67, 68, 46, 91, 92, 93, 94, 95, 96, 97, 98, 99, 100] (by decide +kernel) (by decide +kernel)
set_option maxRecDepth 20000 in
theorem gX9_putWire_X5_fewestWires : GoodIn wsX9_putWire (va_wsS RX9 292 yX5_fewestWires wsX5_fewestWires) := goodIn_app (goodIn_of _ (by decide +kernel)) ggX9_putWire_X5_fewestWires
set_option maxRecDepth 20000 in
theorem ggX9_putWire_X6_putBehind : GoodIn wsX9_putWire wsX6_putBehind := goodIn_r _ [72, 34, 32, 33, 101, 102, 103] (by decide +kernel) (by decide +kernel)
set_option maxRecDepth 20000 in
theorem gX9_putWire_X6_putBehind : GoodIn wsX9_putWire (wsV RX9 295 RX6 yX6_putBehind wsX6_putBehind) := goodIn_app (goodIn_of _ (by decide +kernel)) ggX9_putWire_X6_putBehind
set_option maxRecDepth 20000 in
theorem ggX9_putWire_X2_connect : GoodIn wsX9_putWire wsX2_connect := goodIn_r _ [76, 46, 22, 4, 5, 6, 7, 8, 10, 11, 12, 91, 92, 93, 94, 95, 96, 97, 98, 99, 100] (by decide +kernel) (by decide +kernel)
set_option maxRecDepth 20000 in
theorem gX9_putWire_X2_connect : GoodIn wsX9_putWire (wsV RX9 298 RX2 yX2_connect wsX2_connect) := goodIn_app (goodIn_of _ (by decide +kernel)) ggX9_putWire_X2_connect
set_option maxRecDepth 20000 in
theorem ggX9_putWire_X2_wiresTo : GoodIn wsX9_putWire wsX2_wiresTo := goodIn_r _ [80, 81, 43, 44, 6, 45, 46, 91, 92, 93, 94, 95, 96, 97, 98, 99, 100] (by decide +kernel) (by decide +kernel)
set_option maxRecDepth 20000 in
theorem gX9_putWire_X2_wiresTo : GoodIn wsX9_putWire (wsV RX9 104 RX2 yX2_wiresTo wsX2_wiresTo) := goodIn_app (goodIn_of _ (by decide +kernel)) ggX9_putWire_X2_wiresTo
theorem dX9_putWire_0 : decode cX9_putWire 0 = .ok (.aload_n 0, 1) := by decide +kernel
theorem dX9_putWire_1 : decode cX9_putWire 1 = .ok (.getfield 10, 3) := by decide +kernel
theorem dX9_putWire_4 : decode cX9_putWire 4 = .ok (.iload_n 1, 1) := by decide +kernel
theorem dX9_putWire_5 : decode cX9_putWire 5 = .ok (.invokevirtual 91, 3) := by decide +kernel
theorem dX9_putWire_8 : decode cX9_putWire 8 = .ok (.ifCond .eq 14, 3) := by decide +kernel
theorem dX9_putWire_11 : decode cX9_putWire 11 = .ok (.aload_n 0, 1) := by decide +kernel
theorem dX9_putWire_12 : decode cX9_putWire 12 = .ok (.getfield 10, 3) := by decide +kernel
theorem dX9_putWire_15 : decode cX9_putWire 15 = .ok (.iload_n 3, 1) := by decide +kernel
theorem dX9_putWire_16 : decode cX9_putWire 16 = .ok (.invokevirtual 91, 3) := by decide +kernel
theorem dX9_putWire_19 : decode cX9_putWire 19 = .ok (.ifCond .ne 6, 3) := by decide +kernel
theorem dX9_putWire_22 : decode cX9_putWire 22 = .ok (.bipush (-11), 2) := by decide +kernel
theorem dX9_putWire_24 : decode cX9_putWire 24 = .ok (.ireturn, 1) := by decide +kernel
theorem dX9_putWire_25 : decode cX9_putWire 25 = .ok (.iload_n 2, 1) := by decide +kernel
theorem dX9_putWire_26 : decode cX9_putWire 26 = .ok (.invokestatic 129, 3) := by decide +kernel
theorem dX9_putWire_29 : decode cX9_putWire 29 = .ok (.ifCond .ne 6, 3) := by decide +kernel
theorem dX9_putWire_32 : decode cX9_putWire 32 = .ok (.bipush (-12), 2) := by decide +kernel
theorem dX9_putWire_34 : decode cX9_putWire 34 = .ok (.ireturn, 1) := by decide +kernel
theorem dX9_putWire_35 : decode cX9_putWire 35 = .ok (.aload_n 0, 1) := by decide +kernel
theorem dX9_putWire_36 : decode cX9_putWire 36 = .ok (.iload_n 1, 1) := by decide +kernel
theorem dX9_putWire_37 : decode cX9_putWire 37 = .ok (.iload_n 2, 1) := by decide +kernel
theorem dX9_putWire_38 : decode cX9_putWire 38 = .ok (.invokevirtual 289, 3) := by decide +kernel
theorem dX9_putWire_41 : decode cX9_putWire 41 = .ok (.ifCond .eq 6, 3) := by decide +kernel
theorem dX9_putWire_44 : decode cX9_putWire 44 = .ok (.bipush (-14), 2) := by decide +kernel
theorem dX9_putWire_46 : decode cX9_putWire 46 = .ok (.ireturn, 1) := by decide +kernel
theorem dX9_putWire_47 : decode cX9_putWire 47 = .ok (.aload_n 0, 1) := by decide +kernel
theorem dX9_putWire_48 : decode cX9_putWire 48 = .ok (.getfield 10, 3) := by decide +kernel
theorem dX9_putWire_51 : decode cX9_putWire 51 = .ok (.iload_n 1, 1) := by decide +kernel
theorem dX9_putWire_52 : decode cX9_putWire 52 = .ok (.iload_n 2, 1) := by decide +kernel
theorem dX9_putWire_53 : decode cX9_putWire 53 = .ok (.invokevirtual 132, 3) := by decide +kernel
theorem dX9_putWire_56 : decode cX9_putWire 56 = .ok (.istore 4, 2) := by decide +kernel
theorem dX9_putWire_58 : decode cX9_putWire 58 = .ok (.iload 4, 2) := by decide +kernel
theorem dX9_putWire_60 : decode cX9_putWire 60 = .ok (.iconst (-1), 1) := by decide +kernel
theorem dX9_putWire_61 : decode cX9_putWire 61 = .ok (.if_icmp .eq 11, 3) := by decide +kernel
theorem dX9_putWire_64 : decode cX9_putWire 64 = .ok (.aload_n 0, 1) := by decide +kernel
theorem dX9_putWire_65 : decode cX9_putWire 65 = .ok (.iconst 4, 1) := by decide +kernel
theorem dX9_putWire_66 : decode cX9_putWire 66 = .ok (.iload 4, 2) := by decide +kernel
theorem dX9_putWire_68 : decode cX9_putWire 68 = .ok (.invokevirtual 286, 3) := by decide +kernel
theorem dX9_putWire_71 : decode cX9_putWire 71 = .ok (.ireturn, 1) := by decide +kernel
theorem dX9_putWire_72 : decode cX9_putWire 72 = .ok (.aload_n 0, 1) := by decide +kernel
theorem dX9_putWire_73 : decode cX9_putWire 73 = .ok (.getfield 10, 3) := by decide +kernel
theorem dX9_putWire_76 : decode cX9_putWire 76 = .ok (.invokevirtual 245, 3) := by decide +kernel
theorem dX9_putWire_79 : decode cX9_putWire 79 = .ok (.ifCond .eq 8, 3) := by decide +kernel
theorem dX9_putWire_82 : decode cX9_putWire 82 = .ok (.bipush (-15), 2) := by decide +kernel
theorem dX9_putWire_84 : decode cX9_putWire 84 = .ok (.goto 12, 3) := by decide +kernel
theorem dX9_putWire_87 : decode cX9_putWire 87 = .ok (.aload_n 0, 1) := by decide +kernel
theorem dX9_putWire_88 : decode cX9_putWire 88 = .ok (.getfield 10, 3) := by decide +kernel
theorem dX9_putWire_91 : decode cX9_putWire 91 = .ok (.iload_n 1, 1) := by decide +kernel
theorem dX9_putWire_92 : decode cX9_putWire 92 = .ok (.iload_n 3, 1) := by decide +kernel
theorem dX9_putWire_93 : decode cX9_putWire 93 = .ok (.invokestatic 292, 3) := by decide +kernel
theorem dX9_putWire_96 : decode cX9_putWire 96 = .ok (.istore 5, 2) := by decide +kernel
theorem dX9_putWire_98 : decode cX9_putWire 98 = .ok (.iload 5, 2) := by decide +kernel
theorem dX9_putWire_100 : decode cX9_putWire 100 = .ok (.ifCond .lt 27, 3) := by decide +kernel
theorem dX9_putWire_103 : decode cX9_putWire 103 = .ok (.aload_n 0, 1) := by decide +kernel
theorem dX9_putWire_104 : decode cX9_putWire 104 = .ok (.bipush 8, 2) := by decide +kernel
theorem dX9_putWire_106 : decode cX9_putWire 106 = .ok (.iload_n 3, 1) := by decide +kernel
theorem dX9_putWire_107 : decode cX9_putWire 107 = .ok (.invokevirtual 286, 3) := by decide +kernel
theorem dX9_putWire_110 : decode cX9_putWire 110 = .ok (.pop, 1) := by decide +kernel
theorem dX9_putWire_111 : decode cX9_putWire 111 = .ok (.aload_n 0, 1) := by decide +kernel
theorem dX9_putWire_112 : decode cX9_putWire 112 = .ok (.getfield 57, 3) := by decide +kernel
theorem dX9_putWire_115 : decode cX9_putWire 115 = .ok (.bipush 11, 2) := by decide +kernel
theorem dX9_putWire_117 : decode cX9_putWire 117 = .ok (.iload 5, 2) := by decide +kernel
theorem dX9_putWire_119 : decode cX9_putWire 119 = .ok (.iconst 1, 1) := by decide +kernel
theorem dX9_putWire_120 : decode cX9_putWire 120 = .ok (.iadd, 1) := by decide +kernel
theorem dX9_putWire_121 : decode cX9_putWire 121 = .ok (.invokevirtual 295, 3) := by decide +kernel
theorem dX9_putWire_124 : decode cX9_putWire 124 = .ok (.bipush (-14), 2) := by decide +kernel
theorem dX9_putWire_126 : decode cX9_putWire 126 = .ok (.ireturn, 1) := by decide +kernel
theorem dX9_putWire_127 : decode cX9_putWire 127 = .ok (.aload_n 0, 1) := by decide +kernel
theorem dX9_putWire_128 : decode cX9_putWire 128 = .ok (.getfield 10, 3) := by decide +kernel
theorem dX9_putWire_131 : decode cX9_putWire 131 = .ok (.iload_n 1, 1) := by decide +kernel
theorem dX9_putWire_132 : decode cX9_putWire 132 = .ok (.iload_n 2, 1) := by decide +kernel
theorem dX9_putWire_133 : decode cX9_putWire 133 = .ok (.iload_n 3, 1) := by decide +kernel
theorem dX9_putWire_134 : decode cX9_putWire 134 = .ok (.invokevirtual 298, 3) := by decide +kernel
theorem dX9_putWire_137 : decode cX9_putWire 137 = .ok (.aload_n 0, 1) := by decide +kernel
theorem dX9_putWire_138 : decode cX9_putWire 138 = .ok (.getfield 10, 3) := by decide +kernel
theorem dX9_putWire_141 : decode cX9_putWire 141 = .ok (.iload_n 1, 1) := by decide +kernel
theorem dX9_putWire_142 : decode cX9_putWire 142 = .ok (.invokevirtual 104, 3) := by decide +kernel
theorem dX9_putWire_145 : decode cX9_putWire 145 = .ok (.ireturn, 1) := by decide +kernel
set_option maxRecDepth 20000 in
theorem ggX9_cutWire_X2_isHung : GoodIn wsX9_cutWire wsX2_isHung := goodIn_r _ [6, 7, 60, 61, 62, 63, 64, 65, 66, 67, 68, 69] (by decide +kernel) (by decide +kernel)
set_option maxRecDepth 20000 in
theorem gX9_cutWire_X2_isHung : GoodIn wsX9_cutWire (wsV RX9 91 RX2 yX2_isHung wsX2_isHung) := goodIn_app (goodIn_of _ (by decide +kernel)) ggX9_cutWire_X2_isHung
set_option maxRecDepth 20000 in
theorem ggX9_cutWire_X9_isPlace : GoodIn wsX9_cutWire wsX9_isPlace := goodIn_r _ [11] (by decide +kernel) (by decide +kernel)
set_option maxRecDepth 20000 in
theorem gX9_cutWire_X9_isPlace : GoodIn wsX9_cutWire (va_wsS RX9 129 yX9_isPlace wsX9_isPlace) := goodIn_app (goodIn_of _ (by decide +kernel)) ggX9_cutWire_X9_isPlace
set_option maxRecDepth 20000 in
theorem ggX9_cutWire_X9_isPlaceRefused : GoodIn wsX9_cutWire wsX9_isPlaceRefused := goodIn_r _ [15, 1, 16, 17, 18, 5, 19, 20, 21, 3, 4, 6, 7, 22, 23, 24, 10, 25, 26, 27, 28, 29, 30, 31, 32, 33, 34, 35, 36, 37, 38, 39, 40, 41, 51, 52, 53, 54, 55, 56, 57, 58, 59, 60, 61, 62, 63, 64, 65, 66, 67, 68, 69, 70, 71, 72] (by decide +kernel) (by decide +kernel)
set_option maxRecDepth 20000 in
theorem gX9_cutWire_X9_isPlaceRefused : GoodIn wsX9_cutWire (wsV RX9 289 RX9 yX9_isPlaceRefused wsX9_isPlaceRefused) := goodIn_app (goodIn_of _ (by decide +kernel)) ggX9_cutWire_X9_isPlaceRefused
set_option maxRecDepth 20000 in
theorem ggX9_cutWire_X2_sourceOf : GoodIn wsX9_cutWire wsX2_sourceOf := goodIn_r _ [45, 46, 60, 61, 62, 63, 64, 65, 66, 67, 68, 69] (by decide +kernel) (by decide +kernel)
set_option maxRecDepth 20000 in
theorem gX9_cutWire_X2_sourceOf : GoodIn wsX9_cutWire (wsV RX9 132 RX2 yX2_sourceOf wsX2_sourceOf) := goodIn_app (goodIn_of _ (by decide +kernel)) ggX9_cutWire_X2_sourceOf
set_option maxRecDepth 20000 in
theorem ggX9_cutWire_X9_refuse : GoodIn wsX9_cutWire wsX9_refuse := goodIn_r _ [25, 26, 27, 28, 29, 30, 31, 32, 33, 34, 51, 52, 53, 54, 55, 56, 57, 58, 59, 70, 71, 72] (by decide +kernel) (by decide +kernel)
set_option maxRecDepth 20000 in
theorem gX9_cutWire_X9_refuse : GoodIn wsX9_cutWire (wsV RX9 286 RX9 yX9_refuse wsX9_refuse) := goodIn_app (goodIn_of _ (by decide +kernel)) ggX9_cutWire_X9_refuse
set_option maxRecDepth 20000 in
theorem ggX9_cutWire_X2_connect : GoodIn wsX9_cutWire wsX2_connect := goodIn_r _ [50, 46, 21, 3, 4, 5, 6, 7, 9, 10, 11, 60, 61, 62, 63, 64, 65, 66, 67, 68, 69] (by decide +kernel) (by decide +kernel)
set_option maxRecDepth 20000 in
theorem gX9_cutWire_X2_connect : GoodIn wsX9_cutWire (wsV RX9 298 RX2 yX2_connect wsX2_connect) := goodIn_app (goodIn_of _ (by decide +kernel)) ggX9_cutWire_X2_connect
theorem dX9_cutWire_0 : decode cX9_cutWire 0 = .ok (.aload_n 0, 1) := by decide +kernel
theorem dX9_cutWire_1 : decode cX9_cutWire 1 = .ok (.getfield 10, 3) := by decide +kernel
theorem dX9_cutWire_4 : decode cX9_cutWire 4 = .ok (.iload_n 1, 1) := by decide +kernel
theorem dX9_cutWire_5 : decode cX9_cutWire 5 = .ok (.invokevirtual 91, 3) := by decide +kernel
theorem dX9_cutWire_8 : decode cX9_cutWire 8 = .ok (.ifCond .ne 6, 3) := by decide +kernel
theorem dX9_cutWire_11 : decode cX9_cutWire 11 = .ok (.bipush (-11), 2) := by decide +kernel
theorem dX9_cutWire_13 : decode cX9_cutWire 13 = .ok (.ireturn, 1) := by decide +kernel
theorem dX9_cutWire_14 : decode cX9_cutWire 14 = .ok (.iload_n 2, 1) := by decide +kernel
theorem dX9_cutWire_15 : decode cX9_cutWire 15 = .ok (.invokestatic 129, 3) := by decide +kernel
theorem dX9_cutWire_18 : decode cX9_cutWire 18 = .ok (.ifCond .ne 6, 3) := by decide +kernel
theorem dX9_cutWire_21 : decode cX9_cutWire 21 = .ok (.bipush (-12), 2) := by decide +kernel
theorem dX9_cutWire_23 : decode cX9_cutWire 23 = .ok (.ireturn, 1) := by decide +kernel
theorem dX9_cutWire_24 : decode cX9_cutWire 24 = .ok (.aload_n 0, 1) := by decide +kernel
theorem dX9_cutWire_25 : decode cX9_cutWire 25 = .ok (.iload_n 1, 1) := by decide +kernel
theorem dX9_cutWire_26 : decode cX9_cutWire 26 = .ok (.iload_n 2, 1) := by decide +kernel
theorem dX9_cutWire_27 : decode cX9_cutWire 27 = .ok (.invokevirtual 289, 3) := by decide +kernel
theorem dX9_cutWire_30 : decode cX9_cutWire 30 = .ok (.ifCond .eq 6, 3) := by decide +kernel
theorem dX9_cutWire_33 : decode cX9_cutWire 33 = .ok (.bipush (-14), 2) := by decide +kernel
theorem dX9_cutWire_35 : decode cX9_cutWire 35 = .ok (.ireturn, 1) := by decide +kernel
theorem dX9_cutWire_36 : decode cX9_cutWire 36 = .ok (.aload_n 0, 1) := by decide +kernel
theorem dX9_cutWire_37 : decode cX9_cutWire 37 = .ok (.getfield 10, 3) := by decide +kernel
theorem dX9_cutWire_40 : decode cX9_cutWire 40 = .ok (.iload_n 1, 1) := by decide +kernel
theorem dX9_cutWire_41 : decode cX9_cutWire 41 = .ok (.iload_n 2, 1) := by decide +kernel
theorem dX9_cutWire_42 : decode cX9_cutWire 42 = .ok (.invokevirtual 132, 3) := by decide +kernel
theorem dX9_cutWire_45 : decode cX9_cutWire 45 = .ok (.istore_n 3, 1) := by decide +kernel
theorem dX9_cutWire_46 : decode cX9_cutWire 46 = .ok (.iload_n 3, 1) := by decide +kernel
theorem dX9_cutWire_47 : decode cX9_cutWire 47 = .ok (.iconst (-1), 1) := by decide +kernel
theorem dX9_cutWire_48 : decode cX9_cutWire 48 = .ok (.if_icmp .ne 10, 3) := by decide +kernel
theorem dX9_cutWire_51 : decode cX9_cutWire 51 = .ok (.aload_n 0, 1) := by decide +kernel
theorem dX9_cutWire_52 : decode cX9_cutWire 52 = .ok (.iconst 5, 1) := by decide +kernel
theorem dX9_cutWire_53 : decode cX9_cutWire 53 = .ok (.iload_n 2, 1) := by decide +kernel
theorem dX9_cutWire_54 : decode cX9_cutWire 54 = .ok (.invokevirtual 286, 3) := by decide +kernel
theorem dX9_cutWire_57 : decode cX9_cutWire 57 = .ok (.ireturn, 1) := by decide +kernel
theorem dX9_cutWire_58 : decode cX9_cutWire 58 = .ok (.aload_n 0, 1) := by decide +kernel
theorem dX9_cutWire_59 : decode cX9_cutWire 59 = .ok (.getfield 10, 3) := by decide +kernel
theorem dX9_cutWire_62 : decode cX9_cutWire 62 = .ok (.iload_n 1, 1) := by decide +kernel
theorem dX9_cutWire_63 : decode cX9_cutWire 63 = .ok (.iload_n 2, 1) := by decide +kernel
theorem dX9_cutWire_64 : decode cX9_cutWire 64 = .ok (.iconst (-1), 1) := by decide +kernel
theorem dX9_cutWire_65 : decode cX9_cutWire 65 = .ok (.invokevirtual 298, 3) := by decide +kernel
theorem dX9_cutWire_68 : decode cX9_cutWire 68 = .ok (.iload_n 3, 1) := by decide +kernel
theorem dX9_cutWire_69 : decode cX9_cutWire 69 = .ok (.ireturn, 1) := by decide +kernel
set_option maxRecDepth 20000 in
theorem ggX9_isPlaceRefused_X2_isSwitch : GoodIn wsX9_isPlaceRefused wsX2_isSwitch := goodIn_r _ [6, 7, 8, 9, 10, 5, 11, 12, 43, 44, 45, 46, 47, 48, 49, 50, 51, 52] (by decide +kernel) (by decide +kernel)
set_option maxRecDepth 20000 in
theorem gX9_isPlaceRefused_X2_isSwitch : GoodIn wsX9_isPlaceRefused (wsV RX9 160 RX2 yX2_isSwitch wsX2_isSwitch) := goodIn_app (goodIn_of _ (by decide +kernel)) ggX9_isPlaceRefused_X2_isSwitch
set_option maxRecDepth 20000 in
theorem ggX9_isPlaceRefused_X9_refuse : GoodIn wsX9_isPlaceRefused wsX9_refuse := goodIn_r _ [17, 18, 19, 20, 21, 22, 23, 24, 25, 26, 34, 35, 36, 37, 38, 39, 40, 41, 42, 53, 54, 55] (by decide +kernel) (by decide +kernel)
set_option maxRecDepth 20000 in
theorem gX9_isPlaceRefused_X9_refuse : GoodIn wsX9_isPlaceRefused (wsV RX9 286 RX9 yX9_refuse wsX9_refuse) := goodIn_app (goodIn_of _ (by decide +kernel)) ggX9_isPlaceRefused_X9_refuse
set_option maxRecDepth 20000 in
theorem ggX9_isPlaceRefused_X2_kindOf : GoodIn wsX9_isPlaceRefused wsX2_kindOf := goodIn_r _ [30, 7, 8, 9, 10, 5, 11, 12, 43, 44, 45, 46, 47, 48, 49, 50, 51, 52] (by decide +kernel) (by decide +kernel)
set_option maxRecDepth 20000 in
theorem gX9_isPlaceRefused_X2_kindOf : GoodIn wsX9_isPlaceRefused (wsV RX9 95 RX2 yX2_kindOf wsX2_kindOf) := goodIn_app (goodIn_of _ (by decide +kernel)) ggX9_isPlaceRefused_X2_kindOf
set_option maxRecDepth 20000 in
theorem ggX9_isPlaceRefused_X9_placesOf : GoodIn wsX9_isPlaceRefused wsX9_placesOf := goodIn_r _ [33] (by decide +kernel) (by decide +kernel)
set_option maxRecDepth 20000 in
theorem gX9_isPlaceRefused_X9_placesOf : GoodIn wsX9_isPlaceRefused (va_wsS RX9 302 yX9_placesOf wsX9_placesOf) := goodIn_app (goodIn_of _ (by decide +kernel)) ggX9_isPlaceRefused_X9_placesOf
theorem dX9_isPlaceRefused_0 : decode cX9_isPlaceRefused 0 = .ok (.aload_n 0, 1) := by decide +kernel
theorem dX9_isPlaceRefused_1 : decode cX9_isPlaceRefused 1 = .ok (.getfield 10, 3) := by decide +kernel
theorem dX9_isPlaceRefused_4 : decode cX9_isPlaceRefused 4 = .ok (.iload_n 1, 1) := by decide +kernel
theorem dX9_isPlaceRefused_5 : decode cX9_isPlaceRefused 5 = .ok (.invokevirtual 160, 3) := by decide +kernel
theorem dX9_isPlaceRefused_8 : decode cX9_isPlaceRefused 8 = .ok (.ifCond .eq 12, 3) := by decide +kernel
theorem dX9_isPlaceRefused_11 : decode cX9_isPlaceRefused 11 = .ok (.aload_n 0, 1) := by decide +kernel
theorem dX9_isPlaceRefused_12 : decode cX9_isPlaceRefused 12 = .ok (.iconst 2, 1) := by decide +kernel
theorem dX9_isPlaceRefused_13 : decode cX9_isPlaceRefused 13 = .ok (.iload_n 1, 1) := by decide +kernel
theorem dX9_isPlaceRefused_14 : decode cX9_isPlaceRefused 14 = .ok (.invokevirtual 286, 3) := by decide +kernel
theorem dX9_isPlaceRefused_17 : decode cX9_isPlaceRefused 17 = .ok (.pop, 1) := by decide +kernel
theorem dX9_isPlaceRefused_18 : decode cX9_isPlaceRefused 18 = .ok (.iconst 1, 1) := by decide +kernel
theorem dX9_isPlaceRefused_19 : decode cX9_isPlaceRefused 19 = .ok (.ireturn, 1) := by decide +kernel
theorem dX9_isPlaceRefused_20 : decode cX9_isPlaceRefused 20 = .ok (.aload_n 0, 1) := by decide +kernel
theorem dX9_isPlaceRefused_21 : decode cX9_isPlaceRefused 21 = .ok (.getfield 10, 3) := by decide +kernel
theorem dX9_isPlaceRefused_24 : decode cX9_isPlaceRefused 24 = .ok (.iload_n 1, 1) := by decide +kernel
theorem dX9_isPlaceRefused_25 : decode cX9_isPlaceRefused 25 = .ok (.invokevirtual 95, 3) := by decide +kernel
theorem dX9_isPlaceRefused_28 : decode cX9_isPlaceRefused 28 = .ok (.invokestatic 302, 3) := by decide +kernel
theorem dX9_isPlaceRefused_31 : decode cX9_isPlaceRefused 31 = .ok (.istore_n 3, 1) := by decide +kernel
theorem dX9_isPlaceRefused_32 : decode cX9_isPlaceRefused 32 = .ok (.iload_n 2, 1) := by decide +kernel
theorem dX9_isPlaceRefused_33 : decode cX9_isPlaceRefused 33 = .ok (.iload_n 3, 1) := by decide +kernel
theorem dX9_isPlaceRefused_34 : decode cX9_isPlaceRefused 34 = .ok (.if_icmp .lt 12, 3) := by decide +kernel
theorem dX9_isPlaceRefused_37 : decode cX9_isPlaceRefused 37 = .ok (.aload_n 0, 1) := by decide +kernel
theorem dX9_isPlaceRefused_38 : decode cX9_isPlaceRefused 38 = .ok (.iconst 3, 1) := by decide +kernel
theorem dX9_isPlaceRefused_39 : decode cX9_isPlaceRefused 39 = .ok (.iload_n 3, 1) := by decide +kernel
theorem dX9_isPlaceRefused_40 : decode cX9_isPlaceRefused 40 = .ok (.invokevirtual 286, 3) := by decide +kernel
theorem dX9_isPlaceRefused_43 : decode cX9_isPlaceRefused 43 = .ok (.pop, 1) := by decide +kernel
theorem dX9_isPlaceRefused_44 : decode cX9_isPlaceRefused 44 = .ok (.iconst 1, 1) := by decide +kernel
theorem dX9_isPlaceRefused_45 : decode cX9_isPlaceRefused 45 = .ok (.ireturn, 1) := by decide +kernel
theorem dX9_isPlaceRefused_46 : decode cX9_isPlaceRefused 46 = .ok (.iconst 0, 1) := by decide +kernel
theorem dX9_isPlaceRefused_47 : decode cX9_isPlaceRefused 47 = .ok (.ireturn, 1) := by decide +kernel
set_option maxRecDepth 20000 in
theorem ggX9_setSwitch_X2_isHung : GoodIn wsX9_setSwitch wsX2_isHung := goodIn_r _ [6, 7, 70, 71, 72, 73, 74, 75, 76, 77, 78, 79] (by decide +kernel) (by decide +kernel)
set_option maxRecDepth 20000 in
theorem gX9_setSwitch_X2_isHung : GoodIn wsX9_setSwitch (wsV RX9 91 RX2 yX2_isHung wsX2_isHung) := goodIn_app (goodIn_of _ (by decide +kernel)) ggX9_setSwitch_X2_isHung
set_option maxRecDepth 20000 in
theorem ggX9_setSwitch_X2_isSwitch : GoodIn wsX9_setSwitch wsX2_isSwitch := goodIn_r _ [11, 12, 13, 3, 4, 5, 6, 7, 70, 71, 72, 73, 74, 75, 76, 77, 78, 79] (by decide +kernel) (by decide +kernel)
set_option maxRecDepth 20000 in
theorem gX9_setSwitch_X2_isSwitch : GoodIn wsX9_setSwitch (wsV RX9 160 RX2 yX2_isSwitch wsX2_isSwitch) := goodIn_app (goodIn_of _ (by decide +kernel)) ggX9_setSwitch_X2_isSwitch
set_option maxRecDepth 20000 in
theorem ggX9_setSwitch_X2_kindOf : GoodIn wsX9_setSwitch wsX2_kindOf := goodIn_r _ [17, 12, 13, 3, 4, 5, 6, 7, 70, 71, 72, 73, 74, 75, 76, 77, 78, 79] (by decide +kernel) (by decide +kernel)
set_option maxRecDepth 20000 in
theorem gX9_setSwitch_X2_kindOf : GoodIn wsX9_setSwitch (wsV RX9 95 RX2 yX2_kindOf wsX2_kindOf) := goodIn_app (goodIn_of _ (by decide +kernel)) ggX9_setSwitch_X2_kindOf
set_option maxRecDepth 20000 in
theorem ggX9_setSwitch_X9_refuse : GoodIn wsX9_setSwitch wsX9_refuse := goodIn_r _ [22, 23, 24, 25, 26, 27, 28, 29, 30, 31, 61, 62, 63, 64, 65, 66, 67, 68, 69, 80, 81, 82] (by decide +kernel) (by decide +kernel)
set_option maxRecDepth 20000 in
theorem gX9_setSwitch_X9_refuse : GoodIn wsX9_setSwitch (wsV RX9 286 RX9 yX9_refuse wsX9_refuse) := goodIn_app (goodIn_of _ (by decide +kernel)) ggX9_setSwitch_X9_refuse
set_option maxRecDepth 20000 in
theorem ggX9_setSwitch_X2_isGlowing : GoodIn wsX9_setSwitch wsX2_isGlowing := goodIn_r _ [35, 36, 37, 38, 5, 39, 40, 41, 42, 43, 44, 45, 21, 46, 70, 71, 72, 73, 74, 75, 76, 77, 78, 79] (by decide +kernel) (by decide +kernel)
set_option maxRecDepth 20000 in
theorem gX9_setSwitch_X2_isGlowing : GoodIn wsX9_setSwitch (wsV RX9 101 RX2 yX2_isGlowing wsX2_isGlowing) := goodIn_app (goodIn_of _ (by decide +kernel)) ggX9_setSwitch_X2_isGlowing
set_option maxRecDepth 20000 in
theorem ggX9_setSwitch_X2_turn : GoodIn wsX9_setSwitch wsX2_turn := goodIn_r _ [50, 40, 51, 52, 13, 3, 4, 5, 6, 7, 70, 71, 72, 73, 74, 75, 76, 77, 78, 79] (by decide +kernel) (by decide +kernel)
set_option maxRecDepth 20000 in
theorem gX9_setSwitch_X2_turn : GoodIn wsX9_setSwitch (wsV RX9 305 RX2 yX2_turn wsX2_turn) := goodIn_app (goodIn_of _ (by decide +kernel)) ggX9_setSwitch_X2_turn
set_option maxRecDepth 20000 in
theorem ggX9_setSwitch_X2_glow : GoodIn wsX9_setSwitch wsX2_glow := goodIn_r _ [39, 40, 41, 42, 5, 43, 44, 70, 71, 72, 73, 74, 75, 76, 77, 78, 79] (by decide +kernel) (by decide +kernel)
set_option maxRecDepth 20000 in
theorem gX9_setSwitch_X2_glow : GoodIn wsX9_setSwitch (wsV RX9 113 RX2 yX2_glow wsX2_glow) := goodIn_app (goodIn_of _ (by decide +kernel)) ggX9_setSwitch_X2_glow
set_option maxRecDepth 20000 in
theorem ggX9_setSwitch_J6_bitCount_0f7a4 : GoodIn wsX9_setSwitch wsJ6_bitCount_0f7a4 := goodIn_r _ [57, 58, 59, 60] (by decide +kernel) (by decide +kernel)
set_option maxRecDepth 20000 in
theorem gX9_setSwitch_J6_bitCount_0f7a4 : GoodIn wsX9_setSwitch (va_wsS RX9 237 yJ6_bitCount_0f7a4 wsJ6_bitCount_0f7a4) := goodIn_app (goodIn_of _ (by decide +kernel)) ggX9_setSwitch_J6_bitCount_0f7a4
theorem dX9_setSwitch_0 : decode cX9_setSwitch 0 = .ok (.aload_n 0, 1) := by decide +kernel
theorem dX9_setSwitch_1 : decode cX9_setSwitch 1 = .ok (.getfield 10, 3) := by decide +kernel
theorem dX9_setSwitch_4 : decode cX9_setSwitch 4 = .ok (.iload_n 1, 1) := by decide +kernel
theorem dX9_setSwitch_5 : decode cX9_setSwitch 5 = .ok (.invokevirtual 91, 3) := by decide +kernel
theorem dX9_setSwitch_8 : decode cX9_setSwitch 8 = .ok (.ifCond .ne 6, 3) := by decide +kernel
theorem dX9_setSwitch_11 : decode cX9_setSwitch 11 = .ok (.bipush (-11), 2) := by decide +kernel
theorem dX9_setSwitch_13 : decode cX9_setSwitch 13 = .ok (.ireturn, 1) := by decide +kernel
theorem dX9_setSwitch_14 : decode cX9_setSwitch 14 = .ok (.aload_n 0, 1) := by decide +kernel
theorem dX9_setSwitch_15 : decode cX9_setSwitch 15 = .ok (.getfield 10, 3) := by decide +kernel
theorem dX9_setSwitch_18 : decode cX9_setSwitch 18 = .ok (.iload_n 1, 1) := by decide +kernel
theorem dX9_setSwitch_19 : decode cX9_setSwitch 19 = .ok (.invokevirtual 160, 3) := by decide +kernel
theorem dX9_setSwitch_22 : decode cX9_setSwitch 22 = .ok (.ifCond .ne 18, 3) := by decide +kernel
theorem dX9_setSwitch_25 : decode cX9_setSwitch 25 = .ok (.aload_n 0, 1) := by decide +kernel
theorem dX9_setSwitch_26 : decode cX9_setSwitch 26 = .ok (.bipush 6, 2) := by decide +kernel
theorem dX9_setSwitch_28 : decode cX9_setSwitch 28 = .ok (.aload_n 0, 1) := by decide +kernel
theorem dX9_setSwitch_29 : decode cX9_setSwitch 29 = .ok (.getfield 10, 3) := by decide +kernel
theorem dX9_setSwitch_32 : decode cX9_setSwitch 32 = .ok (.iload_n 1, 1) := by decide +kernel
theorem dX9_setSwitch_33 : decode cX9_setSwitch 33 = .ok (.invokevirtual 95, 3) := by decide +kernel
theorem dX9_setSwitch_36 : decode cX9_setSwitch 36 = .ok (.invokevirtual 286, 3) := by decide +kernel
theorem dX9_setSwitch_39 : decode cX9_setSwitch 39 = .ok (.ireturn, 1) := by decide +kernel
theorem dX9_setSwitch_40 : decode cX9_setSwitch 40 = .ok (.aload_n 0, 1) := by decide +kernel
theorem dX9_setSwitch_41 : decode cX9_setSwitch 41 = .ok (.getfield 10, 3) := by decide +kernel
theorem dX9_setSwitch_44 : decode cX9_setSwitch 44 = .ok (.iload_n 1, 1) := by decide +kernel
theorem dX9_setSwitch_45 : decode cX9_setSwitch 45 = .ok (.invokevirtual 101, 3) := by decide +kernel
theorem dX9_setSwitch_48 : decode cX9_setSwitch 48 = .ok (.iload_n 2, 1) := by decide +kernel
theorem dX9_setSwitch_49 : decode cX9_setSwitch 49 = .ok (.if_icmp .ne 11, 3) := by decide +kernel
theorem dX9_setSwitch_52 : decode cX9_setSwitch 52 = .ok (.aload_n 0, 1) := by decide +kernel
theorem dX9_setSwitch_53 : decode cX9_setSwitch 53 = .ok (.bipush 7, 2) := by decide +kernel
theorem dX9_setSwitch_55 : decode cX9_setSwitch 55 = .ok (.iload_n 1, 1) := by decide +kernel
theorem dX9_setSwitch_56 : decode cX9_setSwitch 56 = .ok (.invokevirtual 286, 3) := by decide +kernel
theorem dX9_setSwitch_59 : decode cX9_setSwitch 59 = .ok (.ireturn, 1) := by decide +kernel
theorem dX9_setSwitch_60 : decode cX9_setSwitch 60 = .ok (.aload_n 0, 1) := by decide +kernel
theorem dX9_setSwitch_61 : decode cX9_setSwitch 61 = .ok (.getfield 10, 3) := by decide +kernel
theorem dX9_setSwitch_64 : decode cX9_setSwitch 64 = .ok (.iload_n 1, 1) := by decide +kernel
theorem dX9_setSwitch_65 : decode cX9_setSwitch 65 = .ok (.invokevirtual 305, 3) := by decide +kernel
theorem dX9_setSwitch_68 : decode cX9_setSwitch 68 = .ok (.aload_n 0, 1) := by decide +kernel
theorem dX9_setSwitch_69 : decode cX9_setSwitch 69 = .ok (.getfield 10, 3) := by decide +kernel
theorem dX9_setSwitch_72 : decode cX9_setSwitch 72 = .ok (.invokevirtual 113, 3) := by decide +kernel
theorem dX9_setSwitch_75 : decode cX9_setSwitch 75 = .ok (.invokestatic 237, 3) := by decide +kernel
theorem dX9_setSwitch_78 : decode cX9_setSwitch 78 = .ok (.ireturn, 1) := by decide +kernel
set_option maxRecDepth 20000 in
theorem ggX9_allowLoops_X5_inLoops : GoodIn wsX9_allowLoops wsX5_inLoops := goodIn_r _ [6, 7, 8, 9, 10, 11, 12, 13, 14, 5, 15, 16, 17, 18, 19, 20, 21, 22, 23, 24, 25, 26, 72, 73, 74, 75, 76, 77, 78, 79, 80, 81] (by decide +kernel) (by decide +kernel)
set_option maxRecDepth 20000 in
theorem gX9_allowLoops_X5_inLoops : GoodIn wsX9_allowLoops (va_wsS RX9 141 yX5_inLoops wsX5_inLoops) := goodIn_app (goodIn_of _ (by decide +kernel)) ggX9_allowLoops_X5_inLoops
set_option maxRecDepth 20000 in
theorem ggX9_allowLoops_X9_lowestIn : GoodIn wsX9_allowLoops wsX9_lowestIn := goodIn_r _ [29, 30, 24, 25, 26] (by decide +kernel) (by decide +kernel)
set_option maxRecDepth 20000 in
theorem gX9_allowLoops_X9_lowestIn : GoodIn wsX9_allowLoops (va_wsS RX9 308 yX9_lowestIn wsX9_lowestIn) := goodIn_app (goodIn_of _ (by decide +kernel)) ggX9_allowLoops_X9_lowestIn
set_option maxRecDepth 20000 in
theorem ggX9_allowLoops_X9_refuse : GoodIn wsX9_allowLoops wsX9_refuse := goodIn_r _ [34, 2, 35, 36, 37, 38, 39, 40, 41, 42, 63, 64, 65, 66, 67, 68, 69, 70, 71, 82, 83, 84] (by decide +kernel) (by decide +kernel)
set_option maxRecDepth 20000 in
theorem gX9_allowLoops_X9_refuse : GoodIn wsX9_allowLoops (wsV RX9 286 RX9 yX9_refuse wsX9_refuse) := goodIn_app (goodIn_of _ (by decide +kernel)) ggX9_allowLoops_X9_refuse
set_option maxRecDepth 20000 in
theorem ggX9_allowLoops_J6_bitCount_0f7a4 : GoodIn wsX9_allowLoops wsJ6_bitCount_0f7a4 := goodIn_r _ [46, 47, 48, 49] (by decide +kernel) (by decide +kernel)
set_option maxRecDepth 20000 in
theorem gX9_allowLoops_J6_bitCount_0f7a4 : GoodIn wsX9_allowLoops (va_wsS RX9 237 yJ6_bitCount_0f7a4 wsJ6_bitCount_0f7a4) := goodIn_app (goodIn_of _ (by decide +kernel)) ggX9_allowLoops_J6_bitCount_0f7a4
set_option maxRecDepth 20000 in
theorem ggX9_allowLoops_X6_putBehind : GoodIn wsX9_allowLoops wsX6_putBehind := goodIn_r _ [53, 42, 40, 41, 82, 83, 84] (by decide +kernel) (by decide +kernel)
set_option maxRecDepth 20000 in
theorem gX9_allowLoops_X6_putBehind : GoodIn wsX9_allowLoops (wsV RX9 295 RX6 yX6_putBehind wsX6_putBehind) := goodIn_app (goodIn_of _ (by decide +kernel)) ggX9_allowLoops_X6_putBehind
set_option maxRecDepth 20000 in
theorem ggX9_allowLoops_X2_areLoopsAllowed : GoodIn wsX9_allowLoops wsX2_areLoopsAllowed := goodIn_r _ [57, 58, 72, 73, 74, 75, 76, 77, 78, 79, 80, 81] (by decide +kernel) (by decide +kernel)
set_option maxRecDepth 20000 in
theorem gX9_allowLoops_X2_areLoopsAllowed : GoodIn wsX9_allowLoops (wsV RX9 245 RX2 yX2_areLoopsAllowed wsX2_areLoopsAllowed) := goodIn_app (goodIn_of _ (by decide +kernel)) ggX9_allowLoops_X2_areLoopsAllowed
set_option maxRecDepth 20000 in
theorem ggX9_allowLoops_X2_allowLoops : GoodIn wsX9_allowLoops wsX2_allowLoops := goodIn_r _ [62, 58, 72, 73, 74, 75, 76, 77, 78, 79, 80, 81] (by decide +kernel) (by decide +kernel)
set_option maxRecDepth 20000 in
theorem gX9_allowLoops_X2_allowLoops : GoodIn wsX9_allowLoops (wsV RX9 311 RX2 yX2_allowLoops wsX2_allowLoops) := goodIn_app (goodIn_of _ (by decide +kernel)) ggX9_allowLoops_X2_allowLoops
theorem dX9_allowLoops_0 : decode cX9_allowLoops 0 = .ok (.iload_n 1, 1) := by decide +kernel
theorem dX9_allowLoops_1 : decode cX9_allowLoops 1 = .ok (.ifCond .eq 7, 3) := by decide +kernel
theorem dX9_allowLoops_4 : decode cX9_allowLoops 4 = .ok (.iconst 0, 1) := by decide +kernel
theorem dX9_allowLoops_5 : decode cX9_allowLoops 5 = .ok (.goto 10, 3) := by decide +kernel
theorem dX9_allowLoops_8 : decode cX9_allowLoops 8 = .ok (.aload_n 0, 1) := by decide +kernel
theorem dX9_allowLoops_9 : decode cX9_allowLoops 9 = .ok (.getfield 10, 3) := by decide +kernel
theorem dX9_allowLoops_12 : decode cX9_allowLoops 12 = .ok (.invokestatic 141, 3) := by decide +kernel
theorem dX9_allowLoops_15 : decode cX9_allowLoops 15 = .ok (.istore_n 2, 1) := by decide +kernel
theorem dX9_allowLoops_16 : decode cX9_allowLoops 16 = .ok (.iload_n 2, 1) := by decide +kernel
theorem dX9_allowLoops_17 : decode cX9_allowLoops 17 = .ok (.ifCond .eq 30, 3) := by decide +kernel
theorem dX9_allowLoops_20 : decode cX9_allowLoops 20 = .ok (.aload_n 0, 1) := by decide +kernel
theorem dX9_allowLoops_21 : decode cX9_allowLoops 21 = .ok (.bipush 9, 2) := by decide +kernel
theorem dX9_allowLoops_23 : decode cX9_allowLoops 23 = .ok (.iload_n 2, 1) := by decide +kernel
theorem dX9_allowLoops_24 : decode cX9_allowLoops 24 = .ok (.invokestatic 308, 3) := by decide +kernel
theorem dX9_allowLoops_27 : decode cX9_allowLoops 27 = .ok (.invokevirtual 286, 3) := by decide +kernel
theorem dX9_allowLoops_30 : decode cX9_allowLoops 30 = .ok (.pop, 1) := by decide +kernel
theorem dX9_allowLoops_31 : decode cX9_allowLoops 31 = .ok (.aload_n 0, 1) := by decide +kernel
theorem dX9_allowLoops_32 : decode cX9_allowLoops 32 = .ok (.getfield 57, 3) := by decide +kernel
theorem dX9_allowLoops_35 : decode cX9_allowLoops 35 = .ok (.bipush 12, 2) := by decide +kernel
theorem dX9_allowLoops_37 : decode cX9_allowLoops 37 = .ok (.iload_n 2, 1) := by decide +kernel
theorem dX9_allowLoops_38 : decode cX9_allowLoops 38 = .ok (.invokestatic 237, 3) := by decide +kernel
theorem dX9_allowLoops_41 : decode cX9_allowLoops 41 = .ok (.invokevirtual 295, 3) := by decide +kernel
theorem dX9_allowLoops_44 : decode cX9_allowLoops 44 = .ok (.bipush (-14), 2) := by decide +kernel
theorem dX9_allowLoops_46 : decode cX9_allowLoops 46 = .ok (.ireturn, 1) := by decide +kernel
theorem dX9_allowLoops_47 : decode cX9_allowLoops 47 = .ok (.aload_n 0, 1) := by decide +kernel
theorem dX9_allowLoops_48 : decode cX9_allowLoops 48 = .ok (.getfield 10, 3) := by decide +kernel
theorem dX9_allowLoops_51 : decode cX9_allowLoops 51 = .ok (.invokevirtual 245, 3) := by decide +kernel
theorem dX9_allowLoops_54 : decode cX9_allowLoops 54 = .ok (.ifCond .eq 7, 3) := by decide +kernel
theorem dX9_allowLoops_57 : decode cX9_allowLoops 57 = .ok (.iconst 1, 1) := by decide +kernel
theorem dX9_allowLoops_58 : decode cX9_allowLoops 58 = .ok (.goto 4, 3) := by decide +kernel
theorem dX9_allowLoops_61 : decode cX9_allowLoops 61 = .ok (.iconst 0, 1) := by decide +kernel
theorem dX9_allowLoops_62 : decode cX9_allowLoops 62 = .ok (.istore_n 3, 1) := by decide +kernel
theorem dX9_allowLoops_63 : decode cX9_allowLoops 63 = .ok (.aload_n 0, 1) := by decide +kernel
theorem dX9_allowLoops_64 : decode cX9_allowLoops 64 = .ok (.getfield 10, 3) := by decide +kernel
theorem dX9_allowLoops_67 : decode cX9_allowLoops 67 = .ok (.iload_n 1, 1) := by decide +kernel
theorem dX9_allowLoops_68 : decode cX9_allowLoops 68 = .ok (.invokevirtual 311, 3) := by decide +kernel
theorem dX9_allowLoops_71 : decode cX9_allowLoops 71 = .ok (.iload_n 3, 1) := by decide +kernel
theorem dX9_allowLoops_72 : decode cX9_allowLoops 72 = .ok (.ireturn, 1) := by decide +kernel
set_option maxRecDepth 20000 in
theorem ggX9_letGoBy_X2_goOn : GoodIn wsX9_letGoBy wsX2_goOn := goodIn_r _ [6, 7, 8, 9, 10, 11, 12, 13, 5, 14, 15, 16, 17, 18, 19, 20, 21, 22, 23, 24, 25, 26, 27, 28, 29, 30, 31, 32, 33, 34, 35, 36, 37, 47, 48, 49, 50, 51, 52, 53, 54, 55, 56] (by decide +kernel) (by decide +kernel)
set_option maxRecDepth 20000 in
theorem gX9_letGoBy_X2_goOn : GoodIn wsX9_letGoBy (wsV RX9 314 RX2 yX2_goOn wsX2_goOn) := goodIn_app (goodIn_of _ (by decide +kernel)) ggX9_letGoBy_X2_goOn
theorem dX9_letGoBy_0 : decode cX9_letGoBy 0 = .ok (.iload_n 1, 1) := by decide +kernel
theorem dX9_letGoBy_1 : decode cX9_letGoBy 1 = .ok (.iconst 1, 1) := by decide +kernel
theorem dX9_letGoBy_2 : decode cX9_letGoBy 2 = .ok (.if_icmp .lt 9, 3) := by decide +kernel
theorem dX9_letGoBy_5 : decode cX9_letGoBy 5 = .ok (.iload_n 1, 1) := by decide +kernel
theorem dX9_letGoBy_6 : decode cX9_letGoBy 6 = .ok (.bipush 99, 2) := by decide +kernel
theorem dX9_letGoBy_8 : decode cX9_letGoBy 8 = .ok (.if_icmp .le 6, 3) := by decide +kernel
theorem dX9_letGoBy_11 : decode cX9_letGoBy 11 = .ok (.bipush (-12), 2) := by decide +kernel
theorem dX9_letGoBy_13 : decode cX9_letGoBy 13 = .ok (.ireturn, 1) := by decide +kernel
theorem dX9_letGoBy_14 : decode cX9_letGoBy 14 = .ok (.iconst 0, 1) := by decide +kernel
theorem dX9_letGoBy_15 : decode cX9_letGoBy 15 = .ok (.istore_n 2, 1) := by decide +kernel
theorem dX9_letGoBy_16 : decode cX9_letGoBy 16 = .ok (.iconst 0, 1) := by decide +kernel
theorem dX9_letGoBy_17 : decode cX9_letGoBy 17 = .ok (.istore_n 3, 1) := by decide +kernel
theorem dX9_letGoBy_18 : decode cX9_letGoBy 18 = .ok (.iload_n 3, 1) := by decide +kernel
theorem dX9_letGoBy_19 : decode cX9_letGoBy 19 = .ok (.iload_n 1, 1) := by decide +kernel
theorem dX9_letGoBy_20 : decode cX9_letGoBy 20 = .ok (.if_icmp .ge 19, 3) := by decide +kernel
theorem dX9_letGoBy_23 : decode cX9_letGoBy 23 = .ok (.iload_n 2, 1) := by decide +kernel
theorem dX9_letGoBy_24 : decode cX9_letGoBy 24 = .ok (.aload_n 0, 1) := by decide +kernel
theorem dX9_letGoBy_25 : decode cX9_letGoBy 25 = .ok (.getfield 10, 3) := by decide +kernel
theorem dX9_letGoBy_28 : decode cX9_letGoBy 28 = .ok (.invokevirtual 314, 3) := by decide +kernel
theorem dX9_letGoBy_31 : decode cX9_letGoBy 31 = .ok (.iadd, 1) := by decide +kernel
theorem dX9_letGoBy_32 : decode cX9_letGoBy 32 = .ok (.istore_n 2, 1) := by decide +kernel
theorem dX9_letGoBy_33 : decode cX9_letGoBy 33 = .ok (.iinc 3 1, 3) := by decide +kernel
theorem dX9_letGoBy_36 : decode cX9_letGoBy 36 = .ok (.goto (-18), 3) := by decide +kernel
theorem dX9_letGoBy_39 : decode cX9_letGoBy 39 = .ok (.iload_n 2, 1) := by decide +kernel
theorem dX9_letGoBy_40 : decode cX9_letGoBy 40 = .ok (.ireturn, 1) := by decide +kernel
set_option maxRecDepth 20000 in
theorem ggX9_carryOutAll_X4_hold : GoodIn wsX9_carryOutAll wsX4_hold := goodIn_r _ [8, 9, 10, 11, 7, 12, 13, 14, 15, 16, 17, 18, 19, 20, 21, 22, 23, 24, 25, 26, 27, 28, 29, 30, 31, 32, 33, 331, 332, 333, 334, 335, 336, 337, 338, 339, 340, 341, 342, 343] (by decide +kernel) (by decide +kernel)
set_option maxRecDepth 20000 in
theorem gX9_carryOutAll_X4_hold : GoodIn wsX9_carryOutAll (wsV RX9 61 RX4 yX4_hold wsX4_hold) := goodIn_app (goodIn_of _ (by decide +kernel)) ggX9_carryOutAll_X4_hold
set_option maxRecDepth 20000 in
theorem ggX9_carryOutAll_X8_toStart : GoodIn wsX9_carryOutAll wsX8_toStart := goodIn_r _ [38, 39, 344, 345, 346, 347, 348, 349, 350, 351] (by decide +kernel) (by decide +kernel)
set_option maxRecDepth 20000 in
theorem gX9_carryOutAll_X8_toStart : GoodIn wsX9_carryOutAll (wsV RX9 317 RX8 yX8_toStart wsX8_toStart) := goodIn_app (goodIn_of _ (by decide +kernel)) ggX9_carryOutAll_X8_toStart
set_option maxRecDepth 20000 in
theorem ggX9_carryOutAll_X8_readNext : GoodIn wsX9_carryOutAll wsX8_readNext := goodIn_r _ [43, 39, 44, 45, 46, 37, 47, 48, 49, 50, 51, 52, 53, 54, 55, 56, 57, 58, 59, 60, 61, 62, 63, 64, 65, 66, 67, 68, 69, 70, 71, 72, 73, 74, 75, 76, 77, 78, 79, 80, 81, 82, 83, 84, 85, 86, 87, 88, 89, 90, 91, 92, 93, 94, 95, 96, 97, 98, 99, 100, 101, 102, 103, 104, 105, 106, 107, 108, 109, 110, 111, 112, 113, 114, 115, 116, 117, 118, 119, 120, 121, 122, 123, 124, 125, 126, 127, 128, 129, 130, 131, 132, 133, 134, 135, 136, 137, 138, 139, 344, 345, 346, 347, 348, 349, 350, 351, 352, 353, 354, 355] (by decide +kernel) (by decide +kernel)
set_option maxRecDepth 20000 in
theorem gX9_carryOutAll_X8_readNext : GoodIn wsX9_carryOutAll (wsV RX9 320 RX8 yX8_readNext wsX8_readNext) := goodIn_app (goodIn_of _ (by decide +kernel)) ggX9_carryOutAll_X8_readNext
set_option maxRecDepth 20000 in
theorem ggX9_carryOutAll_X9_carryOut : GoodIn wsX9_carryOutAll wsX9_carryOut := goodIn_r _ [144, 3, 145, 146, 147, 37, 148, 54, 149, 150, 151, 152, 113, 153, 154, 155, 156, 114, 157, 158, 159, 143, 160, 2, 161, 162, 163, 18, 164, 20, 21, 26, 165, 166, 167, 168, 169, 170, 171, 172, 173, 174, 175, 176, 177, 178, 179, 180, 181, 131, 182, 183, 184, 185, 186, 187, 188, 189, 190, 191, 192, 193, 194, 195, 196, 197, 198, 199, 200, 201, 202, 203, 204, 205, 206, 207, 208, 209, 210, 211, 212, 27, 213, 214, 215, 216, 30, 217, 218, 219, 220, 221, 222, 223, 224, 225, 226, 227, 228, 229, 230, 231, 232, 233, 234, 235, 236, 237, 238, 239, 240, 241, 242, 243, 244, 245, 246, 247, 248, 249, 250, 251, 252, 253, 254, 255, 256, 257, 258, 259, 260, 261, 262, 29, 263, 264, 265, 266, 267, 268, 269, 270, 28, 33, 271, 272, 273, 274, 275, 276, 277, 278, 279, 280, 281, 282, 283, 284, 285, 286, 31, 32, 287, 288, 289, 290, 291, 292, 293, 294, 295, 296, 297, 298, 299, 322, 323, 324, 325, 326, 327, 328, 329, 330, 344, 345, 346, 347, 348, 349, 350, 351, 334, 335, 336, 337, 338, 339, 340, 341, 342, 343, 356, 357, 358] (by decide +kernel) (by decide +kernel)
set_option maxRecDepth 20000 in
theorem gX9_carryOutAll_X9_carryOut : GoodIn wsX9_carryOutAll (wsV RX9 323 RX9 yX9_carryOut wsX9_carryOut) := goodIn_app (goodIn_of _ (by decide +kernel)) ggX9_carryOutAll_X9_carryOut
set_option maxRecDepth 20000 in
theorem ggX9_carryOutAll_X4_bringBackHeld : GoodIn wsX9_carryOutAll wsX4_bringBackHeld := goodIn_r _ [303, 9, 10, 11, 7, 12, 13, 14, 15, 16, 17, 18, 19, 20, 21, 22, 23, 24, 25, 26, 27, 28, 29, 30, 31, 32, 33, 331, 332, 333, 334, 335, 336, 337, 338, 339, 340, 341, 342, 343] (by decide +kernel) (by decide +kernel)
set_option maxRecDepth 20000 in
theorem gX9_carryOutAll_X4_bringBackHeld : GoodIn wsX9_carryOutAll (wsV RX9 326 RX4 yX4_bringBackHeld wsX4_bringBackHeld) := goodIn_app (goodIn_of _ (by decide +kernel)) ggX9_carryOutAll_X4_bringBackHeld
set_option maxRecDepth 20000 in
theorem ggX9_carryOutAll_X9_refuseOrder : GoodIn wsX9_carryOutAll wsX9_refuseOrder := goodIn_r _ [307, 169, 308, 309, 310, 173, 311, 177, 312, 313, 314, 315, 175, 176, 170, 171, 172, 174, 234, 235, 236, 237, 322, 323, 324, 325, 326, 327, 328, 329, 330, 356, 357, 358] (by decide +kernel) (by decide +kernel)
set_option maxRecDepth 20000 in
theorem gX9_carryOutAll_X9_refuseOrder : GoodIn wsX9_carryOutAll (wsV RX9 329 RX9 yX9_refuseOrder wsX9_refuseOrder) := goodIn_app (goodIn_of _ (by decide +kernel)) ggX9_carryOutAll_X9_refuseOrder
set_option maxRecDepth 20000 in
theorem ggX9_carryOutAll_X4_keepHeld : GoodIn wsX9_carryOutAll wsX4_keepHeld := goodIn_r _ [319, 13, 320, 321, 313, 314, 315, 331, 332, 333] (by decide +kernel) (by decide +kernel)
set_option maxRecDepth 20000 in
theorem gX9_carryOutAll_X4_keepHeld : GoodIn wsX9_carryOutAll (wsV RX9 277 RX4 yX4_keepHeld wsX4_keepHeld) := goodIn_app (goodIn_of _ (by decide +kernel)) ggX9_carryOutAll_X4_keepHeld
theorem dX9_carryOutAll_0 : decode cX9_carryOutAll 0 = .ok (.aload_n 0, 1) := by decide +kernel
theorem dX9_carryOutAll_1 : decode cX9_carryOutAll 1 = .ok (.getfield 22, 3) := by decide +kernel
theorem dX9_carryOutAll_4 : decode cX9_carryOutAll 4 = .ok (.aload_n 0, 1) := by decide +kernel
theorem dX9_carryOutAll_5 : decode cX9_carryOutAll 5 = .ok (.getfield 10, 3) := by decide +kernel
theorem dX9_carryOutAll_8 : decode cX9_carryOutAll 8 = .ok (.invokevirtual 61, 3) := by decide +kernel
theorem dX9_carryOutAll_11 : decode cX9_carryOutAll 11 = .ok (.aload_n 0, 1) := by decide +kernel
theorem dX9_carryOutAll_12 : decode cX9_carryOutAll 12 = .ok (.getfield 43, 3) := by decide +kernel
theorem dX9_carryOutAll_15 : decode cX9_carryOutAll 15 = .ok (.invokevirtual 317, 3) := by decide +kernel
theorem dX9_carryOutAll_18 : decode cX9_carryOutAll 18 = .ok (.iconst 0, 1) := by decide +kernel
theorem dX9_carryOutAll_19 : decode cX9_carryOutAll 19 = .ok (.istore_n 1, 1) := by decide +kernel
theorem dX9_carryOutAll_20 : decode cX9_carryOutAll 20 = .ok (.iload_n 1, 1) := by decide +kernel
theorem dX9_carryOutAll_21 : decode cX9_carryOutAll 21 = .ok (.bipush 60, 2) := by decide +kernel
theorem dX9_carryOutAll_23 : decode cX9_carryOutAll 23 = .ok (.if_icmp .ge 46, 3) := by decide +kernel
theorem dX9_carryOutAll_26 : decode cX9_carryOutAll 26 = .ok (.aload_n 0, 1) := by decide +kernel
theorem dX9_carryOutAll_27 : decode cX9_carryOutAll 27 = .ok (.getfield 43, 3) := by decide +kernel
theorem dX9_carryOutAll_30 : decode cX9_carryOutAll 30 = .ok (.invokevirtual 320, 3) := by decide +kernel
theorem dX9_carryOutAll_33 : decode cX9_carryOutAll 33 = .ok (.ifCond .eq 36, 3) := by decide +kernel
theorem dX9_carryOutAll_36 : decode cX9_carryOutAll 36 = .ok (.aload_n 0, 1) := by decide +kernel
theorem dX9_carryOutAll_37 : decode cX9_carryOutAll 37 = .ok (.invokevirtual 323, 3) := by decide +kernel
theorem dX9_carryOutAll_40 : decode cX9_carryOutAll 40 = .ok (.istore_n 2, 1) := by decide +kernel
theorem dX9_carryOutAll_41 : decode cX9_carryOutAll 41 = .ok (.iload_n 2, 1) := by decide +kernel
theorem dX9_carryOutAll_42 : decode cX9_carryOutAll 42 = .ok (.ifCond .ge 21, 3) := by decide +kernel
theorem dX9_carryOutAll_45 : decode cX9_carryOutAll 45 = .ok (.aload_n 0, 1) := by decide +kernel
theorem dX9_carryOutAll_46 : decode cX9_carryOutAll 46 = .ok (.getfield 22, 3) := by decide +kernel
theorem dX9_carryOutAll_49 : decode cX9_carryOutAll 49 = .ok (.aload_n 0, 1) := by decide +kernel
theorem dX9_carryOutAll_50 : decode cX9_carryOutAll 50 = .ok (.getfield 10, 3) := by decide +kernel
theorem dX9_carryOutAll_53 : decode cX9_carryOutAll 53 = .ok (.invokevirtual 326, 3) := by decide +kernel
theorem dX9_carryOutAll_56 : decode cX9_carryOutAll 56 = .ok (.aload_n 0, 1) := by decide +kernel
theorem dX9_carryOutAll_57 : decode cX9_carryOutAll 57 = .ok (.iload_n 1, 1) := by decide +kernel
theorem dX9_carryOutAll_58 : decode cX9_carryOutAll 58 = .ok (.iload_n 2, 1) := by decide +kernel
theorem dX9_carryOutAll_59 : decode cX9_carryOutAll 59 = .ok (.invokevirtual 329, 3) := by decide +kernel
theorem dX9_carryOutAll_62 : decode cX9_carryOutAll 62 = .ok (.ireturn, 1) := by decide +kernel
theorem dX9_carryOutAll_63 : decode cX9_carryOutAll 63 = .ok (.iinc 1 1, 3) := by decide +kernel
theorem dX9_carryOutAll_66 : decode cX9_carryOutAll 66 = .ok (.goto (-46), 3) := by decide +kernel
theorem dX9_carryOutAll_69 : decode cX9_carryOutAll 69 = .ok (.aload_n 0, 1) := by decide +kernel
theorem dX9_carryOutAll_70 : decode cX9_carryOutAll 70 = .ok (.getfield 22, 3) := by decide +kernel
theorem dX9_carryOutAll_73 : decode cX9_carryOutAll 73 = .ok (.invokevirtual 277, 3) := by decide +kernel
theorem dX9_carryOutAll_76 : decode cX9_carryOutAll 76 = .ok (.iload_n 1, 1) := by decide +kernel
theorem dX9_carryOutAll_77 : decode cX9_carryOutAll 77 = .ok (.ireturn, 1) := by decide +kernel
set_option maxRecDepth 20000 in
theorem ggX9_carryOut_X8_word : GoodIn wsX9_carryOut wsX8_word := goodIn_r _ [6, 7, 184, 185, 186, 187, 188, 189, 190, 191] (by decide +kernel) (by decide +kernel)
set_option maxRecDepth 20000 in
theorem gX9_carryOut_X8_word : GoodIn wsX9_carryOut (wsV RX9 332 RX8 yX8_word wsX8_word) := goodIn_app (goodIn_of _ (by decide +kernel)) ggX9_carryOut_X8_word
set_option maxRecDepth 20000 in
theorem ggX9_carryOut_X8_first : GoodIn wsX9_carryOut wsX8_first := goodIn_r _ [11, 12, 184, 185, 186, 187, 188, 189, 190, 191] (by decide +kernel) (by decide +kernel)
set_option maxRecDepth 20000 in
theorem gX9_carryOut_X8_first : GoodIn wsX9_carryOut (wsV RX9 335 RX8 yX8_first wsX8_first) := goodIn_app (goodIn_of _ (by decide +kernel)) ggX9_carryOut_X8_first
set_option maxRecDepth 20000 in
theorem ggX9_carryOut_X8_second : GoodIn wsX9_carryOut wsX8_second := goodIn_r _ [16, 17, 184, 185, 186, 187, 188, 189, 190, 191] (by decide +kernel) (by decide +kernel)
set_option maxRecDepth 20000 in
theorem gX9_carryOut_X8_second : GoodIn wsX9_carryOut (wsV RX9 338 RX8 yX8_second wsX8_second) := goodIn_app (goodIn_of _ (by decide +kernel)) ggX9_carryOut_X8_second
set_option maxRecDepth 20000 in
theorem ggX9_carryOut_X9_hangUp : GoodIn wsX9_carryOut wsX9_hangUp := goodIn_r _ [22, 23, 24, 25, 26, 27, 28, 29, 30, 31, 32, 33, 34, 21, 35, 36, 37, 38, 39, 40, 41, 42, 43, 44, 175, 176, 177, 178, 179, 180, 181, 182, 183, 192, 193, 194, 195, 196, 197, 198, 199, 200, 201, 202, 203, 204] (by decide +kernel) (by decide +kernel)
set_option maxRecDepth 20000 in
theorem gX9_carryOut_X9_hangUp : GoodIn wsX9_carryOut (wsV RX9 65 RX9 yX9_hangUp wsX9_hangUp) := goodIn_app (goodIn_of _ (by decide +kernel)) ggX9_carryOut_X9_hangUp
set_option maxRecDepth 20000 in
theorem ggX9_carryOut_X8_third : GoodIn wsX9_carryOut wsX8_third := goodIn_r _ [48, 49, 184, 185, 186, 187, 188, 189, 190, 191] (by decide +kernel) (by decide +kernel)
set_option maxRecDepth 20000 in
theorem gX9_carryOut_X8_third : GoodIn wsX9_carryOut (wsV RX9 341 RX8 yX8_third wsX8_third) := goodIn_app (goodIn_of _ (by decide +kernel)) ggX9_carryOut_X8_third
set_option maxRecDepth 20000 in
theorem ggX9_carryOut_X9_putWire : GoodIn wsX9_carryOut wsX9_putWire := goodIn_r _ [53, 23, 36, 54, 55, 56, 27, 57, 29, 58, 59, 21, 60, 61, 62, 63, 64, 65, 66, 67, 68, 30, 69, 32, 33, 34, 35, 37, 38, 39, 40, 41, 42, 43, 44, 70, 71, 72, 73, 74, 75, 76, 77, 78, 79, 80, 81, 82, 83, 84, 85, 86, 87, 88, 89, 90, 91, 92, 93, 94, 95, 96, 97, 98, 99, 100, 101, 102, 103, 104, 105, 106, 107, 108, 109, 110, 111, 112, 113, 114, 115, 116, 175, 176, 177, 178, 179, 180, 181, 182, 183, 192, 193, 194, 195, 196, 197, 198, 199, 200, 201, 202, 203, 204] (by decide +kernel) (by decide +kernel)
set_option maxRecDepth 20000 in
theorem gX9_carryOut_X9_putWire : GoodIn wsX9_carryOut (wsV RX9 73 RX9 yX9_putWire wsX9_putWire) := goodIn_app (goodIn_of _ (by decide +kernel)) ggX9_carryOut_X9_putWire
set_option maxRecDepth 20000 in
theorem ggX9_carryOut_X9_cutWire : GoodIn wsX9_carryOut wsX9_cutWire := goodIn_r _ [120, 23, 54, 55, 56, 27, 57, 29, 58, 59, 21, 60, 61, 62, 63, 64, 65, 66, 67, 68, 30, 69, 32, 33, 34, 35, 36, 37, 38, 39, 40, 41, 42, 43, 44, 70, 71, 72, 73, 74, 75, 76, 77, 78, 79, 80, 81, 108, 109, 110, 111, 175, 176, 177, 178, 179, 180, 181, 182, 183, 192, 193, 194, 195, 196, 197, 198, 199, 200, 201, 202, 203, 204] (by decide +kernel) (by decide +kernel)
set_option maxRecDepth 20000 in
theorem gX9_carryOut_X9_cutWire : GoodIn wsX9_carryOut (wsV RX9 77 RX9 yX9_cutWire wsX9_cutWire) := goodIn_app (goodIn_of _ (by decide +kernel)) ggX9_carryOut_X9_cutWire
set_option maxRecDepth 20000 in
theorem ggX9_carryOut_X9_setSwitch : GoodIn wsX9_carryOut wsX9_setSwitch := goodIn_r _ [124, 23, 54, 55, 56, 27, 57, 29, 65, 66, 67, 68, 30, 69, 70, 71, 72, 73, 32, 33, 34, 21, 35, 36, 37, 38, 39, 40, 41, 42, 43, 44, 125, 126, 127, 128, 129, 130, 131, 132, 133, 134, 135, 136, 137, 91, 92, 138, 139, 140, 141, 142, 143, 144, 145, 146, 147, 148, 149, 150, 151, 175, 176, 177, 178, 179, 180, 181, 182, 183, 192, 193, 194, 195, 196, 197, 198, 199, 200, 201, 202, 203, 204] (by decide +kernel) (by decide +kernel)
set_option maxRecDepth 20000 in
theorem gX9_carryOut_X9_setSwitch : GoodIn wsX9_carryOut (wsV RX9 80 RX9 yX9_setSwitch wsX9_setSwitch) := goodIn_app (goodIn_of _ (by decide +kernel)) ggX9_carryOut_X9_setSwitch
set_option maxRecDepth 20000 in
theorem ggX9_carryOut_X9_letGoBy : GoodIn wsX9_carryOut wsX9_letGoBy := goodIn_r _ [155, 23, 156, 157, 158, 27, 159, 133, 142, 160, 161, 162, 163, 164, 165, 29, 30, 31, 134, 135, 136, 137, 166, 167, 168, 169, 170, 171, 172, 173, 81, 174, 146, 147, 148, 149, 150, 151, 175, 176, 177, 178, 179, 180, 181, 182, 183, 192, 193, 194, 195, 196, 197, 198, 199, 200, 201] (by decide +kernel) (by decide +kernel)
set_option maxRecDepth 20000 in
theorem gX9_carryOut_X9_letGoBy : GoodIn wsX9_carryOut (wsV RX9 88 RX9 yX9_letGoBy wsX9_letGoBy) := goodIn_app (goodIn_of _ (by decide +kernel)) ggX9_carryOut_X9_letGoBy
theorem dX9_carryOut_0 : decode cX9_carryOut 0 = .ok (.aload_n 0, 1) := by decide +kernel
theorem dX9_carryOut_1 : decode cX9_carryOut 1 = .ok (.getfield 43, 3) := by decide +kernel
theorem dX9_carryOut_4 : decode cX9_carryOut 4 = .ok (.invokevirtual 332, 3) := by decide +kernel
theorem dX9_carryOut_7 : decode cX9_carryOut 7 = .ok (.tableswitch 121 0 3 #[29, 48, 74, 93], 29) := by decide +kernel
theorem dX9_carryOut_36 : decode cX9_carryOut 36 = .ok (.aload_n 0, 1) := by decide +kernel
theorem dX9_carryOut_37 : decode cX9_carryOut 37 = .ok (.aload_n 0, 1) := by decide +kernel
theorem dX9_carryOut_38 : decode cX9_carryOut 38 = .ok (.getfield 43, 3) := by decide +kernel
theorem dX9_carryOut_41 : decode cX9_carryOut 41 = .ok (.invokevirtual 335, 3) := by decide +kernel
theorem dX9_carryOut_44 : decode cX9_carryOut 44 = .ok (.aload_n 0, 1) := by decide +kernel
theorem dX9_carryOut_45 : decode cX9_carryOut 45 = .ok (.getfield 43, 3) := by decide +kernel
theorem dX9_carryOut_48 : decode cX9_carryOut 48 = .ok (.invokevirtual 338, 3) := by decide +kernel
theorem dX9_carryOut_51 : decode cX9_carryOut 51 = .ok (.invokevirtual 65, 3) := by decide +kernel
theorem dX9_carryOut_54 : decode cX9_carryOut 54 = .ok (.ireturn, 1) := by decide +kernel
theorem dX9_carryOut_55 : decode cX9_carryOut 55 = .ok (.aload_n 0, 1) := by decide +kernel
theorem dX9_carryOut_56 : decode cX9_carryOut 56 = .ok (.aload_n 0, 1) := by decide +kernel
theorem dX9_carryOut_57 : decode cX9_carryOut 57 = .ok (.getfield 43, 3) := by decide +kernel
theorem dX9_carryOut_60 : decode cX9_carryOut 60 = .ok (.invokevirtual 335, 3) := by decide +kernel
theorem dX9_carryOut_63 : decode cX9_carryOut 63 = .ok (.aload_n 0, 1) := by decide +kernel
theorem dX9_carryOut_64 : decode cX9_carryOut 64 = .ok (.getfield 43, 3) := by decide +kernel
theorem dX9_carryOut_67 : decode cX9_carryOut 67 = .ok (.invokevirtual 338, 3) := by decide +kernel
theorem dX9_carryOut_70 : decode cX9_carryOut 70 = .ok (.aload_n 0, 1) := by decide +kernel
theorem dX9_carryOut_71 : decode cX9_carryOut 71 = .ok (.getfield 43, 3) := by decide +kernel
theorem dX9_carryOut_74 : decode cX9_carryOut 74 = .ok (.invokevirtual 341, 3) := by decide +kernel
theorem dX9_carryOut_77 : decode cX9_carryOut 77 = .ok (.invokevirtual 73, 3) := by decide +kernel
theorem dX9_carryOut_80 : decode cX9_carryOut 80 = .ok (.ireturn, 1) := by decide +kernel
theorem dX9_carryOut_81 : decode cX9_carryOut 81 = .ok (.aload_n 0, 1) := by decide +kernel
theorem dX9_carryOut_82 : decode cX9_carryOut 82 = .ok (.aload_n 0, 1) := by decide +kernel
theorem dX9_carryOut_83 : decode cX9_carryOut 83 = .ok (.getfield 43, 3) := by decide +kernel
theorem dX9_carryOut_86 : decode cX9_carryOut 86 = .ok (.invokevirtual 335, 3) := by decide +kernel
theorem dX9_carryOut_89 : decode cX9_carryOut 89 = .ok (.aload_n 0, 1) := by decide +kernel
theorem dX9_carryOut_90 : decode cX9_carryOut 90 = .ok (.getfield 43, 3) := by decide +kernel
theorem dX9_carryOut_93 : decode cX9_carryOut 93 = .ok (.invokevirtual 338, 3) := by decide +kernel
theorem dX9_carryOut_96 : decode cX9_carryOut 96 = .ok (.invokevirtual 77, 3) := by decide +kernel
theorem dX9_carryOut_99 : decode cX9_carryOut 99 = .ok (.ireturn, 1) := by decide +kernel
theorem dX9_carryOut_100 : decode cX9_carryOut 100 = .ok (.aload_n 0, 1) := by decide +kernel
theorem dX9_carryOut_101 : decode cX9_carryOut 101 = .ok (.aload_n 0, 1) := by decide +kernel
theorem dX9_carryOut_102 : decode cX9_carryOut 102 = .ok (.getfield 43, 3) := by decide +kernel
theorem dX9_carryOut_105 : decode cX9_carryOut 105 = .ok (.invokevirtual 335, 3) := by decide +kernel
theorem dX9_carryOut_108 : decode cX9_carryOut 108 = .ok (.aload_n 0, 1) := by decide +kernel
theorem dX9_carryOut_109 : decode cX9_carryOut 109 = .ok (.getfield 43, 3) := by decide +kernel
theorem dX9_carryOut_112 : decode cX9_carryOut 112 = .ok (.invokevirtual 338, 3) := by decide +kernel
theorem dX9_carryOut_115 : decode cX9_carryOut 115 = .ok (.iconst 1, 1) := by decide +kernel
theorem dX9_carryOut_116 : decode cX9_carryOut 116 = .ok (.if_icmp .ne 7, 3) := by decide +kernel
theorem dX9_carryOut_119 : decode cX9_carryOut 119 = .ok (.iconst 1, 1) := by decide +kernel
theorem dX9_carryOut_120 : decode cX9_carryOut 120 = .ok (.goto 4, 3) := by decide +kernel
theorem dX9_carryOut_123 : decode cX9_carryOut 123 = .ok (.iconst 0, 1) := by decide +kernel
theorem dX9_carryOut_124 : decode cX9_carryOut 124 = .ok (.invokevirtual 80, 3) := by decide +kernel
theorem dX9_carryOut_127 : decode cX9_carryOut 127 = .ok (.ireturn, 1) := by decide +kernel
theorem dX9_carryOut_128 : decode cX9_carryOut 128 = .ok (.aload_n 0, 1) := by decide +kernel
theorem dX9_carryOut_129 : decode cX9_carryOut 129 = .ok (.aload_n 0, 1) := by decide +kernel
theorem dX9_carryOut_130 : decode cX9_carryOut 130 = .ok (.getfield 43, 3) := by decide +kernel
theorem dX9_carryOut_133 : decode cX9_carryOut 133 = .ok (.invokevirtual 335, 3) := by decide +kernel
theorem dX9_carryOut_136 : decode cX9_carryOut 136 = .ok (.invokevirtual 88, 3) := by decide +kernel
theorem dX9_carryOut_139 : decode cX9_carryOut 139 = .ok (.ireturn, 1) := by decide +kernel
set_option maxRecDepth 20000 in
theorem ggX9_refuseOrder_X6_putAhead : GoodIn wsX9_refuseOrder wsX6_putAhead := goodIn_r _ [6, 7, 8, 9, 10, 11, 12, 13, 31, 32, 33] (by decide +kernel) (by decide +kernel)
set_option maxRecDepth 20000 in
theorem gX9_refuseOrder_X6_putAhead : GoodIn wsX9_refuseOrder (wsV RX9 344 RX6 yX6_putAhead wsX6_putAhead) := goodIn_app (goodIn_of _ (by decide +kernel)) ggX9_refuseOrder_X6_putAhead
set_option maxRecDepth 20000 in
theorem ggX9_refuseOrder_X6_start : GoodIn wsX9_refuseOrder wsX6_start := goodIn_r _ [17, 12, 13, 7, 31, 32, 33] (by decide +kernel) (by decide +kernel)
set_option maxRecDepth 20000 in
theorem gX9_refuseOrder_X6_start : GoodIn wsX9_refuseOrder (wsV RX9 280 RX6 yX6_start wsX6_start) := goodIn_app (goodIn_of _ (by decide +kernel)) ggX9_refuseOrder_X6_start
set_option maxRecDepth 20000 in
theorem ggX9_refuseOrder_X6_putBehind : GoodIn wsX9_refuseOrder wsX6_putBehind := goodIn_r _ [21, 7, 12, 13, 31, 32, 33] (by decide +kernel) (by decide +kernel)
set_option maxRecDepth 20000 in
theorem gX9_refuseOrder_X6_putBehind : GoodIn wsX9_refuseOrder (wsV RX9 295 RX6 yX6_putBehind wsX6_putBehind) := goodIn_app (goodIn_of _ (by decide +kernel)) ggX9_refuseOrder_X6_putBehind
theorem dX9_refuseOrder_0 : decode cX9_refuseOrder 0 = .ok (.iload_n 2, 1) := by decide +kernel
theorem dX9_refuseOrder_1 : decode cX9_refuseOrder 1 = .ok (.bipush (-14), 2) := by decide +kernel
theorem dX9_refuseOrder_3 : decode cX9_refuseOrder 3 = .ok (.if_icmp .ne 16, 3) := by decide +kernel
theorem dX9_refuseOrder_6 : decode cX9_refuseOrder 6 = .ok (.aload_n 0, 1) := by decide +kernel
theorem dX9_refuseOrder_7 : decode cX9_refuseOrder 7 = .ok (.getfield 57, 3) := by decide +kernel
theorem dX9_refuseOrder_10 : decode cX9_refuseOrder 10 = .ok (.bipush 10, 2) := by decide +kernel
theorem dX9_refuseOrder_12 : decode cX9_refuseOrder 12 = .ok (.iload_n 1, 1) := by decide +kernel
theorem dX9_refuseOrder_13 : decode cX9_refuseOrder 13 = .ok (.invokevirtual 344, 3) := by decide +kernel
theorem dX9_refuseOrder_16 : decode cX9_refuseOrder 16 = .ok (.goto 23, 3) := by decide +kernel
theorem dX9_refuseOrder_19 : decode cX9_refuseOrder 19 = .ok (.aload_n 0, 1) := by decide +kernel
theorem dX9_refuseOrder_20 : decode cX9_refuseOrder 20 = .ok (.getfield 57, 3) := by decide +kernel
theorem dX9_refuseOrder_23 : decode cX9_refuseOrder 23 = .ok (.bipush 10, 2) := by decide +kernel
theorem dX9_refuseOrder_25 : decode cX9_refuseOrder 25 = .ok (.iload_n 1, 1) := by decide +kernel
theorem dX9_refuseOrder_26 : decode cX9_refuseOrder 26 = .ok (.invokevirtual 280, 3) := by decide +kernel
theorem dX9_refuseOrder_29 : decode cX9_refuseOrder 29 = .ok (.aload_n 0, 1) := by decide +kernel
theorem dX9_refuseOrder_30 : decode cX9_refuseOrder 30 = .ok (.getfield 57, 3) := by decide +kernel
theorem dX9_refuseOrder_33 : decode cX9_refuseOrder 33 = .ok (.bipush 13, 2) := by decide +kernel
theorem dX9_refuseOrder_35 : decode cX9_refuseOrder 35 = .ok (.iload_n 2, 1) := by decide +kernel
theorem dX9_refuseOrder_36 : decode cX9_refuseOrder 36 = .ok (.invokevirtual 295, 3) := by decide +kernel
theorem dX9_refuseOrder_39 : decode cX9_refuseOrder 39 = .ok (.bipush (-14), 2) := by decide +kernel
theorem dX9_refuseOrder_41 : decode cX9_refuseOrder 41 = .ok (.ireturn, 1) := by decide +kernel
set_option maxRecDepth 20000 in
theorem ggX9_hasTable_X2_isSwitch : GoodIn wsX9_hasTable wsX2_isSwitch := goodIn_r _ [7, 8, 9, 10, 11, 6, 12, 13, 84, 85, 86, 87, 88, 89, 90, 91, 92, 93] (by decide +kernel) (by decide +kernel)
set_option maxRecDepth 20000 in
theorem gX9_hasTable_X2_isSwitch : GoodIn wsX9_hasTable (wsV RX9 160 RX2 yX2_isSwitch wsX2_isSwitch) := goodIn_app (goodIn_of _ (by decide +kernel)) ggX9_hasTable_X2_isSwitch
set_option maxRecDepth 20000 in
theorem ggX9_hasTable_X0_byWires : GoodIn wsX9_hasTable wsX0_byWires := goodIn_r _ [18, 19, 20, 21, 22, 23, 24, 25, 17, 26, 27, 28, 29, 30, 31, 10, 11, 6, 12, 13, 32, 33, 34, 35, 36, 37, 38, 39, 40, 4, 5, 7, 8, 9, 41, 42, 43, 44, 45, 94, 84, 85, 86, 87, 88, 89, 90, 91, 92, 93] (by decide +kernel) (by decide +kernel)
set_option maxRecDepth 20000 in
theorem gX9_hasTable_X0_byWires : GoodIn wsX9_hasTable (wsV RX9 145 RX0 yX0_byWires wsX0_byWires) := goodIn_app (goodIn_of _ (by decide +kernel)) ggX9_hasTable_X0_byWires
set_option maxRecDepth 20000 in
theorem ggX9_hasTable_X5_switchesTo : GoodIn wsX9_hasTable wsX5_switchesTo := goodIn_r _ [49, 50, 51, 52, 6, 53, 13, 54, 4, 5, 7, 8, 9, 10, 11, 12, 55, 56, 48, 57, 58, 59, 60, 61, 62, 63, 64, 36, 65, 66, 67, 84, 85, 86, 87, 88, 89, 90, 91, 92, 93] (by decide +kernel) (by decide +kernel)
set_option maxRecDepth 20000 in
theorem gX9_hasTable_X5_switchesTo : GoodIn wsX9_hasTable (va_wsS RX9 167 yX5_switchesTo wsX5_switchesTo) := goodIn_app (goodIn_of _ (by decide +kernel)) ggX9_hasTable_X5_switchesTo
set_option maxRecDepth 20000 in
theorem ggX9_hasTable_J6_bitCount_0f7a4 : GoodIn wsX9_hasTable wsJ6_bitCount_0f7a4 := goodIn_r _ [71, 72, 73, 74] (by decide +kernel) (by decide +kernel)
set_option maxRecDepth 20000 in
theorem gX9_hasTable_J6_bitCount_0f7a4 : GoodIn wsX9_hasTable (va_wsS RX9 237 yJ6_bitCount_0f7a4 wsJ6_bitCount_0f7a4) := goodIn_app (goodIn_of _ (by decide +kernel)) ggX9_hasTable_J6_bitCount_0f7a4
theorem dX9_hasTable_0 : decode cX9_hasTable 0 = .ok (.aload_n 0, 1) := by decide +kernel
theorem dX9_hasTable_1 : decode cX9_hasTable 1 = .ok (.getfield 10, 3) := by decide +kernel
theorem dX9_hasTable_4 : decode cX9_hasTable 4 = .ok (.iload_n 1, 1) := by decide +kernel
theorem dX9_hasTable_5 : decode cX9_hasTable 5 = .ok (.invokevirtual 160, 3) := by decide +kernel
theorem dX9_hasTable_8 : decode cX9_hasTable 8 = .ok (.ifCond .ne 37, 3) := by decide +kernel
theorem dX9_hasTable_11 : decode cX9_hasTable 11 = .ok (.aload_n 0, 1) := by decide +kernel
theorem dX9_hasTable_12 : decode cX9_hasTable 12 = .ok (.getfield 29, 3) := by decide +kernel
theorem dX9_hasTable_15 : decode cX9_hasTable 15 = .ok (.aload_n 0, 1) := by decide +kernel
theorem dX9_hasTable_16 : decode cX9_hasTable 16 = .ok (.getfield 10, 3) := by decide +kernel
theorem dX9_hasTable_19 : decode cX9_hasTable 19 = .ok (.iload_n 1, 1) := by decide +kernel
theorem dX9_hasTable_20 : decode cX9_hasTable 20 = .ok (.invokevirtual 145, 3) := by decide +kernel
theorem dX9_hasTable_23 : decode cX9_hasTable 23 = .ok (.ifCond .lt 22, 3) := by decide +kernel
theorem dX9_hasTable_26 : decode cX9_hasTable 26 = .ok (.aload_n 0, 1) := by decide +kernel
theorem dX9_hasTable_27 : decode cX9_hasTable 27 = .ok (.getfield 10, 3) := by decide +kernel
theorem dX9_hasTable_30 : decode cX9_hasTable 30 = .ok (.iload_n 1, 1) := by decide +kernel
theorem dX9_hasTable_31 : decode cX9_hasTable 31 = .ok (.invokestatic 167, 3) := by decide +kernel
theorem dX9_hasTable_34 : decode cX9_hasTable 34 = .ok (.invokestatic 237, 3) := by decide +kernel
theorem dX9_hasTable_37 : decode cX9_hasTable 37 = .ok (.iconst 4, 1) := by decide +kernel
theorem dX9_hasTable_38 : decode cX9_hasTable 38 = .ok (.if_icmp .gt 7, 3) := by decide +kernel
theorem dX9_hasTable_41 : decode cX9_hasTable 41 = .ok (.iconst 1, 1) := by decide +kernel
theorem dX9_hasTable_42 : decode cX9_hasTable 42 = .ok (.goto 4, 3) := by decide +kernel
theorem dX9_hasTable_45 : decode cX9_hasTable 45 = .ok (.iconst 0, 1) := by decide +kernel
theorem dX9_hasTable_46 : decode cX9_hasTable 46 = .ok (.ireturn, 1) := by decide +kernel
set_option maxRecDepth 20000 in
theorem ggX9_addWires_X2_kindOf : GoodIn wsX9_addWires wsX2_kindOf := goodIn_r _ [7, 8, 9, 10, 11, 6, 12, 13, 44, 45, 46, 47, 48, 49, 50, 51, 52, 53] (by decide +kernel) (by decide +kernel)
set_option maxRecDepth 20000 in
theorem gX9_addWires_X2_kindOf : GoodIn wsX9_addWires (wsV RX9 95 RX2 yX2_kindOf wsX2_kindOf) := goodIn_app (goodIn_of _ (by decide +kernel)) ggX9_addWires_X2_kindOf
set_option maxRecDepth 20000 in
theorem ggX9_addWires_X9_placesOf : GoodIn wsX9_addWires wsX9_placesOf := goodIn_r _ [17] (by decide +kernel) (by decide +kernel)
set_option maxRecDepth 20000 in
theorem gX9_addWires_X9_placesOf : GoodIn wsX9_addWires (va_wsS RX9 302 yX9_placesOf wsX9_placesOf) := goodIn_app (goodIn_of _ (by decide +kernel)) ggX9_addWires_X9_placesOf
set_option maxRecDepth 20000 in
theorem ggX9_addWires_X3_add : GoodIn wsX9_addWires wsX3_add := goodIn_r _ [22, 23, 24, 54, 55] (by decide +kernel) (by decide +kernel)
set_option maxRecDepth 20000 in
theorem gX9_addWires_X3_add : GoodIn wsX9_addWires (wsV RX9 201 RX3 yX3_add wsX3_add) := goodIn_app (goodIn_of _ (by decide +kernel)) ggX9_addWires_X3_add
set_option maxRecDepth 20000 in
theorem ggX9_addWires_X2_sourceOf : GoodIn wsX9_addWires wsX2_sourceOf := goodIn_r _ [28, 29, 44, 45, 46, 47, 48, 49, 50, 51, 52, 53] (by decide +kernel) (by decide +kernel)
set_option maxRecDepth 20000 in
theorem gX9_addWires_X2_sourceOf : GoodIn wsX9_addWires (wsV RX9 132 RX2 yX2_sourceOf wsX2_sourceOf) := goodIn_app (goodIn_of _ (by decide +kernel)) ggX9_addWires_X2_sourceOf
set_option maxRecDepth 20000 in
theorem ggX9_addWires_X3_addNumber : GoodIn wsX9_addWires wsX3_addNumber := goodIn_r _ [33, 34, 19, 20, 21, 22, 23, 24, 54, 55] (by decide +kernel) (by decide +kernel)
set_option maxRecDepth 20000 in
theorem gX9_addWires_X3_addNumber : GoodIn wsX9_addWires (wsV RX9 207 RX3 yX3_addNumber wsX3_addNumber) := goodIn_app (goodIn_of _ (by decide +kernel)) ggX9_addWires_X3_addNumber
theorem dX9_addWires_0 : decode cX9_addWires 0 = .ok (.aload_n 0, 1) := by decide +kernel
theorem dX9_addWires_1 : decode cX9_addWires 1 = .ok (.getfield 10, 3) := by decide +kernel
theorem dX9_addWires_4 : decode cX9_addWires 4 = .ok (.iload_n 1, 1) := by decide +kernel
theorem dX9_addWires_5 : decode cX9_addWires 5 = .ok (.invokevirtual 95, 3) := by decide +kernel
theorem dX9_addWires_8 : decode cX9_addWires 8 = .ok (.invokestatic 302, 3) := by decide +kernel
theorem dX9_addWires_11 : decode cX9_addWires 11 = .ok (.istore_n 2, 1) := by decide +kernel
theorem dX9_addWires_12 : decode cX9_addWires 12 = .ok (.iconst 0, 1) := by decide +kernel
theorem dX9_addWires_13 : decode cX9_addWires 13 = .ok (.istore_n 3, 1) := by decide +kernel
theorem dX9_addWires_14 : decode cX9_addWires 14 = .ok (.iload_n 3, 1) := by decide +kernel
theorem dX9_addWires_15 : decode cX9_addWires 15 = .ok (.iload_n 2, 1) := by decide +kernel
theorem dX9_addWires_16 : decode cX9_addWires 16 = .ok (.if_icmp .ge 65, 3) := by decide +kernel
theorem dX9_addWires_19 : decode cX9_addWires 19 = .ok (.aload_n 0, 1) := by decide +kernel
theorem dX9_addWires_20 : decode cX9_addWires 20 = .ok (.getfield 50, 3) := by decide +kernel
theorem dX9_addWires_23 : decode cX9_addWires 23 = .ok (.iload_n 3, 1) := by decide +kernel
theorem dX9_addWires_24 : decode cX9_addWires 24 = .ok (.ifCond .ne 8, 3) := by decide +kernel
theorem dX9_addWires_27 : decode cX9_addWires 27 = .ok (.bipush 40, 2) := by decide +kernel
theorem dX9_addWires_29 : decode cX9_addWires 29 = .ok (.goto 5, 3) := by decide +kernel
theorem dX9_addWires_32 : decode cX9_addWires 32 = .ok (.bipush 44, 2) := by decide +kernel
theorem dX9_addWires_34 : decode cX9_addWires 34 = .ok (.invokevirtual 201, 3) := by decide +kernel
theorem dX9_addWires_37 : decode cX9_addWires 37 = .ok (.aload_n 0, 1) := by decide +kernel
theorem dX9_addWires_38 : decode cX9_addWires 38 = .ok (.getfield 10, 3) := by decide +kernel
theorem dX9_addWires_41 : decode cX9_addWires 41 = .ok (.iload_n 1, 1) := by decide +kernel
theorem dX9_addWires_42 : decode cX9_addWires 42 = .ok (.iload_n 3, 1) := by decide +kernel
theorem dX9_addWires_43 : decode cX9_addWires 43 = .ok (.invokevirtual 132, 3) := by decide +kernel
theorem dX9_addWires_46 : decode cX9_addWires 46 = .ok (.istore 4, 2) := by decide +kernel
theorem dX9_addWires_48 : decode cX9_addWires 48 = .ok (.iload 4, 2) := by decide +kernel
theorem dX9_addWires_50 : decode cX9_addWires 50 = .ok (.iconst (-1), 1) := by decide +kernel
theorem dX9_addWires_51 : decode cX9_addWires 51 = .ok (.if_icmp .ne 15, 3) := by decide +kernel
theorem dX9_addWires_54 : decode cX9_addWires 54 = .ok (.aload_n 0, 1) := by decide +kernel
theorem dX9_addWires_55 : decode cX9_addWires 55 = .ok (.getfield 50, 3) := by decide +kernel
theorem dX9_addWires_58 : decode cX9_addWires 58 = .ok (.bipush 45, 2) := by decide +kernel
theorem dX9_addWires_60 : decode cX9_addWires 60 = .ok (.invokevirtual 201, 3) := by decide +kernel
theorem dX9_addWires_63 : decode cX9_addWires 63 = .ok (.goto 12, 3) := by decide +kernel
theorem dX9_addWires_66 : decode cX9_addWires 66 = .ok (.aload_n 0, 1) := by decide +kernel
theorem dX9_addWires_67 : decode cX9_addWires 67 = .ok (.getfield 50, 3) := by decide +kernel
theorem dX9_addWires_70 : decode cX9_addWires 70 = .ok (.iload 4, 2) := by decide +kernel
theorem dX9_addWires_72 : decode cX9_addWires 72 = .ok (.invokevirtual 207, 3) := by decide +kernel
theorem dX9_addWires_75 : decode cX9_addWires 75 = .ok (.iinc 3 1, 3) := by decide +kernel
theorem dX9_addWires_78 : decode cX9_addWires 78 = .ok (.goto (-64), 3) := by decide +kernel
theorem dX9_addWires_81 : decode cX9_addWires 81 = .ok (.aload_n 0, 1) := by decide +kernel
theorem dX9_addWires_82 : decode cX9_addWires 82 = .ok (.getfield 50, 3) := by decide +kernel
theorem dX9_addWires_85 : decode cX9_addWires 85 = .ok (.bipush 41, 2) := by decide +kernel
theorem dX9_addWires_87 : decode cX9_addWires 87 = .ok (.invokevirtual 201, 3) := by decide +kernel
theorem dX9_addWires_90 : decode cX9_addWires 90 = .ok (.return_, 1) := by decide +kernel
theorem dX9_isPlace_0 : decode cX9_isPlace 0 = .ok (.iload_n 0, 1) := by decide +kernel
theorem dX9_isPlace_1 : decode cX9_isPlace 1 = .ok (.ifCond .lt 12, 3) := by decide +kernel
theorem dX9_isPlace_4 : decode cX9_isPlace 4 = .ok (.iload_n 0, 1) := by decide +kernel
theorem dX9_isPlace_5 : decode cX9_isPlace 5 = .ok (.iconst 3, 1) := by decide +kernel
theorem dX9_isPlace_6 : decode cX9_isPlace 6 = .ok (.if_icmp .ge 7, 3) := by decide +kernel
theorem dX9_isPlace_9 : decode cX9_isPlace 9 = .ok (.iconst 1, 1) := by decide +kernel
theorem dX9_isPlace_10 : decode cX9_isPlace 10 = .ok (.goto 4, 3) := by decide +kernel
theorem dX9_isPlace_13 : decode cX9_isPlace 13 = .ok (.iconst 0, 1) := by decide +kernel
theorem dX9_isPlace_14 : decode cX9_isPlace 14 = .ok (.ireturn, 1) := by decide +kernel
theorem dX9_isIn_0 : decode cX9_isIn 0 = .ok (.iload_n 0, 1) := by decide +kernel
theorem dX9_isIn_1 : decode cX9_isIn 1 = .ok (.iload_n 1, 1) := by decide +kernel
theorem dX9_isIn_2 : decode cX9_isIn 2 = .ok (.ishr, 1) := by decide +kernel
theorem dX9_isIn_3 : decode cX9_isIn 3 = .ok (.iconst 1, 1) := by decide +kernel
theorem dX9_isIn_4 : decode cX9_isIn 4 = .ok (.iand, 1) := by decide +kernel
theorem dX9_isIn_5 : decode cX9_isIn 5 = .ok (.iconst 1, 1) := by decide +kernel
theorem dX9_isIn_6 : decode cX9_isIn 6 = .ok (.if_icmp .ne 7, 3) := by decide +kernel
theorem dX9_isIn_9 : decode cX9_isIn 9 = .ok (.iconst 1, 1) := by decide +kernel
theorem dX9_isIn_10 : decode cX9_isIn 10 = .ok (.goto 4, 3) := by decide +kernel
theorem dX9_isIn_13 : decode cX9_isIn 13 = .ok (.iconst 0, 1) := by decide +kernel
theorem dX9_isIn_14 : decode cX9_isIn 14 = .ok (.ireturn, 1) := by decide +kernel
set_option maxRecDepth 20000 in
theorem ggX9_lowestIn_X9_isIn : GoodIn wsX9_lowestIn wsX9_isIn := goodIn_r _ [4] (by decide +kernel) (by decide +kernel)
set_option maxRecDepth 20000 in
theorem gX9_lowestIn_X9_isIn : GoodIn wsX9_lowestIn (va_wsS RX9 347 yX9_isIn wsX9_isIn) := goodIn_app (goodIn_of _ (by decide +kernel)) ggX9_lowestIn_X9_isIn
theorem dX9_lowestIn_0 : decode cX9_lowestIn 0 = .ok (.iconst 0, 1) := by decide +kernel
theorem dX9_lowestIn_1 : decode cX9_lowestIn 1 = .ok (.istore_n 1, 1) := by decide +kernel
theorem dX9_lowestIn_2 : decode cX9_lowestIn 2 = .ok (.iload_n 1, 1) := by decide +kernel
theorem dX9_lowestIn_3 : decode cX9_lowestIn 3 = .ok (.bipush 16, 2) := by decide +kernel
