theorem dX10_deep_56 : decode cX10_deep 56 = .ok (.iand, 1) := by decide +kernel
theorem dX10_deep_57 : decode cX10_deep 57 = .ok (.iconst 1, 1) := by decide +kernel
theorem dX10_deep_58 : decode cX10_deep 58 = .ok (.if_icmp .ne 5, 3) := by decide +kernel
theorem dX10_deep_61 : decode cX10_deep 61 = .ok (.iconst (-1), 1) := by decide +kernel
theorem dX10_deep_62 : decode cX10_deep 62 = .ok (.ireturn, 1) := by decide +kernel
theorem dX10_deep_63 : decode cX10_deep 63 = .ok (.iinc 3 1, 3) := by decide +kernel
theorem dX10_deep_66 : decode cX10_deep 66 = .ok (.goto (-38), 3) := by decide +kernel
theorem dX10_deep_69 : decode cX10_deep 69 = .ok (.aload_n 0, 1) := by decide +kernel
theorem dX10_deep_70 : decode cX10_deep 70 = .ok (.iload_n 1, 1) := by decide +kernel
theorem dX10_deep_71 : decode cX10_deep 71 = .ok (.invokevirtual 174, 3) := by decide +kernel
theorem dX10_deep_74 : decode cX10_deep 74 = .ok (.ireturn, 1) := by decide +kernel
set_option maxRecDepth 20000 in
theorem ggX10_rises_X10_isSwitch : GoodIn wsX10_rises wsX10_isSwitch := goodIn_r _ [9, 10, 11, 12, 8, 13, 14, 22, 23, 24, 25, 26, 27, 28, 29, 30, 31, 32, 33, 34, 35, 36, 37, 38, 39, 40, 41, 42, 43, 44, 45] (by decide +kernel) (by decide +kernel)
set_option maxRecDepth 20000 in
theorem gX10_rises_X10_isSwitch : GoodIn wsX10_rises (wsV RX10 110 RX10 yX10_isSwitch wsX10_isSwitch) := goodIn_app (goodIn_of _ (by decide +kernel)) ggX10_rises_X10_isSwitch
set_option maxRecDepth 20000 in
theorem ggX10_rises_X10_wired : GoodIn wsX10_rises wsX10_wired := goodIn_r _ [18, 10, 11, 12, 8, 13, 14, 22, 23, 24, 25, 26, 27, 28, 29, 30, 31, 32, 33, 34, 35, 36, 37, 38, 39, 40, 41, 42, 43, 44, 45] (by decide +kernel) (by decide +kernel)
set_option maxRecDepth 20000 in
theorem gX10_rises_X10_wired : GoodIn wsX10_rises (wsV RX10 81 RX10 yX10_wired wsX10_wired) := goodIn_app (goodIn_of _ (by decide +kernel)) ggX10_rises_X10_wired
set_option maxRecDepth 20000 in
theorem ggX10_rises_X10_rises : GoodIn wsX10_rises wsX10_rises := goodIn_r _ [0, 1, 2, 3, 4, 5, 6, 7, 8, 9, 10, 11, 12, 13, 14, 15, 16, 17, 18, 19, 20, 21, 22, 23, 24, 25, 26, 27, 28, 29, 30, 31, 32, 33, 34, 35, 36, 37, 38, 39, 40, 41, 42, 43, 44, 45] (by decide +kernel) (by decide +kernel)
set_option maxRecDepth 20000 in
theorem gX10_rises_X10_rises : GoodIn wsX10_rises (wsV RX10 174 RX10 yX10_rises wsX10_rises) := goodIn_app (goodIn_of _ (by decide +kernel)) ggX10_rises_X10_rises
set_option maxRecDepth 20000 in
theorem ggX10_rises_X10_of : GoodIn wsX10_rises wsX10_of := goodIn_r _ [13, 14, 22, 23, 24, 25, 26, 27, 28, 29, 30, 31, 32, 33, 34, 35, 36, 37, 38, 39, 40, 41, 42, 43, 44, 45] (by decide +kernel) (by decide +kernel)
set_option maxRecDepth 20000 in
theorem gX10_rises_X10_of : GoodIn wsX10_rises (wsV RX10 77 RX10 yX10_of wsX10_of) := goodIn_app (goodIn_of _ (by decide +kernel)) ggX10_rises_X10_of
theorem dX10_rises_0 : decode cX10_rises 0 = .ok (.aload_n 0, 1) := by decide +kernel
theorem dX10_rises_1 : decode cX10_rises 1 = .ok (.iload_n 1, 1) := by decide +kernel
theorem dX10_rises_2 : decode cX10_rises 2 = .ok (.invokevirtual 110, 3) := by decide +kernel
theorem dX10_rises_5 : decode cX10_rises 5 = .ok (.ifCond .eq 5, 3) := by decide +kernel
theorem dX10_rises_8 : decode cX10_rises 8 = .ok (.iconst 0, 1) := by decide +kernel
theorem dX10_rises_9 : decode cX10_rises 9 = .ok (.ireturn, 1) := by decide +kernel
theorem dX10_rises_10 : decode cX10_rises 10 = .ok (.iconst 0, 1) := by decide +kernel
theorem dX10_rises_11 : decode cX10_rises 11 = .ok (.istore_n 2, 1) := by decide +kernel
theorem dX10_rises_12 : decode cX10_rises 12 = .ok (.iconst 0, 1) := by decide +kernel
theorem dX10_rises_13 : decode cX10_rises 13 = .ok (.istore_n 3, 1) := by decide +kernel
theorem dX10_rises_14 : decode cX10_rises 14 = .ok (.iload_n 3, 1) := by decide +kernel
theorem dX10_rises_15 : decode cX10_rises 15 = .ok (.iconst 3, 1) := by decide +kernel
theorem dX10_rises_16 : decode cX10_rises 16 = .ok (.if_icmp .ge 33, 3) := by decide +kernel
theorem dX10_rises_19 : decode cX10_rises 19 = .ok (.aload_n 0, 1) := by decide +kernel
theorem dX10_rises_20 : decode cX10_rises 20 = .ok (.iload_n 1, 1) := by decide +kernel
theorem dX10_rises_21 : decode cX10_rises 21 = .ok (.iload_n 3, 1) := by decide +kernel
theorem dX10_rises_22 : decode cX10_rises 22 = .ok (.invokevirtual 81, 3) := by decide +kernel
theorem dX10_rises_25 : decode cX10_rises 25 = .ok (.ifCond .lt 18, 3) := by decide +kernel
theorem dX10_rises_28 : decode cX10_rises 28 = .ok (.iload_n 2, 1) := by decide +kernel
theorem dX10_rises_29 : decode cX10_rises 29 = .ok (.aload_n 0, 1) := by decide +kernel
theorem dX10_rises_30 : decode cX10_rises 30 = .ok (.aload_n 0, 1) := by decide +kernel
theorem dX10_rises_31 : decode cX10_rises 31 = .ok (.iload_n 1, 1) := by decide +kernel
theorem dX10_rises_32 : decode cX10_rises 32 = .ok (.iload_n 3, 1) := by decide +kernel
theorem dX10_rises_33 : decode cX10_rises 33 = .ok (.invokevirtual 81, 3) := by decide +kernel
theorem dX10_rises_36 : decode cX10_rises 36 = .ok (.invokevirtual 174, 3) := by decide +kernel
theorem dX10_rises_39 : decode cX10_rises 39 = .ok (.invokestatic 177, 3) := by decide +kernel
theorem dX10_rises_42 : decode cX10_rises 42 = .ok (.istore_n 2, 1) := by decide +kernel
theorem dX10_rises_43 : decode cX10_rises 43 = .ok (.iinc 3 1, 3) := by decide +kernel
theorem dX10_rises_46 : decode cX10_rises 46 = .ok (.goto (-32), 3) := by decide +kernel
theorem dX10_rises_49 : decode cX10_rises 49 = .ok (.iload_n 2, 1) := by decide +kernel
theorem dX10_rises_50 : decode cX10_rises 50 = .ok (.aload_n 0, 1) := by decide +kernel
theorem dX10_rises_51 : decode cX10_rises 51 = .ok (.iload_n 1, 1) := by decide +kernel
theorem dX10_rises_52 : decode cX10_rises 52 = .ok (.iconst 1, 1) := by decide +kernel
theorem dX10_rises_53 : decode cX10_rises 53 = .ok (.invokevirtual 77, 3) := by decide +kernel
theorem dX10_rises_56 : decode cX10_rises 56 = .ok (.iadd, 1) := by decide +kernel
theorem dX10_rises_57 : decode cX10_rises 57 = .ok (.ireturn, 1) := by decide +kernel
set_option maxRecDepth 20000 in
theorem ggX10_depth_X10_isLantern : GoodIn wsX10_depth wsX10_isLantern := goodIn_r _ [5, 6, 7, 8, 4, 9, 43, 44, 45, 46, 47, 48, 49, 50, 51, 52, 53, 54, 55, 56, 57, 58, 59, 60, 61, 62, 63, 64, 65, 66] (by decide +kernel) (by decide +kernel)
set_option maxRecDepth 20000 in
theorem gX10_depth_X10_isLantern : GoodIn wsX10_depth (wsV RX10 106 RX10 yX10_isLantern wsX10_isLantern) := goodIn_app (goodIn_of _ (by decide +kernel)) ggX10_depth_X10_isLantern
set_option maxRecDepth 20000 in
theorem ggX10_depth_X10_deep : GoodIn wsX10_depth wsX10_deep := goodIn_r _ [13, 6, 14, 15, 16, 17, 4, 18, 19, 20, 21, 22, 23, 24, 25, 26, 27, 28, 29, 30, 31, 32, 33, 34, 35, 36, 37, 38, 39, 40, 41, 42, 43, 44, 45, 46, 47, 48, 49, 50, 51, 52, 53, 54, 55, 56, 57, 58, 59, 60, 61, 62, 63, 64, 65, 66] (by decide +kernel) (by decide +kernel)
set_option maxRecDepth 20000 in
theorem gX10_depth_X10_deep : GoodIn wsX10_depth (wsV RX10 182 RX10 yX10_deep wsX10_deep) := goodIn_app (goodIn_of _ (by decide +kernel)) ggX10_depth_X10_deep
theorem dX10_depth_0 : decode cX10_depth 0 = .ok (.aload_n 0, 1) := by decide +kernel
theorem dX10_depth_1 : decode cX10_depth 1 = .ok (.iload_n 1, 1) := by decide +kernel
theorem dX10_depth_2 : decode cX10_depth 2 = .ok (.invokevirtual 106, 3) := by decide +kernel
theorem dX10_depth_5 : decode cX10_depth 5 = .ok (.ifCond .ne 6, 3) := by decide +kernel
theorem dX10_depth_8 : decode cX10_depth 8 = .ok (.bipush (-11), 2) := by decide +kernel
theorem dX10_depth_10 : decode cX10_depth 10 = .ok (.ireturn, 1) := by decide +kernel
theorem dX10_depth_11 : decode cX10_depth 11 = .ok (.aload_n 0, 1) := by decide +kernel
theorem dX10_depth_12 : decode cX10_depth 12 = .ok (.iload_n 1, 1) := by decide +kernel
theorem dX10_depth_13 : decode cX10_depth 13 = .ok (.invokevirtual 182, 3) := by decide +kernel
theorem dX10_depth_16 : decode cX10_depth 16 = .ok (.ifCond .ge 8, 3) := by decide +kernel
theorem dX10_depth_19 : decode cX10_depth 19 = .ok (.bipush (-15), 2) := by decide +kernel
theorem dX10_depth_21 : decode cX10_depth 21 = .ok (.goto 8, 3) := by decide +kernel
theorem dX10_depth_24 : decode cX10_depth 24 = .ok (.aload_n 0, 1) := by decide +kernel
theorem dX10_depth_25 : decode cX10_depth 25 = .ok (.iload_n 1, 1) := by decide +kernel
theorem dX10_depth_26 : decode cX10_depth 26 = .ok (.invokevirtual 182, 3) := by decide +kernel
theorem dX10_depth_29 : decode cX10_depth 29 = .ok (.ireturn, 1) := by decide +kernel
set_option maxRecDepth 20000 in
theorem ggX10_depthAgain_X10_depth : GoodIn wsX10_depthAgain wsX10_depth := goodIn_r _ [5, 6, 7, 8, 4, 9, 10, 11, 12, 13, 14, 15, 16, 17, 18, 19, 20, 21, 22, 23, 24, 25, 26, 27, 28, 29, 30, 31, 32, 33, 34, 35, 36, 37, 38, 39, 40, 41, 42, 43, 44, 45, 46, 47, 48, 49, 50, 51, 52, 53, 54, 55, 56, 57, 58, 59, 60, 61, 62, 63, 64, 65, 66, 67, 68, 69, 70] (by decide +kernel) (by decide +kernel)
set_option maxRecDepth 20000 in
theorem gX10_depthAgain_X10_depth : GoodIn wsX10_depthAgain (wsV RX10 185 RX10 yX10_depth wsX10_depth) := goodIn_app (goodIn_of _ (by decide +kernel)) ggX10_depthAgain_X10_depth
theorem dX10_depthAgain_0 : decode cX10_depthAgain 0 = .ok (.aload_n 0, 1) := by decide +kernel
theorem dX10_depthAgain_1 : decode cX10_depthAgain 1 = .ok (.iload_n 1, 1) := by decide +kernel
theorem dX10_depthAgain_2 : decode cX10_depthAgain 2 = .ok (.invokevirtual 185, 3) := by decide +kernel
theorem dX10_depthAgain_5 : decode cX10_depthAgain 5 = .ok (.ireturn, 1) := by decide +kernel
set_option maxRecDepth 20000 in
theorem ggX10_settles_X10_isSettled : GoodIn wsX10_settles wsX10_isSettled := goodIn_r _ [5, 6, 7, 8, 9, 4, 10, 11, 12, 13, 14, 15, 16, 17, 18, 19, 20, 21, 22, 23, 24, 25, 26, 27, 28, 29, 30, 31, 32, 33, 34, 35, 36, 37, 38, 39, 40, 41, 42, 51, 52, 53, 54, 55, 56, 57, 58, 59, 60, 61, 62, 63, 64, 65, 66, 67, 68, 69, 70, 71, 72, 73, 74] (by decide +kernel) (by decide +kernel)
set_option maxRecDepth 20000 in
theorem gX10_settles_X10_isSettled : GoodIn wsX10_settles (wsV RX10 188 RX10 yX10_isSettled wsX10_isSettled) := goodIn_app (goodIn_of _ (by decide +kernel)) ggX10_settles_X10_isSettled
set_option maxRecDepth 20000 in
theorem ggX10_settles_X10_goes : GoodIn wsX10_settles wsX10_goes := goodIn_r _ [46, 6, 7, 8, 9, 4, 10, 11, 12, 13, 14, 15, 16, 17, 18, 19, 20, 21, 22, 23, 24, 25, 26, 27, 28, 29, 30, 31, 32, 33, 34, 35, 36, 37, 38, 39, 40, 41, 42, 47, 48, 49, 50, 51, 52, 53, 54, 55, 56, 57, 58, 59, 60, 61, 62, 63, 64, 65, 66, 67, 68, 69, 70, 71, 72, 73, 74] (by decide +kernel) (by decide +kernel)
set_option maxRecDepth 20000 in
theorem gX10_settles_X10_goes : GoodIn wsX10_settles (wsV RX10 165 RX10 yX10_goes wsX10_goes) := goodIn_app (goodIn_of _ (by decide +kernel)) ggX10_settles_X10_goes
theorem dX10_settles_0 : decode cX10_settles 0 = .ok (.iconst 0, 1) := by decide +kernel
theorem dX10_settles_1 : decode cX10_settles 1 = .ok (.istore_n 1, 1) := by decide +kernel
theorem dX10_settles_2 : decode cX10_settles 2 = .ok (.iload_n 1, 1) := by decide +kernel
theorem dX10_settles_3 : decode cX10_settles 3 = .ok (.sipush 256, 3) := by decide +kernel
theorem dX10_settles_6 : decode cX10_settles 6 = .ok (.if_icmp .gt 23, 3) := by decide +kernel
theorem dX10_settles_9 : decode cX10_settles 9 = .ok (.aload_n 0, 1) := by decide +kernel
theorem dX10_settles_10 : decode cX10_settles 10 = .ok (.invokevirtual 188, 3) := by decide +kernel
theorem dX10_settles_13 : decode cX10_settles 13 = .ok (.ifCond .eq 5, 3) := by decide +kernel
theorem dX10_settles_16 : decode cX10_settles 16 = .ok (.iload_n 1, 1) := by decide +kernel
theorem dX10_settles_17 : decode cX10_settles 17 = .ok (.ireturn, 1) := by decide +kernel
theorem dX10_settles_18 : decode cX10_settles 18 = .ok (.aload_n 0, 1) := by decide +kernel
theorem dX10_settles_19 : decode cX10_settles 19 = .ok (.invokevirtual 165, 3) := by decide +kernel
theorem dX10_settles_22 : decode cX10_settles 22 = .ok (.istore_n 2, 1) := by decide +kernel
theorem dX10_settles_23 : decode cX10_settles 23 = .ok (.iinc 1 1, 3) := by decide +kernel
theorem dX10_settles_26 : decode cX10_settles 26 = .ok (.goto (-24), 3) := by decide +kernel
theorem dX10_settles_29 : decode cX10_settles 29 = .ok (.iconst (-1), 1) := by decide +kernel
theorem dX10_settles_30 : decode cX10_settles 30 = .ok (.ireturn, 1) := by decide +kernel
set_option maxRecDepth 20000 in
theorem ggX10_settlesIn_X10_thinks : GoodIn wsX10_settlesIn wsX10_thinks := goodIn_r _ [5, 6, 7, 64, 65, 66, 67, 68, 69, 70, 71, 72, 73, 74, 75, 76, 77, 78, 79, 80, 81, 82, 83, 84, 85, 86, 87] (by decide +kernel) (by decide +kernel)
set_option maxRecDepth 20000 in
theorem gX10_settlesIn_X10_thinks : GoodIn wsX10_settlesIn (wsV RX10 192 RX10 yX10_thinks wsX10_thinks) := goodIn_app (goodIn_of _ (by decide +kernel)) ggX10_settlesIn_X10_thinks
set_option maxRecDepth 20000 in
theorem ggX10_settlesIn_X10_settles : GoodIn wsX10_settlesIn wsX10_settles := goodIn_r _ [11, 12, 13, 14, 4, 15, 7, 16, 17, 18, 19, 20, 21, 22, 23, 24, 25, 26, 27, 28, 29, 30, 31, 32, 33, 34, 35, 36, 37, 38, 39, 40, 41, 42, 43, 44, 45, 46, 47, 48, 49, 50, 51, 52, 53, 54, 55, 56, 57, 58, 59, 64, 65, 66, 67, 68, 69, 70, 71, 72, 73, 74, 75, 76, 77, 78, 79, 80, 81, 82, 83, 84, 85, 86, 87] (by decide +kernel) (by decide +kernel)
set_option maxRecDepth 20000 in
theorem gX10_settlesIn_X10_settles : GoodIn wsX10_settlesIn (wsV RX10 195 RX10 yX10_settles wsX10_settles) := goodIn_app (goodIn_of _ (by decide +kernel)) ggX10_settlesIn_X10_settles
set_option maxRecDepth 20000 in
theorem ggX10_settlesIn_X10_thinksNoMore : GoodIn wsX10_settlesIn wsX10_thinksNoMore := goodIn_r _ [63, 7, 6, 64, 65, 66, 67, 68, 69, 70, 71, 72, 73, 74, 75, 76, 77, 78, 79, 80, 81, 82, 83, 84, 85, 86, 87] (by decide +kernel) (by decide +kernel)
set_option maxRecDepth 20000 in
theorem gX10_settlesIn_X10_thinksNoMore : GoodIn wsX10_settlesIn (wsV RX10 198 RX10 yX10_thinksNoMore wsX10_thinksNoMore) := goodIn_app (goodIn_of _ (by decide +kernel)) ggX10_settlesIn_X10_thinksNoMore
theorem dX10_settlesIn_0 : decode cX10_settlesIn 0 = .ok (.aload_n 0, 1) := by decide +kernel
theorem dX10_settlesIn_1 : decode cX10_settlesIn 1 = .ok (.invokevirtual 192, 3) := by decide +kernel
theorem dX10_settlesIn_4 : decode cX10_settlesIn 4 = .ok (.aload_n 0, 1) := by decide +kernel
theorem dX10_settlesIn_5 : decode cX10_settlesIn 5 = .ok (.invokevirtual 195, 3) := by decide +kernel
theorem dX10_settlesIn_8 : decode cX10_settlesIn 8 = .ok (.istore_n 1, 1) := by decide +kernel
theorem dX10_settlesIn_9 : decode cX10_settlesIn 9 = .ok (.aload_n 0, 1) := by decide +kernel
theorem dX10_settlesIn_10 : decode cX10_settlesIn 10 = .ok (.invokevirtual 198, 3) := by decide +kernel
theorem dX10_settlesIn_13 : decode cX10_settlesIn 13 = .ok (.iload_n 1, 1) := by decide +kernel
theorem dX10_settlesIn_14 : decode cX10_settlesIn 14 = .ok (.ifCond .ge 8, 3) := by decide +kernel
theorem dX10_settlesIn_17 : decode cX10_settlesIn 17 = .ok (.bipush (-15), 2) := by decide +kernel
theorem dX10_settlesIn_19 : decode cX10_settlesIn 19 = .ok (.goto 4, 3) := by decide +kernel
theorem dX10_settlesIn_22 : decode cX10_settlesIn 22 = .ok (.iload_n 1, 1) := by decide +kernel
theorem dX10_settlesIn_23 : decode cX10_settlesIn 23 = .ok (.ireturn, 1) := by decide +kernel
set_option maxRecDepth 20000 in
theorem ggX10_notes_X10_of : GoodIn wsX10_notes wsX10_of := goodIn_r _ [9, 4, 10, 11, 12, 13, 14, 15, 16, 17, 18, 19, 20, 21, 22, 23, 24, 25, 26, 27, 28, 29, 30, 31, 32, 33] (by decide +kernel) (by decide +kernel)
set_option maxRecDepth 20000 in
theorem gX10_notes_X10_of : GoodIn wsX10_notes (wsV RX10 77 RX10 yX10_of wsX10_of) := goodIn_app (goodIn_of _ (by decide +kernel)) ggX10_notes_X10_of
theorem dX10_notes_0 : decode cX10_notes 0 = .ok (.aload_n 0, 1) := by decide +kernel
theorem dX10_notes_1 : decode cX10_notes 1 = .ok (.getfield 34, 3) := by decide +kernel
theorem dX10_notes_4 : decode cX10_notes 4 = .ok (.iload_n 1, 1) := by decide +kernel
theorem dX10_notes_5 : decode cX10_notes 5 = .ok (.iconst 0, 1) := by decide +kernel
theorem dX10_notes_6 : decode cX10_notes 6 = .ok (.iastore, 1) := by decide +kernel
theorem dX10_notes_7 : decode cX10_notes 7 = .ok (.aload_n 0, 1) := by decide +kernel
theorem dX10_notes_8 : decode cX10_notes 8 = .ok (.getfield 37, 3) := by decide +kernel
theorem dX10_notes_11 : decode cX10_notes 11 = .ok (.iload_n 1, 1) := by decide +kernel
theorem dX10_notes_12 : decode cX10_notes 12 = .ok (.iconst 0, 1) := by decide +kernel
theorem dX10_notes_13 : decode cX10_notes 13 = .ok (.iastore, 1) := by decide +kernel
theorem dX10_notes_14 : decode cX10_notes 14 = .ok (.aload_n 0, 1) := by decide +kernel
theorem dX10_notes_15 : decode cX10_notes 15 = .ok (.getfield 40, 3) := by decide +kernel
theorem dX10_notes_18 : decode cX10_notes 18 = .ok (.iload_n 1, 1) := by decide +kernel
theorem dX10_notes_19 : decode cX10_notes 19 = .ok (.iconst 0, 1) := by decide +kernel
theorem dX10_notes_20 : decode cX10_notes 20 = .ok (.iastore, 1) := by decide +kernel
theorem dX10_notes_21 : decode cX10_notes 21 = .ok (.iconst 0, 1) := by decide +kernel
theorem dX10_notes_22 : decode cX10_notes 22 = .ok (.istore_n 2, 1) := by decide +kernel
theorem dX10_notes_23 : decode cX10_notes 23 = .ok (.iload_n 2, 1) := by decide +kernel
theorem dX10_notes_24 : decode cX10_notes 24 = .ok (.aload_n 0, 1) := by decide +kernel
theorem dX10_notes_25 : decode cX10_notes 25 = .ok (.getfield 9, 3) := by decide +kernel
theorem dX10_notes_28 : decode cX10_notes 28 = .ok (.iconst 0, 1) := by decide +kernel
theorem dX10_notes_29 : decode cX10_notes 29 = .ok (.iaload, 1) := by decide +kernel
theorem dX10_notes_30 : decode cX10_notes 30 = .ok (.if_icmp .ge 78, 3) := by decide +kernel
theorem dX10_notes_33 : decode cX10_notes 33 = .ok (.aload_n 0, 1) := by decide +kernel
theorem dX10_notes_34 : decode cX10_notes 34 = .ok (.getfield 34, 3) := by decide +kernel
theorem dX10_notes_37 : decode cX10_notes 37 = .ok (.iload_n 1, 1) := by decide +kernel
theorem dX10_notes_38 : decode cX10_notes 38 = .ok (.dup2, 1) := by decide +kernel
theorem dX10_notes_39 : decode cX10_notes 39 = .ok (.iaload, 1) := by decide +kernel
theorem dX10_notes_40 : decode cX10_notes 40 = .ok (.aload_n 0, 1) := by decide +kernel
theorem dX10_notes_41 : decode cX10_notes 41 = .ok (.iload_n 2, 1) := by decide +kernel
theorem dX10_notes_42 : decode cX10_notes 42 = .ok (.iconst 2, 1) := by decide +kernel
theorem dX10_notes_43 : decode cX10_notes 43 = .ok (.invokevirtual 77, 3) := by decide +kernel
theorem dX10_notes_46 : decode cX10_notes 46 = .ok (.iload_n 2, 1) := by decide +kernel
theorem dX10_notes_47 : decode cX10_notes 47 = .ok (.ishl, 1) := by decide +kernel
theorem dX10_notes_48 : decode cX10_notes 48 = .ok (.ior, 1) := by decide +kernel
theorem dX10_notes_49 : decode cX10_notes 49 = .ok (.iastore, 1) := by decide +kernel
theorem dX10_notes_50 : decode cX10_notes 50 = .ok (.iload_n 2, 1) := by decide +kernel
theorem dX10_notes_51 : decode cX10_notes 51 = .ok (.bipush 8, 2) := by decide +kernel
theorem dX10_notes_53 : decode cX10_notes 53 = .ok (.if_icmp .ge 26, 3) := by decide +kernel
theorem dX10_notes_56 : decode cX10_notes 56 = .ok (.aload_n 0, 1) := by decide +kernel
theorem dX10_notes_57 : decode cX10_notes 57 = .ok (.getfield 37, 3) := by decide +kernel
theorem dX10_notes_60 : decode cX10_notes 60 = .ok (.iload_n 1, 1) := by decide +kernel
theorem dX10_notes_61 : decode cX10_notes 61 = .ok (.dup2, 1) := by decide +kernel
theorem dX10_notes_62 : decode cX10_notes 62 = .ok (.iaload, 1) := by decide +kernel
theorem dX10_notes_63 : decode cX10_notes 63 = .ok (.aload_n 0, 1) := by decide +kernel
theorem dX10_notes_64 : decode cX10_notes 64 = .ok (.iload_n 2, 1) := by decide +kernel
theorem dX10_notes_65 : decode cX10_notes 65 = .ok (.bipush 7, 2) := by decide +kernel
theorem dX10_notes_67 : decode cX10_notes 67 = .ok (.invokevirtual 77, 3) := by decide +kernel
theorem dX10_notes_70 : decode cX10_notes 70 = .ok (.iconst 3, 1) := by decide +kernel
theorem dX10_notes_71 : decode cX10_notes 71 = .ok (.iload_n 2, 1) := by decide +kernel
theorem dX10_notes_72 : decode cX10_notes 72 = .ok (.imul, 1) := by decide +kernel
theorem dX10_notes_73 : decode cX10_notes 73 = .ok (.ishl, 1) := by decide +kernel
theorem dX10_notes_74 : decode cX10_notes 74 = .ok (.ior, 1) := by decide +kernel
theorem dX10_notes_75 : decode cX10_notes 75 = .ok (.iastore, 1) := by decide +kernel
theorem dX10_notes_76 : decode cX10_notes 76 = .ok (.goto 26, 3) := by decide +kernel
theorem dX10_notes_79 : decode cX10_notes 79 = .ok (.aload_n 0, 1) := by decide +kernel
theorem dX10_notes_80 : decode cX10_notes 80 = .ok (.getfield 40, 3) := by decide +kernel
theorem dX10_notes_83 : decode cX10_notes 83 = .ok (.iload_n 1, 1) := by decide +kernel
theorem dX10_notes_84 : decode cX10_notes 84 = .ok (.dup2, 1) := by decide +kernel
theorem dX10_notes_85 : decode cX10_notes 85 = .ok (.iaload, 1) := by decide +kernel
theorem dX10_notes_86 : decode cX10_notes 86 = .ok (.aload_n 0, 1) := by decide +kernel
theorem dX10_notes_87 : decode cX10_notes 87 = .ok (.iload_n 2, 1) := by decide +kernel
theorem dX10_notes_88 : decode cX10_notes 88 = .ok (.bipush 7, 2) := by decide +kernel
theorem dX10_notes_90 : decode cX10_notes 90 = .ok (.invokevirtual 77, 3) := by decide +kernel
theorem dX10_notes_93 : decode cX10_notes 93 = .ok (.iconst 3, 1) := by decide +kernel
theorem dX10_notes_94 : decode cX10_notes 94 = .ok (.iload_n 2, 1) := by decide +kernel
theorem dX10_notes_95 : decode cX10_notes 95 = .ok (.bipush 8, 2) := by decide +kernel
theorem dX10_notes_97 : decode cX10_notes 97 = .ok (.isub, 1) := by decide +kernel
theorem dX10_notes_98 : decode cX10_notes 98 = .ok (.imul, 1) := by decide +kernel
theorem dX10_notes_99 : decode cX10_notes 99 = .ok (.ishl, 1) := by decide +kernel
theorem dX10_notes_100 : decode cX10_notes 100 = .ok (.ior, 1) := by decide +kernel
theorem dX10_notes_101 : decode cX10_notes 101 = .ok (.iastore, 1) := by decide +kernel
theorem dX10_notes_102 : decode cX10_notes 102 = .ok (.iinc 2 1, 3) := by decide +kernel
theorem dX10_notes_105 : decode cX10_notes 105 = .ok (.goto (-82), 3) := by decide +kernel
theorem dX10_notes_108 : decode cX10_notes 108 = .ok (.return_, 1) := by decide +kernel
set_option maxRecDepth 20000 in
theorem ggX10_period_X10_thinks : GoodIn wsX10_period wsX10_thinks := goodIn_r _ [8, 9, 10, 63, 64, 65, 66, 67, 68, 69, 70, 71, 72, 73, 74, 75, 76, 77, 78, 79, 80, 81, 82, 83, 84, 85, 86] (by decide +kernel) (by decide +kernel)
set_option maxRecDepth 20000 in
theorem gX10_period_X10_thinks : GoodIn wsX10_period (wsV RX10 192 RX10 yX10_thinks wsX10_thinks) := goodIn_app (goodIn_of _ (by decide +kernel)) ggX10_period_X10_thinks
set_option maxRecDepth 20000 in
theorem ggX10_period_X10_notes : GoodIn wsX10_period wsX10_notes := goodIn_r _ [14, 1, 2, 3, 10, 15, 16, 17, 7, 18, 63, 64, 65, 66, 67, 68, 69, 70, 71, 72, 73, 74, 75, 76, 77, 78, 79, 80, 81, 82, 83, 84, 85, 86] (by decide +kernel) (by decide +kernel)
set_option maxRecDepth 20000 in
theorem gX10_period_X10_notes : GoodIn wsX10_period (wsV RX10 201 RX10 yX10_notes wsX10_notes) := goodIn_app (goodIn_of _ (by decide +kernel)) ggX10_period_X10_notes
set_option maxRecDepth 20000 in
theorem ggX10_period_X10_goes : GoodIn wsX10_period wsX10_goes := goodIn_r _ [22, 10, 23, 24, 25, 7, 26, 27, 28, 29, 30, 31, 32, 33, 34, 35, 15, 16, 17, 18, 36, 37, 38, 39, 40, 41, 42, 43, 44, 45, 46, 47, 48, 49, 50, 51, 52, 53, 54, 55, 56, 57, 58, 63, 64, 65, 66, 67, 68, 69, 70, 71, 72, 73, 74, 75, 76, 77, 78, 79, 80, 81, 82, 83, 84, 85, 86] (by decide +kernel) (by decide +kernel)
set_option maxRecDepth 20000 in
theorem gX10_period_X10_goes : GoodIn wsX10_period (wsV RX10 165 RX10 yX10_goes wsX10_goes) := goodIn_app (goodIn_of _ (by decide +kernel)) ggX10_period_X10_goes
set_option maxRecDepth 20000 in
theorem ggX10_period_X10_thinksNoMore : GoodIn wsX10_period wsX10_thinksNoMore := goodIn_r _ [62, 10, 9, 63, 64, 65, 66, 67, 68, 69, 70, 71, 72, 73, 74, 75, 76, 77, 78, 79, 80, 81, 82, 83, 84, 85, 86] (by decide +kernel) (by decide +kernel)
set_option maxRecDepth 20000 in
theorem gX10_period_X10_thinksNoMore : GoodIn wsX10_period (wsV RX10 198 RX10 yX10_thinksNoMore wsX10_thinksNoMore) := goodIn_app (goodIn_of _ (by decide +kernel)) ggX10_period_X10_thinksNoMore
theorem dX10_period_0 : decode cX10_period 0 = .ok (.aload_n 0, 1) := by decide +kernel
theorem dX10_period_1 : decode cX10_period 1 = .ok (.invokevirtual 192, 3) := by decide +kernel
theorem dX10_period_4 : decode cX10_period 4 = .ok (.bipush (-15), 2) := by decide +kernel
theorem dX10_period_6 : decode cX10_period 6 = .ok (.istore_n 1, 1) := by decide +kernel
theorem dX10_period_7 : decode cX10_period 7 = .ok (.aload_n 0, 1) := by decide +kernel
theorem dX10_period_8 : decode cX10_period 8 = .ok (.iconst 0, 1) := by decide +kernel
theorem dX10_period_9 : decode cX10_period 9 = .ok (.invokevirtual 201, 3) := by decide +kernel
theorem dX10_period_12 : decode cX10_period 12 = .ok (.iconst 1, 1) := by decide +kernel
theorem dX10_period_13 : decode cX10_period 13 = .ok (.istore_n 2, 1) := by decide +kernel
theorem dX10_period_14 : decode cX10_period 14 = .ok (.iload_n 2, 1) := by decide +kernel
theorem dX10_period_15 : decode cX10_period 15 = .ok (.sipush 256, 3) := by decide +kernel
theorem dX10_period_18 : decode cX10_period 18 = .ok (.if_icmp .gt 95, 3) := by decide +kernel
theorem dX10_period_21 : decode cX10_period 21 = .ok (.iload_n 1, 1) := by decide +kernel
theorem dX10_period_22 : decode cX10_period 22 = .ok (.ifCond .ge 91, 3) := by decide +kernel
theorem dX10_period_25 : decode cX10_period 25 = .ok (.aload_n 0, 1) := by decide +kernel
theorem dX10_period_26 : decode cX10_period 26 = .ok (.invokevirtual 165, 3) := by decide +kernel
theorem dX10_period_29 : decode cX10_period 29 = .ok (.istore_n 3, 1) := by decide +kernel
theorem dX10_period_30 : decode cX10_period 30 = .ok (.aload_n 0, 1) := by decide +kernel
theorem dX10_period_31 : decode cX10_period 31 = .ok (.iload_n 2, 1) := by decide +kernel
theorem dX10_period_32 : decode cX10_period 32 = .ok (.invokevirtual 201, 3) := by decide +kernel
theorem dX10_period_35 : decode cX10_period 35 = .ok (.iconst 0, 1) := by decide +kernel
theorem dX10_period_36 : decode cX10_period 36 = .ok (.istore 4, 2) := by decide +kernel
theorem dX10_period_38 : decode cX10_period 38 = .ok (.iload 4, 2) := by decide +kernel
theorem dX10_period_40 : decode cX10_period 40 = .ok (.iload_n 2, 1) := by decide +kernel
theorem dX10_period_41 : decode cX10_period 41 = .ok (.if_icmp .ge 66, 3) := by decide +kernel
theorem dX10_period_44 : decode cX10_period 44 = .ok (.iload_n 1, 1) := by decide +kernel
theorem dX10_period_45 : decode cX10_period 45 = .ok (.ifCond .ge 62, 3) := by decide +kernel
theorem dX10_period_48 : decode cX10_period 48 = .ok (.aload_n 0, 1) := by decide +kernel
theorem dX10_period_49 : decode cX10_period 49 = .ok (.getfield 34, 3) := by decide +kernel
theorem dX10_period_52 : decode cX10_period 52 = .ok (.iload 4, 2) := by decide +kernel
theorem dX10_period_54 : decode cX10_period 54 = .ok (.iaload, 1) := by decide +kernel
theorem dX10_period_55 : decode cX10_period 55 = .ok (.aload_n 0, 1) := by decide +kernel
theorem dX10_period_56 : decode cX10_period 56 = .ok (.getfield 34, 3) := by decide +kernel
theorem dX10_period_59 : decode cX10_period 59 = .ok (.iload_n 2, 1) := by decide +kernel
theorem dX10_period_60 : decode cX10_period 60 = .ok (.iaload, 1) := by decide +kernel
theorem dX10_period_61 : decode cX10_period 61 = .ok (.if_icmp .ne 40, 3) := by decide +kernel
theorem dX10_period_64 : decode cX10_period 64 = .ok (.aload_n 0, 1) := by decide +kernel
theorem dX10_period_65 : decode cX10_period 65 = .ok (.getfield 37, 3) := by decide +kernel
theorem dX10_period_68 : decode cX10_period 68 = .ok (.iload 4, 2) := by decide +kernel
theorem dX10_period_70 : decode cX10_period 70 = .ok (.iaload, 1) := by decide +kernel
theorem dX10_period_71 : decode cX10_period 71 = .ok (.aload_n 0, 1) := by decide +kernel
theorem dX10_period_72 : decode cX10_period 72 = .ok (.getfield 37, 3) := by decide +kernel
theorem dX10_period_75 : decode cX10_period 75 = .ok (.iload_n 2, 1) := by decide +kernel
theorem dX10_period_76 : decode cX10_period 76 = .ok (.iaload, 1) := by decide +kernel
theorem dX10_period_77 : decode cX10_period 77 = .ok (.if_icmp .ne 24, 3) := by decide +kernel
theorem dX10_period_80 : decode cX10_period 80 = .ok (.aload_n 0, 1) := by decide +kernel
theorem dX10_period_81 : decode cX10_period 81 = .ok (.getfield 40, 3) := by decide +kernel
theorem dX10_period_84 : decode cX10_period 84 = .ok (.iload 4, 2) := by decide +kernel
theorem dX10_period_86 : decode cX10_period 86 = .ok (.iaload, 1) := by decide +kernel
theorem dX10_period_87 : decode cX10_period 87 = .ok (.aload_n 0, 1) := by decide +kernel
theorem dX10_period_88 : decode cX10_period 88 = .ok (.getfield 40, 3) := by decide +kernel
theorem dX10_period_91 : decode cX10_period 91 = .ok (.iload_n 2, 1) := by decide +kernel
theorem dX10_period_92 : decode cX10_period 92 = .ok (.iaload, 1) := by decide +kernel
theorem dX10_period_93 : decode cX10_period 93 = .ok (.if_icmp .ne 8, 3) := by decide +kernel
theorem dX10_period_96 : decode cX10_period 96 = .ok (.iload_n 2, 1) := by decide +kernel
theorem dX10_period_97 : decode cX10_period 97 = .ok (.iload 4, 2) := by decide +kernel
theorem dX10_period_99 : decode cX10_period 99 = .ok (.isub, 1) := by decide +kernel
theorem dX10_period_100 : decode cX10_period 100 = .ok (.istore_n 1, 1) := by decide +kernel
theorem dX10_period_101 : decode cX10_period 101 = .ok (.iinc 4 1, 3) := by decide +kernel
theorem dX10_period_104 : decode cX10_period 104 = .ok (.goto (-66), 3) := by decide +kernel
theorem dX10_period_107 : decode cX10_period 107 = .ok (.iinc 2 1, 3) := by decide +kernel
theorem dX10_period_110 : decode cX10_period 110 = .ok (.goto (-96), 3) := by decide +kernel
theorem dX10_period_113 : decode cX10_period 113 = .ok (.aload_n 0, 1) := by decide +kernel
theorem dX10_period_114 : decode cX10_period 114 = .ok (.invokevirtual 198, 3) := by decide +kernel
theorem dX10_period_117 : decode cX10_period 117 = .ok (.iload_n 1, 1) := by decide +kernel
theorem dX10_period_118 : decode cX10_period 118 = .ok (.ireturn, 1) := by decide +kernel
set_option maxRecDepth 20000 in
theorem ggX10_periodAgain_X10_period : GoodIn wsX10_periodAgain wsX10_period := goodIn_r _ [5, 6, 7, 8, 9, 10, 11, 4, 12, 13, 14, 15, 16, 17, 18, 19, 20, 21, 22, 23, 24, 25, 26, 27, 28, 29, 30, 31, 32, 33, 34, 35, 36, 37, 38, 39, 40, 41, 42, 43, 44, 45, 46, 47, 48, 49, 50, 51, 52, 53, 54, 55, 56, 57, 58, 59, 60, 61, 62, 63, 64, 65, 66, 67, 68, 69, 70, 71, 72, 73, 74, 75, 76, 77, 78, 79, 80, 81, 82, 83, 84, 85, 86, 87, 88, 89, 90] (by decide +kernel) (by decide +kernel)
set_option maxRecDepth 20000 in
theorem gX10_periodAgain_X10_period : GoodIn wsX10_periodAgain (wsV RX10 205 RX10 yX10_period wsX10_period) := goodIn_app (goodIn_of _ (by decide +kernel)) ggX10_periodAgain_X10_period
theorem dX10_periodAgain_0 : decode cX10_periodAgain 0 = .ok (.aload_n 0, 1) := by decide +kernel
theorem dX10_periodAgain_1 : decode cX10_periodAgain 1 = .ok (.invokevirtual 205, 3) := by decide +kernel
theorem dX10_periodAgain_4 : decode cX10_periodAgain 4 = .ok (.ireturn, 1) := by decide +kernel
set_option maxRecDepth 20000 in
theorem ggX10_flickers_X10_isLantern : GoodIn wsX10_flickers wsX10_isLantern := goodIn_r _ [5, 6, 7, 8, 4, 9, 71, 72, 73, 74, 75, 76, 77, 78, 79, 80, 81, 82, 83, 84, 85, 86, 87, 88, 89, 90, 91, 92, 93, 94] (by decide +kernel) (by decide +kernel)
set_option maxRecDepth 20000 in
theorem gX10_flickers_X10_isLantern : GoodIn wsX10_flickers (wsV RX10 106 RX10 yX10_isLantern wsX10_isLantern) := goodIn_app (goodIn_of _ (by decide +kernel)) ggX10_flickers_X10_isLantern
set_option maxRecDepth 20000 in
theorem ggX10_flickers_X10_isSwitch : GoodIn wsX10_flickers wsX10_isSwitch := goodIn_r _ [13, 14, 15, 16, 4, 17, 6, 71, 72, 73, 74, 75, 76, 77, 78, 79, 80, 81, 82, 83, 84, 85, 86, 87, 88, 89, 90, 91, 92, 93, 94] (by decide +kernel) (by decide +kernel)
set_option maxRecDepth 20000 in
theorem gX10_flickers_X10_isSwitch : GoodIn wsX10_flickers (wsV RX10 110 RX10 yX10_isSwitch wsX10_isSwitch) := goodIn_app (goodIn_of _ (by decide +kernel)) ggX10_flickers_X10_isSwitch
set_option maxRecDepth 20000 in
theorem ggX10_flickers_X10_isSettled : GoodIn wsX10_flickers wsX10_isSettled := goodIn_r _ [21, 6, 22, 23, 24, 4, 25, 26, 27, 28, 29, 30, 10, 11, 12, 13, 14, 15, 16, 17, 31, 32, 33, 34, 35, 36, 37, 38, 39, 40, 41, 42, 43, 44, 45, 46, 47, 48, 49, 71, 72, 73, 74, 75, 76, 77, 78, 79, 80, 81, 82, 83, 84, 85, 86, 87, 88, 89, 90, 91, 92, 93, 94] (by decide +kernel) (by decide +kernel)
set_option maxRecDepth 20000 in
theorem gX10_flickers_X10_isSettled : GoodIn wsX10_flickers (wsV RX10 188 RX10 yX10_isSettled wsX10_isSettled) := goodIn_app (goodIn_of _ (by decide +kernel)) ggX10_flickers_X10_isSettled
set_option maxRecDepth 20000 in
theorem ggX10_flickers_X10_thinks : GoodIn wsX10_flickers wsX10_thinks := goodIn_r _ [53, 54, 6, 71, 72, 73, 74, 75, 76, 77, 78, 79, 80, 81, 82, 83, 84, 85, 86, 87, 88, 89, 90, 91, 92, 93, 94] (by decide +kernel) (by decide +kernel)
set_option maxRecDepth 20000 in
theorem gX10_flickers_X10_thinks : GoodIn wsX10_flickers (wsV RX10 192 RX10 yX10_thinks wsX10_thinks) := goodIn_app (goodIn_of _ (by decide +kernel)) ggX10_flickers_X10_thinks
set_option maxRecDepth 20000 in
theorem ggX10_flickers_X10_of : GoodIn wsX10_flickers wsX10_of := goodIn_r _ [17, 6, 71, 72, 73, 74, 75, 76, 77, 78, 79, 80, 81, 82, 83, 84, 85, 86, 87, 88, 89, 90, 91, 92, 93, 94] (by decide +kernel) (by decide +kernel)
set_option maxRecDepth 20000 in
theorem gX10_flickers_X10_of : GoodIn wsX10_flickers (wsV RX10 77 RX10 yX10_of wsX10_of) := goodIn_app (goodIn_of _ (by decide +kernel)) ggX10_flickers_X10_of
set_option maxRecDepth 20000 in
theorem ggX10_flickers_X10_sets : GoodIn wsX10_flickers wsX10_sets := goodIn_r _ [58, 6, 71, 72, 73, 74, 75, 76, 77, 78, 79, 80, 81, 82, 83, 84, 85, 86, 87, 88, 89, 90, 91, 92, 93, 94] (by decide +kernel) (by decide +kernel)
set_option maxRecDepth 20000 in
theorem gX10_flickers_X10_sets : GoodIn wsX10_flickers (wsV RX10 90 RX10 yX10_sets wsX10_sets) := goodIn_app (goodIn_of _ (by decide +kernel)) ggX10_flickers_X10_sets
set_option maxRecDepth 20000 in
theorem ggX10_flickers_X10_settles : GoodIn wsX10_flickers wsX10_settles := goodIn_r _ [62, 18, 19, 20, 4, 21, 6, 22, 23, 24, 25, 26, 27, 28, 29, 30, 10, 11, 12, 13, 14, 15, 16, 17, 31, 32, 33, 34, 35, 36, 37, 38, 39, 40, 41, 42, 43, 44, 45, 46, 47, 48, 49, 63, 64, 65, 66, 55, 56, 57, 58, 71, 72, 73, 74, 75, 76, 77, 78, 79, 80, 81, 82, 83, 84, 85, 86, 87, 88, 89, 90, 91, 92, 93, 94] (by decide +kernel) (by decide +kernel)
set_option maxRecDepth 20000 in
theorem gX10_flickers_X10_settles : GoodIn wsX10_flickers (wsV RX10 195 RX10 yX10_settles wsX10_settles) := goodIn_app (goodIn_of _ (by decide +kernel)) ggX10_flickers_X10_settles
set_option maxRecDepth 20000 in
theorem ggX10_flickers_X10_thinksNoMore : GoodIn wsX10_flickers wsX10_thinksNoMore := goodIn_r _ [70, 6, 54, 71, 72, 73, 74, 75, 76, 77, 78, 79, 80, 81, 82, 83, 84, 85, 86, 87, 88, 89, 90, 91, 92, 93, 94] (by decide +kernel) (by decide +kernel)
set_option maxRecDepth 20000 in
theorem gX10_flickers_X10_thinksNoMore : GoodIn wsX10_flickers (wsV RX10 198 RX10 yX10_thinksNoMore wsX10_thinksNoMore) := goodIn_app (goodIn_of _ (by decide +kernel)) ggX10_flickers_X10_thinksNoMore
theorem dX10_flickers_0 : decode cX10_flickers 0 = .ok (.aload_n 0, 1) := by decide +kernel
theorem dX10_flickers_1 : decode cX10_flickers 1 = .ok (.iload_n 1, 1) := by decide +kernel
theorem dX10_flickers_2 : decode cX10_flickers 2 = .ok (.invokevirtual 106, 3) := by decide +kernel
theorem dX10_flickers_5 : decode cX10_flickers 5 = .ok (.ifCond .eq 11, 3) := by decide +kernel
theorem dX10_flickers_8 : decode cX10_flickers 8 = .ok (.aload_n 0, 1) := by decide +kernel
theorem dX10_flickers_9 : decode cX10_flickers 9 = .ok (.iload_n 2, 1) := by decide +kernel
theorem dX10_flickers_10 : decode cX10_flickers 10 = .ok (.invokevirtual 106, 3) := by decide +kernel
theorem dX10_flickers_13 : decode cX10_flickers 13 = .ok (.ifCond .ne 6, 3) := by decide +kernel
theorem dX10_flickers_16 : decode cX10_flickers 16 = .ok (.bipush (-11), 2) := by decide +kernel
theorem dX10_flickers_18 : decode cX10_flickers 18 = .ok (.ireturn, 1) := by decide +kernel
theorem dX10_flickers_19 : decode cX10_flickers 19 = .ok (.aload_n 0, 1) := by decide +kernel
theorem dX10_flickers_20 : decode cX10_flickers 20 = .ok (.iload_n 1, 1) := by decide +kernel
theorem dX10_flickers_21 : decode cX10_flickers 21 = .ok (.invokevirtual 110, 3) := by decide +kernel
theorem dX10_flickers_24 : decode cX10_flickers 24 = .ok (.ifCond .ne 11, 3) := by decide +kernel
theorem dX10_flickers_27 : decode cX10_flickers 27 = .ok (.aload_n 0, 1) := by decide +kernel
theorem dX10_flickers_28 : decode cX10_flickers 28 = .ok (.iload_n 2, 1) := by decide +kernel
theorem dX10_flickers_29 : decode cX10_flickers 29 = .ok (.invokevirtual 110, 3) := by decide +kernel
theorem dX10_flickers_32 : decode cX10_flickers 32 = .ok (.ifCond .ne 6, 3) := by decide +kernel
theorem dX10_flickers_35 : decode cX10_flickers 35 = .ok (.bipush (-12), 2) := by decide +kernel
theorem dX10_flickers_37 : decode cX10_flickers 37 = .ok (.ireturn, 1) := by decide +kernel
theorem dX10_flickers_38 : decode cX10_flickers 38 = .ok (.aload_n 0, 1) := by decide +kernel
theorem dX10_flickers_39 : decode cX10_flickers 39 = .ok (.invokevirtual 188, 3) := by decide +kernel
theorem dX10_flickers_42 : decode cX10_flickers 42 = .ok (.ifCond .ne 6, 3) := by decide +kernel
theorem dX10_flickers_45 : decode cX10_flickers 45 = .ok (.bipush (-15), 2) := by decide +kernel
theorem dX10_flickers_47 : decode cX10_flickers 47 = .ok (.ireturn, 1) := by decide +kernel
theorem dX10_flickers_48 : decode cX10_flickers 48 = .ok (.aload_n 0, 1) := by decide +kernel
theorem dX10_flickers_49 : decode cX10_flickers 49 = .ok (.invokevirtual 192, 3) := by decide +kernel
theorem dX10_flickers_52 : decode cX10_flickers 52 = .ok (.aload_n 0, 1) := by decide +kernel
theorem dX10_flickers_53 : decode cX10_flickers 53 = .ok (.iload_n 1, 1) := by decide +kernel
theorem dX10_flickers_54 : decode cX10_flickers 54 = .ok (.iconst 2, 1) := by decide +kernel
theorem dX10_flickers_55 : decode cX10_flickers 55 = .ok (.invokevirtual 77, 3) := by decide +kernel
theorem dX10_flickers_58 : decode cX10_flickers 58 = .ok (.istore_n 3, 1) := by decide +kernel
theorem dX10_flickers_59 : decode cX10_flickers 59 = .ok (.aload_n 0, 1) := by decide +kernel
theorem dX10_flickers_60 : decode cX10_flickers 60 = .ok (.iload_n 1, 1) := by decide +kernel
theorem dX10_flickers_61 : decode cX10_flickers 61 = .ok (.iconst 3, 1) := by decide +kernel
theorem dX10_flickers_62 : decode cX10_flickers 62 = .ok (.invokevirtual 77, 3) := by decide +kernel
theorem dX10_flickers_65 : decode cX10_flickers 65 = .ok (.istore 4, 2) := by decide +kernel
theorem dX10_flickers_67 : decode cX10_flickers 67 = .ok (.aload_n 0, 1) := by decide +kernel
theorem dX10_flickers_68 : decode cX10_flickers 68 = .ok (.iload_n 2, 1) := by decide +kernel
theorem dX10_flickers_69 : decode cX10_flickers 69 = .ok (.iconst 2, 1) := by decide +kernel
theorem dX10_flickers_70 : decode cX10_flickers 70 = .ok (.iconst 1, 1) := by decide +kernel
theorem dX10_flickers_71 : decode cX10_flickers 71 = .ok (.aload_n 0, 1) := by decide +kernel
theorem dX10_flickers_72 : decode cX10_flickers 72 = .ok (.iload_n 2, 1) := by decide +kernel
theorem dX10_flickers_73 : decode cX10_flickers 73 = .ok (.iconst 2, 1) := by decide +kernel
theorem dX10_flickers_74 : decode cX10_flickers 74 = .ok (.invokevirtual 77, 3) := by decide +kernel
theorem dX10_flickers_77 : decode cX10_flickers 77 = .ok (.isub, 1) := by decide +kernel
theorem dX10_flickers_78 : decode cX10_flickers 78 = .ok (.invokevirtual 90, 3) := by decide +kernel
theorem dX10_flickers_81 : decode cX10_flickers 81 = .ok (.aload_n 0, 1) := by decide +kernel
theorem dX10_flickers_82 : decode cX10_flickers 82 = .ok (.invokevirtual 195, 3) := by decide +kernel
theorem dX10_flickers_85 : decode cX10_flickers 85 = .ok (.istore 5, 2) := by decide +kernel
theorem dX10_flickers_87 : decode cX10_flickers 87 = .ok (.aload_n 0, 1) := by decide +kernel
theorem dX10_flickers_88 : decode cX10_flickers 88 = .ok (.iload_n 1, 1) := by decide +kernel
theorem dX10_flickers_89 : decode cX10_flickers 89 = .ok (.iconst 3, 1) := by decide +kernel
theorem dX10_flickers_90 : decode cX10_flickers 90 = .ok (.invokevirtual 77, 3) := by decide +kernel
theorem dX10_flickers_93 : decode cX10_flickers 93 = .ok (.iload 4, 2) := by decide +kernel
theorem dX10_flickers_95 : decode cX10_flickers 95 = .ok (.isub, 1) := by decide +kernel
theorem dX10_flickers_96 : decode cX10_flickers 96 = .ok (.istore 6, 2) := by decide +kernel
theorem dX10_flickers_98 : decode cX10_flickers 98 = .ok (.aload_n 0, 1) := by decide +kernel
theorem dX10_flickers_99 : decode cX10_flickers 99 = .ok (.iload_n 1, 1) := by decide +kernel
theorem dX10_flickers_100 : decode cX10_flickers 100 = .ok (.iconst 2, 1) := by decide +kernel
theorem dX10_flickers_101 : decode cX10_flickers 101 = .ok (.invokevirtual 77, 3) := by decide +kernel
theorem dX10_flickers_104 : decode cX10_flickers 104 = .ok (.iload_n 3, 1) := by decide +kernel
theorem dX10_flickers_105 : decode cX10_flickers 105 = .ok (.if_icmp .eq 6, 3) := by decide +kernel
theorem dX10_flickers_108 : decode cX10_flickers 108 = .ok (.iinc 6 (-1), 3) := by decide +kernel
theorem dX10_flickers_111 : decode cX10_flickers 111 = .ok (.aload_n 0, 1) := by decide +kernel
theorem dX10_flickers_112 : decode cX10_flickers 112 = .ok (.invokevirtual 198, 3) := by decide +kernel
theorem dX10_flickers_115 : decode cX10_flickers 115 = .ok (.iload 5, 2) := by decide +kernel
theorem dX10_flickers_117 : decode cX10_flickers 117 = .ok (.ifCond .ge 8, 3) := by decide +kernel
theorem dX10_flickers_120 : decode cX10_flickers 120 = .ok (.bipush (-15), 2) := by decide +kernel
theorem dX10_flickers_122 : decode cX10_flickers 122 = .ok (.goto 5, 3) := by decide +kernel
theorem dX10_flickers_125 : decode cX10_flickers 125 = .ok (.iload 6, 2) := by decide +kernel
theorem dX10_flickers_127 : decode cX10_flickers 127 = .ok (.ireturn, 1) := by decide +kernel
set_option maxRecDepth 20000 in
theorem ggX10_switchSet_X10_reaches : GoodIn wsX10_switchSet wsX10_reaches := goodIn_r _ [7, 2, 1, 8, 9, 10, 6, 11, 12, 13, 14, 15, 20, 21, 22, 23, 24, 25, 26, 27, 28, 29, 30, 31, 32, 33, 34, 35, 36, 37, 38, 39, 40, 41, 42, 43] (by decide +kernel) (by decide +kernel)
set_option maxRecDepth 20000 in
theorem gX10_switchSet_X10_reaches : GoodIn wsX10_switchSet (wsV RX10 84 RX10 yX10_reaches wsX10_reaches) := goodIn_app (goodIn_of _ (by decide +kernel)) ggX10_switchSet_X10_reaches
set_option maxRecDepth 20000 in
theorem ggX10_switchSet_X10_isSwitch : GoodIn wsX10_switchSet wsX10_isSwitch := goodIn_r _ [19, 12, 13, 14, 6, 15, 1, 20, 21, 22, 23, 24, 25, 26, 27, 28, 29, 30, 31, 32, 33, 34, 35, 36, 37, 38, 39, 40, 41, 42, 43] (by decide +kernel) (by decide +kernel)
set_option maxRecDepth 20000 in
theorem gX10_switchSet_X10_isSwitch : GoodIn wsX10_switchSet (wsV RX10 110 RX10 yX10_isSwitch wsX10_isSwitch) := goodIn_app (goodIn_of _ (by decide +kernel)) ggX10_switchSet_X10_isSwitch
theorem dX10_switchSet_0 : decode cX10_switchSet 0 = .ok (.aload_n 0, 1) := by decide +kernel
theorem dX10_switchSet_1 : decode cX10_switchSet 1 = .ok (.invokevirtual 84, 3) := by decide +kernel
theorem dX10_switchSet_4 : decode cX10_switchSet 4 = .ok (.iconst 0, 1) := by decide +kernel
theorem dX10_switchSet_5 : decode cX10_switchSet 5 = .ok (.istore_n 2, 1) := by decide +kernel
theorem dX10_switchSet_6 : decode cX10_switchSet 6 = .ok (.iconst 0, 1) := by decide +kernel
theorem dX10_switchSet_7 : decode cX10_switchSet 7 = .ok (.istore_n 3, 1) := by decide +kernel
theorem dX10_switchSet_8 : decode cX10_switchSet 8 = .ok (.iload_n 3, 1) := by decide +kernel
theorem dX10_switchSet_9 : decode cX10_switchSet 9 = .ok (.aload_n 0, 1) := by decide +kernel
theorem dX10_switchSet_10 : decode cX10_switchSet 10 = .ok (.getfield 9, 3) := by decide +kernel
theorem dX10_switchSet_13 : decode cX10_switchSet 13 = .ok (.iconst 0, 1) := by decide +kernel
theorem dX10_switchSet_14 : decode cX10_switchSet 14 = .ok (.iaload, 1) := by decide +kernel
theorem dX10_switchSet_15 : decode cX10_switchSet 15 = .ok (.if_icmp .ge 37, 3) := by decide +kernel
theorem dX10_switchSet_18 : decode cX10_switchSet 18 = .ok (.aload_n 0, 1) := by decide +kernel
theorem dX10_switchSet_19 : decode cX10_switchSet 19 = .ok (.iload_n 3, 1) := by decide +kernel
theorem dX10_switchSet_20 : decode cX10_switchSet 20 = .ok (.invokevirtual 110, 3) := by decide +kernel
theorem dX10_switchSet_23 : decode cX10_switchSet 23 = .ok (.ifCond .eq 23, 3) := by decide +kernel
theorem dX10_switchSet_26 : decode cX10_switchSet 26 = .ok (.aload_n 0, 1) := by decide +kernel
theorem dX10_switchSet_27 : decode cX10_switchSet 27 = .ok (.getfield 28, 3) := by decide +kernel
theorem dX10_switchSet_30 : decode cX10_switchSet 30 = .ok (.iload_n 3, 1) := by decide +kernel
theorem dX10_switchSet_31 : decode cX10_switchSet 31 = .ok (.iaload, 1) := by decide +kernel
theorem dX10_switchSet_32 : decode cX10_switchSet 32 = .ok (.iload_n 1, 1) := by decide +kernel
theorem dX10_switchSet_33 : decode cX10_switchSet 33 = .ok (.ishr, 1) := by decide +kernel
theorem dX10_switchSet_34 : decode cX10_switchSet 34 = .ok (.iconst 1, 1) := by decide +kernel
theorem dX10_switchSet_35 : decode cX10_switchSet 35 = .ok (.iand, 1) := by decide +kernel
theorem dX10_switchSet_36 : decode cX10_switchSet 36 = .ok (.iconst 1, 1) := by decide +kernel
theorem dX10_switchSet_37 : decode cX10_switchSet 37 = .ok (.if_icmp .ne 9, 3) := by decide +kernel
theorem dX10_switchSet_40 : decode cX10_switchSet 40 = .ok (.iload_n 2, 1) := by decide +kernel
theorem dX10_switchSet_41 : decode cX10_switchSet 41 = .ok (.iconst 1, 1) := by decide +kernel
theorem dX10_switchSet_42 : decode cX10_switchSet 42 = .ok (.iload_n 3, 1) := by decide +kernel
theorem dX10_switchSet_43 : decode cX10_switchSet 43 = .ok (.ishl, 1) := by decide +kernel
theorem dX10_switchSet_44 : decode cX10_switchSet 44 = .ok (.ior, 1) := by decide +kernel
theorem dX10_switchSet_45 : decode cX10_switchSet 45 = .ok (.istore_n 2, 1) := by decide +kernel
theorem dX10_switchSet_46 : decode cX10_switchSet 46 = .ok (.iinc 3 1, 3) := by decide +kernel
theorem dX10_switchSet_49 : decode cX10_switchSet 49 = .ok (.goto (-41), 3) := by decide +kernel
theorem dX10_switchSet_52 : decode cX10_switchSet 52 = .ok (.iload_n 2, 1) := by decide +kernel
theorem dX10_switchSet_53 : decode cX10_switchSet 53 = .ok (.ireturn, 1) := by decide +kernel
set_option maxRecDepth 20000 in
theorem ggX10_switchesOf_X10_isLantern : GoodIn wsX10_switchesOf wsX10_isLantern := goodIn_r _ [5, 6, 7, 8, 4, 9, 31, 32, 33, 34, 35, 36, 37, 38, 39, 40, 41, 42, 43, 44, 45, 46, 47, 48, 49, 50, 51, 52, 53, 54] (by decide +kernel) (by decide +kernel)
set_option maxRecDepth 20000 in
theorem gX10_switchesOf_X10_isLantern : GoodIn wsX10_switchesOf (wsV RX10 106 RX10 yX10_isLantern wsX10_isLantern) := goodIn_app (goodIn_of _ (by decide +kernel)) ggX10_switchesOf_X10_isLantern
set_option maxRecDepth 20000 in
theorem ggX10_switchesOf_X10_switchSet : GoodIn wsX10_switchesOf wsX10_switchSet := goodIn_r _ [13, 6, 14, 15, 16, 17, 4, 18, 19, 20, 21, 22, 23, 24, 25, 26, 27, 28, 29, 30, 31, 32, 33, 34, 35, 36, 37, 38, 39, 40, 41, 42, 43, 44, 45, 46, 47, 48, 49, 50, 51, 52, 53, 54] (by decide +kernel) (by decide +kernel)
set_option maxRecDepth 20000 in
theorem gX10_switchesOf_X10_switchSet : GoodIn wsX10_switchesOf (wsV RX10 208 RX10 yX10_switchSet wsX10_switchSet) := goodIn_app (goodIn_of _ (by decide +kernel)) ggX10_switchesOf_X10_switchSet
theorem dX10_switchesOf_0 : decode cX10_switchesOf 0 = .ok (.aload_n 0, 1) := by decide +kernel
theorem dX10_switchesOf_1 : decode cX10_switchesOf 1 = .ok (.iload_n 1, 1) := by decide +kernel
theorem dX10_switchesOf_2 : decode cX10_switchesOf 2 = .ok (.invokevirtual 106, 3) := by decide +kernel
theorem dX10_switchesOf_5 : decode cX10_switchesOf 5 = .ok (.ifCond .eq 11, 3) := by decide +kernel
theorem dX10_switchesOf_8 : decode cX10_switchesOf 8 = .ok (.aload_n 0, 1) := by decide +kernel
theorem dX10_switchesOf_9 : decode cX10_switchesOf 9 = .ok (.iload_n 1, 1) := by decide +kernel
theorem dX10_switchesOf_10 : decode cX10_switchesOf 10 = .ok (.invokevirtual 208, 3) := by decide +kernel
theorem dX10_switchesOf_13 : decode cX10_switchesOf 13 = .ok (.goto 5, 3) := by decide +kernel
theorem dX10_switchesOf_16 : decode cX10_switchesOf 16 = .ok (.bipush (-11), 2) := by decide +kernel
theorem dX10_switchesOf_18 : decode cX10_switchesOf 18 = .ok (.ireturn, 1) := by decide +kernel
set_option maxRecDepth 20000 in
theorem ggX10_glowsAt_X10_isSwitch : GoodIn wsX10_glowsAt wsX10_isSwitch := goodIn_r _ [5, 6, 7, 8, 4, 9, 10, 28, 29, 30, 31, 32, 33, 34, 35, 36, 37, 38, 39, 40, 41, 42, 43, 44, 45, 46, 47, 48, 49, 50, 51] (by decide +kernel) (by decide +kernel)
set_option maxRecDepth 20000 in
theorem gX10_glowsAt_X10_isSwitch : GoodIn wsX10_glowsAt (wsV RX10 110 RX10 yX10_isSwitch wsX10_isSwitch) := goodIn_app (goodIn_of _ (by decide +kernel)) ggX10_glowsAt_X10_isSwitch
set_option maxRecDepth 20000 in
theorem ggX10_glowsAt_J6_bitCount_0f7a4 : GoodIn wsX10_glowsAt wsJ6_bitCount_0f7a4 := goodIn_r _ [14, 15, 16, 17] (by decide +kernel) (by decide +kernel)
set_option maxRecDepth 20000 in
theorem gX10_glowsAt_J6_bitCount_0f7a4 : GoodIn wsX10_glowsAt (va_wsS RX10 147 yJ6_bitCount_0f7a4 wsJ6_bitCount_0f7a4) := goodIn_app (goodIn_of _ (by decide +kernel)) ggX10_glowsAt_J6_bitCount_0f7a4
set_option maxRecDepth 20000 in
theorem ggX10_glowsAt_X10_wired : GoodIn wsX10_glowsAt wsX10_wired := goodIn_r _ [21, 6, 7, 8, 4, 9, 10, 28, 29, 30, 31, 32, 33, 34, 35, 36, 37, 38, 39, 40, 41, 42, 43, 44, 45, 46, 47, 48, 49, 50, 51] (by decide +kernel) (by decide +kernel)
set_option maxRecDepth 20000 in
theorem gX10_glowsAt_X10_wired : GoodIn wsX10_glowsAt (wsV RX10 81 RX10 yX10_wired wsX10_wired) := goodIn_app (goodIn_of _ (by decide +kernel)) ggX10_glowsAt_X10_wired
set_option maxRecDepth 20000 in
theorem ggX10_glowsAt_X10_glowsAt : GoodIn wsX10_glowsAt wsX10_glowsAt := goodIn_r _ [0, 1, 2, 3, 4, 5, 6, 7, 8, 9, 10, 11, 12, 13, 14, 15, 16, 17, 18, 19, 20, 21, 22, 23, 24, 25, 26, 27, 28, 29, 30, 31, 32, 33, 34, 35, 36, 37, 38, 39, 40, 41, 42, 43, 44, 45, 46, 47, 48, 49, 50, 51] (by decide +kernel) (by decide +kernel)
set_option maxRecDepth 20000 in
theorem gX10_glowsAt_X10_glowsAt : GoodIn wsX10_glowsAt (wsV RX10 211 RX10 yX10_glowsAt wsX10_glowsAt) := goodIn_app (goodIn_of _ (by decide +kernel)) ggX10_glowsAt_X10_glowsAt
set_option maxRecDepth 20000 in
theorem ggX10_glowsAt_X10_of : GoodIn wsX10_glowsAt wsX10_of := goodIn_r _ [9, 10, 28, 29, 30, 31, 32, 33, 34, 35, 36, 37, 38, 39, 40, 41, 42, 43, 44, 45, 46, 47, 48, 49, 50, 51] (by decide +kernel) (by decide +kernel)
set_option maxRecDepth 20000 in
theorem gX10_glowsAt_X10_of : GoodIn wsX10_glowsAt (wsV RX10 77 RX10 yX10_of wsX10_of) := goodIn_app (goodIn_of _ (by decide +kernel)) ggX10_glowsAt_X10_of
set_option maxRecDepth 20000 in
theorem ggX10_glowsAt_X10_found : GoodIn wsX10_glowsAt wsX10_found := goodIn_r _ [27] (by decide +kernel) (by decide +kernel)
set_option maxRecDepth 20000 in
theorem gX10_glowsAt_X10_found : GoodIn wsX10_glowsAt (va_wsS RX10 150 yX10_found wsX10_found) := goodIn_app (goodIn_of _ (by decide +kernel)) ggX10_glowsAt_X10_found
theorem dX10_glowsAt_0 : decode cX10_glowsAt 0 = .ok (.aload_n 0, 1) := by decide +kernel
theorem dX10_glowsAt_1 : decode cX10_glowsAt 1 = .ok (.iload_n 1, 1) := by decide +kernel
theorem dX10_glowsAt_2 : decode cX10_glowsAt 2 = .ok (.invokevirtual 110, 3) := by decide +kernel
theorem dX10_glowsAt_5 : decode cX10_glowsAt 5 = .ok (.ifCond .eq 18, 3) := by decide +kernel
theorem dX10_glowsAt_8 : decode cX10_glowsAt 8 = .ok (.iload_n 3, 1) := by decide +kernel
theorem dX10_glowsAt_9 : decode cX10_glowsAt 9 = .ok (.iload_n 2, 1) := by decide +kernel
theorem dX10_glowsAt_10 : decode cX10_glowsAt 10 = .ok (.iconst 1, 1) := by decide +kernel
theorem dX10_glowsAt_11 : decode cX10_glowsAt 11 = .ok (.iload_n 1, 1) := by decide +kernel
theorem dX10_glowsAt_12 : decode cX10_glowsAt 12 = .ok (.ishl, 1) := by decide +kernel
theorem dX10_glowsAt_13 : decode cX10_glowsAt 13 = .ok (.iconst 1, 1) := by decide +kernel
theorem dX10_glowsAt_14 : decode cX10_glowsAt 14 = .ok (.isub, 1) := by decide +kernel
theorem dX10_glowsAt_15 : decode cX10_glowsAt 15 = .ok (.iand, 1) := by decide +kernel
theorem dX10_glowsAt_16 : decode cX10_glowsAt 16 = .ok (.invokestatic 147, 3) := by decide +kernel
theorem dX10_glowsAt_19 : decode cX10_glowsAt 19 = .ok (.ishr, 1) := by decide +kernel
theorem dX10_glowsAt_20 : decode cX10_glowsAt 20 = .ok (.iconst 1, 1) := by decide +kernel
theorem dX10_glowsAt_21 : decode cX10_glowsAt 21 = .ok (.iand, 1) := by decide +kernel
theorem dX10_glowsAt_22 : decode cX10_glowsAt 22 = .ok (.ireturn, 1) := by decide +kernel
theorem dX10_glowsAt_23 : decode cX10_glowsAt 23 = .ok (.iconst 0, 1) := by decide +kernel
theorem dX10_glowsAt_24 : decode cX10_glowsAt 24 = .ok (.istore 4, 2) := by decide +kernel
theorem dX10_glowsAt_26 : decode cX10_glowsAt 26 = .ok (.iconst 0, 1) := by decide +kernel
theorem dX10_glowsAt_27 : decode cX10_glowsAt 27 = .ok (.istore 5, 2) := by decide +kernel
theorem dX10_glowsAt_29 : decode cX10_glowsAt 29 = .ok (.iconst 0, 1) := by decide +kernel
theorem dX10_glowsAt_30 : decode cX10_glowsAt 30 = .ok (.istore 6, 2) := by decide +kernel
theorem dX10_glowsAt_32 : decode cX10_glowsAt 32 = .ok (.iload 6, 2) := by decide +kernel
theorem dX10_glowsAt_34 : decode cX10_glowsAt 34 = .ok (.iconst 3, 1) := by decide +kernel
theorem dX10_glowsAt_35 : decode cX10_glowsAt 35 = .ok (.if_icmp .ge 43, 3) := by decide +kernel
theorem dX10_glowsAt_38 : decode cX10_glowsAt 38 = .ok (.aload_n 0, 1) := by decide +kernel
theorem dX10_glowsAt_39 : decode cX10_glowsAt 39 = .ok (.iload_n 1, 1) := by decide +kernel
theorem dX10_glowsAt_40 : decode cX10_glowsAt 40 = .ok (.iload 6, 2) := by decide +kernel
theorem dX10_glowsAt_42 : decode cX10_glowsAt 42 = .ok (.invokevirtual 81, 3) := by decide +kernel
theorem dX10_glowsAt_45 : decode cX10_glowsAt 45 = .ok (.ifCond .ge 6, 3) := by decide +kernel
theorem dX10_glowsAt_48 : decode cX10_glowsAt 48 = .ok (.goto 24, 3) := by decide +kernel
theorem dX10_glowsAt_51 : decode cX10_glowsAt 51 = .ok (.iinc 5 1, 3) := by decide +kernel
theorem dX10_glowsAt_54 : decode cX10_glowsAt 54 = .ok (.iload 4, 2) := by decide +kernel
theorem dX10_glowsAt_56 : decode cX10_glowsAt 56 = .ok (.aload_n 0, 1) := by decide +kernel
theorem dX10_glowsAt_57 : decode cX10_glowsAt 57 = .ok (.aload_n 0, 1) := by decide +kernel
theorem dX10_glowsAt_58 : decode cX10_glowsAt 58 = .ok (.iload_n 1, 1) := by decide +kernel
theorem dX10_glowsAt_59 : decode cX10_glowsAt 59 = .ok (.iload 6, 2) := by decide +kernel
theorem dX10_glowsAt_61 : decode cX10_glowsAt 61 = .ok (.invokevirtual 81, 3) := by decide +kernel
theorem dX10_glowsAt_64 : decode cX10_glowsAt 64 = .ok (.iload_n 2, 1) := by decide +kernel
theorem dX10_glowsAt_65 : decode cX10_glowsAt 65 = .ok (.iload_n 3, 1) := by decide +kernel
theorem dX10_glowsAt_66 : decode cX10_glowsAt 66 = .ok (.invokevirtual 211, 3) := by decide +kernel
theorem dX10_glowsAt_69 : decode cX10_glowsAt 69 = .ok (.iadd, 1) := by decide +kernel
theorem dX10_glowsAt_70 : decode cX10_glowsAt 70 = .ok (.istore 4, 2) := by decide +kernel
theorem dX10_glowsAt_72 : decode cX10_glowsAt 72 = .ok (.iinc 6 1, 3) := by decide +kernel
theorem dX10_glowsAt_75 : decode cX10_glowsAt 75 = .ok (.goto (-43), 3) := by decide +kernel
theorem dX10_glowsAt_78 : decode cX10_glowsAt 78 = .ok (.aload_n 0, 1) := by decide +kernel
theorem dX10_glowsAt_79 : decode cX10_glowsAt 79 = .ok (.iload_n 1, 1) := by decide +kernel
theorem dX10_glowsAt_80 : decode cX10_glowsAt 80 = .ok (.iconst 0, 1) := by decide +kernel
theorem dX10_glowsAt_81 : decode cX10_glowsAt 81 = .ok (.invokevirtual 77, 3) := by decide +kernel
theorem dX10_glowsAt_84 : decode cX10_glowsAt 84 = .ok (.iload 4, 2) := by decide +kernel
theorem dX10_glowsAt_86 : decode cX10_glowsAt 86 = .ok (.iload 5, 2) := by decide +kernel
theorem dX10_glowsAt_88 : decode cX10_glowsAt 88 = .ok (.invokestatic 150, 3) := by decide +kernel
theorem dX10_glowsAt_91 : decode cX10_glowsAt 91 = .ok (.ireturn, 1) := by decide +kernel
set_option maxRecDepth 20000 in
theorem ggX10_table_X10_isLantern : GoodIn wsX10_table wsX10_isLantern := goodIn_r _ [5, 6, 7, 8, 4, 9, 61, 62, 63, 64, 65, 66, 67, 68, 69, 70, 71, 72, 73, 74, 75, 76, 77, 78, 79, 80, 81, 82, 83, 84] (by decide +kernel) (by decide +kernel)
set_option maxRecDepth 20000 in
theorem gX10_table_X10_isLantern : GoodIn wsX10_table (wsV RX10 106 RX10 yX10_isLantern wsX10_isLantern) := goodIn_app (goodIn_of _ (by decide +kernel)) ggX10_table_X10_isLantern
set_option maxRecDepth 20000 in
theorem ggX10_table_X10_isSwitch : GoodIn wsX10_table wsX10_isSwitch := goodIn_r _ [13, 14, 15, 16, 4, 17, 6, 61, 62, 63, 64, 65, 66, 67, 68, 69, 70, 71, 72, 73, 74, 75, 76, 77, 78, 79, 80, 81, 82, 83, 84] (by decide +kernel) (by decide +kernel)
set_option maxRecDepth 20000 in
theorem gX10_table_X10_isSwitch : GoodIn wsX10_table (wsV RX10 110 RX10 yX10_isSwitch wsX10_isSwitch) := goodIn_app (goodIn_of _ (by decide +kernel)) ggX10_table_X10_isSwitch
set_option maxRecDepth 20000 in
theorem ggX10_table_X10_deep : GoodIn wsX10_table wsX10_deep := goodIn_r _ [21, 6, 22, 10, 11, 12, 4, 13, 14, 15, 16, 17, 23, 24, 25, 26, 27, 28, 29, 30, 31, 32, 33, 34, 35, 36, 37, 38, 39, 40, 41, 42, 61, 62, 63, 64, 65, 66, 67, 68, 69, 70, 71, 72, 73, 74, 75, 76, 77, 78, 79, 80, 81, 82, 83, 84] (by decide +kernel) (by decide +kernel)
set_option maxRecDepth 20000 in
theorem gX10_table_X10_deep : GoodIn wsX10_table (wsV RX10 182 RX10 yX10_deep wsX10_deep) := goodIn_app (goodIn_of _ (by decide +kernel)) ggX10_table_X10_deep
set_option maxRecDepth 20000 in
theorem ggX10_table_X10_switchSet : GoodIn wsX10_table wsX10_switchSet := goodIn_r _ [46, 6, 22, 27, 28, 29, 4, 30, 31, 32, 33, 34, 14, 15, 16, 17, 10, 11, 12, 13, 61, 62, 63, 64, 65, 66, 67, 68, 69, 70, 71, 72, 73, 74, 75, 76, 77, 78, 79, 80, 81, 82, 83, 84] (by decide +kernel) (by decide +kernel)
set_option maxRecDepth 20000 in
theorem gX10_table_X10_switchSet : GoodIn wsX10_table (wsV RX10 208 RX10 yX10_switchSet wsX10_switchSet) := goodIn_app (goodIn_of _ (by decide +kernel)) ggX10_table_X10_switchSet
set_option maxRecDepth 20000 in
theorem ggX10_table_J6_bitCount_0f7a4 : GoodIn wsX10_table wsJ6_bitCount_0f7a4 := goodIn_r _ [50, 51, 52, 53] (by decide +kernel) (by decide +kernel)
set_option maxRecDepth 20000 in
theorem gX10_table_J6_bitCount_0f7a4 : GoodIn wsX10_table (va_wsS RX10 147 yJ6_bitCount_0f7a4 wsJ6_bitCount_0f7a4) := goodIn_app (goodIn_of _ (by decide +kernel)) ggX10_table_J6_bitCount_0f7a4
set_option maxRecDepth 20000 in
theorem ggX10_table_X10_glowsAt : GoodIn wsX10_table wsX10_glowsAt := goodIn_r _ [57, 10, 11, 12, 4, 13, 14, 15, 16, 17, 6, 47, 48, 49, 50, 51, 52, 53, 31, 32, 33, 34, 54, 55, 56, 58, 59, 60, 61, 62, 63, 64, 65, 66, 67, 68, 69, 70, 71, 72, 73, 74, 75, 76, 77, 78, 79, 80, 81, 82, 83, 84] (by decide +kernel) (by decide +kernel)
set_option maxRecDepth 20000 in
theorem gX10_table_X10_glowsAt : GoodIn wsX10_table (wsV RX10 211 RX10 yX10_glowsAt wsX10_glowsAt) := goodIn_app (goodIn_of _ (by decide +kernel)) ggX10_table_X10_glowsAt
theorem dX10_table_0 : decode cX10_table 0 = .ok (.aload_n 0, 1) := by decide +kernel
theorem dX10_table_1 : decode cX10_table 1 = .ok (.iload_n 1, 1) := by decide +kernel
theorem dX10_table_2 : decode cX10_table 2 = .ok (.invokevirtual 106, 3) := by decide +kernel
theorem dX10_table_5 : decode cX10_table 5 = .ok (.ifCond .ne 6, 3) := by decide +kernel
theorem dX10_table_8 : decode cX10_table 8 = .ok (.bipush (-11), 2) := by decide +kernel
theorem dX10_table_10 : decode cX10_table 10 = .ok (.ireturn, 1) := by decide +kernel
theorem dX10_table_11 : decode cX10_table 11 = .ok (.aload_n 0, 1) := by decide +kernel
theorem dX10_table_12 : decode cX10_table 12 = .ok (.iload_n 1, 1) := by decide +kernel
theorem dX10_table_13 : decode cX10_table 13 = .ok (.invokevirtual 110, 3) := by decide +kernel
theorem dX10_table_16 : decode cX10_table 16 = .ok (.ifCond .ne 11, 3) := by decide +kernel
theorem dX10_table_19 : decode cX10_table 19 = .ok (.aload_n 0, 1) := by decide +kernel
theorem dX10_table_20 : decode cX10_table 20 = .ok (.iload_n 1, 1) := by decide +kernel
theorem dX10_table_21 : decode cX10_table 21 = .ok (.invokevirtual 182, 3) := by decide +kernel
theorem dX10_table_24 : decode cX10_table 24 = .ok (.ifCond .ge 6, 3) := by decide +kernel
theorem dX10_table_27 : decode cX10_table 27 = .ok (.bipush (-15), 2) := by decide +kernel
theorem dX10_table_29 : decode cX10_table 29 = .ok (.ireturn, 1) := by decide +kernel
theorem dX10_table_30 : decode cX10_table 30 = .ok (.aload_n 0, 1) := by decide +kernel
theorem dX10_table_31 : decode cX10_table 31 = .ok (.iload_n 1, 1) := by decide +kernel
theorem dX10_table_32 : decode cX10_table 32 = .ok (.invokevirtual 208, 3) := by decide +kernel
theorem dX10_table_35 : decode cX10_table 35 = .ok (.istore_n 2, 1) := by decide +kernel
theorem dX10_table_36 : decode cX10_table 36 = .ok (.iload_n 2, 1) := by decide +kernel
theorem dX10_table_37 : decode cX10_table 37 = .ok (.invokestatic 147, 3) := by decide +kernel
theorem dX10_table_40 : decode cX10_table 40 = .ok (.iconst 4, 1) := by decide +kernel
theorem dX10_table_41 : decode cX10_table 41 = .ok (.if_icmp .le 6, 3) := by decide +kernel
theorem dX10_table_44 : decode cX10_table 44 = .ok (.bipush (-15), 2) := by decide +kernel
theorem dX10_table_46 : decode cX10_table 46 = .ok (.ireturn, 1) := by decide +kernel
theorem dX10_table_47 : decode cX10_table 47 = .ok (.iconst 0, 1) := by decide +kernel
theorem dX10_table_48 : decode cX10_table 48 = .ok (.istore_n 3, 1) := by decide +kernel
theorem dX10_table_49 : decode cX10_table 49 = .ok (.iconst 0, 1) := by decide +kernel
theorem dX10_table_50 : decode cX10_table 50 = .ok (.istore 4, 2) := by decide +kernel
theorem dX10_table_52 : decode cX10_table 52 = .ok (.iload 4, 2) := by decide +kernel
theorem dX10_table_54 : decode cX10_table 54 = .ok (.iconst 1, 1) := by decide +kernel
theorem dX10_table_55 : decode cX10_table 55 = .ok (.iload_n 2, 1) := by decide +kernel
theorem dX10_table_56 : decode cX10_table 56 = .ok (.invokestatic 147, 3) := by decide +kernel
theorem dX10_table_59 : decode cX10_table 59 = .ok (.ishl, 1) := by decide +kernel
theorem dX10_table_60 : decode cX10_table 60 = .ok (.if_icmp .ge 23, 3) := by decide +kernel
theorem dX10_table_63 : decode cX10_table 63 = .ok (.iload_n 3, 1) := by decide +kernel
theorem dX10_table_64 : decode cX10_table 64 = .ok (.aload_n 0, 1) := by decide +kernel
theorem dX10_table_65 : decode cX10_table 65 = .ok (.iload_n 1, 1) := by decide +kernel
theorem dX10_table_66 : decode cX10_table 66 = .ok (.iload_n 2, 1) := by decide +kernel
theorem dX10_table_67 : decode cX10_table 67 = .ok (.iload 4, 2) := by decide +kernel
theorem dX10_table_69 : decode cX10_table 69 = .ok (.invokevirtual 211, 3) := by decide +kernel
theorem dX10_table_72 : decode cX10_table 72 = .ok (.iload 4, 2) := by decide +kernel
theorem dX10_table_74 : decode cX10_table 74 = .ok (.ishl, 1) := by decide +kernel
theorem dX10_table_75 : decode cX10_table 75 = .ok (.ior, 1) := by decide +kernel
theorem dX10_table_76 : decode cX10_table 76 = .ok (.istore_n 3, 1) := by decide +kernel
theorem dX10_table_77 : decode cX10_table 77 = .ok (.iinc 4 1, 3) := by decide +kernel
theorem dX10_table_80 : decode cX10_table 80 = .ok (.goto (-28), 3) := by decide +kernel
theorem dX10_table_83 : decode cX10_table 83 = .ok (.iload_n 3, 1) := by decide +kernel
theorem dX10_table_84 : decode cX10_table 84 = .ok (.ireturn, 1) := by decide +kernel
set_option maxRecDepth 20000 in
theorem ggX10_tableAgain_X10_table : GoodIn wsX10_tableAgain wsX10_table := goodIn_r _ [5, 6, 7, 8, 4, 9, 10, 11, 12, 13, 14, 15, 16, 17, 18, 19, 20, 21, 22, 23, 24, 25, 26, 27, 28, 29, 30, 31, 32, 33, 34, 35, 36, 37, 38, 39, 40, 41, 42, 43, 44, 45, 46, 47, 48, 49, 50, 51, 52, 53, 54, 55, 56, 57, 58, 59, 60, 61, 62, 63, 64, 65, 66, 67, 68, 69, 70, 71, 72, 73, 74, 75, 76, 77, 78, 79, 80, 81, 82, 83, 84, 85, 86, 87, 88] (by decide +kernel) (by decide +kernel)
set_option maxRecDepth 20000 in
theorem gX10_tableAgain_X10_table : GoodIn wsX10_tableAgain (wsV RX10 214 RX10 yX10_table wsX10_table) := goodIn_app (goodIn_of _ (by decide +kernel)) ggX10_tableAgain_X10_table
theorem dX10_tableAgain_0 : decode cX10_tableAgain 0 = .ok (.aload_n 0, 1) := by decide +kernel
theorem dX10_tableAgain_1 : decode cX10_tableAgain 1 = .ok (.iload_n 1, 1) := by decide +kernel
theorem dX10_tableAgain_2 : decode cX10_tableAgain 2 = .ok (.invokevirtual 214, 3) := by decide +kernel
theorem dX10_tableAgain_5 : decode cX10_tableAgain 5 = .ok (.ireturn, 1) := by decide +kernel
set_option maxRecDepth 20000 in
theorem ggX10_append_X10_in : GoodIn wsX10_append wsX10_in := goodIn_r _ [6] (by decide +kernel) (by decide +kernel)
set_option maxRecDepth 20000 in
theorem gX10_append_X10_in : GoodIn wsX10_append (va_wsS RX10 73 yX10_in wsX10_in) := goodIn_app (goodIn_of _ (by decide +kernel)) ggX10_append_X10_in
theorem dX10_append_0 : decode cX10_append 0 = .ok (.iload_n 1, 1) := by decide +kernel
theorem dX10_append_1 : decode cX10_append 1 = .ok (.bipush 32, 2) := by decide +kernel
theorem dX10_append_3 : decode cX10_append 3 = .ok (.bipush 126, 2) := by decide +kernel
theorem dX10_append_5 : decode cX10_append 5 = .ok (.invokestatic 73, 3) := by decide +kernel
theorem dX10_append_8 : decode cX10_append 8 = .ok (.ifCond .ne 6, 3) := by decide +kernel
theorem dX10_append_11 : decode cX10_append 11 = .ok (.bipush (-12), 2) := by decide +kernel
theorem dX10_append_13 : decode cX10_append 13 = .ok (.ireturn, 1) := by decide +kernel
theorem dX10_append_14 : decode cX10_append 14 = .ok (.aload_n 0, 1) := by decide +kernel
theorem dX10_append_15 : decode cX10_append 15 = .ok (.getfield 217, 3) := by decide +kernel
theorem dX10_append_18 : decode cX10_append 18 = .ok (.bipush 60, 2) := by decide +kernel
theorem dX10_append_20 : decode cX10_append 20 = .ok (.if_icmp .ne 6, 3) := by decide +kernel
theorem dX10_append_23 : decode cX10_append 23 = .ok (.bipush (-13), 2) := by decide +kernel
theorem dX10_append_25 : decode cX10_append 25 = .ok (.ireturn, 1) := by decide +kernel
theorem dX10_append_26 : decode cX10_append 26 = .ok (.aload_n 0, 1) := by decide +kernel
theorem dX10_append_27 : decode cX10_append 27 = .ok (.getfield 46, 3) := by decide +kernel
theorem dX10_append_30 : decode cX10_append 30 = .ok (.aload_n 0, 1) := by decide +kernel
theorem dX10_append_31 : decode cX10_append 31 = .ok (.dup, 1) := by decide +kernel
theorem dX10_append_32 : decode cX10_append 32 = .ok (.getfield 217, 3) := by decide +kernel
theorem dX10_append_35 : decode cX10_append 35 = .ok (.dup_x1, 1) := by decide +kernel
theorem dX10_append_36 : decode cX10_append 36 = .ok (.iconst 1, 1) := by decide +kernel
theorem dX10_append_37 : decode cX10_append 37 = .ok (.iadd, 1) := by decide +kernel
theorem dX10_append_38 : decode cX10_append 38 = .ok (.putfield 217, 3) := by decide +kernel
theorem dX10_append_41 : decode cX10_append 41 = .ok (.iload_n 1, 1) := by decide +kernel
theorem dX10_append_42 : decode cX10_append 42 = .ok (.i2c, 1) := by decide +kernel
theorem dX10_append_43 : decode cX10_append 43 = .ok (.castore, 1) := by decide +kernel
theorem dX10_append_44 : decode cX10_append 44 = .ok (.aload_n 0, 1) := by decide +kernel
theorem dX10_append_45 : decode cX10_append 45 = .ok (.getfield 217, 3) := by decide +kernel
theorem dX10_append_48 : decode cX10_append 48 = .ok (.ireturn, 1) := by decide +kernel
set_option maxRecDepth 20000 in
theorem ggX10_word_J0_length_8abf5 : GoodIn wsX10_word wsJ0_length_8abf5 := goodIn_r _ [8, 9, 10, 11, 12, 7, 13, 14, 15] (by decide +kernel) (by decide +kernel)
set_option maxRecDepth 20000 in
theorem gX10_word_J0_length_8abf5 : GoodIn wsX10_word (wsV RX10 220 RJ0 yJ0_length_8abf5 wsJ0_length_8abf5) := goodIn_app (goodIn_of _ (by decide +kernel)) ggX10_word_J0_length_8abf5
set_option maxRecDepth 20000 in
theorem ggX10_word_J0_charAt_5068e : GoodIn wsX10_word wsJ0_charAt_5068e := goodIn_r _ [19, 9, 20, 21, 22, 7, 23, 14, 15, 24, 25, 26, 27, 28, 29, 30, 31, 32, 33, 34, 35, 36, 37, 38, 39, 40, 41, 42, 43, 44, 45, 46, 47, 48, 49, 50, 51, 52] (by decide +kernel) (by decide +kernel)
set_option maxRecDepth 20000 in
theorem gX10_word_J0_charAt_5068e : GoodIn wsX10_word (wsV RX10 227 RJ0 yJ0_charAt_5068e wsJ0_charAt_5068e) := goodIn_app (goodIn_of _ (by decide +kernel)) ggX10_word_J0_charAt_5068e
theorem dX10_word_0 : decode cX10_word 0 = .ok (.iconst 0, 1) := by decide +kernel
theorem dX10_word_1 : decode cX10_word 1 = .ok (.istore_n 2, 1) := by decide +kernel
theorem dX10_word_2 : decode cX10_word 2 = .ok (.iload_n 2, 1) := by decide +kernel
theorem dX10_word_3 : decode cX10_word 3 = .ok (.aload_n 1, 1) := by decide +kernel
theorem dX10_word_4 : decode cX10_word 4 = .ok (.invokevirtual 220, 3) := by decide +kernel
theorem dX10_word_7 : decode cX10_word 7 = .ok (.if_icmp .ge 49, 3) := by decide +kernel
theorem dX10_word_10 : decode cX10_word 10 = .ok (.aload_n 0, 1) := by decide +kernel
theorem dX10_word_11 : decode cX10_word 11 = .ok (.getfield 224, 3) := by decide +kernel
theorem dX10_word_14 : decode cX10_word 14 = .ok (.aload_n 0, 1) := by decide +kernel
theorem dX10_word_15 : decode cX10_word 15 = .ok (.getfield 217, 3) := by decide +kernel
theorem dX10_word_18 : decode cX10_word 18 = .ok (.if_icmp .eq 20, 3) := by decide +kernel
theorem dX10_word_21 : decode cX10_word 21 = .ok (.aload_n 0, 1) := by decide +kernel
theorem dX10_word_22 : decode cX10_word 22 = .ok (.getfield 46, 3) := by decide +kernel
theorem dX10_word_25 : decode cX10_word 25 = .ok (.aload_n 0, 1) := by decide +kernel
theorem dX10_word_26 : decode cX10_word 26 = .ok (.getfield 224, 3) := by decide +kernel
theorem dX10_word_29 : decode cX10_word 29 = .ok (.caload, 1) := by decide +kernel
theorem dX10_word_30 : decode cX10_word 30 = .ok (.aload_n 1, 1) := by decide +kernel
theorem dX10_word_31 : decode cX10_word 31 = .ok (.iload_n 2, 1) := by decide +kernel
theorem dX10_word_32 : decode cX10_word 32 = .ok (.invokevirtual 227, 3) := by decide +kernel
theorem dX10_word_35 : decode cX10_word 35 = .ok (.if_icmp .eq 5, 3) := by decide +kernel
theorem dX10_word_38 : decode cX10_word 38 = .ok (.iconst 0, 1) := by decide +kernel
theorem dX10_word_39 : decode cX10_word 39 = .ok (.ireturn, 1) := by decide +kernel
theorem dX10_word_40 : decode cX10_word 40 = .ok (.aload_n 0, 1) := by decide +kernel
theorem dX10_word_41 : decode cX10_word 41 = .ok (.dup, 1) := by decide +kernel
theorem dX10_word_42 : decode cX10_word 42 = .ok (.getfield 224, 3) := by decide +kernel
theorem dX10_word_45 : decode cX10_word 45 = .ok (.iconst 1, 1) := by decide +kernel
theorem dX10_word_46 : decode cX10_word 46 = .ok (.iadd, 1) := by decide +kernel
theorem dX10_word_47 : decode cX10_word 47 = .ok (.putfield 224, 3) := by decide +kernel
theorem dX10_word_50 : decode cX10_word 50 = .ok (.iinc 2 1, 3) := by decide +kernel
theorem dX10_word_53 : decode cX10_word 53 = .ok (.goto (-51), 3) := by decide +kernel
theorem dX10_word_56 : decode cX10_word 56 = .ok (.iconst 1, 1) := by decide +kernel
theorem dX10_word_57 : decode cX10_word 57 = .ok (.ireturn, 1) := by decide +kernel
set_option maxRecDepth 20000 in
theorem ggX10_number_X10_in : GoodIn wsX10_number wsX10_in := goodIn_r _ [8] (by decide +kernel) (by decide +kernel)
set_option maxRecDepth 20000 in
theorem gX10_number_X10_in : GoodIn wsX10_number (va_wsS RX10 73 yX10_in wsX10_in) := goodIn_app (goodIn_of _ (by decide +kernel)) ggX10_number_X10_in
theorem dX10_number_0 : decode cX10_number 0 = .ok (.iconst 0, 1) := by decide +kernel
theorem dX10_number_1 : decode cX10_number 1 = .ok (.istore_n 3, 1) := by decide +kernel
theorem dX10_number_2 : decode cX10_number 2 = .ok (.aload_n 0, 1) := by decide +kernel
theorem dX10_number_3 : decode cX10_number 3 = .ok (.getfield 50, 3) := by decide +kernel
theorem dX10_number_6 : decode cX10_number 6 = .ok (.iload_n 1, 1) := by decide +kernel
theorem dX10_number_7 : decode cX10_number 7 = .ok (.iconst 0, 1) := by decide +kernel
theorem dX10_number_8 : decode cX10_number 8 = .ok (.iastore, 1) := by decide +kernel
theorem dX10_number_9 : decode cX10_number 9 = .ok (.iload_n 3, 1) := by decide +kernel
theorem dX10_number_10 : decode cX10_number 10 = .ok (.iload_n 2, 1) := by decide +kernel
theorem dX10_number_11 : decode cX10_number 11 = .ok (.if_icmp .ge 74, 3) := by decide +kernel
theorem dX10_number_14 : decode cX10_number 14 = .ok (.aload_n 0, 1) := by decide +kernel
theorem dX10_number_15 : decode cX10_number 15 = .ok (.getfield 224, 3) := by decide +kernel
theorem dX10_number_18 : decode cX10_number 18 = .ok (.aload_n 0, 1) := by decide +kernel
theorem dX10_number_19 : decode cX10_number 19 = .ok (.getfield 217, 3) := by decide +kernel
theorem dX10_number_22 : decode cX10_number 22 = .ok (.if_icmp .ge 63, 3) := by decide +kernel
theorem dX10_number_25 : decode cX10_number 25 = .ok (.aload_n 0, 1) := by decide +kernel
theorem dX10_number_26 : decode cX10_number 26 = .ok (.getfield 46, 3) := by decide +kernel
theorem dX10_number_29 : decode cX10_number 29 = .ok (.aload_n 0, 1) := by decide +kernel
theorem dX10_number_30 : decode cX10_number 30 = .ok (.getfield 224, 3) := by decide +kernel
theorem dX10_number_33 : decode cX10_number 33 = .ok (.caload, 1) := by decide +kernel
theorem dX10_number_34 : decode cX10_number 34 = .ok (.bipush 48, 2) := by decide +kernel
theorem dX10_number_36 : decode cX10_number 36 = .ok (.bipush 57, 2) := by decide +kernel
theorem dX10_number_38 : decode cX10_number 38 = .ok (.invokestatic 73, 3) := by decide +kernel
theorem dX10_number_41 : decode cX10_number 41 = .ok (.ifCond .eq 44, 3) := by decide +kernel
theorem dX10_number_44 : decode cX10_number 44 = .ok (.aload_n 0, 1) := by decide +kernel
theorem dX10_number_45 : decode cX10_number 45 = .ok (.getfield 50, 3) := by decide +kernel
theorem dX10_number_48 : decode cX10_number 48 = .ok (.iload_n 1, 1) := by decide +kernel
theorem dX10_number_49 : decode cX10_number 49 = .ok (.bipush 10, 2) := by decide +kernel
theorem dX10_number_51 : decode cX10_number 51 = .ok (.aload_n 0, 1) := by decide +kernel
theorem dX10_number_52 : decode cX10_number 52 = .ok (.getfield 50, 3) := by decide +kernel
theorem dX10_number_55 : decode cX10_number 55 = .ok (.iload_n 1, 1) := by decide +kernel
theorem dX10_number_56 : decode cX10_number 56 = .ok (.iaload, 1) := by decide +kernel
theorem dX10_number_57 : decode cX10_number 57 = .ok (.imul, 1) := by decide +kernel
theorem dX10_number_58 : decode cX10_number 58 = .ok (.aload_n 0, 1) := by decide +kernel
theorem dX10_number_59 : decode cX10_number 59 = .ok (.getfield 46, 3) := by decide +kernel
theorem dX10_number_62 : decode cX10_number 62 = .ok (.aload_n 0, 1) := by decide +kernel
theorem dX10_number_63 : decode cX10_number 63 = .ok (.dup, 1) := by decide +kernel
theorem dX10_number_64 : decode cX10_number 64 = .ok (.getfield 224, 3) := by decide +kernel
theorem dX10_number_67 : decode cX10_number 67 = .ok (.dup_x1, 1) := by decide +kernel
theorem dX10_number_68 : decode cX10_number 68 = .ok (.iconst 1, 1) := by decide +kernel
theorem dX10_number_69 : decode cX10_number 69 = .ok (.iadd, 1) := by decide +kernel
theorem dX10_number_70 : decode cX10_number 70 = .ok (.putfield 224, 3) := by decide +kernel
theorem dX10_number_73 : decode cX10_number 73 = .ok (.caload, 1) := by decide +kernel
theorem dX10_number_74 : decode cX10_number 74 = .ok (.iadd, 1) := by decide +kernel
theorem dX10_number_75 : decode cX10_number 75 = .ok (.bipush 48, 2) := by decide +kernel
theorem dX10_number_77 : decode cX10_number 77 = .ok (.isub, 1) := by decide +kernel
theorem dX10_number_78 : decode cX10_number 78 = .ok (.iastore, 1) := by decide +kernel
theorem dX10_number_79 : decode cX10_number 79 = .ok (.iinc 3 1, 3) := by decide +kernel
theorem dX10_number_82 : decode cX10_number 82 = .ok (.goto (-73), 3) := by decide +kernel
theorem dX10_number_85 : decode cX10_number 85 = .ok (.iload_n 3, 1) := by decide +kernel
theorem dX10_number_86 : decode cX10_number 86 = .ok (.ifCond .le 7, 3) := by decide +kernel
theorem dX10_number_89 : decode cX10_number 89 = .ok (.iconst 1, 1) := by decide +kernel
theorem dX10_number_90 : decode cX10_number 90 = .ok (.goto 4, 3) := by decide +kernel
theorem dX10_number_93 : decode cX10_number 93 = .ok (.iconst 0, 1) := by decide +kernel
theorem dX10_number_94 : decode cX10_number 94 = .ok (.ireturn, 1) := by decide +kernel
theorem dX10_sign_0 : decode cX10_sign 0 = .ok (.aload_n 0, 1) := by decide +kernel
theorem dX10_sign_1 : decode cX10_sign 1 = .ok (.getfield 224, 3) := by decide +kernel
theorem dX10_sign_4 : decode cX10_sign 4 = .ok (.aload_n 0, 1) := by decide +kernel
theorem dX10_sign_5 : decode cX10_sign 5 = .ok (.getfield 217, 3) := by decide +kernel
theorem dX10_sign_8 : decode cX10_sign 8 = .ok (.if_icmp .eq 31, 3) := by decide +kernel
theorem dX10_sign_11 : decode cX10_sign 11 = .ok (.aload_n 0, 1) := by decide +kernel
theorem dX10_sign_12 : decode cX10_sign 12 = .ok (.getfield 46, 3) := by decide +kernel
theorem dX10_sign_15 : decode cX10_sign 15 = .ok (.aload_n 0, 1) := by decide +kernel
theorem dX10_sign_16 : decode cX10_sign 16 = .ok (.getfield 224, 3) := by decide +kernel
theorem dX10_sign_19 : decode cX10_sign 19 = .ok (.caload, 1) := by decide +kernel
theorem dX10_sign_20 : decode cX10_sign 20 = .ok (.bipush 43, 2) := by decide +kernel
theorem dX10_sign_22 : decode cX10_sign 22 = .ok (.if_icmp .eq 19, 3) := by decide +kernel
theorem dX10_sign_25 : decode cX10_sign 25 = .ok (.aload_n 0, 1) := by decide +kernel
theorem dX10_sign_26 : decode cX10_sign 26 = .ok (.getfield 46, 3) := by decide +kernel
theorem dX10_sign_29 : decode cX10_sign 29 = .ok (.aload_n 0, 1) := by decide +kernel
theorem dX10_sign_30 : decode cX10_sign 30 = .ok (.getfield 224, 3) := by decide +kernel
theorem dX10_sign_33 : decode cX10_sign 33 = .ok (.caload, 1) := by decide +kernel
theorem dX10_sign_34 : decode cX10_sign 34 = .ok (.bipush 45, 2) := by decide +kernel
theorem dX10_sign_36 : decode cX10_sign 36 = .ok (.if_icmp .eq 5, 3) := by decide +kernel
theorem dX10_sign_39 : decode cX10_sign 39 = .ok (.iconst 0, 1) := by decide +kernel
theorem dX10_sign_40 : decode cX10_sign 40 = .ok (.ireturn, 1) := by decide +kernel
theorem dX10_sign_41 : decode cX10_sign 41 = .ok (.aload_n 0, 1) := by decide +kernel
theorem dX10_sign_42 : decode cX10_sign 42 = .ok (.getfield 50, 3) := by decide +kernel
theorem dX10_sign_45 : decode cX10_sign 45 = .ok (.iconst 1, 1) := by decide +kernel
theorem dX10_sign_46 : decode cX10_sign 46 = .ok (.aload_n 0, 1) := by decide +kernel
theorem dX10_sign_47 : decode cX10_sign 47 = .ok (.getfield 46, 3) := by decide +kernel
theorem dX10_sign_50 : decode cX10_sign 50 = .ok (.aload_n 0, 1) := by decide +kernel
theorem dX10_sign_51 : decode cX10_sign 51 = .ok (.dup, 1) := by decide +kernel
theorem dX10_sign_52 : decode cX10_sign 52 = .ok (.getfield 224, 3) := by decide +kernel
theorem dX10_sign_55 : decode cX10_sign 55 = .ok (.dup_x1, 1) := by decide +kernel
theorem dX10_sign_56 : decode cX10_sign 56 = .ok (.iconst 1, 1) := by decide +kernel
theorem dX10_sign_57 : decode cX10_sign 57 = .ok (.iadd, 1) := by decide +kernel
theorem dX10_sign_58 : decode cX10_sign 58 = .ok (.putfield 224, 3) := by decide +kernel
theorem dX10_sign_61 : decode cX10_sign 61 = .ok (.caload, 1) := by decide +kernel
theorem dX10_sign_62 : decode cX10_sign 62 = .ok (.bipush 43, 2) := by decide +kernel
theorem dX10_sign_64 : decode cX10_sign 64 = .ok (.if_icmp .ne 7, 3) := by decide +kernel
theorem dX10_sign_67 : decode cX10_sign 67 = .ok (.iconst 1, 1) := by decide +kernel
theorem dX10_sign_68 : decode cX10_sign 68 = .ok (.goto 4, 3) := by decide +kernel
theorem dX10_sign_71 : decode cX10_sign 71 = .ok (.iconst 0, 1) := by decide +kernel
theorem dX10_sign_72 : decode cX10_sign 72 = .ok (.iastore, 1) := by decide +kernel
theorem dX10_sign_73 : decode cX10_sign 73 = .ok (.iconst 1, 1) := by decide +kernel
theorem dX10_sign_74 : decode cX10_sign 74 = .ok (.ireturn, 1) := by decide +kernel
set_option maxRecDepth 20000 in
theorem ggX10_isOrder_X10_word : GoodIn wsX10_isOrder wsX10_word := goodIn_r _ [9, 1, 2, 3, 10, 11, 12, 13, 14, 15, 16, 17, 18, 19, 20, 21, 22, 23, 24, 25, 26, 27, 28, 29, 30, 31, 32, 33, 34, 35, 36, 37, 38, 39, 40, 41, 42, 43, 44, 45, 46, 47, 48, 49, 50, 51, 52, 53, 54, 55, 56, 57, 58, 71, 72, 73, 74, 75, 76, 77, 78, 79, 80, 81, 82, 83, 84, 85, 86, 87, 88, 89, 90, 91, 92, 93, 94] (by decide +kernel) (by decide +kernel)
set_option maxRecDepth 20000 in
theorem gX10_isOrder_X10_word : GoodIn wsX10_isOrder (wsV RX10 236 RX10 yX10_word wsX10_word) := goodIn_app (goodIn_of _ (by decide +kernel)) ggX10_isOrder_X10_word
set_option maxRecDepth 20000 in
theorem ggX10_isOrder_X10_number : GoodIn wsX10_isOrder wsX10_number := goodIn_r _ [62, 63, 1, 2, 3, 64, 65, 8, 66, 71, 72, 73, 74, 75, 76, 77, 78, 79, 80, 81, 82, 83, 84, 85, 86, 87, 88, 89, 90, 91, 92, 93, 94] (by decide +kernel) (by decide +kernel)
set_option maxRecDepth 20000 in
theorem gX10_isOrder_X10_number : GoodIn wsX10_isOrder (wsV RX10 240 RX10 yX10_number wsX10_number) := goodIn_app (goodIn_of _ (by decide +kernel)) ggX10_isOrder_X10_number
set_option maxRecDepth 20000 in
theorem ggX10_isOrder_X10_sign : GoodIn wsX10_isOrder wsX10_sign := goodIn_r _ [70, 1, 2, 3, 63, 71, 72, 73, 74, 75, 76, 77, 78, 79, 80, 81, 82, 83, 84, 85, 86, 87, 88, 89, 90, 91, 92, 93, 94] (by decide +kernel) (by decide +kernel)
set_option maxRecDepth 20000 in
theorem gX10_isOrder_X10_sign : GoodIn wsX10_isOrder (wsV RX10 256 RX10 yX10_sign wsX10_sign) := goodIn_app (goodIn_of _ (by decide +kernel)) ggX10_isOrder_X10_sign
theorem dX10_isOrder_0 : decode cX10_isOrder 0 = .ok (.aload_n 0, 1) := by decide +kernel
theorem dX10_isOrder_1 : decode cX10_isOrder 1 = .ok (.getfield 224, 3) := by decide +kernel
theorem dX10_isOrder_4 : decode cX10_isOrder 4 = .ok (.aload_n 0, 1) := by decide +kernel
theorem dX10_isOrder_5 : decode cX10_isOrder 5 = .ok (.getfield 217, 3) := by decide +kernel
theorem dX10_isOrder_8 : decode cX10_isOrder 8 = .ok (.if_icmp .ne 5, 3) := by decide +kernel
theorem dX10_isOrder_11 : decode cX10_isOrder 11 = .ok (.iconst 0, 1) := by decide +kernel
theorem dX10_isOrder_12 : decode cX10_isOrder 12 = .ok (.ireturn, 1) := by decide +kernel
theorem dX10_isOrder_13 : decode cX10_isOrder 13 = .ok (.aload_n 0, 1) := by decide +kernel
theorem dX10_isOrder_14 : decode cX10_isOrder 14 = .ok (.aload_n 0, 1) := by decide +kernel
theorem dX10_isOrder_15 : decode cX10_isOrder 15 = .ok (.getfield 46, 3) := by decide +kernel
theorem dX10_isOrder_18 : decode cX10_isOrder 18 = .ok (.aload_n 0, 1) := by decide +kernel
theorem dX10_isOrder_19 : decode cX10_isOrder 19 = .ok (.getfield 224, 3) := by decide +kernel
theorem dX10_isOrder_22 : decode cX10_isOrder 22 = .ok (.caload, 1) := by decide +kernel
theorem dX10_isOrder_23 : decode cX10_isOrder 23 = .ok (.putfield 231, 3) := by decide +kernel
theorem dX10_isOrder_26 : decode cX10_isOrder 26 = .ok (.aload_n 0, 1) := by decide +kernel
theorem dX10_isOrder_27 : decode cX10_isOrder 27 = .ok (.getfield 231, 3) := by decide +kernel
theorem dX10_isOrder_30 : decode cX10_isOrder 30 = .ok (.lookupswitch 250 #[(99, 152), (104, 50), (115, 194), (116, 225), (119, 92)], 50) := by decide +kernel
theorem dX10_isOrder_80 : decode cX10_isOrder 80 = .ok (.aload_n 0, 1) := by decide +kernel
theorem dX10_isOrder_81 : decode cX10_isOrder 81 = .ok (.ldc 234, 2) := by decide +kernel
theorem dX10_isOrder_83 : decode cX10_isOrder 83 = .ok (.invokevirtual 236, 3) := by decide +kernel
theorem dX10_isOrder_86 : decode cX10_isOrder 86 = .ok (.ifCond .eq 34, 3) := by decide +kernel
theorem dX10_isOrder_89 : decode cX10_isOrder 89 = .ok (.aload_n 0, 1) := by decide +kernel
theorem dX10_isOrder_90 : decode cX10_isOrder 90 = .ok (.iconst 0, 1) := by decide +kernel
theorem dX10_isOrder_91 : decode cX10_isOrder 91 = .ok (.iconst 1, 1) := by decide +kernel
theorem dX10_isOrder_92 : decode cX10_isOrder 92 = .ok (.invokevirtual 240, 3) := by decide +kernel
theorem dX10_isOrder_95 : decode cX10_isOrder 95 = .ok (.ifCond .eq 25, 3) := by decide +kernel
theorem dX10_isOrder_98 : decode cX10_isOrder 98 = .ok (.aload_n 0, 1) := by decide +kernel
theorem dX10_isOrder_99 : decode cX10_isOrder 99 = .ok (.ldc 244, 2) := by decide +kernel
theorem dX10_isOrder_101 : decode cX10_isOrder 101 = .ok (.invokevirtual 236, 3) := by decide +kernel
theorem dX10_isOrder_104 : decode cX10_isOrder 104 = .ok (.ifCond .eq 16, 3) := by decide +kernel
theorem dX10_isOrder_107 : decode cX10_isOrder 107 = .ok (.aload_n 0, 1) := by decide +kernel
theorem dX10_isOrder_108 : decode cX10_isOrder 108 = .ok (.iconst 1, 1) := by decide +kernel
theorem dX10_isOrder_109 : decode cX10_isOrder 109 = .ok (.iconst 1, 1) := by decide +kernel
theorem dX10_isOrder_110 : decode cX10_isOrder 110 = .ok (.invokevirtual 240, 3) := by decide +kernel
theorem dX10_isOrder_113 : decode cX10_isOrder 113 = .ok (.ifCond .eq 7, 3) := by decide +kernel
theorem dX10_isOrder_116 : decode cX10_isOrder 116 = .ok (.iconst 1, 1) := by decide +kernel
theorem dX10_isOrder_117 : decode cX10_isOrder 117 = .ok (.goto 4, 3) := by decide +kernel
theorem dX10_isOrder_120 : decode cX10_isOrder 120 = .ok (.iconst 0, 1) := by decide +kernel
theorem dX10_isOrder_121 : decode cX10_isOrder 121 = .ok (.ireturn, 1) := by decide +kernel
theorem dX10_isOrder_122 : decode cX10_isOrder 122 = .ok (.aload_n 0, 1) := by decide +kernel
theorem dX10_isOrder_123 : decode cX10_isOrder 123 = .ok (.ldc 246, 2) := by decide +kernel
theorem dX10_isOrder_125 : decode cX10_isOrder 125 = .ok (.invokevirtual 236, 3) := by decide +kernel
theorem dX10_isOrder_128 : decode cX10_isOrder 128 = .ok (.ifCond .eq 52, 3) := by decide +kernel
theorem dX10_isOrder_131 : decode cX10_isOrder 131 = .ok (.aload_n 0, 1) := by decide +kernel
theorem dX10_isOrder_132 : decode cX10_isOrder 132 = .ok (.iconst 0, 1) := by decide +kernel
theorem dX10_isOrder_133 : decode cX10_isOrder 133 = .ok (.iconst 2, 1) := by decide +kernel
theorem dX10_isOrder_134 : decode cX10_isOrder 134 = .ok (.invokevirtual 240, 3) := by decide +kernel
theorem dX10_isOrder_137 : decode cX10_isOrder 137 = .ok (.ifCond .eq 43, 3) := by decide +kernel
theorem dX10_isOrder_140 : decode cX10_isOrder 140 = .ok (.aload_n 0, 1) := by decide +kernel
theorem dX10_isOrder_141 : decode cX10_isOrder 141 = .ok (.ldc 248, 2) := by decide +kernel
theorem dX10_isOrder_143 : decode cX10_isOrder 143 = .ok (.invokevirtual 236, 3) := by decide +kernel
theorem dX10_isOrder_146 : decode cX10_isOrder 146 = .ok (.ifCond .eq 34, 3) := by decide +kernel
theorem dX10_isOrder_149 : decode cX10_isOrder 149 = .ok (.aload_n 0, 1) := by decide +kernel
theorem dX10_isOrder_150 : decode cX10_isOrder 150 = .ok (.iconst 1, 1) := by decide +kernel
theorem dX10_isOrder_151 : decode cX10_isOrder 151 = .ok (.iconst 1, 1) := by decide +kernel
theorem dX10_isOrder_152 : decode cX10_isOrder 152 = .ok (.invokevirtual 240, 3) := by decide +kernel
theorem dX10_isOrder_155 : decode cX10_isOrder 155 = .ok (.ifCond .eq 25, 3) := by decide +kernel
theorem dX10_isOrder_158 : decode cX10_isOrder 158 = .ok (.aload_n 0, 1) := by decide +kernel
theorem dX10_isOrder_159 : decode cX10_isOrder 159 = .ok (.ldc 250, 2) := by decide +kernel
theorem dX10_isOrder_161 : decode cX10_isOrder 161 = .ok (.invokevirtual 236, 3) := by decide +kernel
theorem dX10_isOrder_164 : decode cX10_isOrder 164 = .ok (.ifCond .eq 16, 3) := by decide +kernel
theorem dX10_isOrder_167 : decode cX10_isOrder 167 = .ok (.aload_n 0, 1) := by decide +kernel
theorem dX10_isOrder_168 : decode cX10_isOrder 168 = .ok (.iconst 2, 1) := by decide +kernel
theorem dX10_isOrder_169 : decode cX10_isOrder 169 = .ok (.iconst 2, 1) := by decide +kernel
theorem dX10_isOrder_170 : decode cX10_isOrder 170 = .ok (.invokevirtual 240, 3) := by decide +kernel
theorem dX10_isOrder_173 : decode cX10_isOrder 173 = .ok (.ifCond .eq 7, 3) := by decide +kernel
theorem dX10_isOrder_176 : decode cX10_isOrder 176 = .ok (.iconst 1, 1) := by decide +kernel
theorem dX10_isOrder_177 : decode cX10_isOrder 177 = .ok (.goto 4, 3) := by decide +kernel
theorem dX10_isOrder_180 : decode cX10_isOrder 180 = .ok (.iconst 0, 1) := by decide +kernel
theorem dX10_isOrder_181 : decode cX10_isOrder 181 = .ok (.ireturn, 1) := by decide +kernel
theorem dX10_isOrder_182 : decode cX10_isOrder 182 = .ok (.aload_n 0, 1) := by decide +kernel
theorem dX10_isOrder_183 : decode cX10_isOrder 183 = .ok (.ldc 252, 2) := by decide +kernel
theorem dX10_isOrder_185 : decode cX10_isOrder 185 = .ok (.invokevirtual 236, 3) := by decide +kernel
theorem dX10_isOrder_188 : decode cX10_isOrder 188 = .ok (.ifCond .eq 34, 3) := by decide +kernel
theorem dX10_isOrder_191 : decode cX10_isOrder 191 = .ok (.aload_n 0, 1) := by decide +kernel
theorem dX10_isOrder_192 : decode cX10_isOrder 192 = .ok (.iconst 0, 1) := by decide +kernel
theorem dX10_isOrder_193 : decode cX10_isOrder 193 = .ok (.iconst 2, 1) := by decide +kernel
theorem dX10_isOrder_194 : decode cX10_isOrder 194 = .ok (.invokevirtual 240, 3) := by decide +kernel
theorem dX10_isOrder_197 : decode cX10_isOrder 197 = .ok (.ifCond .eq 25, 3) := by decide +kernel
theorem dX10_isOrder_200 : decode cX10_isOrder 200 = .ok (.aload_n 0, 1) := by decide +kernel
theorem dX10_isOrder_201 : decode cX10_isOrder 201 = .ok (.ldc 248, 2) := by decide +kernel
theorem dX10_isOrder_203 : decode cX10_isOrder 203 = .ok (.invokevirtual 236, 3) := by decide +kernel
theorem dX10_isOrder_206 : decode cX10_isOrder 206 = .ok (.ifCond .eq 16, 3) := by decide +kernel
theorem dX10_isOrder_209 : decode cX10_isOrder 209 = .ok (.aload_n 0, 1) := by decide +kernel
theorem dX10_isOrder_210 : decode cX10_isOrder 210 = .ok (.iconst 1, 1) := by decide +kernel
theorem dX10_isOrder_211 : decode cX10_isOrder 211 = .ok (.iconst 1, 1) := by decide +kernel
theorem dX10_isOrder_212 : decode cX10_isOrder 212 = .ok (.invokevirtual 240, 3) := by decide +kernel
theorem dX10_isOrder_215 : decode cX10_isOrder 215 = .ok (.ifCond .eq 7, 3) := by decide +kernel
theorem dX10_isOrder_218 : decode cX10_isOrder 218 = .ok (.iconst 1, 1) := by decide +kernel
theorem dX10_isOrder_219 : decode cX10_isOrder 219 = .ok (.goto 4, 3) := by decide +kernel
theorem dX10_isOrder_222 : decode cX10_isOrder 222 = .ok (.iconst 0, 1) := by decide +kernel
theorem dX10_isOrder_223 : decode cX10_isOrder 223 = .ok (.ireturn, 1) := by decide +kernel
theorem dX10_isOrder_224 : decode cX10_isOrder 224 = .ok (.aload_n 0, 1) := by decide +kernel
theorem dX10_isOrder_225 : decode cX10_isOrder 225 = .ok (.ldc 254, 2) := by decide +kernel
theorem dX10_isOrder_227 : decode cX10_isOrder 227 = .ok (.invokevirtual 236, 3) := by decide +kernel
theorem dX10_isOrder_230 : decode cX10_isOrder 230 = .ok (.ifCond .eq 23, 3) := by decide +kernel
theorem dX10_isOrder_233 : decode cX10_isOrder 233 = .ok (.aload_n 0, 1) := by decide +kernel
theorem dX10_isOrder_234 : decode cX10_isOrder 234 = .ok (.iconst 0, 1) := by decide +kernel
theorem dX10_isOrder_235 : decode cX10_isOrder 235 = .ok (.iconst 2, 1) := by decide +kernel
theorem dX10_isOrder_236 : decode cX10_isOrder 236 = .ok (.invokevirtual 240, 3) := by decide +kernel
theorem dX10_isOrder_239 : decode cX10_isOrder 239 = .ok (.ifCond .eq 14, 3) := by decide +kernel
theorem dX10_isOrder_242 : decode cX10_isOrder 242 = .ok (.aload_n 0, 1) := by decide +kernel
theorem dX10_isOrder_243 : decode cX10_isOrder 243 = .ok (.invokevirtual 256, 3) := by decide +kernel
theorem dX10_isOrder_246 : decode cX10_isOrder 246 = .ok (.ifCond .eq 7, 3) := by decide +kernel
theorem dX10_isOrder_249 : decode cX10_isOrder 249 = .ok (.iconst 1, 1) := by decide +kernel
theorem dX10_isOrder_250 : decode cX10_isOrder 250 = .ok (.goto 4, 3) := by decide +kernel
theorem dX10_isOrder_253 : decode cX10_isOrder 253 = .ok (.iconst 0, 1) := by decide +kernel
theorem dX10_isOrder_254 : decode cX10_isOrder 254 = .ok (.ireturn, 1) := by decide +kernel
theorem dX10_isOrder_255 : decode cX10_isOrder 255 = .ok (.aload_n 0, 1) := by decide +kernel
theorem dX10_isOrder_256 : decode cX10_isOrder 256 = .ok (.ldc_w 259, 3) := by decide +kernel
theorem dX10_isOrder_259 : decode cX10_isOrder 259 = .ok (.invokevirtual 236, 3) := by decide +kernel
theorem dX10_isOrder_262 : decode cX10_isOrder 262 = .ok (.ifCond .eq 16, 3) := by decide +kernel
theorem dX10_isOrder_265 : decode cX10_isOrder 265 = .ok (.aload_n 0, 1) := by decide +kernel
theorem dX10_isOrder_266 : decode cX10_isOrder 266 = .ok (.iconst 0, 1) := by decide +kernel
theorem dX10_isOrder_267 : decode cX10_isOrder 267 = .ok (.iconst 2, 1) := by decide +kernel
theorem dX10_isOrder_268 : decode cX10_isOrder 268 = .ok (.invokevirtual 240, 3) := by decide +kernel
theorem dX10_isOrder_271 : decode cX10_isOrder 271 = .ok (.ifCond .eq 7, 3) := by decide +kernel
theorem dX10_isOrder_274 : decode cX10_isOrder 274 = .ok (.iconst 1, 1) := by decide +kernel
theorem dX10_isOrder_275 : decode cX10_isOrder 275 = .ok (.goto 4, 3) := by decide +kernel
theorem dX10_isOrder_278 : decode cX10_isOrder 278 = .ok (.iconst 0, 1) := by decide +kernel
theorem dX10_isOrder_279 : decode cX10_isOrder 279 = .ok (.ireturn, 1) := by decide +kernel
theorem dX10_isOrder_280 : decode cX10_isOrder 280 = .ok (.iconst 0, 1) := by decide +kernel
theorem dX10_isOrder_281 : decode cX10_isOrder 281 = .ok (.ireturn, 1) := by decide +kernel
set_option maxRecDepth 20000 in
theorem ggX10_carries_X10_hangs : GoodIn wsX10_carries wsX10_hangs := goodIn_r _ [7, 8, 9, 10, 6, 11, 12, 13, 14, 15, 16, 17, 18, 19, 20, 21, 22, 23, 24, 25, 26, 27, 105, 106, 107, 108, 109, 110, 111, 112, 113, 114, 115, 116, 117, 118, 119, 120, 121, 122, 123, 124, 125, 126, 127, 128] (by decide +kernel) (by decide +kernel)
set_option maxRecDepth 20000 in
theorem gX10_carries_X10_hangs : GoodIn wsX10_carries (wsV RX10 100 RX10 yX10_hangs wsX10_hangs) := goodIn_app (goodIn_of _ (by decide +kernel)) ggX10_carries_X10_hangs
set_option maxRecDepth 20000 in
theorem ggX10_carries_X10_wires : GoodIn wsX10_carries wsX10_wires := goodIn_r _ [31, 8, 32, 33, 34, 6, 35, 9, 10, 11, 36, 37, 38, 39, 40, 41, 42, 43, 12, 13, 14, 15, 16, 17, 18, 44, 45, 46, 47, 48, 49, 50, 51, 52, 53, 54, 55, 56, 57, 58, 59, 60, 19, 20, 21, 22, 61, 62, 63, 64, 23, 24, 25, 26, 27, 105, 106, 107, 108, 109, 110, 111, 112, 113, 114, 115, 116, 117, 118, 119, 120, 121, 122, 123, 124, 125, 126, 127, 128] (by decide +kernel) (by decide +kernel)
set_option maxRecDepth 20000 in
theorem gX10_carries_X10_wires : GoodIn wsX10_carries (wsV RX10 125 RX10 yX10_wires wsX10_wires) := goodIn_app (goodIn_of _ (by decide +kernel)) ggX10_carries_X10_wires
set_option maxRecDepth 20000 in
theorem ggX10_carries_X10_cuts : GoodIn wsX10_carries wsX10_cuts := goodIn_r _ [68, 32, 33, 34, 6, 35, 8, 9, 10, 11, 36, 37, 38, 39, 40, 41, 42, 43, 12, 13, 14, 15, 16, 17, 18, 44, 45, 46, 47, 48, 49, 50, 51, 19, 20, 21, 22, 23, 24, 25, 26, 27, 105, 106, 107, 108, 109, 110, 111, 112, 113, 114, 115, 116, 117, 118, 119, 120, 121, 122, 123, 124, 125, 126, 127, 128] (by decide +kernel) (by decide +kernel)
set_option maxRecDepth 20000 in
theorem gX10_carries_X10_cuts : GoodIn wsX10_carries (wsV RX10 129 RX10 yX10_cuts wsX10_cuts) := goodIn_app (goodIn_of _ (by decide +kernel)) ggX10_carries_X10_cuts
set_option maxRecDepth 20000 in
theorem ggX10_carries_X10_switches : GoodIn wsX10_carries wsX10_switches := goodIn_r _ [72, 8, 32, 33, 34, 6, 35, 9, 10, 11, 36, 37, 38, 39, 40, 41, 42, 43, 12, 13, 14, 15, 16, 17, 18, 19, 20, 21, 22, 73, 74, 75, 76, 23, 24, 25, 26, 27, 105, 106, 107, 108, 109, 110, 111, 112, 113, 114, 115, 116, 117, 118, 119, 120, 121, 122, 123, 124, 125, 126, 127, 128] (by decide +kernel) (by decide +kernel)
set_option maxRecDepth 20000 in
theorem gX10_carries_X10_switches : GoodIn wsX10_carries (wsV RX10 136 RX10 yX10_switches wsX10_switches) := goodIn_app (goodIn_of _ (by decide +kernel)) ggX10_carries_X10_switches
set_option maxRecDepth 20000 in
theorem ggX10_carries_X10_ticks : GoodIn wsX10_carries wsX10_ticks := goodIn_r _ [80, 9, 10, 6, 11, 81, 82, 83, 84, 8, 85, 86, 87, 88, 89, 90, 91, 92, 93, 36, 37, 38, 39, 40, 41, 42, 43, 48, 49, 50, 51, 61, 62, 63, 64, 94, 95, 96, 97, 98, 99, 100, 101, 102, 103, 104, 19, 20, 21, 22, 23, 24, 25, 26, 27, 105, 106, 107, 108, 109, 110, 111, 112, 113, 114, 115, 116, 117, 118, 119, 120, 121, 122, 123, 124, 125, 126, 127, 128] (by decide +kernel) (by decide +kernel)
set_option maxRecDepth 20000 in
theorem gX10_carries_X10_ticks : GoodIn wsX10_carries (wsV RX10 168 RX10 yX10_ticks wsX10_ticks) := goodIn_app (goodIn_of _ (by decide +kernel)) ggX10_carries_X10_ticks
theorem dX10_carries_0 : decode cX10_carries 0 = .ok (.aload_n 0, 1) := by decide +kernel
theorem dX10_carries_1 : decode cX10_carries 1 = .ok (.getfield 231, 3) := by decide +kernel
theorem dX10_carries_4 : decode cX10_carries 4 = .ok (.lookupswitch 118 #[(99, 84), (104, 44), (115, 101), (119, 61)], 44) := by decide +kernel
theorem dX10_carries_48 : decode cX10_carries 48 = .ok (.aload_n 0, 1) := by decide +kernel
theorem dX10_carries_49 : decode cX10_carries 49 = .ok (.aload_n 0, 1) := by decide +kernel
theorem dX10_carries_50 : decode cX10_carries 50 = .ok (.getfield 50, 3) := by decide +kernel
theorem dX10_carries_53 : decode cX10_carries 53 = .ok (.iconst 0, 1) := by decide +kernel
theorem dX10_carries_54 : decode cX10_carries 54 = .ok (.iaload, 1) := by decide +kernel
theorem dX10_carries_55 : decode cX10_carries 55 = .ok (.aload_n 0, 1) := by decide +kernel
theorem dX10_carries_56 : decode cX10_carries 56 = .ok (.getfield 50, 3) := by decide +kernel
theorem dX10_carries_59 : decode cX10_carries 59 = .ok (.iconst 1, 1) := by decide +kernel
theorem dX10_carries_60 : decode cX10_carries 60 = .ok (.iaload, 1) := by decide +kernel
theorem dX10_carries_61 : decode cX10_carries 61 = .ok (.invokevirtual 100, 3) := by decide +kernel
theorem dX10_carries_64 : decode cX10_carries 64 = .ok (.ireturn, 1) := by decide +kernel
theorem dX10_carries_65 : decode cX10_carries 65 = .ok (.aload_n 0, 1) := by decide +kernel
theorem dX10_carries_66 : decode cX10_carries 66 = .ok (.aload_n 0, 1) := by decide +kernel
theorem dX10_carries_67 : decode cX10_carries 67 = .ok (.getfield 50, 3) := by decide +kernel
theorem dX10_carries_70 : decode cX10_carries 70 = .ok (.iconst 0, 1) := by decide +kernel
theorem dX10_carries_71 : decode cX10_carries 71 = .ok (.iaload, 1) := by decide +kernel
theorem dX10_carries_72 : decode cX10_carries 72 = .ok (.aload_n 0, 1) := by decide +kernel
theorem dX10_carries_73 : decode cX10_carries 73 = .ok (.getfield 50, 3) := by decide +kernel
theorem dX10_carries_76 : decode cX10_carries 76 = .ok (.iconst 1, 1) := by decide +kernel
theorem dX10_carries_77 : decode cX10_carries 77 = .ok (.iaload, 1) := by decide +kernel
theorem dX10_carries_78 : decode cX10_carries 78 = .ok (.aload_n 0, 1) := by decide +kernel
theorem dX10_carries_79 : decode cX10_carries 79 = .ok (.getfield 50, 3) := by decide +kernel
theorem dX10_carries_82 : decode cX10_carries 82 = .ok (.iconst 2, 1) := by decide +kernel
theorem dX10_carries_83 : decode cX10_carries 83 = .ok (.iaload, 1) := by decide +kernel
theorem dX10_carries_84 : decode cX10_carries 84 = .ok (.invokevirtual 125, 3) := by decide +kernel
theorem dX10_carries_87 : decode cX10_carries 87 = .ok (.ireturn, 1) := by decide +kernel
theorem dX10_carries_88 : decode cX10_carries 88 = .ok (.aload_n 0, 1) := by decide +kernel
theorem dX10_carries_89 : decode cX10_carries 89 = .ok (.aload_n 0, 1) := by decide +kernel
theorem dX10_carries_90 : decode cX10_carries 90 = .ok (.getfield 50, 3) := by decide +kernel
theorem dX10_carries_93 : decode cX10_carries 93 = .ok (.iconst 0, 1) := by decide +kernel
theorem dX10_carries_94 : decode cX10_carries 94 = .ok (.iaload, 1) := by decide +kernel
theorem dX10_carries_95 : decode cX10_carries 95 = .ok (.aload_n 0, 1) := by decide +kernel
theorem dX10_carries_96 : decode cX10_carries 96 = .ok (.getfield 50, 3) := by decide +kernel
theorem dX10_carries_99 : decode cX10_carries 99 = .ok (.iconst 1, 1) := by decide +kernel
theorem dX10_carries_100 : decode cX10_carries 100 = .ok (.iaload, 1) := by decide +kernel
theorem dX10_carries_101 : decode cX10_carries 101 = .ok (.invokevirtual 129, 3) := by decide +kernel
theorem dX10_carries_104 : decode cX10_carries 104 = .ok (.ireturn, 1) := by decide +kernel
theorem dX10_carries_105 : decode cX10_carries 105 = .ok (.aload_n 0, 1) := by decide +kernel
theorem dX10_carries_106 : decode cX10_carries 106 = .ok (.aload_n 0, 1) := by decide +kernel
theorem dX10_carries_107 : decode cX10_carries 107 = .ok (.getfield 50, 3) := by decide +kernel
theorem dX10_carries_110 : decode cX10_carries 110 = .ok (.iconst 0, 1) := by decide +kernel
theorem dX10_carries_111 : decode cX10_carries 111 = .ok (.iaload, 1) := by decide +kernel
theorem dX10_carries_112 : decode cX10_carries 112 = .ok (.aload_n 0, 1) := by decide +kernel
theorem dX10_carries_113 : decode cX10_carries 113 = .ok (.getfield 50, 3) := by decide +kernel
theorem dX10_carries_116 : decode cX10_carries 116 = .ok (.iconst 1, 1) := by decide +kernel
theorem dX10_carries_117 : decode cX10_carries 117 = .ok (.iaload, 1) := by decide +kernel
theorem dX10_carries_118 : decode cX10_carries 118 = .ok (.invokevirtual 136, 3) := by decide +kernel
theorem dX10_carries_121 : decode cX10_carries 121 = .ok (.ireturn, 1) := by decide +kernel
theorem dX10_carries_122 : decode cX10_carries 122 = .ok (.aload_n 0, 1) := by decide +kernel
theorem dX10_carries_123 : decode cX10_carries 123 = .ok (.aload_n 0, 1) := by decide +kernel
theorem dX10_carries_124 : decode cX10_carries 124 = .ok (.getfield 50, 3) := by decide +kernel
theorem dX10_carries_127 : decode cX10_carries 127 = .ok (.iconst 0, 1) := by decide +kernel
theorem dX10_carries_128 : decode cX10_carries 128 = .ok (.iaload, 1) := by decide +kernel
theorem dX10_carries_129 : decode cX10_carries 129 = .ok (.invokevirtual 168, 3) := by decide +kernel
theorem dX10_carries_132 : decode cX10_carries 132 = .ok (.ireturn, 1) := by decide +kernel
set_option maxRecDepth 20000 in
theorem ggX10_stops_X10_behind : GoodIn wsX10_stops wsX10_behind := goodIn_r _ [8, 2, 1, 3, 9, 10, 11, 12, 13, 14, 15, 16, 17, 18, 19, 20, 21, 22, 23, 24, 25, 26, 27, 28, 29, 30, 31, 32] (by decide +kernel) (by decide +kernel)
set_option maxRecDepth 20000 in
theorem gX10_stops_X10_behind : GoodIn wsX10_stops (wsV RX10 119 RX10 yX10_behind wsX10_behind) := goodIn_app (goodIn_of _ (by decide +kernel)) ggX10_stops_X10_behind
theorem dX10_stops_0 : decode cX10_stops 0 = .ok (.iload_n 2, 1) := by decide +kernel
theorem dX10_stops_1 : decode cX10_stops 1 = .ok (.bipush (-14), 2) := by decide +kernel
theorem dX10_stops_3 : decode cX10_stops 3 = .ok (.if_icmp .ne 10, 3) := by decide +kernel
theorem dX10_stops_6 : decode cX10_stops 6 = .ok (.aload_n 0, 1) := by decide +kernel
theorem dX10_stops_7 : decode cX10_stops 7 = .ok (.getfield 63, 3) := by decide +kernel
theorem dX10_stops_10 : decode cX10_stops 10 = .ok (.goto 4, 3) := by decide +kernel
theorem dX10_stops_13 : decode cX10_stops 13 = .ok (.iconst 0, 1) := by decide +kernel
theorem dX10_stops_14 : decode cX10_stops 14 = .ok (.istore_n 3, 1) := by decide +kernel
theorem dX10_stops_15 : decode cX10_stops 15 = .ok (.iload_n 3, 1) := by decide +kernel
theorem dX10_stops_16 : decode cX10_stops 16 = .ok (.istore 4, 2) := by decide +kernel
theorem dX10_stops_18 : decode cX10_stops 18 = .ok (.iload 4, 2) := by decide +kernel
theorem dX10_stops_20 : decode cX10_stops 20 = .ok (.ifCond .le 41, 3) := by decide +kernel
theorem dX10_stops_23 : decode cX10_stops 23 = .ok (.aload_n 0, 1) := by decide +kernel
theorem dX10_stops_24 : decode cX10_stops 24 = .ok (.getfield 53, 3) := by decide +kernel
theorem dX10_stops_27 : decode cX10_stops 27 = .ok (.iload 4, 2) := by decide +kernel
theorem dX10_stops_29 : decode cX10_stops 29 = .ok (.aload_n 0, 1) := by decide +kernel
theorem dX10_stops_30 : decode cX10_stops 30 = .ok (.getfield 53, 3) := by decide +kernel
theorem dX10_stops_33 : decode cX10_stops 33 = .ok (.iload 4, 2) := by decide +kernel
theorem dX10_stops_35 : decode cX10_stops 35 = .ok (.iconst 1, 1) := by decide +kernel
theorem dX10_stops_36 : decode cX10_stops 36 = .ok (.isub, 1) := by decide +kernel
theorem dX10_stops_37 : decode cX10_stops 37 = .ok (.iaload, 1) := by decide +kernel
theorem dX10_stops_38 : decode cX10_stops 38 = .ok (.iastore, 1) := by decide +kernel
theorem dX10_stops_39 : decode cX10_stops 39 = .ok (.aload_n 0, 1) := by decide +kernel
theorem dX10_stops_40 : decode cX10_stops 40 = .ok (.getfield 56, 3) := by decide +kernel
theorem dX10_stops_43 : decode cX10_stops 43 = .ok (.iload 4, 2) := by decide +kernel
theorem dX10_stops_45 : decode cX10_stops 45 = .ok (.aload_n 0, 1) := by decide +kernel
theorem dX10_stops_46 : decode cX10_stops 46 = .ok (.getfield 56, 3) := by decide +kernel
theorem dX10_stops_49 : decode cX10_stops 49 = .ok (.iload 4, 2) := by decide +kernel
theorem dX10_stops_51 : decode cX10_stops 51 = .ok (.iconst 1, 1) := by decide +kernel
theorem dX10_stops_52 : decode cX10_stops 52 = .ok (.isub, 1) := by decide +kernel
theorem dX10_stops_53 : decode cX10_stops 53 = .ok (.iaload, 1) := by decide +kernel
theorem dX10_stops_54 : decode cX10_stops 54 = .ok (.iastore, 1) := by decide +kernel
theorem dX10_stops_55 : decode cX10_stops 55 = .ok (.iinc 4 (-1), 3) := by decide +kernel
theorem dX10_stops_58 : decode cX10_stops 58 = .ok (.goto (-40), 3) := by decide +kernel
theorem dX10_stops_61 : decode cX10_stops 61 = .ok (.aload_n 0, 1) := by decide +kernel
theorem dX10_stops_62 : decode cX10_stops 62 = .ok (.getfield 53, 3) := by decide +kernel
theorem dX10_stops_65 : decode cX10_stops 65 = .ok (.iconst 0, 1) := by decide +kernel
theorem dX10_stops_66 : decode cX10_stops 66 = .ok (.bipush 10, 2) := by decide +kernel
theorem dX10_stops_68 : decode cX10_stops 68 = .ok (.iastore, 1) := by decide +kernel
theorem dX10_stops_69 : decode cX10_stops 69 = .ok (.aload_n 0, 1) := by decide +kernel
theorem dX10_stops_70 : decode cX10_stops 70 = .ok (.getfield 56, 3) := by decide +kernel
theorem dX10_stops_73 : decode cX10_stops 73 = .ok (.iconst 0, 1) := by decide +kernel
theorem dX10_stops_74 : decode cX10_stops 74 = .ok (.iload_n 1, 1) := by decide +kernel
theorem dX10_stops_75 : decode cX10_stops 75 = .ok (.iastore, 1) := by decide +kernel
theorem dX10_stops_76 : decode cX10_stops 76 = .ok (.aload_n 0, 1) := by decide +kernel
theorem dX10_stops_77 : decode cX10_stops 77 = .ok (.iload_n 3, 1) := by decide +kernel
theorem dX10_stops_78 : decode cX10_stops 78 = .ok (.iconst 1, 1) := by decide +kernel
theorem dX10_stops_79 : decode cX10_stops 79 = .ok (.iadd, 1) := by decide +kernel
theorem dX10_stops_80 : decode cX10_stops 80 = .ok (.putfield 63, 3) := by decide +kernel
theorem dX10_stops_83 : decode cX10_stops 83 = .ok (.iload_n 2, 1) := by decide +kernel
theorem dX10_stops_84 : decode cX10_stops 84 = .ok (.bipush (-14), 2) := by decide +kernel
theorem dX10_stops_86 : decode cX10_stops 86 = .ok (.if_icmp .ne 8, 3) := by decide +kernel
theorem dX10_stops_89 : decode cX10_stops 89 = .ok (.bipush (-14), 2) := by decide +kernel
theorem dX10_stops_91 : decode cX10_stops 91 = .ok (.goto 10, 3) := by decide +kernel
theorem dX10_stops_94 : decode cX10_stops 94 = .ok (.aload_n 0, 1) := by decide +kernel
theorem dX10_stops_95 : decode cX10_stops 95 = .ok (.bipush 13, 2) := by decide +kernel
theorem dX10_stops_97 : decode cX10_stops 97 = .ok (.iload_n 2, 1) := by decide +kernel
theorem dX10_stops_98 : decode cX10_stops 98 = .ok (.invokevirtual 119, 3) := by decide +kernel
theorem dX10_stops_101 : decode cX10_stops 101 = .ok (.ireturn, 1) := by decide +kernel
set_option maxRecDepth 20000 in
theorem ggX10_run_X10_tries : GoodIn wsX10_run wsX10_tries := goodIn_r _ [7, 8, 9, 196, 197, 198, 199, 200, 201, 202, 203, 204, 205, 206, 207, 208, 209, 210, 211, 212, 213, 214, 215, 216, 217, 218, 219] (by decide +kernel) (by decide +kernel)
set_option maxRecDepth 20000 in
theorem gX10_run_X10_tries : GoodIn wsX10_run (wsV RX10 97 RX10 yX10_tries wsX10_tries) := goodIn_app (goodIn_of _ (by decide +kernel)) ggX10_run_X10_tries
set_option maxRecDepth 20000 in
theorem ggX10_run_X10_isOrder : GoodIn wsX10_run wsX10_isOrder := goodIn_r _ [13, 1, 2, 14, 15, 16, 17, 18, 6, 19, 20, 21, 22, 23, 24, 25, 26, 27, 28, 29, 30, 31, 32, 33, 34, 35, 36, 37, 38, 39, 40, 41, 42, 43, 44, 45, 46, 47, 48, 49, 50, 51, 52, 53, 54, 55, 56, 57, 58, 59, 60, 61, 62, 63, 64, 65, 66, 67, 68, 69, 70, 71, 72, 73, 74, 75, 76, 77, 78, 79, 80, 196, 197, 198, 199, 200, 201, 202, 203, 204, 205, 206, 207, 208, 209, 210, 211, 212, 213, 214, 215, 216, 217, 218, 219] (by decide +kernel) (by decide +kernel)
set_option maxRecDepth 20000 in
theorem gX10_run_X10_isOrder : GoodIn wsX10_run (wsV RX10 261 RX10 yX10_isOrder wsX10_isOrder) := goodIn_app (goodIn_of _ (by decide +kernel)) ggX10_run_X10_isOrder
set_option maxRecDepth 20000 in
theorem ggX10_run_X10_word : GoodIn wsX10_run wsX10_word := goodIn_r _ [19, 1, 2, 14, 20, 21, 22, 23, 24, 25, 26, 27, 28, 29, 30, 31, 32, 33, 34, 35, 36, 37, 38, 39, 40, 41, 42, 43, 44, 45, 46, 47, 48, 49, 50, 51, 52, 53, 54, 55, 56, 57, 58, 59, 60, 61, 62, 63, 64, 65, 66, 67, 68, 196, 197, 198, 199, 200, 201, 202, 203, 204, 205, 206, 207, 208, 209, 210, 211, 212, 213, 214, 215, 216, 217, 218, 219] (by decide +kernel) (by decide +kernel)
set_option maxRecDepth 20000 in
theorem gX10_run_X10_word : GoodIn wsX10_run (wsV RX10 236 RX10 yX10_word wsX10_word) := goodIn_app (goodIn_of _ (by decide +kernel)) ggX10_run_X10_word
set_option maxRecDepth 20000 in
theorem ggX10_run_X10_carries : GoodIn wsX10_run wsX10_carries := goodIn_r _ [84, 15, 73, 85, 86, 87, 6, 88, 9, 74, 75, 76, 89, 90, 91, 92, 93, 94, 95, 96, 97, 98, 99, 100, 101, 102, 103, 104, 105, 106, 107, 108, 109, 110, 111, 112, 113, 114, 115, 116, 117, 118, 119, 120, 121, 122, 123, 124, 125, 126, 127, 128, 129, 130, 131, 132, 133, 134, 135, 136, 137, 138, 139, 140, 141, 142, 143, 144, 145, 146, 147, 148, 149, 150, 151, 152, 153, 154, 155, 156, 157, 158, 159, 160, 161, 162, 163, 164, 165, 166, 167, 168, 169, 170, 171, 172, 173, 174, 175, 176, 177, 178, 179, 180, 181, 196, 197, 198, 199, 200, 201, 202, 203, 204, 205, 206, 207, 208, 209, 210, 211, 212, 213, 214, 215, 216, 217, 218, 219] (by decide +kernel) (by decide +kernel)
set_option maxRecDepth 20000 in
theorem gX10_run_X10_carries : GoodIn wsX10_run (wsV RX10 266 RX10 yX10_carries wsX10_carries) := goodIn_app (goodIn_of _ (by decide +kernel)) ggX10_run_X10_carries
set_option maxRecDepth 20000 in
theorem ggX10_run_X10_keeps : GoodIn wsX10_run wsX10_keeps := goodIn_r _ [185, 186, 187, 8, 196, 197, 198, 199, 200, 201, 202, 203, 204, 205, 206, 207, 208, 209, 210, 211, 212, 213, 214, 215, 216, 217, 218, 219] (by decide +kernel) (by decide +kernel)
set_option maxRecDepth 20000 in
theorem gX10_run_X10_keeps : GoodIn wsX10_run (wsV RX10 69 RX10 yX10_keeps wsX10_keeps) := goodIn_app (goodIn_of _ (by decide +kernel)) ggX10_run_X10_keeps
set_option maxRecDepth 20000 in
theorem ggX10_run_X10_comesBack : GoodIn wsX10_run wsX10_comesBack := goodIn_r _ [191, 9, 8, 196, 197, 198, 199, 200, 201, 202, 203, 204, 205, 206, 207, 208, 209, 210, 211, 212, 213, 214, 215, 216, 217, 218, 219] (by decide +kernel) (by decide +kernel)
set_option maxRecDepth 20000 in
theorem gX10_run_X10_comesBack : GoodIn wsX10_run (wsV RX10 269 RX10 yX10_comesBack wsX10_comesBack) := goodIn_app (goodIn_of _ (by decide +kernel)) ggX10_run_X10_comesBack
set_option maxRecDepth 20000 in
theorem ggX10_run_X10_stops : GoodIn wsX10_run wsX10_stops := goodIn_r _ [195, 95, 93, 94, 134, 135, 136, 6, 137, 196, 197, 198, 199, 200, 201, 202, 203, 204, 205, 206, 207, 208, 209, 210, 211, 212, 213, 214, 215, 216, 217, 218, 219] (by decide +kernel) (by decide +kernel)
set_option maxRecDepth 20000 in
theorem gX10_run_X10_stops : GoodIn wsX10_run (wsV RX10 272 RX10 yX10_stops wsX10_stops) := goodIn_app (goodIn_of _ (by decide +kernel)) ggX10_run_X10_stops
theorem dX10_run_0 : decode cX10_run 0 = .ok (.aload_n 0, 1) := by decide +kernel
theorem dX10_run_1 : decode cX10_run 1 = .ok (.invokevirtual 97, 3) := by decide +kernel
theorem dX10_run_4 : decode cX10_run 4 = .ok (.aload_n 0, 1) := by decide +kernel
theorem dX10_run_5 : decode cX10_run 5 = .ok (.iconst 0, 1) := by decide +kernel
theorem dX10_run_6 : decode cX10_run 6 = .ok (.putfield 224, 3) := by decide +kernel
theorem dX10_run_9 : decode cX10_run 9 = .ok (.aload_n 0, 1) := by decide +kernel
theorem dX10_run_10 : decode cX10_run 10 = .ok (.invokevirtual 261, 3) := by decide +kernel
theorem dX10_run_13 : decode cX10_run 13 = .ok (.istore_n 1, 1) := by decide +kernel
theorem dX10_run_14 : decode cX10_run 14 = .ok (.iload_n 1, 1) := by decide +kernel
theorem dX10_run_15 : decode cX10_run 15 = .ok (.ifCond .eq 40, 3) := by decide +kernel
theorem dX10_run_18 : decode cX10_run 18 = .ok (.aload_n 0, 1) := by decide +kernel
theorem dX10_run_19 : decode cX10_run 19 = .ok (.getfield 224, 3) := by decide +kernel
theorem dX10_run_22 : decode cX10_run 22 = .ok (.aload_n 0, 1) := by decide +kernel
theorem dX10_run_23 : decode cX10_run 23 = .ok (.getfield 217, 3) := by decide +kernel
theorem dX10_run_26 : decode cX10_run 26 = .ok (.if_icmp .ge 29, 3) := by decide +kernel
theorem dX10_run_29 : decode cX10_run 29 = .ok (.aload_n 0, 1) := by decide +kernel
theorem dX10_run_30 : decode cX10_run 30 = .ok (.ldc_w 264, 3) := by decide +kernel
theorem dX10_run_33 : decode cX10_run 33 = .ok (.invokevirtual 236, 3) := by decide +kernel
theorem dX10_run_36 : decode cX10_run 36 = .ok (.ifCond .eq 14, 3) := by decide +kernel
theorem dX10_run_39 : decode cX10_run 39 = .ok (.aload_n 0, 1) := by decide +kernel
theorem dX10_run_40 : decode cX10_run 40 = .ok (.invokevirtual 261, 3) := by decide +kernel
theorem dX10_run_43 : decode cX10_run 43 = .ok (.ifCond .eq 7, 3) := by decide +kernel
theorem dX10_run_46 : decode cX10_run 46 = .ok (.iconst 1, 1) := by decide +kernel
theorem dX10_run_47 : decode cX10_run 47 = .ok (.goto 4, 3) := by decide +kernel
theorem dX10_run_50 : decode cX10_run 50 = .ok (.iconst 0, 1) := by decide +kernel
theorem dX10_run_51 : decode cX10_run 51 = .ok (.istore_n 1, 1) := by decide +kernel
theorem dX10_run_52 : decode cX10_run 52 = .ok (.goto (-38), 3) := by decide +kernel
theorem dX10_run_55 : decode cX10_run 55 = .ok (.iload_n 1, 1) := by decide +kernel
theorem dX10_run_56 : decode cX10_run 56 = .ok (.ifCond .ne 17, 3) := by decide +kernel
theorem dX10_run_59 : decode cX10_run 59 = .ok (.aload_n 0, 1) := by decide +kernel
theorem dX10_run_60 : decode cX10_run 60 = .ok (.iconst 0, 1) := by decide +kernel
theorem dX10_run_61 : decode cX10_run 61 = .ok (.putfield 217, 3) := by decide +kernel
theorem dX10_run_64 : decode cX10_run 64 = .ok (.sipush (-1000), 3) := by decide +kernel
theorem dX10_run_67 : decode cX10_run 67 = .ok (.aload_n 0, 1) := by decide +kernel
theorem dX10_run_68 : decode cX10_run 68 = .ok (.getfield 224, 3) := by decide +kernel
theorem dX10_run_71 : decode cX10_run 71 = .ok (.isub, 1) := by decide +kernel
theorem dX10_run_72 : decode cX10_run 72 = .ok (.ireturn, 1) := by decide +kernel
theorem dX10_run_73 : decode cX10_run 73 = .ok (.aload_n 0, 1) := by decide +kernel
theorem dX10_run_74 : decode cX10_run 74 = .ok (.iconst 0, 1) := by decide +kernel
theorem dX10_run_75 : decode cX10_run 75 = .ok (.putfield 224, 3) := by decide +kernel
theorem dX10_run_78 : decode cX10_run 78 = .ok (.iconst 0, 1) := by decide +kernel
theorem dX10_run_79 : decode cX10_run 79 = .ok (.istore_n 2, 1) := by decide +kernel
theorem dX10_run_80 : decode cX10_run 80 = .ok (.iconst 0, 1) := by decide +kernel
theorem dX10_run_81 : decode cX10_run 81 = .ok (.istore_n 3, 1) := by decide +kernel
theorem dX10_run_82 : decode cX10_run 82 = .ok (.iconst 1, 1) := by decide +kernel
theorem dX10_run_83 : decode cX10_run 83 = .ok (.istore 4, 2) := by decide +kernel
theorem dX10_run_85 : decode cX10_run 85 = .ok (.iload 4, 2) := by decide +kernel
theorem dX10_run_87 : decode cX10_run 87 = .ok (.ifCond .eq 44, 3) := by decide +kernel
theorem dX10_run_90 : decode cX10_run 90 = .ok (.aload_n 0, 1) := by decide +kernel
theorem dX10_run_91 : decode cX10_run 91 = .ok (.invokevirtual 261, 3) := by decide +kernel
theorem dX10_run_94 : decode cX10_run 94 = .ok (.istore_n 1, 1) := by decide +kernel
theorem dX10_run_95 : decode cX10_run 95 = .ok (.aload_n 0, 1) := by decide +kernel
theorem dX10_run_96 : decode cX10_run 96 = .ok (.invokevirtual 266, 3) := by decide +kernel
theorem dX10_run_99 : decode cX10_run 99 = .ok (.istore_n 3, 1) := by decide +kernel
theorem dX10_run_100 : decode cX10_run 100 = .ok (.iload_n 3, 1) := by decide +kernel
theorem dX10_run_101 : decode cX10_run 101 = .ok (.ifCond .ne 6, 3) := by decide +kernel
theorem dX10_run_104 : decode cX10_run 104 = .ok (.iinc 2 1, 3) := by decide +kernel
theorem dX10_run_107 : decode cX10_run 107 = .ok (.iload_n 3, 1) := by decide +kernel
theorem dX10_run_108 : decode cX10_run 108 = .ok (.ifCond .ne 17, 3) := by decide +kernel
theorem dX10_run_111 : decode cX10_run 111 = .ok (.aload_n 0, 1) := by decide +kernel
theorem dX10_run_112 : decode cX10_run 112 = .ok (.ldc_w 264, 3) := by decide +kernel
theorem dX10_run_115 : decode cX10_run 115 = .ok (.invokevirtual 236, 3) := by decide +kernel
theorem dX10_run_118 : decode cX10_run 118 = .ok (.ifCond .eq 7, 3) := by decide +kernel
theorem dX10_run_121 : decode cX10_run 121 = .ok (.iconst 1, 1) := by decide +kernel
theorem dX10_run_122 : decode cX10_run 122 = .ok (.goto 4, 3) := by decide +kernel
theorem dX10_run_125 : decode cX10_run 125 = .ok (.iconst 0, 1) := by decide +kernel
theorem dX10_run_126 : decode cX10_run 126 = .ok (.istore 4, 2) := by decide +kernel
theorem dX10_run_128 : decode cX10_run 128 = .ok (.goto (-43), 3) := by decide +kernel
theorem dX10_run_131 : decode cX10_run 131 = .ok (.aload_n 0, 1) := by decide +kernel
theorem dX10_run_132 : decode cX10_run 132 = .ok (.iconst 0, 1) := by decide +kernel
theorem dX10_run_133 : decode cX10_run 133 = .ok (.putfield 217, 3) := by decide +kernel
theorem dX10_run_136 : decode cX10_run 136 = .ok (.iload_n 3, 1) := by decide +kernel
theorem dX10_run_137 : decode cX10_run 137 = .ok (.ifCond .ne 9, 3) := by decide +kernel
theorem dX10_run_140 : decode cX10_run 140 = .ok (.aload_n 0, 1) := by decide +kernel
theorem dX10_run_141 : decode cX10_run 141 = .ok (.iload_n 2, 1) := by decide +kernel
theorem dX10_run_142 : decode cX10_run 142 = .ok (.invokevirtual 69, 3) := by decide +kernel
theorem dX10_run_145 : decode cX10_run 145 = .ok (.ireturn, 1) := by decide +kernel
theorem dX10_run_146 : decode cX10_run 146 = .ok (.aload_n 0, 1) := by decide +kernel
theorem dX10_run_147 : decode cX10_run 147 = .ok (.invokevirtual 269, 3) := by decide +kernel
theorem dX10_run_150 : decode cX10_run 150 = .ok (.aload_n 0, 1) := by decide +kernel
theorem dX10_run_151 : decode cX10_run 151 = .ok (.iload_n 2, 1) := by decide +kernel
theorem dX10_run_152 : decode cX10_run 152 = .ok (.iload_n 3, 1) := by decide +kernel
theorem dX10_run_153 : decode cX10_run 153 = .ok (.invokevirtual 272, 3) := by decide +kernel
theorem dX10_run_156 : decode cX10_run 156 = .ok (.ireturn, 1) := by decide +kernel
set_option maxRecDepth 20000 in
theorem ggX10_writes_J0_length_8abf5 : GoodIn wsX10_writes wsJ0_length_8abf5 := goodIn_r _ [7, 8, 9, 10, 11, 6, 12, 13, 14] (by decide +kernel) (by decide +kernel)
set_option maxRecDepth 20000 in
theorem gX10_writes_J0_length_8abf5 : GoodIn wsX10_writes (wsV RX10 220 RJ0 yJ0_length_8abf5 wsJ0_length_8abf5) := goodIn_app (goodIn_of _ (by decide +kernel)) ggX10_writes_J0_length_8abf5
set_option maxRecDepth 20000 in
theorem ggX10_writes_J0_charAt_5068e : GoodIn wsX10_writes wsJ0_charAt_5068e := goodIn_r _ [18, 8, 19, 20, 21, 6, 22, 13, 14, 23, 24, 25, 26, 27, 28, 29, 30, 31, 32, 33, 34, 35, 36, 37, 38, 39, 40, 41, 42, 43, 44, 45, 46, 47, 48, 49, 50, 51] (by decide +kernel) (by decide +kernel)
set_option maxRecDepth 20000 in
theorem gX10_writes_J0_charAt_5068e : GoodIn wsX10_writes (wsV RX10 227 RJ0 yJ0_charAt_5068e wsJ0_charAt_5068e) := goodIn_app (goodIn_of _ (by decide +kernel)) ggX10_writes_J0_charAt_5068e
theorem dX10_writes_0 : decode cX10_writes 0 = .ok (.iconst 0, 1) := by decide +kernel
theorem dX10_writes_1 : decode cX10_writes 1 = .ok (.istore_n 2, 1) := by decide +kernel
theorem dX10_writes_2 : decode cX10_writes 2 = .ok (.iload_n 2, 1) := by decide +kernel
theorem dX10_writes_3 : decode cX10_writes 3 = .ok (.aload_n 1, 1) := by decide +kernel
theorem dX10_writes_4 : decode cX10_writes 4 = .ok (.invokevirtual 220, 3) := by decide +kernel
theorem dX10_writes_7 : decode cX10_writes 7 = .ok (.if_icmp .ge 30, 3) := by decide +kernel
theorem dX10_writes_10 : decode cX10_writes 10 = .ok (.aload_n 0, 1) := by decide +kernel
theorem dX10_writes_11 : decode cX10_writes 11 = .ok (.getfield 43, 3) := by decide +kernel
theorem dX10_writes_14 : decode cX10_writes 14 = .ok (.aload_n 0, 1) := by decide +kernel
theorem dX10_writes_15 : decode cX10_writes 15 = .ok (.dup, 1) := by decide +kernel
theorem dX10_writes_16 : decode cX10_writes 16 = .ok (.getfield 275, 3) := by decide +kernel
theorem dX10_writes_19 : decode cX10_writes 19 = .ok (.dup_x1, 1) := by decide +kernel
theorem dX10_writes_20 : decode cX10_writes 20 = .ok (.iconst 1, 1) := by decide +kernel
theorem dX10_writes_21 : decode cX10_writes 21 = .ok (.iadd, 1) := by decide +kernel
theorem dX10_writes_22 : decode cX10_writes 22 = .ok (.putfield 275, 3) := by decide +kernel
theorem dX10_writes_25 : decode cX10_writes 25 = .ok (.aload_n 1, 1) := by decide +kernel
theorem dX10_writes_26 : decode cX10_writes 26 = .ok (.iload_n 2, 1) := by decide +kernel
theorem dX10_writes_27 : decode cX10_writes 27 = .ok (.invokevirtual 227, 3) := by decide +kernel
theorem dX10_writes_30 : decode cX10_writes 30 = .ok (.iastore, 1) := by decide +kernel
theorem dX10_writes_31 : decode cX10_writes 31 = .ok (.iinc 2 1, 3) := by decide +kernel
theorem dX10_writes_34 : decode cX10_writes 34 = .ok (.goto (-32), 3) := by decide +kernel
theorem dX10_writes_37 : decode cX10_writes 37 = .ok (.return_, 1) := by decide +kernel
theorem dX10_writesNumber_0 : decode cX10_writesNumber 0 = .ok (.iload_n 1, 1) := by decide +kernel
theorem dX10_writesNumber_1 : decode cX10_writesNumber 1 = .ok (.bipush 9, 2) := by decide +kernel
theorem dX10_writesNumber_3 : decode cX10_writesNumber 3 = .ok (.if_icmp .le 26, 3) := by decide +kernel
theorem dX10_writesNumber_6 : decode cX10_writesNumber 6 = .ok (.aload_n 0, 1) := by decide +kernel
theorem dX10_writesNumber_7 : decode cX10_writesNumber 7 = .ok (.getfield 43, 3) := by decide +kernel
theorem dX10_writesNumber_10 : decode cX10_writesNumber 10 = .ok (.aload_n 0, 1) := by decide +kernel
theorem dX10_writesNumber_11 : decode cX10_writesNumber 11 = .ok (.dup, 1) := by decide +kernel
theorem dX10_writesNumber_12 : decode cX10_writesNumber 12 = .ok (.getfield 275, 3) := by decide +kernel
theorem dX10_writesNumber_15 : decode cX10_writesNumber 15 = .ok (.dup_x1, 1) := by decide +kernel
theorem dX10_writesNumber_16 : decode cX10_writesNumber 16 = .ok (.iconst 1, 1) := by decide +kernel
theorem dX10_writesNumber_17 : decode cX10_writesNumber 17 = .ok (.iadd, 1) := by decide +kernel
theorem dX10_writesNumber_18 : decode cX10_writesNumber 18 = .ok (.putfield 275, 3) := by decide +kernel
theorem dX10_writesNumber_21 : decode cX10_writesNumber 21 = .ok (.bipush 48, 2) := by decide +kernel
theorem dX10_writesNumber_23 : decode cX10_writesNumber 23 = .ok (.iload_n 1, 1) := by decide +kernel
theorem dX10_writesNumber_24 : decode cX10_writesNumber 24 = .ok (.bipush 10, 2) := by decide +kernel
theorem dX10_writesNumber_26 : decode cX10_writesNumber 26 = .ok (.idiv, 1) := by decide +kernel
theorem dX10_writesNumber_27 : decode cX10_writesNumber 27 = .ok (.iadd, 1) := by decide +kernel
theorem dX10_writesNumber_28 : decode cX10_writesNumber 28 = .ok (.iastore, 1) := by decide +kernel
theorem dX10_writesNumber_29 : decode cX10_writesNumber 29 = .ok (.aload_n 0, 1) := by decide +kernel
theorem dX10_writesNumber_30 : decode cX10_writesNumber 30 = .ok (.getfield 43, 3) := by decide +kernel
theorem dX10_writesNumber_33 : decode cX10_writesNumber 33 = .ok (.aload_n 0, 1) := by decide +kernel
theorem dX10_writesNumber_34 : decode cX10_writesNumber 34 = .ok (.dup, 1) := by decide +kernel
theorem dX10_writesNumber_35 : decode cX10_writesNumber 35 = .ok (.getfield 275, 3) := by decide +kernel
theorem dX10_writesNumber_38 : decode cX10_writesNumber 38 = .ok (.dup_x1, 1) := by decide +kernel
theorem dX10_writesNumber_39 : decode cX10_writesNumber 39 = .ok (.iconst 1, 1) := by decide +kernel
theorem dX10_writesNumber_40 : decode cX10_writesNumber 40 = .ok (.iadd, 1) := by decide +kernel
theorem dX10_writesNumber_41 : decode cX10_writesNumber 41 = .ok (.putfield 275, 3) := by decide +kernel
theorem dX10_writesNumber_44 : decode cX10_writesNumber 44 = .ok (.bipush 48, 2) := by decide +kernel
theorem dX10_writesNumber_46 : decode cX10_writesNumber 46 = .ok (.iload_n 1, 1) := by decide +kernel
theorem dX10_writesNumber_47 : decode cX10_writesNumber 47 = .ok (.bipush 10, 2) := by decide +kernel
theorem dX10_writesNumber_49 : decode cX10_writesNumber 49 = .ok (.irem, 1) := by decide +kernel
theorem dX10_writesNumber_50 : decode cX10_writesNumber 50 = .ok (.iadd, 1) := by decide +kernel
theorem dX10_writesNumber_51 : decode cX10_writesNumber 51 = .ok (.iastore, 1) := by decide +kernel
theorem dX10_writesNumber_52 : decode cX10_writesNumber 52 = .ok (.return_, 1) := by decide +kernel
set_option maxRecDepth 20000 in
theorem ggX10_tell_X10_of : GoodIn wsX10_tell wsX10_of := goodIn_r _ [8, 2, 9, 10, 11, 12, 13, 14, 15, 16, 17, 18, 19, 20, 21, 22, 23, 24, 25, 26, 27, 28, 29, 30, 31, 32] (by decide +kernel) (by decide +kernel)
set_option maxRecDepth 20000 in
theorem gX10_tell_X10_of : GoodIn wsX10_tell (wsV RX10 77 RX10 yX10_of wsX10_of) := goodIn_app (goodIn_of _ (by decide +kernel)) ggX10_tell_X10_of
theorem dX10_tell_0 : decode cX10_tell 0 = .ok (.aload_n 0, 1) := by decide +kernel
theorem dX10_tell_1 : decode cX10_tell 1 = .ok (.iconst 0, 1) := by decide +kernel
theorem dX10_tell_2 : decode cX10_tell 2 = .ok (.putfield 275, 3) := by decide +kernel
theorem dX10_tell_5 : decode cX10_tell 5 = .ok (.iconst 0, 1) := by decide +kernel
theorem dX10_tell_6 : decode cX10_tell 6 = .ok (.istore_n 1, 1) := by decide +kernel
theorem dX10_tell_7 : decode cX10_tell 7 = .ok (.iload_n 1, 1) := by decide +kernel
theorem dX10_tell_8 : decode cX10_tell 8 = .ok (.aload_n 0, 1) := by decide +kernel
theorem dX10_tell_9 : decode cX10_tell 9 = .ok (.getfield 9, 3) := by decide +kernel
theorem dX10_tell_12 : decode cX10_tell 12 = .ok (.iconst 0, 1) := by decide +kernel
theorem dX10_tell_13 : decode cX10_tell 13 = .ok (.iaload, 1) := by decide +kernel
theorem dX10_tell_14 : decode cX10_tell 14 = .ok (.if_icmp .ge 42, 3) := by decide +kernel
theorem dX10_tell_17 : decode cX10_tell 17 = .ok (.aload_n 0, 1) := by decide +kernel
theorem dX10_tell_18 : decode cX10_tell 18 = .ok (.getfield 43, 3) := by decide +kernel
theorem dX10_tell_21 : decode cX10_tell 21 = .ok (.aload_n 0, 1) := by decide +kernel
theorem dX10_tell_22 : decode cX10_tell 22 = .ok (.dup, 1) := by decide +kernel
theorem dX10_tell_23 : decode cX10_tell 23 = .ok (.getfield 275, 3) := by decide +kernel
theorem dX10_tell_26 : decode cX10_tell 26 = .ok (.dup_x1, 1) := by decide +kernel
theorem dX10_tell_27 : decode cX10_tell 27 = .ok (.iconst 1, 1) := by decide +kernel
theorem dX10_tell_28 : decode cX10_tell 28 = .ok (.iadd, 1) := by decide +kernel
theorem dX10_tell_29 : decode cX10_tell 29 = .ok (.putfield 275, 3) := by decide +kernel
theorem dX10_tell_32 : decode cX10_tell 32 = .ok (.aload_n 0, 1) := by decide +kernel
theorem dX10_tell_33 : decode cX10_tell 33 = .ok (.iload_n 1, 1) := by decide +kernel
theorem dX10_tell_34 : decode cX10_tell 34 = .ok (.iconst 2, 1) := by decide +kernel
theorem dX10_tell_35 : decode cX10_tell 35 = .ok (.invokevirtual 77, 3) := by decide +kernel
theorem dX10_tell_38 : decode cX10_tell 38 = .ok (.iconst 1, 1) := by decide +kernel
theorem dX10_tell_39 : decode cX10_tell 39 = .ok (.if_icmp .ne 8, 3) := by decide +kernel
theorem dX10_tell_42 : decode cX10_tell 42 = .ok (.bipush 35, 2) := by decide +kernel
theorem dX10_tell_44 : decode cX10_tell 44 = .ok (.goto 5, 3) := by decide +kernel
theorem dX10_tell_47 : decode cX10_tell 47 = .ok (.bipush 46, 2) := by decide +kernel
theorem dX10_tell_49 : decode cX10_tell 49 = .ok (.iastore, 1) := by decide +kernel
theorem dX10_tell_50 : decode cX10_tell 50 = .ok (.iinc 1 1, 3) := by decide +kernel
theorem dX10_tell_53 : decode cX10_tell 53 = .ok (.goto (-46), 3) := by decide +kernel
theorem dX10_tell_56 : decode cX10_tell 56 = .ok (.aload_n 0, 1) := by decide +kernel
theorem dX10_tell_57 : decode cX10_tell 57 = .ok (.getfield 275, 3) := by decide +kernel
theorem dX10_tell_60 : decode cX10_tell 60 = .ok (.ireturn, 1) := by decide +kernel
theorem dX10_kindWord_0 : decode cX10_kindWord 0 = .ok (.iload_n 0, 1) := by decide +kernel
theorem dX10_kindWord_1 : decode cX10_kindWord 1 = .ok (.tableswitch 63 0 5 #[39, 43, 47, 51, 55, 59], 39) := by decide +kernel
theorem dX10_kindWord_40 : decode cX10_kindWord 40 = .ok (.ldc_w 278, 3) := by decide +kernel
theorem dX10_kindWord_43 : decode cX10_kindWord 43 = .ok (.areturn, 1) := by decide +kernel
theorem dX10_kindWord_44 : decode cX10_kindWord 44 = .ok (.ldc_w 280, 3) := by decide +kernel
theorem dX10_kindWord_47 : decode cX10_kindWord 47 = .ok (.areturn, 1) := by decide +kernel
theorem dX10_kindWord_48 : decode cX10_kindWord 48 = .ok (.ldc_w 282, 3) := by decide +kernel
theorem dX10_kindWord_51 : decode cX10_kindWord 51 = .ok (.areturn, 1) := by decide +kernel
theorem dX10_kindWord_52 : decode cX10_kindWord 52 = .ok (.ldc_w 284, 3) := by decide +kernel
theorem dX10_kindWord_55 : decode cX10_kindWord 55 = .ok (.areturn, 1) := by decide +kernel
theorem dX10_kindWord_56 : decode cX10_kindWord 56 = .ok (.ldc_w 286, 3) := by decide +kernel
theorem dX10_kindWord_59 : decode cX10_kindWord 59 = .ok (.areturn, 1) := by decide +kernel
theorem dX10_kindWord_60 : decode cX10_kindWord 60 = .ok (.ldc_w 288, 3) := by decide +kernel
theorem dX10_kindWord_63 : decode cX10_kindWord 63 = .ok (.areturn, 1) := by decide +kernel
theorem dX10_kindWord_64 : decode cX10_kindWord 64 = .ok (.ldc_w 290, 3) := by decide +kernel
theorem dX10_kindWord_67 : decode cX10_kindWord 67 = .ok (.areturn, 1) := by decide +kernel
set_option maxRecDepth 20000 in
theorem ggX10_tellLantern_X10_isLantern : GoodIn wsX10_tellLantern wsX10_isLantern := goodIn_r _ [6, 7, 8, 9, 5, 10, 88, 89, 90, 91, 92, 93, 94, 95, 96, 97, 98, 99, 100, 101, 102, 103, 104, 105, 106, 107, 108, 109, 110, 111] (by decide +kernel) (by decide +kernel)
set_option maxRecDepth 20000 in
theorem gX10_tellLantern_X10_isLantern : GoodIn wsX10_tellLantern (wsV RX10 106 RX10 yX10_isLantern wsX10_isLantern) := goodIn_app (goodIn_of _ (by decide +kernel)) ggX10_tellLantern_X10_isLantern
set_option maxRecDepth 20000 in
theorem ggX10_tellLantern_X10_writesNumber : GoodIn wsX10_tellLantern wsX10_writesNumber := goodIn_r _ [14, 15, 1, 88, 89, 90, 91, 92, 93, 94, 95, 96, 97, 98, 99, 100, 101, 102, 103, 104, 105, 106, 107, 108, 109, 110, 111] (by decide +kernel) (by decide +kernel)
set_option maxRecDepth 20000 in
theorem gX10_tellLantern_X10_writesNumber : GoodIn wsX10_tellLantern (wsV RX10 292 RX10 yX10_writesNumber wsX10_writesNumber) := goodIn_app (goodIn_of _ (by decide +kernel)) ggX10_tellLantern_X10_writesNumber
set_option maxRecDepth 20000 in
theorem ggX10_tellLantern_X10_writes : GoodIn wsX10_tellLantern wsX10_writes := goodIn_r _ [19, 15, 1, 20, 21, 22, 23, 24, 25, 26, 27, 28, 29, 30, 31, 32, 33, 34, 35, 36, 37, 38, 39, 40, 41, 42, 43, 44, 45, 46, 47, 48, 49, 50, 51, 52, 53, 54, 55, 56, 57, 58, 59, 60, 61, 62, 63, 64, 65, 66, 67, 68, 88, 89, 90, 91, 92, 93, 94, 95, 96, 97, 98, 99, 100, 101, 102, 103, 104, 105, 106, 107, 108, 109, 110, 111] (by decide +kernel) (by decide +kernel)
set_option maxRecDepth 20000 in
theorem gX10_tellLantern_X10_writes : GoodIn wsX10_tellLantern (wsV RX10 297 RX10 yX10_writes wsX10_writes) := goodIn_app (goodIn_of _ (by decide +kernel)) ggX10_tellLantern_X10_writes
set_option maxRecDepth 20000 in
theorem ggX10_tellLantern_X10_of : GoodIn wsX10_tellLantern wsX10_of := goodIn_r _ [72, 7, 88, 89, 90, 91, 92, 93, 94, 95, 96, 97, 98, 99, 100, 101, 102, 103, 104, 105, 106, 107, 108, 109, 110, 111] (by decide +kernel) (by decide +kernel)
set_option maxRecDepth 20000 in
theorem gX10_tellLantern_X10_of : GoodIn wsX10_tellLantern (wsV RX10 77 RX10 yX10_of wsX10_of) := goodIn_app (goodIn_of _ (by decide +kernel)) ggX10_tellLantern_X10_of
set_option maxRecDepth 20000 in
theorem ggX10_tellLantern_X10_kindWord : GoodIn wsX10_tellLantern wsX10_kindWord := goodIn_r _ [75] (by decide +kernel) (by decide +kernel)
set_option maxRecDepth 20000 in
theorem gX10_tellLantern_X10_kindWord : GoodIn wsX10_tellLantern (va_wsS RX10 301 yX10_kindWord wsX10_kindWord) := goodIn_app (goodIn_of _ (by decide +kernel)) ggX10_tellLantern_X10_kindWord
set_option maxRecDepth 20000 in
theorem ggX10_tellLantern_X10_places : GoodIn wsX10_tellLantern wsX10_places := goodIn_r _ [79, 69, 70, 71, 5, 72, 7, 88, 89, 90, 91, 92, 93, 94, 95, 96, 97, 98, 99, 100, 101, 102, 103, 104, 105, 106, 107, 108, 109, 110, 111] (by decide +kernel) (by decide +kernel)
set_option maxRecDepth 20000 in
theorem gX10_tellLantern_X10_places : GoodIn wsX10_tellLantern (wsV RX10 113 RX10 yX10_places wsX10_places) := goodIn_app (goodIn_of _ (by decide +kernel)) ggX10_tellLantern_X10_places
set_option maxRecDepth 20000 in
theorem ggX10_tellLantern_X10_wired : GoodIn wsX10_tellLantern wsX10_wired := goodIn_r _ [83, 69, 70, 71, 5, 72, 7, 88, 89, 90, 91, 92, 93, 94, 95, 96, 97, 98, 99, 100, 101, 102, 103, 104, 105, 106, 107, 108, 109, 110, 111] (by decide +kernel) (by decide +kernel)
set_option maxRecDepth 20000 in
theorem gX10_tellLantern_X10_wired : GoodIn wsX10_tellLantern (wsV RX10 81 RX10 yX10_wired wsX10_wired) := goodIn_app (goodIn_of _ (by decide +kernel)) ggX10_tellLantern_X10_wired
set_option maxRecDepth 20000 in
theorem ggX10_tellLantern_X10_isSwitch : GoodIn wsX10_tellLantern wsX10_isSwitch := goodIn_r _ [87, 69, 70, 71, 5, 72, 7, 88, 89, 90, 91, 92, 93, 94, 95, 96, 97, 98, 99, 100, 101, 102, 103, 104, 105, 106, 107, 108, 109, 110, 111] (by decide +kernel) (by decide +kernel)
set_option maxRecDepth 20000 in
theorem gX10_tellLantern_X10_isSwitch : GoodIn wsX10_tellLantern (wsV RX10 110 RX10 yX10_isSwitch wsX10_isSwitch) := goodIn_app (goodIn_of _ (by decide +kernel)) ggX10_tellLantern_X10_isSwitch
theorem dX10_tellLantern_0 : decode cX10_tellLantern 0 = .ok (.aload_n 0, 1) := by decide +kernel
theorem dX10_tellLantern_1 : decode cX10_tellLantern 1 = .ok (.iload_n 1, 1) := by decide +kernel
theorem dX10_tellLantern_2 : decode cX10_tellLantern 2 = .ok (.invokevirtual 106, 3) := by decide +kernel
theorem dX10_tellLantern_5 : decode cX10_tellLantern 5 = .ok (.ifCond .ne 6, 3) := by decide +kernel
theorem dX10_tellLantern_8 : decode cX10_tellLantern 8 = .ok (.bipush (-11), 2) := by decide +kernel
theorem dX10_tellLantern_10 : decode cX10_tellLantern 10 = .ok (.ireturn, 1) := by decide +kernel
theorem dX10_tellLantern_11 : decode cX10_tellLantern 11 = .ok (.aload_n 0, 1) := by decide +kernel
theorem dX10_tellLantern_12 : decode cX10_tellLantern 12 = .ok (.iconst 0, 1) := by decide +kernel
theorem dX10_tellLantern_13 : decode cX10_tellLantern 13 = .ok (.putfield 275, 3) := by decide +kernel
theorem dX10_tellLantern_16 : decode cX10_tellLantern 16 = .ok (.aload_n 0, 1) := by decide +kernel
theorem dX10_tellLantern_17 : decode cX10_tellLantern 17 = .ok (.iload_n 1, 1) := by decide +kernel
theorem dX10_tellLantern_18 : decode cX10_tellLantern 18 = .ok (.invokevirtual 292, 3) := by decide +kernel
theorem dX10_tellLantern_21 : decode cX10_tellLantern 21 = .ok (.aload_n 0, 1) := by decide +kernel
theorem dX10_tellLantern_22 : decode cX10_tellLantern 22 = .ok (.ldc_w 295, 3) := by decide +kernel
theorem dX10_tellLantern_25 : decode cX10_tellLantern 25 = .ok (.invokevirtual 297, 3) := by decide +kernel
theorem dX10_tellLantern_28 : decode cX10_tellLantern 28 = .ok (.aload_n 0, 1) := by decide +kernel
theorem dX10_tellLantern_29 : decode cX10_tellLantern 29 = .ok (.aload_n 0, 1) := by decide +kernel
theorem dX10_tellLantern_30 : decode cX10_tellLantern 30 = .ok (.iload_n 1, 1) := by decide +kernel
theorem dX10_tellLantern_31 : decode cX10_tellLantern 31 = .ok (.iconst 0, 1) := by decide +kernel
theorem dX10_tellLantern_32 : decode cX10_tellLantern 32 = .ok (.invokevirtual 77, 3) := by decide +kernel
theorem dX10_tellLantern_35 : decode cX10_tellLantern 35 = .ok (.invokestatic 301, 3) := by decide +kernel
theorem dX10_tellLantern_38 : decode cX10_tellLantern 38 = .ok (.invokevirtual 297, 3) := by decide +kernel
theorem dX10_tellLantern_41 : decode cX10_tellLantern 41 = .ok (.aload_n 0, 1) := by decide +kernel
theorem dX10_tellLantern_42 : decode cX10_tellLantern 42 = .ok (.aload_n 0, 1) := by decide +kernel
theorem dX10_tellLantern_43 : decode cX10_tellLantern 43 = .ok (.iload_n 1, 1) := by decide +kernel
theorem dX10_tellLantern_44 : decode cX10_tellLantern 44 = .ok (.iconst 1, 1) := by decide +kernel
theorem dX10_tellLantern_45 : decode cX10_tellLantern 45 = .ok (.invokevirtual 77, 3) := by decide +kernel
theorem dX10_tellLantern_48 : decode cX10_tellLantern 48 = .ok (.invokevirtual 292, 3) := by decide +kernel
theorem dX10_tellLantern_51 : decode cX10_tellLantern 51 = .ok (.iconst 0, 1) := by decide +kernel
theorem dX10_tellLantern_52 : decode cX10_tellLantern 52 = .ok (.istore_n 2, 1) := by decide +kernel
theorem dX10_tellLantern_53 : decode cX10_tellLantern 53 = .ok (.iload_n 2, 1) := by decide +kernel
theorem dX10_tellLantern_54 : decode cX10_tellLantern 54 = .ok (.aload_n 0, 1) := by decide +kernel
theorem dX10_tellLantern_55 : decode cX10_tellLantern 55 = .ok (.iload_n 1, 1) := by decide +kernel
theorem dX10_tellLantern_56 : decode cX10_tellLantern 56 = .ok (.invokevirtual 113, 3) := by decide +kernel
theorem dX10_tellLantern_59 : decode cX10_tellLantern 59 = .ok (.if_icmp .ge 55, 3) := by decide +kernel
theorem dX10_tellLantern_62 : decode cX10_tellLantern 62 = .ok (.aload_n 0, 1) := by decide +kernel
theorem dX10_tellLantern_63 : decode cX10_tellLantern 63 = .ok (.iload_n 2, 1) := by decide +kernel
theorem dX10_tellLantern_64 : decode cX10_tellLantern 64 = .ok (.ifCond .ne 9, 3) := by decide +kernel
theorem dX10_tellLantern_67 : decode cX10_tellLantern 67 = .ok (.ldc_w 305, 3) := by decide +kernel
theorem dX10_tellLantern_70 : decode cX10_tellLantern 70 = .ok (.goto 6, 3) := by decide +kernel
theorem dX10_tellLantern_73 : decode cX10_tellLantern 73 = .ok (.ldc_w 307, 3) := by decide +kernel
theorem dX10_tellLantern_76 : decode cX10_tellLantern 76 = .ok (.invokevirtual 297, 3) := by decide +kernel
theorem dX10_tellLantern_79 : decode cX10_tellLantern 79 = .ok (.aload_n 0, 1) := by decide +kernel
theorem dX10_tellLantern_80 : decode cX10_tellLantern 80 = .ok (.iload_n 1, 1) := by decide +kernel
theorem dX10_tellLantern_81 : decode cX10_tellLantern 81 = .ok (.iload_n 2, 1) := by decide +kernel
theorem dX10_tellLantern_82 : decode cX10_tellLantern 82 = .ok (.invokevirtual 81, 3) := by decide +kernel
theorem dX10_tellLantern_85 : decode cX10_tellLantern 85 = .ok (.ifCond .ge 13, 3) := by decide +kernel
theorem dX10_tellLantern_88 : decode cX10_tellLantern 88 = .ok (.aload_n 0, 1) := by decide +kernel
theorem dX10_tellLantern_89 : decode cX10_tellLantern 89 = .ok (.ldc_w 309, 3) := by decide +kernel
theorem dX10_tellLantern_92 : decode cX10_tellLantern 92 = .ok (.invokevirtual 297, 3) := by decide +kernel
theorem dX10_tellLantern_95 : decode cX10_tellLantern 95 = .ok (.goto 13, 3) := by decide +kernel
theorem dX10_tellLantern_98 : decode cX10_tellLantern 98 = .ok (.aload_n 0, 1) := by decide +kernel
theorem dX10_tellLantern_99 : decode cX10_tellLantern 99 = .ok (.aload_n 0, 1) := by decide +kernel
theorem dX10_tellLantern_100 : decode cX10_tellLantern 100 = .ok (.iload_n 1, 1) := by decide +kernel
theorem dX10_tellLantern_101 : decode cX10_tellLantern 101 = .ok (.iload_n 2, 1) := by decide +kernel
theorem dX10_tellLantern_102 : decode cX10_tellLantern 102 = .ok (.invokevirtual 81, 3) := by decide +kernel
theorem dX10_tellLantern_105 : decode cX10_tellLantern 105 = .ok (.invokevirtual 292, 3) := by decide +kernel
theorem dX10_tellLantern_108 : decode cX10_tellLantern 108 = .ok (.iinc 2 1, 3) := by decide +kernel
theorem dX10_tellLantern_111 : decode cX10_tellLantern 111 = .ok (.goto (-58), 3) := by decide +kernel
theorem dX10_tellLantern_114 : decode cX10_tellLantern 114 = .ok (.aload_n 0, 1) := by decide +kernel
theorem dX10_tellLantern_115 : decode cX10_tellLantern 115 = .ok (.iload_n 1, 1) := by decide +kernel
theorem dX10_tellLantern_116 : decode cX10_tellLantern 116 = .ok (.invokevirtual 110, 3) := by decide +kernel
theorem dX10_tellLantern_119 : decode cX10_tellLantern 119 = .ok (.ifCond .ne 10, 3) := by decide +kernel
theorem dX10_tellLantern_122 : decode cX10_tellLantern 122 = .ok (.aload_n 0, 1) := by decide +kernel
theorem dX10_tellLantern_123 : decode cX10_tellLantern 123 = .ok (.ldc_w 311, 3) := by decide +kernel
theorem dX10_tellLantern_126 : decode cX10_tellLantern 126 = .ok (.invokevirtual 297, 3) := by decide +kernel
theorem dX10_tellLantern_129 : decode cX10_tellLantern 129 = .ok (.aload_n 0, 1) := by decide +kernel
theorem dX10_tellLantern_130 : decode cX10_tellLantern 130 = .ok (.iload_n 1, 1) := by decide +kernel
theorem dX10_tellLantern_131 : decode cX10_tellLantern 131 = .ok (.iconst 2, 1) := by decide +kernel
theorem dX10_tellLantern_132 : decode cX10_tellLantern 132 = .ok (.invokevirtual 77, 3) := by decide +kernel
theorem dX10_tellLantern_135 : decode cX10_tellLantern 135 = .ok (.iconst 1, 1) := by decide +kernel
theorem dX10_tellLantern_136 : decode cX10_tellLantern 136 = .ok (.if_icmp .ne 10, 3) := by decide +kernel
theorem dX10_tellLantern_139 : decode cX10_tellLantern 139 = .ok (.aload_n 0, 1) := by decide +kernel
theorem dX10_tellLantern_140 : decode cX10_tellLantern 140 = .ok (.ldc_w 313, 3) := by decide +kernel
theorem dX10_tellLantern_143 : decode cX10_tellLantern 143 = .ok (.invokevirtual 297, 3) := by decide +kernel
theorem dX10_tellLantern_146 : decode cX10_tellLantern 146 = .ok (.aload_n 0, 1) := by decide +kernel
theorem dX10_tellLantern_147 : decode cX10_tellLantern 147 = .ok (.getfield 275, 3) := by decide +kernel
theorem dX10_tellLantern_150 : decode cX10_tellLantern 150 = .ok (.ireturn, 1) := by decide +kernel
set_option maxRecDepth 20000 in
theorem ggX10_character_X10_in : GoodIn wsX10_character wsX10_in := goodIn_r _ [6] (by decide +kernel) (by decide +kernel)
set_option maxRecDepth 20000 in
theorem gX10_character_X10_in : GoodIn wsX10_character (va_wsS RX10 73 yX10_in wsX10_in) := goodIn_app (goodIn_of _ (by decide +kernel)) ggX10_character_X10_in
theorem dX10_character_0 : decode cX10_character 0 = .ok (.iload_n 1, 1) := by decide +kernel
theorem dX10_character_1 : decode cX10_character 1 = .ok (.iconst 0, 1) := by decide +kernel
theorem dX10_character_2 : decode cX10_character 2 = .ok (.aload_n 0, 1) := by decide +kernel
theorem dX10_character_3 : decode cX10_character 3 = .ok (.getfield 275, 3) := by decide +kernel
theorem dX10_character_6 : decode cX10_character 6 = .ok (.iconst 1, 1) := by decide +kernel
theorem dX10_character_7 : decode cX10_character 7 = .ok (.isub, 1) := by decide +kernel
theorem dX10_character_8 : decode cX10_character 8 = .ok (.invokestatic 73, 3) := by decide +kernel
theorem dX10_character_11 : decode cX10_character 11 = .ok (.ifCond .eq 12, 3) := by decide +kernel
theorem dX10_character_14 : decode cX10_character 14 = .ok (.aload_n 0, 1) := by decide +kernel
theorem dX10_character_15 : decode cX10_character 15 = .ok (.getfield 43, 3) := by decide +kernel
theorem dX10_character_18 : decode cX10_character 18 = .ok (.iload_n 1, 1) := by decide +kernel
theorem dX10_character_19 : decode cX10_character 19 = .ok (.iaload, 1) := by decide +kernel
theorem dX10_character_20 : decode cX10_character 20 = .ok (.goto 5, 3) := by decide +kernel
theorem dX10_character_23 : decode cX10_character 23 = .ok (.bipush (-11), 2) := by decide +kernel
theorem dX10_character_25 : decode cX10_character 25 = .ok (.ireturn, 1) := by decide +kernel
set_option maxRecDepth 20000 in
theorem ggX10_reason_X10_in : GoodIn wsX10_reason wsX10_in := goodIn_r _ [7] (by decide +kernel) (by decide +kernel)
set_option maxRecDepth 20000 in
theorem gX10_reason_X10_in : GoodIn wsX10_reason (va_wsS RX10 73 yX10_in wsX10_in) := goodIn_app (goodIn_of _ (by decide +kernel)) ggX10_reason_X10_in
theorem dX10_reason_0 : decode cX10_reason 0 = .ok (.iload_n 1, 1) := by decide +kernel
theorem dX10_reason_1 : decode cX10_reason 1 = .ok (.iconst 0, 1) := by decide +kernel
theorem dX10_reason_2 : decode cX10_reason 2 = .ok (.aload_n 0, 1) := by decide +kernel
theorem dX10_reason_3 : decode cX10_reason 3 = .ok (.getfield 63, 3) := by decide +kernel
theorem dX10_reason_6 : decode cX10_reason 6 = .ok (.iconst 1, 1) := by decide +kernel
theorem dX10_reason_7 : decode cX10_reason 7 = .ok (.isub, 1) := by decide +kernel
theorem dX10_reason_8 : decode cX10_reason 8 = .ok (.invokestatic 73, 3) := by decide +kernel
theorem dX10_reason_11 : decode cX10_reason 11 = .ok (.ifCond .ne 6, 3) := by decide +kernel
theorem dX10_reason_14 : decode cX10_reason 14 = .ok (.bipush (-15), 2) := by decide +kernel
theorem dX10_reason_16 : decode cX10_reason 16 = .ok (.ireturn, 1) := by decide +kernel
theorem dX10_reason_17 : decode cX10_reason 17 = .ok (.iload_n 2, 1) := by decide +kernel
theorem dX10_reason_18 : decode cX10_reason 18 = .ok (.ifCond .eq 12, 3) := by decide +kernel
theorem dX10_reason_21 : decode cX10_reason 21 = .ok (.aload_n 0, 1) := by decide +kernel
theorem dX10_reason_22 : decode cX10_reason 22 = .ok (.getfield 56, 3) := by decide +kernel
theorem dX10_reason_25 : decode cX10_reason 25 = .ok (.iload_n 1, 1) := by decide +kernel
theorem dX10_reason_26 : decode cX10_reason 26 = .ok (.iaload, 1) := by decide +kernel
theorem dX10_reason_27 : decode cX10_reason 27 = .ok (.goto 9, 3) := by decide +kernel
theorem dX10_reason_30 : decode cX10_reason 30 = .ok (.aload_n 0, 1) := by decide +kernel
theorem dX10_reason_31 : decode cX10_reason 31 = .ok (.getfield 53, 3) := by decide +kernel
theorem dX10_reason_34 : decode cX10_reason 34 = .ok (.iload_n 1, 1) := by decide +kernel
theorem dX10_reason_35 : decode cX10_reason 35 = .ok (.iaload, 1) := by decide +kernel
theorem dX10_reason_36 : decode cX10_reason 36 = .ok (.ireturn, 1) := by decide +kernel
set_option maxRecDepth 20000 in
theorem ggX10_account_X10_isSwitch : GoodIn wsX10_account wsX10_isSwitch := goodIn_r _ [12, 13, 14, 15, 11, 16, 1, 53, 54, 55, 56, 57, 58, 59, 60, 61, 62, 63, 64, 65, 66, 67, 68, 69, 70, 71, 72, 73, 74, 75, 76] (by decide +kernel) (by decide +kernel)
set_option maxRecDepth 20000 in
theorem gX10_account_X10_isSwitch : GoodIn wsX10_account (wsV RX10 110 RX10 yX10_isSwitch wsX10_isSwitch) := goodIn_app (goodIn_of _ (by decide +kernel)) ggX10_account_X10_isSwitch
set_option maxRecDepth 20000 in
theorem ggX10_account_X10_wiresTo : GoodIn wsX10_account wsX10_wiresTo := goodIn_r _ [20, 21, 22, 23, 11, 24, 13, 14, 15, 16, 1, 53, 54, 55, 56, 57, 58, 59, 60, 61, 62, 63, 64, 65, 66, 67, 68, 69, 70, 71, 72, 73, 74, 75, 76] (by decide +kernel) (by decide +kernel)
set_option maxRecDepth 20000 in
theorem gX10_account_X10_wiresTo : GoodIn wsX10_account (wsV RX10 122 RX10 yX10_wiresTo wsX10_wiresTo) := goodIn_app (goodIn_of _ (by decide +kernel)) ggX10_account_X10_wiresTo
set_option maxRecDepth 20000 in
theorem ggX10_account_X10_glowing : GoodIn wsX10_account wsX10_glowing := goodIn_r _ [28, 1, 13, 14, 15, 11, 16, 53, 54, 55, 56, 57, 58, 59, 60, 61, 62, 63, 64, 65, 66, 67, 68, 69, 70, 71, 72, 73, 74, 75, 76] (by decide +kernel) (by decide +kernel)
set_option maxRecDepth 20000 in
theorem gX10_account_X10_glowing : GoodIn wsX10_account (wsV RX10 132 RX10 yX10_glowing wsX10_glowing) := goodIn_app (goodIn_of _ (by decide +kernel)) ggX10_account_X10_glowing
set_option maxRecDepth 20000 in
theorem ggX10_account_X10_loopSet : GoodIn wsX10_account wsX10_loopSet := goodIn_r _ [32, 1, 33, 34, 35, 36, 11, 37, 21, 22, 23, 24, 13, 14, 15, 16, 53, 54, 55, 56, 57, 58, 59, 60, 61, 62, 63, 64, 65, 66, 67, 68, 69, 70, 71, 72, 73, 74, 75, 76] (by decide +kernel) (by decide +kernel)
set_option maxRecDepth 20000 in
theorem gX10_account_X10_loopSet : GoodIn wsX10_account (wsV RX10 139 RX10 yX10_loopSet wsX10_loopSet) := goodIn_app (goodIn_of _ (by decide +kernel)) ggX10_account_X10_loopSet
set_option maxRecDepth 20000 in
theorem ggX10_account_J6_bitCount_0f7a4 : GoodIn wsX10_account wsJ6_bitCount_0f7a4 := goodIn_r _ [41, 42, 43, 44] (by decide +kernel) (by decide +kernel)
set_option maxRecDepth 20000 in
theorem gX10_account_J6_bitCount_0f7a4 : GoodIn wsX10_account (va_wsS RX10 147 yJ6_bitCount_0f7a4 wsJ6_bitCount_0f7a4) := goodIn_app (goodIn_of _ (by decide +kernel)) ggX10_account_J6_bitCount_0f7a4
set_option maxRecDepth 20000 in
theorem ggX10_account_X10_deep : GoodIn wsX10_account wsX10_deep := goodIn_r _ [48, 1, 33, 8, 9, 10, 11, 12, 13, 14, 15, 16, 29, 30, 31, 32, 34, 35, 36, 37, 21, 22, 23, 24, 49, 50, 51, 52, 2, 3, 4, 5, 53, 54, 55, 56, 57, 58, 59, 60, 61, 62, 63, 64, 65, 66, 67, 68, 69, 70, 71, 72, 73, 74, 75, 76] (by decide +kernel) (by decide +kernel)
set_option maxRecDepth 20000 in
theorem gX10_account_X10_deep : GoodIn wsX10_account (wsV RX10 182 RX10 yX10_deep wsX10_deep) := goodIn_app (goodIn_of _ (by decide +kernel)) ggX10_account_X10_deep
theorem dX10_account_0 : decode cX10_account 0 = .ok (.iconst 0, 1) := by decide +kernel
theorem dX10_account_1 : decode cX10_account 1 = .ok (.istore_n 2, 1) := by decide +kernel
theorem dX10_account_2 : decode cX10_account 2 = .ok (.iload_n 1, 1) := by decide +kernel
theorem dX10_account_3 : decode cX10_account 3 = .ok (.tableswitch 226 0 12 #[65, 72, 79, 110, 138, 143, 151, 158, 172, 179, 186, 216, 221], 65) := by decide +kernel
theorem dX10_account_68 : decode cX10_account 68 = .ok (.aload_n 0, 1) := by decide +kernel
theorem dX10_account_69 : decode cX10_account 69 = .ok (.getfield 9, 3) := by decide +kernel
theorem dX10_account_72 : decode cX10_account 72 = .ok (.iconst 2, 1) := by decide +kernel
theorem dX10_account_73 : decode cX10_account 73 = .ok (.iaload, 1) := by decide +kernel
theorem dX10_account_74 : decode cX10_account 74 = .ok (.ireturn, 1) := by decide +kernel
theorem dX10_account_75 : decode cX10_account 75 = .ok (.aload_n 0, 1) := by decide +kernel
theorem dX10_account_76 : decode cX10_account 76 = .ok (.getfield 9, 3) := by decide +kernel
theorem dX10_account_79 : decode cX10_account 79 = .ok (.iconst 0, 1) := by decide +kernel
theorem dX10_account_80 : decode cX10_account 80 = .ok (.iaload, 1) := by decide +kernel
theorem dX10_account_81 : decode cX10_account 81 = .ok (.ireturn, 1) := by decide +kernel
theorem dX10_account_82 : decode cX10_account 82 = .ok (.iconst 0, 1) := by decide +kernel
theorem dX10_account_83 : decode cX10_account 83 = .ok (.istore_n 3, 1) := by decide +kernel
theorem dX10_account_84 : decode cX10_account 84 = .ok (.iload_n 3, 1) := by decide +kernel
theorem dX10_account_85 : decode cX10_account 85 = .ok (.aload_n 0, 1) := by decide +kernel
theorem dX10_account_86 : decode cX10_account 86 = .ok (.getfield 9, 3) := by decide +kernel
theorem dX10_account_89 : decode cX10_account 89 = .ok (.iconst 0, 1) := by decide +kernel
theorem dX10_account_90 : decode cX10_account 90 = .ok (.iaload, 1) := by decide +kernel
theorem dX10_account_91 : decode cX10_account 91 = .ok (.if_icmp .ge 20, 3) := by decide +kernel
theorem dX10_account_94 : decode cX10_account 94 = .ok (.aload_n 0, 1) := by decide +kernel
theorem dX10_account_95 : decode cX10_account 95 = .ok (.iload_n 3, 1) := by decide +kernel
theorem dX10_account_96 : decode cX10_account 96 = .ok (.invokevirtual 110, 3) := by decide +kernel
theorem dX10_account_99 : decode cX10_account 99 = .ok (.ifCond .eq 6, 3) := by decide +kernel
theorem dX10_account_102 : decode cX10_account 102 = .ok (.iinc 2 1, 3) := by decide +kernel
theorem dX10_account_105 : decode cX10_account 105 = .ok (.iinc 3 1, 3) := by decide +kernel
theorem dX10_account_108 : decode cX10_account 108 = .ok (.goto (-24), 3) := by decide +kernel
theorem dX10_account_111 : decode cX10_account 111 = .ok (.iload_n 2, 1) := by decide +kernel
theorem dX10_account_112 : decode cX10_account 112 = .ok (.ireturn, 1) := by decide +kernel
theorem dX10_account_113 : decode cX10_account 113 = .ok (.iconst 0, 1) := by decide +kernel
theorem dX10_account_114 : decode cX10_account 114 = .ok (.istore_n 3, 1) := by decide +kernel
theorem dX10_account_115 : decode cX10_account 115 = .ok (.iload_n 3, 1) := by decide +kernel
theorem dX10_account_116 : decode cX10_account 116 = .ok (.aload_n 0, 1) := by decide +kernel
theorem dX10_account_117 : decode cX10_account 117 = .ok (.getfield 9, 3) := by decide +kernel
theorem dX10_account_120 : decode cX10_account 120 = .ok (.iconst 0, 1) := by decide +kernel
theorem dX10_account_121 : decode cX10_account 121 = .ok (.iaload, 1) := by decide +kernel
theorem dX10_account_122 : decode cX10_account 122 = .ok (.if_icmp .ge 17, 3) := by decide +kernel
theorem dX10_account_125 : decode cX10_account 125 = .ok (.iload_n 2, 1) := by decide +kernel
theorem dX10_account_126 : decode cX10_account 126 = .ok (.aload_n 0, 1) := by decide +kernel
theorem dX10_account_127 : decode cX10_account 127 = .ok (.iload_n 3, 1) := by decide +kernel
theorem dX10_account_128 : decode cX10_account 128 = .ok (.invokevirtual 122, 3) := by decide +kernel
theorem dX10_account_131 : decode cX10_account 131 = .ok (.iadd, 1) := by decide +kernel
theorem dX10_account_132 : decode cX10_account 132 = .ok (.istore_n 2, 1) := by decide +kernel
theorem dX10_account_133 : decode cX10_account 133 = .ok (.iinc 3 1, 3) := by decide +kernel
theorem dX10_account_136 : decode cX10_account 136 = .ok (.goto (-21), 3) := by decide +kernel
theorem dX10_account_139 : decode cX10_account 139 = .ok (.iload_n 2, 1) := by decide +kernel
theorem dX10_account_140 : decode cX10_account 140 = .ok (.ireturn, 1) := by decide +kernel
theorem dX10_account_141 : decode cX10_account 141 = .ok (.aload_n 0, 1) := by decide +kernel
theorem dX10_account_142 : decode cX10_account 142 = .ok (.invokevirtual 132, 3) := by decide +kernel
theorem dX10_account_145 : decode cX10_account 145 = .ok (.ireturn, 1) := by decide +kernel
theorem dX10_account_146 : decode cX10_account 146 = .ok (.aload_n 0, 1) := by decide +kernel
theorem dX10_account_147 : decode cX10_account 147 = .ok (.invokevirtual 139, 3) := by decide +kernel
theorem dX10_account_150 : decode cX10_account 150 = .ok (.invokestatic 147, 3) := by decide +kernel
theorem dX10_account_153 : decode cX10_account 153 = .ok (.ireturn, 1) := by decide +kernel
theorem dX10_account_154 : decode cX10_account 154 = .ok (.aload_n 0, 1) := by decide +kernel
theorem dX10_account_155 : decode cX10_account 155 = .ok (.getfield 9, 3) := by decide +kernel
theorem dX10_account_158 : decode cX10_account 158 = .ok (.iconst 1, 1) := by decide +kernel
theorem dX10_account_159 : decode cX10_account 159 = .ok (.iaload, 1) := by decide +kernel
theorem dX10_account_160 : decode cX10_account 160 = .ok (.ireturn, 1) := by decide +kernel
theorem dX10_account_161 : decode cX10_account 161 = .ok (.aload_n 0, 1) := by decide +kernel
theorem dX10_account_162 : decode cX10_account 162 = .ok (.getfield 9, 3) := by decide +kernel
theorem dX10_account_165 : decode cX10_account 165 = .ok (.iconst 3, 1) := by decide +kernel
theorem dX10_account_166 : decode cX10_account 166 = .ok (.iaload, 1) := by decide +kernel
theorem dX10_account_167 : decode cX10_account 167 = .ok (.aload_n 0, 1) := by decide +kernel
theorem dX10_account_168 : decode cX10_account 168 = .ok (.getfield 9, 3) := by decide +kernel
theorem dX10_account_171 : decode cX10_account 171 = .ok (.iconst 4, 1) := by decide +kernel
theorem dX10_account_172 : decode cX10_account 172 = .ok (.iaload, 1) := by decide +kernel
theorem dX10_account_173 : decode cX10_account 173 = .ok (.iadd, 1) := by decide +kernel
theorem dX10_account_174 : decode cX10_account 174 = .ok (.ireturn, 1) := by decide +kernel
theorem dX10_account_175 : decode cX10_account 175 = .ok (.aload_n 0, 1) := by decide +kernel
theorem dX10_account_176 : decode cX10_account 176 = .ok (.getfield 9, 3) := by decide +kernel
theorem dX10_account_179 : decode cX10_account 179 = .ok (.iconst 3, 1) := by decide +kernel
theorem dX10_account_180 : decode cX10_account 180 = .ok (.iaload, 1) := by decide +kernel
theorem dX10_account_181 : decode cX10_account 181 = .ok (.ireturn, 1) := by decide +kernel
theorem dX10_account_182 : decode cX10_account 182 = .ok (.aload_n 0, 1) := by decide +kernel
theorem dX10_account_183 : decode cX10_account 183 = .ok (.getfield 9, 3) := by decide +kernel
theorem dX10_account_186 : decode cX10_account 186 = .ok (.iconst 4, 1) := by decide +kernel
theorem dX10_account_187 : decode cX10_account 187 = .ok (.iaload, 1) := by decide +kernel
theorem dX10_account_188 : decode cX10_account 188 = .ok (.ireturn, 1) := by decide +kernel
theorem dX10_account_189 : decode cX10_account 189 = .ok (.iconst 0, 1) := by decide +kernel
theorem dX10_account_190 : decode cX10_account 190 = .ok (.istore_n 3, 1) := by decide +kernel
theorem dX10_account_191 : decode cX10_account 191 = .ok (.iload_n 3, 1) := by decide +kernel
theorem dX10_account_192 : decode cX10_account 192 = .ok (.aload_n 0, 1) := by decide +kernel
theorem dX10_account_193 : decode cX10_account 193 = .ok (.getfield 9, 3) := by decide +kernel
theorem dX10_account_196 : decode cX10_account 196 = .ok (.iconst 0, 1) := by decide +kernel
theorem dX10_account_197 : decode cX10_account 197 = .ok (.iaload, 1) := by decide +kernel
theorem dX10_account_198 : decode cX10_account 198 = .ok (.if_icmp .ge 19, 3) := by decide +kernel
theorem dX10_account_201 : decode cX10_account 201 = .ok (.iload_n 2, 1) := by decide +kernel
theorem dX10_account_202 : decode cX10_account 202 = .ok (.aload_n 0, 1) := by decide +kernel
theorem dX10_account_203 : decode cX10_account 203 = .ok (.iload_n 3, 1) := by decide +kernel
theorem dX10_account_204 : decode cX10_account 204 = .ok (.invokevirtual 182, 3) := by decide +kernel
theorem dX10_account_207 : decode cX10_account 207 = .ok (.invokestatic 177, 3) := by decide +kernel
theorem dX10_account_210 : decode cX10_account 210 = .ok (.istore_n 2, 1) := by decide +kernel
theorem dX10_account_211 : decode cX10_account 211 = .ok (.iinc 3 1, 3) := by decide +kernel
theorem dX10_account_214 : decode cX10_account 214 = .ok (.goto (-23), 3) := by decide +kernel
theorem dX10_account_217 : decode cX10_account 217 = .ok (.iload_n 2, 1) := by decide +kernel
theorem dX10_account_218 : decode cX10_account 218 = .ok (.ireturn, 1) := by decide +kernel
theorem dX10_account_219 : decode cX10_account 219 = .ok (.aload_n 0, 1) := by decide +kernel
theorem dX10_account_220 : decode cX10_account 220 = .ok (.getfield 217, 3) := by decide +kernel
theorem dX10_account_223 : decode cX10_account 223 = .ok (.ireturn, 1) := by decide +kernel
theorem dX10_account_224 : decode cX10_account 224 = .ok (.aload_n 0, 1) := by decide +kernel
theorem dX10_account_225 : decode cX10_account 225 = .ok (.getfield 59, 3) := by decide +kernel
theorem dX10_account_228 : decode cX10_account 228 = .ok (.ireturn, 1) := by decide +kernel
theorem dX10_account_229 : decode cX10_account 229 = .ok (.bipush (-12), 2) := by decide +kernel
theorem dX10_account_231 : decode cX10_account 231 = .ok (.ireturn, 1) := by decide +kernel
set_option maxRecDepth 20000 in
theorem ggX10_isBalanced_X10_of : GoodIn wsX10_isBalanced wsX10_of := goodIn_r _ [6, 1, 7, 8, 9, 10, 11, 12, 13, 14, 15, 16, 17, 18, 19, 20, 21, 22, 23, 24, 25, 26, 27, 28, 29, 30] (by decide +kernel) (by decide +kernel)
set_option maxRecDepth 20000 in
theorem gX10_isBalanced_X10_of : GoodIn wsX10_isBalanced (wsV RX10 77 RX10 yX10_of wsX10_of) := goodIn_app (goodIn_of _ (by decide +kernel)) ggX10_isBalanced_X10_of
theorem dX10_isBalanced_0 : decode cX10_isBalanced 0 = .ok (.iconst 0, 1) := by decide +kernel
theorem dX10_isBalanced_1 : decode cX10_isBalanced 1 = .ok (.istore_n 1, 1) := by decide +kernel
theorem dX10_isBalanced_2 : decode cX10_isBalanced 2 = .ok (.iconst 0, 1) := by decide +kernel
theorem dX10_isBalanced_3 : decode cX10_isBalanced 3 = .ok (.istore_n 2, 1) := by decide +kernel
theorem dX10_isBalanced_4 : decode cX10_isBalanced 4 = .ok (.iload_n 2, 1) := by decide +kernel
theorem dX10_isBalanced_5 : decode cX10_isBalanced 5 = .ok (.aload_n 0, 1) := by decide +kernel
theorem dX10_isBalanced_6 : decode cX10_isBalanced 6 = .ok (.getfield 9, 3) := by decide +kernel
theorem dX10_isBalanced_9 : decode cX10_isBalanced 9 = .ok (.iconst 0, 1) := by decide +kernel
theorem dX10_isBalanced_10 : decode cX10_isBalanced 10 = .ok (.iaload, 1) := by decide +kernel
theorem dX10_isBalanced_11 : decode cX10_isBalanced 11 = .ok (.if_icmp .ge 37, 3) := by decide +kernel
theorem dX10_isBalanced_14 : decode cX10_isBalanced 14 = .ok (.aload_n 0, 1) := by decide +kernel
theorem dX10_isBalanced_15 : decode cX10_isBalanced 15 = .ok (.iload_n 2, 1) := by decide +kernel
theorem dX10_isBalanced_16 : decode cX10_isBalanced 16 = .ok (.iconst 3, 1) := by decide +kernel
theorem dX10_isBalanced_17 : decode cX10_isBalanced 17 = .ok (.invokevirtual 77, 3) := by decide +kernel
theorem dX10_isBalanced_20 : decode cX10_isBalanced 20 = .ok (.iconst 2, 1) := by decide +kernel
theorem dX10_isBalanced_21 : decode cX10_isBalanced 21 = .ok (.irem, 1) := by decide +kernel
theorem dX10_isBalanced_22 : decode cX10_isBalanced 22 = .ok (.aload_n 0, 1) := by decide +kernel
theorem dX10_isBalanced_23 : decode cX10_isBalanced 23 = .ok (.iload_n 2, 1) := by decide +kernel
theorem dX10_isBalanced_24 : decode cX10_isBalanced 24 = .ok (.iconst 2, 1) := by decide +kernel
theorem dX10_isBalanced_25 : decode cX10_isBalanced 25 = .ok (.invokevirtual 77, 3) := by decide +kernel
theorem dX10_isBalanced_28 : decode cX10_isBalanced 28 = .ok (.if_icmp .eq 5, 3) := by decide +kernel
theorem dX10_isBalanced_31 : decode cX10_isBalanced 31 = .ok (.iconst 0, 1) := by decide +kernel
theorem dX10_isBalanced_32 : decode cX10_isBalanced 32 = .ok (.ireturn, 1) := by decide +kernel
theorem dX10_isBalanced_33 : decode cX10_isBalanced 33 = .ok (.iload_n 1, 1) := by decide +kernel
theorem dX10_isBalanced_34 : decode cX10_isBalanced 34 = .ok (.aload_n 0, 1) := by decide +kernel
theorem dX10_isBalanced_35 : decode cX10_isBalanced 35 = .ok (.iload_n 2, 1) := by decide +kernel
theorem dX10_isBalanced_36 : decode cX10_isBalanced 36 = .ok (.iconst 3, 1) := by decide +kernel
theorem dX10_isBalanced_37 : decode cX10_isBalanced 37 = .ok (.invokevirtual 77, 3) := by decide +kernel
theorem dX10_isBalanced_40 : decode cX10_isBalanced 40 = .ok (.iadd, 1) := by decide +kernel
theorem dX10_isBalanced_41 : decode cX10_isBalanced 41 = .ok (.istore_n 1, 1) := by decide +kernel
theorem dX10_isBalanced_42 : decode cX10_isBalanced 42 = .ok (.iinc 2 1, 3) := by decide +kernel
theorem dX10_isBalanced_45 : decode cX10_isBalanced 45 = .ok (.goto (-41), 3) := by decide +kernel
theorem dX10_isBalanced_48 : decode cX10_isBalanced 48 = .ok (.iload_n 1, 1) := by decide +kernel
theorem dX10_isBalanced_49 : decode cX10_isBalanced 49 = .ok (.aload_n 0, 1) := by decide +kernel
theorem dX10_isBalanced_50 : decode cX10_isBalanced 50 = .ok (.getfield 9, 3) := by decide +kernel
theorem dX10_isBalanced_53 : decode cX10_isBalanced 53 = .ok (.iconst 3, 1) := by decide +kernel
theorem dX10_isBalanced_54 : decode cX10_isBalanced 54 = .ok (.iaload, 1) := by decide +kernel
theorem dX10_isBalanced_55 : decode cX10_isBalanced 55 = .ok (.aload_n 0, 1) := by decide +kernel
theorem dX10_isBalanced_56 : decode cX10_isBalanced 56 = .ok (.getfield 9, 3) := by decide +kernel
theorem dX10_isBalanced_59 : decode cX10_isBalanced 59 = .ok (.iconst 4, 1) := by decide +kernel
theorem dX10_isBalanced_60 : decode cX10_isBalanced 60 = .ok (.iaload, 1) := by decide +kernel
theorem dX10_isBalanced_61 : decode cX10_isBalanced 61 = .ok (.iadd, 1) := by decide +kernel
theorem dX10_isBalanced_62 : decode cX10_isBalanced 62 = .ok (.if_icmp .ne 7, 3) := by decide +kernel
theorem dX10_isBalanced_65 : decode cX10_isBalanced 65 = .ok (.iconst 1, 1) := by decide +kernel
theorem dX10_isBalanced_66 : decode cX10_isBalanced 66 = .ok (.goto 4, 3) := by decide +kernel
theorem dX10_isBalanced_69 : decode cX10_isBalanced 69 = .ok (.iconst 0, 1) := by decide +kernel
theorem dX10_isBalanced_70 : decode cX10_isBalanced 70 = .ok (.ireturn, 1) := by decide +kernel
set_option maxRecDepth 20000 in
theorem ggX10_meanWick_X10_isSwitch : GoodIn wsX10_meanWick wsX10_isSwitch := goodIn_r _ [6, 7, 8, 9, 5, 10, 1, 11, 12, 13, 14, 15, 16, 17, 18, 19, 20, 21, 22, 23, 24, 25, 26, 27, 28, 29, 30, 31, 32, 33, 34] (by decide +kernel) (by decide +kernel)
set_option maxRecDepth 20000 in
theorem gX10_meanWick_X10_isSwitch : GoodIn wsX10_meanWick (wsV RX10 110 RX10 yX10_isSwitch wsX10_isSwitch) := goodIn_app (goodIn_of _ (by decide +kernel)) ggX10_meanWick_X10_isSwitch
set_option maxRecDepth 20000 in
theorem ggX10_meanWick_X10_of : GoodIn wsX10_meanWick wsX10_of := goodIn_r _ [10, 1, 11, 12, 13, 14, 15, 16, 17, 18, 19, 20, 21, 22, 23, 24, 25, 26, 27, 28, 29, 30, 31, 32, 33, 34] (by decide +kernel) (by decide +kernel)
set_option maxRecDepth 20000 in
theorem gX10_meanWick_X10_of : GoodIn wsX10_meanWick (wsV RX10 77 RX10 yX10_of wsX10_of) := goodIn_app (goodIn_of _ (by decide +kernel)) ggX10_meanWick_X10_of
theorem dX10_meanWick_0 : decode cX10_meanWick 0 = .ok (.iconst 0, 1) := by decide +kernel
theorem dX10_meanWick_1 : decode cX10_meanWick 1 = .ok (.istore_n 1, 1) := by decide +kernel
theorem dX10_meanWick_2 : decode cX10_meanWick 2 = .ok (.iconst 0, 1) := by decide +kernel
theorem dX10_meanWick_3 : decode cX10_meanWick 3 = .ok (.istore_n 2, 1) := by decide +kernel
theorem dX10_meanWick_4 : decode cX10_meanWick 4 = .ok (.iconst 0, 1) := by decide +kernel
theorem dX10_meanWick_5 : decode cX10_meanWick 5 = .ok (.istore_n 3, 1) := by decide +kernel
theorem dX10_meanWick_6 : decode cX10_meanWick 6 = .ok (.iload_n 3, 1) := by decide +kernel
theorem dX10_meanWick_7 : decode cX10_meanWick 7 = .ok (.aload_n 0, 1) := by decide +kernel
theorem dX10_meanWick_8 : decode cX10_meanWick 8 = .ok (.getfield 9, 3) := by decide +kernel
theorem dX10_meanWick_11 : decode cX10_meanWick 11 = .ok (.iconst 0, 1) := by decide +kernel
theorem dX10_meanWick_12 : decode cX10_meanWick 12 = .ok (.iaload, 1) := by decide +kernel
theorem dX10_meanWick_13 : decode cX10_meanWick 13 = .ok (.if_icmp .ge 32, 3) := by decide +kernel
theorem dX10_meanWick_16 : decode cX10_meanWick 16 = .ok (.aload_n 0, 1) := by decide +kernel
theorem dX10_meanWick_17 : decode cX10_meanWick 17 = .ok (.iload_n 3, 1) := by decide +kernel
theorem dX10_meanWick_18 : decode cX10_meanWick 18 = .ok (.invokevirtual 110, 3) := by decide +kernel
theorem dX10_meanWick_21 : decode cX10_meanWick 21 = .ok (.ifCond .eq 6, 3) := by decide +kernel
theorem dX10_meanWick_24 : decode cX10_meanWick 24 = .ok (.goto 15, 3) := by decide +kernel
theorem dX10_meanWick_27 : decode cX10_meanWick 27 = .ok (.iinc 1 1, 3) := by decide +kernel
theorem dX10_meanWick_30 : decode cX10_meanWick 30 = .ok (.iload_n 2, 1) := by decide +kernel
theorem dX10_meanWick_31 : decode cX10_meanWick 31 = .ok (.aload_n 0, 1) := by decide +kernel
theorem dX10_meanWick_32 : decode cX10_meanWick 32 = .ok (.iload_n 3, 1) := by decide +kernel
theorem dX10_meanWick_33 : decode cX10_meanWick 33 = .ok (.iconst 1, 1) := by decide +kernel
theorem dX10_meanWick_34 : decode cX10_meanWick 34 = .ok (.invokevirtual 77, 3) := by decide +kernel
theorem dX10_meanWick_37 : decode cX10_meanWick 37 = .ok (.iadd, 1) := by decide +kernel
theorem dX10_meanWick_38 : decode cX10_meanWick 38 = .ok (.istore_n 2, 1) := by decide +kernel
theorem dX10_meanWick_39 : decode cX10_meanWick 39 = .ok (.iinc 3 1, 3) := by decide +kernel
theorem dX10_meanWick_42 : decode cX10_meanWick 42 = .ok (.goto (-36), 3) := by decide +kernel
theorem dX10_meanWick_45 : decode cX10_meanWick 45 = .ok (.iload_n 1, 1) := by decide +kernel
theorem dX10_meanWick_46 : decode cX10_meanWick 46 = .ok (.ifCond .ne 7, 3) := by decide +kernel
theorem dX10_meanWick_49 : decode cX10_meanWick 49 = .ok (.dconst 0, 1) := by decide +kernel
theorem dX10_meanWick_50 : decode cX10_meanWick 50 = .ok (.goto 8, 3) := by decide +kernel
theorem dX10_meanWick_53 : decode cX10_meanWick 53 = .ok (.iload_n 2, 1) := by decide +kernel
theorem dX10_meanWick_54 : decode cX10_meanWick 54 = .ok (.i2d, 1) := by decide +kernel
theorem dX10_meanWick_55 : decode cX10_meanWick 55 = .ok (.iload_n 1, 1) := by decide +kernel
theorem dX10_meanWick_56 : decode cX10_meanWick 56 = .ok (.i2d, 1) := by decide +kernel
theorem dX10_meanWick_57 : decode cX10_meanWick 57 = .ok (.ddiv, 1) := by decide +kernel
theorem dX10_meanWick_58 : decode cX10_meanWick 58 = .ok (.dreturn, 1) := by decide +kernel
set_option maxRecDepth 20000 in
theorem ggX10_glowShare_X10_glowing : GoodIn wsX10_glowShare wsX10_glowing := goodIn_r _ [6, 1, 7, 8, 9, 5, 10, 11, 12, 13, 14, 15, 16, 17, 18, 19, 20, 21, 22, 23, 24, 25, 26, 27, 28, 29, 30, 31, 32, 33, 34] (by decide +kernel) (by decide +kernel)
set_option maxRecDepth 20000 in
theorem gX10_glowShare_X10_glowing : GoodIn wsX10_glowShare (wsV RX10 132 RX10 yX10_glowing wsX10_glowing) := goodIn_app (goodIn_of _ (by decide +kernel)) ggX10_glowShare_X10_glowing
theorem dX10_glowShare_0 : decode cX10_glowShare 0 = .ok (.aload_n 0, 1) := by decide +kernel
theorem dX10_glowShare_1 : decode cX10_glowShare 1 = .ok (.getfield 9, 3) := by decide +kernel
theorem dX10_glowShare_4 : decode cX10_glowShare 4 = .ok (.iconst 0, 1) := by decide +kernel
theorem dX10_glowShare_5 : decode cX10_glowShare 5 = .ok (.iaload, 1) := by decide +kernel
theorem dX10_glowShare_6 : decode cX10_glowShare 6 = .ok (.ifCond .ne 7, 3) := by decide +kernel
theorem dX10_glowShare_9 : decode cX10_glowShare 9 = .ok (.fconst 0, 1) := by decide +kernel
theorem dX10_glowShare_10 : decode cX10_glowShare 10 = .ok (.goto 16, 3) := by decide +kernel
theorem dX10_glowShare_13 : decode cX10_glowShare 13 = .ok (.aload_n 0, 1) := by decide +kernel
theorem dX10_glowShare_14 : decode cX10_glowShare 14 = .ok (.invokevirtual 132, 3) := by decide +kernel
theorem dX10_glowShare_17 : decode cX10_glowShare 17 = .ok (.i2f, 1) := by decide +kernel
theorem dX10_glowShare_18 : decode cX10_glowShare 18 = .ok (.aload_n 0, 1) := by decide +kernel
theorem dX10_glowShare_19 : decode cX10_glowShare 19 = .ok (.getfield 9, 3) := by decide +kernel
theorem dX10_glowShare_22 : decode cX10_glowShare 22 = .ok (.iconst 0, 1) := by decide +kernel
theorem dX10_glowShare_23 : decode cX10_glowShare 23 = .ok (.iaload, 1) := by decide +kernel
theorem dX10_glowShare_24 : decode cX10_glowShare 24 = .ok (.i2f, 1) := by decide +kernel
theorem dX10_glowShare_25 : decode cX10_glowShare 25 = .ok (.fdiv, 1) := by decide +kernel
theorem dX10_glowShare_26 : decode cX10_glowShare 26 = .ok (.freturn, 1) := by decide +kernel
theorem dX10_undo_0 : decode cX10_undo 0 = .ok (.aload_n 0, 1) := by decide +kernel
theorem dX10_undo_1 : decode cX10_undo 1 = .ok (.getfield 59, 3) := by decide +kernel
theorem dX10_undo_4 : decode cX10_undo 4 = .ok (.ifCond .ne 6, 3) := by decide +kernel
theorem dX10_undo_7 : decode cX10_undo 7 = .ok (.bipush (-15), 2) := by decide +kernel
theorem dX10_undo_9 : decode cX10_undo 9 = .ok (.ireturn, 1) := by decide +kernel
theorem dX10_undo_10 : decode cX10_undo 10 = .ok (.aload_n 0, 1) := by decide +kernel
theorem dX10_undo_11 : decode cX10_undo 11 = .ok (.dup, 1) := by decide +kernel
theorem dX10_undo_12 : decode cX10_undo 12 = .ok (.getfield 59, 3) := by decide +kernel
theorem dX10_undo_15 : decode cX10_undo 15 = .ok (.iconst 1, 1) := by decide +kernel
theorem dX10_undo_16 : decode cX10_undo 16 = .ok (.isub, 1) := by decide +kernel
theorem dX10_undo_17 : decode cX10_undo 17 = .ok (.putfield 59, 3) := by decide +kernel
theorem dX10_undo_20 : decode cX10_undo 20 = .ok (.iconst 0, 1) := by decide +kernel
theorem dX10_undo_21 : decode cX10_undo 21 = .ok (.istore_n 1, 1) := by decide +kernel
theorem dX10_undo_22 : decode cX10_undo 22 = .ok (.iload_n 1, 1) := by decide +kernel
theorem dX10_undo_23 : decode cX10_undo 23 = .ok (.sipush 133, 3) := by decide +kernel
theorem dX10_undo_26 : decode cX10_undo 26 = .ok (.if_icmp .ge 30, 3) := by decide +kernel
theorem dX10_undo_29 : decode cX10_undo 29 = .ok (.aload_n 0, 1) := by decide +kernel
theorem dX10_undo_30 : decode cX10_undo 30 = .ok (.getfield 9, 3) := by decide +kernel
theorem dX10_undo_33 : decode cX10_undo 33 = .ok (.iload_n 1, 1) := by decide +kernel
theorem dX10_undo_34 : decode cX10_undo 34 = .ok (.aload_n 0, 1) := by decide +kernel
theorem dX10_undo_35 : decode cX10_undo 35 = .ok (.getfield 19, 3) := by decide +kernel
theorem dX10_undo_38 : decode cX10_undo 38 = .ok (.sipush 133, 3) := by decide +kernel
theorem dX10_undo_41 : decode cX10_undo 41 = .ok (.aload_n 0, 1) := by decide +kernel
theorem dX10_undo_42 : decode cX10_undo 42 = .ok (.getfield 59, 3) := by decide +kernel
theorem dX10_undo_45 : decode cX10_undo 45 = .ok (.imul, 1) := by decide +kernel
theorem dX10_undo_46 : decode cX10_undo 46 = .ok (.iload_n 1, 1) := by decide +kernel
theorem dX10_undo_47 : decode cX10_undo 47 = .ok (.iadd, 1) := by decide +kernel
theorem dX10_undo_48 : decode cX10_undo 48 = .ok (.iaload, 1) := by decide +kernel
theorem dX10_undo_49 : decode cX10_undo 49 = .ok (.iastore, 1) := by decide +kernel
theorem dX10_undo_50 : decode cX10_undo 50 = .ok (.iinc 1 1, 3) := by decide +kernel
theorem dX10_undo_53 : decode cX10_undo 53 = .ok (.goto (-31), 3) := by decide +kernel
theorem dX10_undo_56 : decode cX10_undo 56 = .ok (.aload_n 0, 1) := by decide +kernel
theorem dX10_undo_57 : decode cX10_undo 57 = .ok (.getfield 59, 3) := by decide +kernel
theorem dX10_undo_60 : decode cX10_undo 60 = .ok (.ireturn, 1) := by decide +kernel
theorem dX10_save_0 : decode cX10_save 0 = .ok (.aload_n 0, 1) := by decide +kernel
theorem dX10_save_1 : decode cX10_save 1 = .ok (.iconst 1, 1) := by decide +kernel
theorem dX10_save_2 : decode cX10_save 2 = .ok (.putfield 315, 3) := by decide +kernel
theorem dX10_save_5 : decode cX10_save 5 = .ok (.iconst 0, 1) := by decide +kernel
theorem dX10_save_6 : decode cX10_save 6 = .ok (.istore_n 1, 1) := by decide +kernel
theorem dX10_save_7 : decode cX10_save 7 = .ok (.iload_n 1, 1) := by decide +kernel
theorem dX10_save_8 : decode cX10_save 8 = .ok (.sipush 133, 3) := by decide +kernel
theorem dX10_save_11 : decode cX10_save 11 = .ok (.if_icmp .ge 21, 3) := by decide +kernel
theorem dX10_save_14 : decode cX10_save 14 = .ok (.aload_n 0, 1) := by decide +kernel
theorem dX10_save_15 : decode cX10_save 15 = .ok (.getfield 22, 3) := by decide +kernel
theorem dX10_save_18 : decode cX10_save 18 = .ok (.iload_n 1, 1) := by decide +kernel
theorem dX10_save_19 : decode cX10_save 19 = .ok (.aload_n 0, 1) := by decide +kernel
theorem dX10_save_20 : decode cX10_save 20 = .ok (.getfield 9, 3) := by decide +kernel
theorem dX10_save_23 : decode cX10_save 23 = .ok (.iload_n 1, 1) := by decide +kernel
theorem dX10_save_24 : decode cX10_save 24 = .ok (.iaload, 1) := by decide +kernel
theorem dX10_save_25 : decode cX10_save 25 = .ok (.iastore, 1) := by decide +kernel
theorem dX10_save_26 : decode cX10_save 26 = .ok (.iinc 1 1, 3) := by decide +kernel
theorem dX10_save_29 : decode cX10_save 29 = .ok (.goto (-22), 3) := by decide +kernel
theorem dX10_save_32 : decode cX10_save 32 = .ok (.aload_n 0, 1) := by decide +kernel
theorem dX10_save_33 : decode cX10_save 33 = .ok (.getfield 9, 3) := by decide +kernel
theorem dX10_save_36 : decode cX10_save 36 = .ok (.iconst 0, 1) := by decide +kernel
theorem dX10_save_37 : decode cX10_save 37 = .ok (.iaload, 1) := by decide +kernel
theorem dX10_save_38 : decode cX10_save 38 = .ok (.ireturn, 1) := by decide +kernel
theorem dX10_restore_0 : decode cX10_restore 0 = .ok (.aload_n 0, 1) := by decide +kernel
theorem dX10_restore_1 : decode cX10_restore 1 = .ok (.getfield 315, 3) := by decide +kernel
theorem dX10_restore_4 : decode cX10_restore 4 = .ok (.ifCond .ne 6, 3) := by decide +kernel
theorem dX10_restore_7 : decode cX10_restore 7 = .ok (.bipush (-15), 2) := by decide +kernel
theorem dX10_restore_9 : decode cX10_restore 9 = .ok (.ireturn, 1) := by decide +kernel
theorem dX10_restore_10 : decode cX10_restore 10 = .ok (.iconst 0, 1) := by decide +kernel
theorem dX10_restore_11 : decode cX10_restore 11 = .ok (.istore_n 1, 1) := by decide +kernel
theorem dX10_restore_12 : decode cX10_restore 12 = .ok (.iload_n 1, 1) := by decide +kernel
theorem dX10_restore_13 : decode cX10_restore 13 = .ok (.sipush 133, 3) := by decide +kernel
theorem dX10_restore_16 : decode cX10_restore 16 = .ok (.if_icmp .ge 21, 3) := by decide +kernel
theorem dX10_restore_19 : decode cX10_restore 19 = .ok (.aload_n 0, 1) := by decide +kernel
theorem dX10_restore_20 : decode cX10_restore 20 = .ok (.getfield 9, 3) := by decide +kernel
theorem dX10_restore_23 : decode cX10_restore 23 = .ok (.iload_n 1, 1) := by decide +kernel
theorem dX10_restore_24 : decode cX10_restore 24 = .ok (.aload_n 0, 1) := by decide +kernel
theorem dX10_restore_25 : decode cX10_restore 25 = .ok (.getfield 22, 3) := by decide +kernel
theorem dX10_restore_28 : decode cX10_restore 28 = .ok (.iload_n 1, 1) := by decide +kernel
theorem dX10_restore_29 : decode cX10_restore 29 = .ok (.iaload, 1) := by decide +kernel
theorem dX10_restore_30 : decode cX10_restore 30 = .ok (.iastore, 1) := by decide +kernel
theorem dX10_restore_31 : decode cX10_restore 31 = .ok (.iinc 1 1, 3) := by decide +kernel
theorem dX10_restore_34 : decode cX10_restore 34 = .ok (.goto (-22), 3) := by decide +kernel
theorem dX10_restore_37 : decode cX10_restore 37 = .ok (.aload_n 0, 1) := by decide +kernel
theorem dX10_restore_38 : decode cX10_restore 38 = .ok (.iconst 0, 1) := by decide +kernel
theorem dX10_restore_39 : decode cX10_restore 39 = .ok (.putfield 59, 3) := by decide +kernel
theorem dX10_restore_42 : decode cX10_restore 42 = .ok (.aload_n 0, 1) := by decide +kernel
theorem dX10_restore_43 : decode cX10_restore 43 = .ok (.getfield 9, 3) := by decide +kernel
theorem dX10_restore_46 : decode cX10_restore 46 = .ok (.iconst 0, 1) := by decide +kernel
theorem dX10_restore_47 : decode cX10_restore 47 = .ok (.iaload, 1) := by decide +kernel
theorem dX10_restore_48 : decode cX10_restore 48 = .ok (.ireturn, 1) := by decide +kernel
theorem dJ6_numberOfTrailingZeros_0f7a4_0 : decode cJ6_numberOfTrailingZeros_0f7a4 0 = .ok (.iload_n 0, 1) := by decide +kernel
theorem dJ6_numberOfTrailingZeros_0f7a4_1 : decode cJ6_numberOfTrailingZeros_0f7a4 1 = .ok (.iconst (-1), 1) := by decide +kernel
theorem dJ6_numberOfTrailingZeros_0f7a4_2 : decode cJ6_numberOfTrailingZeros_0f7a4 2 = .ok (.ixor, 1) := by decide +kernel
theorem dJ6_numberOfTrailingZeros_0f7a4_3 : decode cJ6_numberOfTrailingZeros_0f7a4 3 = .ok (.iload_n 0, 1) := by decide +kernel
theorem dJ6_numberOfTrailingZeros_0f7a4_4 : decode cJ6_numberOfTrailingZeros_0f7a4 4 = .ok (.iconst 1, 1) := by decide +kernel
theorem dJ6_numberOfTrailingZeros_0f7a4_5 : decode cJ6_numberOfTrailingZeros_0f7a4 5 = .ok (.isub, 1) := by decide +kernel
theorem dJ6_numberOfTrailingZeros_0f7a4_6 : decode cJ6_numberOfTrailingZeros_0f7a4 6 = .ok (.iand, 1) := by decide +kernel
theorem dJ6_numberOfTrailingZeros_0f7a4_7 : decode cJ6_numberOfTrailingZeros_0f7a4 7 = .ok (.istore_n 0, 1) := by decide +kernel
theorem dJ6_numberOfTrailingZeros_0f7a4_8 : decode cJ6_numberOfTrailingZeros_0f7a4 8 = .ok (.iload_n 0, 1) := by decide +kernel
theorem dJ6_numberOfTrailingZeros_0f7a4_9 : decode cJ6_numberOfTrailingZeros_0f7a4 9 = .ok (.ifCond .gt 8, 3) := by decide +kernel
theorem dJ6_numberOfTrailingZeros_0f7a4_12 : decode cJ6_numberOfTrailingZeros_0f7a4 12 = .ok (.iload_n 0, 1) := by decide +kernel
theorem dJ6_numberOfTrailingZeros_0f7a4_13 : decode cJ6_numberOfTrailingZeros_0f7a4 13 = .ok (.bipush 32, 2) := by decide +kernel
theorem dJ6_numberOfTrailingZeros_0f7a4_15 : decode cJ6_numberOfTrailingZeros_0f7a4 15 = .ok (.iand, 1) := by decide +kernel
theorem dJ6_numberOfTrailingZeros_0f7a4_16 : decode cJ6_numberOfTrailingZeros_0f7a4 16 = .ok (.ireturn, 1) := by decide +kernel
theorem dJ6_numberOfTrailingZeros_0f7a4_17 : decode cJ6_numberOfTrailingZeros_0f7a4 17 = .ok (.iconst 1, 1) := by decide +kernel
theorem dJ6_numberOfTrailingZeros_0f7a4_18 : decode cJ6_numberOfTrailingZeros_0f7a4 18 = .ok (.istore_n 1, 1) := by decide +kernel
theorem dJ6_numberOfTrailingZeros_0f7a4_19 : decode cJ6_numberOfTrailingZeros_0f7a4 19 = .ok (.iload_n 0, 1) := by decide +kernel
theorem dJ6_numberOfTrailingZeros_0f7a4_20 : decode cJ6_numberOfTrailingZeros_0f7a4 20 = .ok (.ldc_w 264, 3) := by decide +kernel
theorem dJ6_numberOfTrailingZeros_0f7a4_23 : decode cJ6_numberOfTrailingZeros_0f7a4 23 = .ok (.if_icmp .le 11, 3) := by decide +kernel
theorem dJ6_numberOfTrailingZeros_0f7a4_26 : decode cJ6_numberOfTrailingZeros_0f7a4 26 = .ok (.iinc 1 16, 3) := by decide +kernel
theorem dJ6_numberOfTrailingZeros_0f7a4_29 : decode cJ6_numberOfTrailingZeros_0f7a4 29 = .ok (.iload_n 0, 1) := by decide +kernel
theorem dJ6_numberOfTrailingZeros_0f7a4_30 : decode cJ6_numberOfTrailingZeros_0f7a4 30 = .ok (.bipush 16, 2) := by decide +kernel
theorem dJ6_numberOfTrailingZeros_0f7a4_32 : decode cJ6_numberOfTrailingZeros_0f7a4 32 = .ok (.iushr, 1) := by decide +kernel
theorem dJ6_numberOfTrailingZeros_0f7a4_33 : decode cJ6_numberOfTrailingZeros_0f7a4 33 = .ok (.istore_n 0, 1) := by decide +kernel
theorem dJ6_numberOfTrailingZeros_0f7a4_34 : decode cJ6_numberOfTrailingZeros_0f7a4 34 = .ok (.iload_n 0, 1) := by decide +kernel
theorem dJ6_numberOfTrailingZeros_0f7a4_35 : decode cJ6_numberOfTrailingZeros_0f7a4 35 = .ok (.sipush 256, 3) := by decide +kernel
theorem dJ6_numberOfTrailingZeros_0f7a4_38 : decode cJ6_numberOfTrailingZeros_0f7a4 38 = .ok (.if_icmp .le 11, 3) := by decide +kernel
theorem dJ6_numberOfTrailingZeros_0f7a4_41 : decode cJ6_numberOfTrailingZeros_0f7a4 41 = .ok (.iinc 1 8, 3) := by decide +kernel
theorem dJ6_numberOfTrailingZeros_0f7a4_44 : decode cJ6_numberOfTrailingZeros_0f7a4 44 = .ok (.iload_n 0, 1) := by decide +kernel
theorem dJ6_numberOfTrailingZeros_0f7a4_45 : decode cJ6_numberOfTrailingZeros_0f7a4 45 = .ok (.bipush 8, 2) := by decide +kernel
theorem dJ6_numberOfTrailingZeros_0f7a4_47 : decode cJ6_numberOfTrailingZeros_0f7a4 47 = .ok (.iushr, 1) := by decide +kernel
theorem dJ6_numberOfTrailingZeros_0f7a4_48 : decode cJ6_numberOfTrailingZeros_0f7a4 48 = .ok (.istore_n 0, 1) := by decide +kernel
theorem dJ6_numberOfTrailingZeros_0f7a4_49 : decode cJ6_numberOfTrailingZeros_0f7a4 49 = .ok (.iload_n 0, 1) := by decide +kernel
theorem dJ6_numberOfTrailingZeros_0f7a4_50 : decode cJ6_numberOfTrailingZeros_0f7a4 50 = .ok (.bipush 16, 2) := by decide +kernel
theorem dJ6_numberOfTrailingZeros_0f7a4_52 : decode cJ6_numberOfTrailingZeros_0f7a4 52 = .ok (.if_icmp .le 10, 3) := by decide +kernel
theorem dJ6_numberOfTrailingZeros_0f7a4_55 : decode cJ6_numberOfTrailingZeros_0f7a4 55 = .ok (.iinc 1 4, 3) := by decide +kernel
theorem dJ6_numberOfTrailingZeros_0f7a4_58 : decode cJ6_numberOfTrailingZeros_0f7a4 58 = .ok (.iload_n 0, 1) := by decide +kernel
theorem dJ6_numberOfTrailingZeros_0f7a4_59 : decode cJ6_numberOfTrailingZeros_0f7a4 59 = .ok (.iconst 4, 1) := by decide +kernel
theorem dJ6_numberOfTrailingZeros_0f7a4_60 : decode cJ6_numberOfTrailingZeros_0f7a4 60 = .ok (.iushr, 1) := by decide +kernel
theorem dJ6_numberOfTrailingZeros_0f7a4_61 : decode cJ6_numberOfTrailingZeros_0f7a4 61 = .ok (.istore_n 0, 1) := by decide +kernel
theorem dJ6_numberOfTrailingZeros_0f7a4_62 : decode cJ6_numberOfTrailingZeros_0f7a4 62 = .ok (.iload_n 0, 1) := by decide +kernel
theorem dJ6_numberOfTrailingZeros_0f7a4_63 : decode cJ6_numberOfTrailingZeros_0f7a4 63 = .ok (.iconst 4, 1) := by decide +kernel
theorem dJ6_numberOfTrailingZeros_0f7a4_64 : decode cJ6_numberOfTrailingZeros_0f7a4 64 = .ok (.if_icmp .le 10, 3) := by decide +kernel
theorem dJ6_numberOfTrailingZeros_0f7a4_67 : decode cJ6_numberOfTrailingZeros_0f7a4 67 = .ok (.iinc 1 2, 3) := by decide +kernel
theorem dJ6_numberOfTrailingZeros_0f7a4_70 : decode cJ6_numberOfTrailingZeros_0f7a4 70 = .ok (.iload_n 0, 1) := by decide +kernel
theorem dJ6_numberOfTrailingZeros_0f7a4_71 : decode cJ6_numberOfTrailingZeros_0f7a4 71 = .ok (.iconst 2, 1) := by decide +kernel
theorem dJ6_numberOfTrailingZeros_0f7a4_72 : decode cJ6_numberOfTrailingZeros_0f7a4 72 = .ok (.iushr, 1) := by decide +kernel
theorem dJ6_numberOfTrailingZeros_0f7a4_73 : decode cJ6_numberOfTrailingZeros_0f7a4 73 = .ok (.istore_n 0, 1) := by decide +kernel
theorem dJ6_numberOfTrailingZeros_0f7a4_74 : decode cJ6_numberOfTrailingZeros_0f7a4 74 = .ok (.iload_n 1, 1) := by decide +kernel
theorem dJ6_numberOfTrailingZeros_0f7a4_75 : decode cJ6_numberOfTrailingZeros_0f7a4 75 = .ok (.iload_n 0, 1) := by decide +kernel
theorem dJ6_numberOfTrailingZeros_0f7a4_76 : decode cJ6_numberOfTrailingZeros_0f7a4 76 = .ok (.iconst 1, 1) := by decide +kernel
theorem dJ6_numberOfTrailingZeros_0f7a4_77 : decode cJ6_numberOfTrailingZeros_0f7a4 77 = .ok (.iushr, 1) := by decide +kernel
theorem dJ6_numberOfTrailingZeros_0f7a4_78 : decode cJ6_numberOfTrailingZeros_0f7a4 78 = .ok (.iadd, 1) := by decide +kernel
theorem dJ6_numberOfTrailingZeros_0f7a4_79 : decode cJ6_numberOfTrailingZeros_0f7a4 79 = .ok (.ireturn, 1) := by decide +kernel
theorem dJ6_bitCount_0f7a4_0 : decode cJ6_bitCount_0f7a4 0 = .ok (.iload_n 0, 1) := by decide +kernel
theorem dJ6_bitCount_0f7a4_1 : decode cJ6_bitCount_0f7a4 1 = .ok (.iload_n 0, 1) := by decide +kernel
theorem dJ6_bitCount_0f7a4_2 : decode cJ6_bitCount_0f7a4 2 = .ok (.iconst 1, 1) := by decide +kernel
theorem dJ6_bitCount_0f7a4_3 : decode cJ6_bitCount_0f7a4 3 = .ok (.iushr, 1) := by decide +kernel
theorem dJ6_bitCount_0f7a4_4 : decode cJ6_bitCount_0f7a4 4 = .ok (.ldc_w 265, 3) := by decide +kernel
theorem dJ6_bitCount_0f7a4_7 : decode cJ6_bitCount_0f7a4 7 = .ok (.iand, 1) := by decide +kernel
theorem dJ6_bitCount_0f7a4_8 : decode cJ6_bitCount_0f7a4 8 = .ok (.isub, 1) := by decide +kernel
theorem dJ6_bitCount_0f7a4_9 : decode cJ6_bitCount_0f7a4 9 = .ok (.istore_n 0, 1) := by decide +kernel
theorem dJ6_bitCount_0f7a4_10 : decode cJ6_bitCount_0f7a4 10 = .ok (.iload_n 0, 1) := by decide +kernel
theorem dJ6_bitCount_0f7a4_11 : decode cJ6_bitCount_0f7a4 11 = .ok (.ldc_w 266, 3) := by decide +kernel
theorem dJ6_bitCount_0f7a4_14 : decode cJ6_bitCount_0f7a4 14 = .ok (.iand, 1) := by decide +kernel
theorem dJ6_bitCount_0f7a4_15 : decode cJ6_bitCount_0f7a4 15 = .ok (.iload_n 0, 1) := by decide +kernel
theorem dJ6_bitCount_0f7a4_16 : decode cJ6_bitCount_0f7a4 16 = .ok (.iconst 2, 1) := by decide +kernel
theorem dJ6_bitCount_0f7a4_17 : decode cJ6_bitCount_0f7a4 17 = .ok (.iushr, 1) := by decide +kernel
theorem dJ6_bitCount_0f7a4_18 : decode cJ6_bitCount_0f7a4 18 = .ok (.ldc_w 266, 3) := by decide +kernel
theorem dJ6_bitCount_0f7a4_21 : decode cJ6_bitCount_0f7a4 21 = .ok (.iand, 1) := by decide +kernel
theorem dJ6_bitCount_0f7a4_22 : decode cJ6_bitCount_0f7a4 22 = .ok (.iadd, 1) := by decide +kernel
theorem dJ6_bitCount_0f7a4_23 : decode cJ6_bitCount_0f7a4 23 = .ok (.istore_n 0, 1) := by decide +kernel
theorem dJ6_bitCount_0f7a4_24 : decode cJ6_bitCount_0f7a4 24 = .ok (.iload_n 0, 1) := by decide +kernel
theorem dJ6_bitCount_0f7a4_25 : decode cJ6_bitCount_0f7a4 25 = .ok (.iload_n 0, 1) := by decide +kernel
theorem dJ6_bitCount_0f7a4_26 : decode cJ6_bitCount_0f7a4 26 = .ok (.iconst 4, 1) := by decide +kernel
theorem dJ6_bitCount_0f7a4_27 : decode cJ6_bitCount_0f7a4 27 = .ok (.iushr, 1) := by decide +kernel
theorem dJ6_bitCount_0f7a4_28 : decode cJ6_bitCount_0f7a4 28 = .ok (.iadd, 1) := by decide +kernel
theorem dJ6_bitCount_0f7a4_29 : decode cJ6_bitCount_0f7a4 29 = .ok (.ldc_w 267, 3) := by decide +kernel
theorem dJ6_bitCount_0f7a4_32 : decode cJ6_bitCount_0f7a4 32 = .ok (.iand, 1) := by decide +kernel
theorem dJ6_bitCount_0f7a4_33 : decode cJ6_bitCount_0f7a4 33 = .ok (.istore_n 0, 1) := by decide +kernel
theorem dJ6_bitCount_0f7a4_34 : decode cJ6_bitCount_0f7a4 34 = .ok (.iload_n 0, 1) := by decide +kernel
theorem dJ6_bitCount_0f7a4_35 : decode cJ6_bitCount_0f7a4 35 = .ok (.iload_n 0, 1) := by decide +kernel
theorem dJ6_bitCount_0f7a4_36 : decode cJ6_bitCount_0f7a4 36 = .ok (.bipush 8, 2) := by decide +kernel
theorem dJ6_bitCount_0f7a4_38 : decode cJ6_bitCount_0f7a4 38 = .ok (.iushr, 1) := by decide +kernel
theorem dJ6_bitCount_0f7a4_39 : decode cJ6_bitCount_0f7a4 39 = .ok (.iadd, 1) := by decide +kernel
theorem dJ6_bitCount_0f7a4_40 : decode cJ6_bitCount_0f7a4 40 = .ok (.istore_n 0, 1) := by decide +kernel
theorem dJ6_bitCount_0f7a4_41 : decode cJ6_bitCount_0f7a4 41 = .ok (.iload_n 0, 1) := by decide +kernel
theorem dJ6_bitCount_0f7a4_42 : decode cJ6_bitCount_0f7a4 42 = .ok (.iload_n 0, 1) := by decide +kernel
theorem dJ6_bitCount_0f7a4_43 : decode cJ6_bitCount_0f7a4 43 = .ok (.bipush 16, 2) := by decide +kernel
theorem dJ6_bitCount_0f7a4_45 : decode cJ6_bitCount_0f7a4 45 = .ok (.iushr, 1) := by decide +kernel
theorem dJ6_bitCount_0f7a4_46 : decode cJ6_bitCount_0f7a4 46 = .ok (.iadd, 1) := by decide +kernel
theorem dJ6_bitCount_0f7a4_47 : decode cJ6_bitCount_0f7a4 47 = .ok (.istore_n 0, 1) := by decide +kernel
theorem dJ6_bitCount_0f7a4_48 : decode cJ6_bitCount_0f7a4 48 = .ok (.iload_n 0, 1) := by decide +kernel
theorem dJ6_bitCount_0f7a4_49 : decode cJ6_bitCount_0f7a4 49 = .ok (.bipush 63, 2) := by decide +kernel
theorem dJ6_bitCount_0f7a4_51 : decode cJ6_bitCount_0f7a4 51 = .ok (.iand, 1) := by decide +kernel
theorem dJ6_bitCount_0f7a4_52 : decode cJ6_bitCount_0f7a4 52 = .ok (.ireturn, 1) := by decide +kernel
theorem dJ9_max_7cf53_0 : decode cJ9_max_7cf53 0 = .ok (.iload_n 0, 1) := by decide +kernel
theorem dJ9_max_7cf53_1 : decode cJ9_max_7cf53 1 = .ok (.iload_n 1, 1) := by decide +kernel
theorem dJ9_max_7cf53_2 : decode cJ9_max_7cf53 2 = .ok (.if_icmp .lt 7, 3) := by decide +kernel
theorem dJ9_max_7cf53_5 : decode cJ9_max_7cf53 5 = .ok (.iload_n 0, 1) := by decide +kernel
theorem dJ9_max_7cf53_6 : decode cJ9_max_7cf53 6 = .ok (.goto 4, 3) := by decide +kernel
theorem dJ9_max_7cf53_9 : decode cJ9_max_7cf53 9 = .ok (.iload_n 1, 1) := by decide +kernel
theorem dJ9_max_7cf53_10 : decode cJ9_max_7cf53 10 = .ok (.ireturn, 1) := by decide +kernel
theorem dJ9_min_7cf53_0 : decode cJ9_min_7cf53 0 = .ok (.iload_n 0, 1) := by decide +kernel
theorem dJ9_min_7cf53_1 : decode cJ9_min_7cf53 1 = .ok (.iload_n 1, 1) := by decide +kernel
theorem dJ9_min_7cf53_2 : decode cJ9_min_7cf53 2 = .ok (.if_icmp .gt 7, 3) := by decide +kernel
theorem dJ9_min_7cf53_5 : decode cJ9_min_7cf53 5 = .ok (.iload_n 0, 1) := by decide +kernel
theorem dJ9_min_7cf53_6 : decode cJ9_min_7cf53 6 = .ok (.goto 4, 3) := by decide +kernel
theorem dJ9_min_7cf53_9 : decode cJ9_min_7cf53 9 = .ok (.iload_n 1, 1) := by decide +kernel
theorem dJ9_min_7cf53_10 : decode cJ9_min_7cf53 10 = .ok (.ireturn, 1) := by decide +kernel
set_option maxRecDepth 20000 in
theorem ggJ0_length_8abf5_J0_coder_7d493 : GoodIn wsJ0_length_8abf5 wsJ0_coder_7d493 := goodIn_r _ [6, 7, 8] (by decide +kernel) (by decide +kernel)
set_option maxRecDepth 20000 in
theorem gJ0_length_8abf5_J0_coder_7d493 : GoodIn wsJ0_length_8abf5 (wsV RJ0 335 RJ0 yJ0_coder_7d493 wsJ0_coder_7d493) := goodIn_app (goodIn_of _ (by decide +kernel)) ggJ0_length_8abf5_J0_coder_7d493
theorem dJ0_length_8abf5_0 : decode cJ0_length_8abf5 0 = .ok (.aload_n 0, 1) := by decide +kernel
theorem dJ0_length_8abf5_1 : decode cJ0_length_8abf5 1 = .ok (.getfield 9, 3) := by decide +kernel
theorem dJ0_length_8abf5_4 : decode cJ0_length_8abf5 4 = .ok (.arraylength, 1) := by decide +kernel
theorem dJ0_length_8abf5_5 : decode cJ0_length_8abf5 5 = .ok (.aload_n 0, 1) := by decide +kernel
theorem dJ0_length_8abf5_6 : decode cJ0_length_8abf5 6 = .ok (.invokevirtual 335, 3) := by decide +kernel
theorem dJ0_length_8abf5_9 : decode cJ0_length_8abf5 9 = .ok (.ishr, 1) := by decide +kernel
theorem dJ0_length_8abf5_10 : decode cJ0_length_8abf5 10 = .ok (.ireturn, 1) := by decide +kernel
set_option maxRecDepth 20000 in
theorem ggJ0_charAt_5068e_J0_isLatin1_aae02 : GoodIn wsJ0_charAt_5068e wsJ0_isLatin1_aae02 := goodIn_r _ [6, 7, 8] (by decide +kernel) (by decide +kernel)
set_option maxRecDepth 20000 in
theorem gJ0_charAt_5068e_J0_isLatin1_aae02 : GoodIn wsJ0_charAt_5068e (wsV RJ0 492 RJ0 yJ0_isLatin1_aae02 wsJ0_isLatin1_aae02) := goodIn_app (goodIn_of _ (by decide +kernel)) ggJ0_charAt_5068e_J0_isLatin1_aae02
set_option maxRecDepth 20000 in
theorem ggJ0_charAt_5068e_J1_charAt_3b067 : GoodIn wsJ0_charAt_5068e wsJ1_charAt_3b067 := goodIn_r _ [12, 13, 14, 5, 15, 16, 17, 18, 19, 20] (by decide +kernel) (by decide +kernel)
set_option maxRecDepth 20000 in
theorem gJ0_charAt_5068e_J1_charAt_3b067 : GoodIn wsJ0_charAt_5068e (va_wsS RJ0 495 yJ1_charAt_3b067 wsJ1_charAt_3b067) := goodIn_app (goodIn_of _ (by decide +kernel)) ggJ0_charAt_5068e_J1_charAt_3b067
set_option maxRecDepth 20000 in
theorem ggJ0_charAt_5068e_J2_charAt_3b067 : GoodIn wsJ0_charAt_5068e wsJ2_charAt_3b067 := goodIn_r _ [24, 25, 26, 23, 27, 28, 29, 30, 31, 14, 5, 15, 16, 17, 18, 19, 20, 32, 33, 34, 35, 36, 37] (by decide +kernel) (by decide +kernel)
set_option maxRecDepth 20000 in
theorem gJ0_charAt_5068e_J2_charAt_3b067 : GoodIn wsJ0_charAt_5068e (va_wsS RJ0 498 yJ2_charAt_3b067 wsJ2_charAt_3b067) := goodIn_app (goodIn_of _ (by decide +kernel)) ggJ0_charAt_5068e_J2_charAt_3b067
theorem dJ0_charAt_5068e_0 : decode cJ0_charAt_5068e 0 = .ok (.aload_n 0, 1) := by decide +kernel
theorem dJ0_charAt_5068e_1 : decode cJ0_charAt_5068e 1 = .ok (.invokevirtual 492, 3) := by decide +kernel
theorem dJ0_charAt_5068e_4 : decode cJ0_charAt_5068e 4 = .ok (.ifCond .eq 12, 3) := by decide +kernel
theorem dJ0_charAt_5068e_7 : decode cJ0_charAt_5068e 7 = .ok (.aload_n 0, 1) := by decide +kernel
theorem dJ0_charAt_5068e_8 : decode cJ0_charAt_5068e 8 = .ok (.getfield 9, 3) := by decide +kernel
theorem dJ0_charAt_5068e_11 : decode cJ0_charAt_5068e 11 = .ok (.iload_n 1, 1) := by decide +kernel
theorem dJ0_charAt_5068e_12 : decode cJ0_charAt_5068e 12 = .ok (.invokestatic 495, 3) := by decide +kernel
theorem dJ0_charAt_5068e_15 : decode cJ0_charAt_5068e 15 = .ok (.ireturn, 1) := by decide +kernel
theorem dJ0_charAt_5068e_16 : decode cJ0_charAt_5068e 16 = .ok (.aload_n 0, 1) := by decide +kernel
theorem dJ0_charAt_5068e_17 : decode cJ0_charAt_5068e 17 = .ok (.getfield 9, 3) := by decide +kernel
theorem dJ0_charAt_5068e_20 : decode cJ0_charAt_5068e 20 = .ok (.iload_n 1, 1) := by decide +kernel
theorem dJ0_charAt_5068e_21 : decode cJ0_charAt_5068e 21 = .ok (.invokestatic 498, 3) := by decide +kernel
theorem dJ0_charAt_5068e_24 : decode cJ0_charAt_5068e 24 = .ok (.ireturn, 1) := by decide +kernel
theorem dJ0_coder_7d493_0 : decode cJ0_coder_7d493 0 = .ok (.getstatic 38, 3) := by decide +kernel
theorem dJ0_coder_7d493_3 : decode cJ0_coder_7d493 3 = .ok (.ifCond .eq 10, 3) := by decide +kernel
theorem dJ0_coder_7d493_6 : decode cJ0_coder_7d493 6 = .ok (.aload_n 0, 1) := by decide +kernel
theorem dJ0_coder_7d493_7 : decode cJ0_coder_7d493 7 = .ok (.getfield 15, 3) := by decide +kernel
theorem dJ0_coder_7d493_10 : decode cJ0_coder_7d493 10 = .ok (.goto 4, 3) := by decide +kernel
theorem dJ0_coder_7d493_13 : decode cJ0_coder_7d493 13 = .ok (.iconst 1, 1) := by decide +kernel
theorem dJ0_coder_7d493_14 : decode cJ0_coder_7d493 14 = .ok (.ireturn, 1) := by decide +kernel
theorem dJ0_isLatin1_aae02_0 : decode cJ0_isLatin1_aae02 0 = .ok (.getstatic 38, 3) := by decide +kernel
theorem dJ0_isLatin1_aae02_3 : decode cJ0_isLatin1_aae02 3 = .ok (.ifCond .eq 14, 3) := by decide +kernel
theorem dJ0_isLatin1_aae02_6 : decode cJ0_isLatin1_aae02 6 = .ok (.aload_n 0, 1) := by decide +kernel
theorem dJ0_isLatin1_aae02_7 : decode cJ0_isLatin1_aae02 7 = .ok (.getfield 15, 3) := by decide +kernel
theorem dJ0_isLatin1_aae02_10 : decode cJ0_isLatin1_aae02 10 = .ok (.ifCond .ne 7, 3) := by decide +kernel
theorem dJ0_isLatin1_aae02_13 : decode cJ0_isLatin1_aae02 13 = .ok (.iconst 1, 1) := by decide +kernel
theorem dJ0_isLatin1_aae02_14 : decode cJ0_isLatin1_aae02 14 = .ok (.goto 4, 3) := by decide +kernel
theorem dJ0_isLatin1_aae02_17 : decode cJ0_isLatin1_aae02 17 = .ok (.iconst 0, 1) := by decide +kernel
theorem dJ0_isLatin1_aae02_18 : decode cJ0_isLatin1_aae02 18 = .ok (.ireturn, 1) := by decide +kernel
set_option maxRecDepth 20000 in
theorem ggJ0_checkIndex_df160_J3_checkIndex_8e157 : GoodIn wsJ0_checkIndex_df160 wsJ3_checkIndex_8e157 := goodIn_r _ [5] (by decide +kernel) (by decide +kernel)
set_option maxRecDepth 20000 in
theorem gJ0_checkIndex_df160_J3_checkIndex_8e157 : GoodIn wsJ0_checkIndex_df160 (va_wsS RJ0 1059 yJ3_checkIndex_8e157 wsJ3_checkIndex_8e157) := goodIn_app (goodIn_of _ (by decide +kernel)) ggJ0_checkIndex_df160_J3_checkIndex_8e157
theorem dJ0_checkIndex_df160_0 : decode cJ0_checkIndex_df160 0 = .ok (.iload_n 0, 1) := by decide +kernel
theorem dJ0_checkIndex_df160_1 : decode cJ0_checkIndex_df160 1 = .ok (.iload_n 1, 1) := by decide +kernel
theorem dJ0_checkIndex_df160_2 : decode cJ0_checkIndex_df160 2 = .ok (.getstatic 1053, 3) := by decide +kernel
theorem dJ0_checkIndex_df160_5 : decode cJ0_checkIndex_df160 5 = .ok (.invokestatic 1059, 3) := by decide +kernel
theorem dJ0_checkIndex_df160_8 : decode cJ0_checkIndex_df160 8 = .ok (.pop, 1) := by decide +kernel
theorem dJ0_checkIndex_df160_9 : decode cJ0_checkIndex_df160 9 = .ok (.return_, 1) := by decide +kernel
set_option maxRecDepth 20000 in
theorem ggJ1_charAt_3b067_J0_checkIndex_df160 : GoodIn wsJ1_charAt_3b067 wsJ0_checkIndex_df160 := goodIn_r _ [4, 5, 6, 7, 8, 9] (by decide +kernel) (by decide +kernel)
set_option maxRecDepth 20000 in
theorem gJ1_charAt_3b067_J0_checkIndex_df160 : GoodIn wsJ1_charAt_3b067 (va_wsS RJ1 9 yJ0_checkIndex_df160 wsJ0_checkIndex_df160) := goodIn_app (goodIn_of _ (by decide +kernel)) ggJ1_charAt_3b067_J0_checkIndex_df160
theorem dJ1_charAt_3b067_0 : decode cJ1_charAt_3b067 0 = .ok (.iload_n 1, 1) := by decide +kernel
theorem dJ1_charAt_3b067_1 : decode cJ1_charAt_3b067 1 = .ok (.aload_n 0, 1) := by decide +kernel
theorem dJ1_charAt_3b067_2 : decode cJ1_charAt_3b067 2 = .ok (.arraylength, 1) := by decide +kernel
theorem dJ1_charAt_3b067_3 : decode cJ1_charAt_3b067 3 = .ok (.invokestatic 9, 3) := by decide +kernel
theorem dJ1_charAt_3b067_6 : decode cJ1_charAt_3b067 6 = .ok (.aload_n 0, 1) := by decide +kernel
theorem dJ1_charAt_3b067_7 : decode cJ1_charAt_3b067 7 = .ok (.iload_n 1, 1) := by decide +kernel
theorem dJ1_charAt_3b067_8 : decode cJ1_charAt_3b067 8 = .ok (.baload, 1) := by decide +kernel
theorem dJ1_charAt_3b067_9 : decode cJ1_charAt_3b067 9 = .ok (.sipush 255, 3) := by decide +kernel
theorem dJ1_charAt_3b067_12 : decode cJ1_charAt_3b067 12 = .ok (.iand, 1) := by decide +kernel
theorem dJ1_charAt_3b067_13 : decode cJ1_charAt_3b067 13 = .ok (.i2c, 1) := by decide +kernel
theorem dJ1_charAt_3b067_14 : decode cJ1_charAt_3b067 14 = .ok (.ireturn, 1) := by decide +kernel
set_option maxRecDepth 20000 in
theorem ggJ2_getChar_3b067_J2_length_9d52b : GoodIn wsJ2_getChar_3b067 wsJ2_length_9d52b := goodIn_r _ [7] (by decide +kernel) (by decide +kernel)
set_option maxRecDepth 20000 in
theorem gJ2_getChar_3b067_J2_length_9d52b : GoodIn wsJ2_getChar_3b067 (va_wsS RJ2 48 yJ2_length_9d52b wsJ2_length_9d52b) := goodIn_app (goodIn_of _ (by decide +kernel)) ggJ2_getChar_3b067_J2_length_9d52b
theorem dJ2_getChar_3b067_0 : decode cJ2_getChar_3b067 0 = .ok (.getstatic 44, 3) := by decide +kernel
theorem dJ2_getChar_3b067_3 : decode cJ2_getChar_3b067 3 = .ok (.ifCond .ne 25, 3) := by decide +kernel
theorem dJ2_getChar_3b067_6 : decode cJ2_getChar_3b067 6 = .ok (.iload_n 1, 1) := by decide +kernel
theorem dJ2_getChar_3b067_7 : decode cJ2_getChar_3b067 7 = .ok (.ifCond .lt 11, 3) := by decide +kernel
theorem dJ2_getChar_3b067_10 : decode cJ2_getChar_3b067 10 = .ok (.iload_n 1, 1) := by decide +kernel
theorem dJ2_getChar_3b067_11 : decode cJ2_getChar_3b067 11 = .ok (.aload_n 0, 1) := by decide +kernel
theorem dJ2_getChar_3b067_12 : decode cJ2_getChar_3b067 12 = .ok (.invokestatic 48, 3) := by decide +kernel
theorem dJ2_getChar_3b067_15 : decode cJ2_getChar_3b067 15 = .ok (.if_icmp .lt 13, 3) := by decide +kernel
theorem dJ2_getChar_3b067_18 : decode cJ2_getChar_3b067 18 = .ok (.new 52, 3) := by decide +kernel
theorem dJ2_getChar_3b067_21 : decode cJ2_getChar_3b067 21 = .ok (.dup, 1) := by decide +kernel
theorem dJ2_getChar_3b067_22 : decode cJ2_getChar_3b067 22 = .ok (.ldc 54, 2) := by decide +kernel
theorem dJ2_getChar_3b067_24 : decode cJ2_getChar_3b067 24 = .ok (.invokespecial 56, 3) := by decide +kernel
theorem dJ2_getChar_3b067_27 : decode cJ2_getChar_3b067 27 = .ok (.athrow, 1) := by decide +kernel
theorem dJ2_getChar_3b067_28 : decode cJ2_getChar_3b067 28 = .ok (.iload_n 1, 1) := by decide +kernel
theorem dJ2_getChar_3b067_29 : decode cJ2_getChar_3b067 29 = .ok (.iconst 1, 1) := by decide +kernel
theorem dJ2_getChar_3b067_30 : decode cJ2_getChar_3b067 30 = .ok (.ishl, 1) := by decide +kernel
theorem dJ2_getChar_3b067_31 : decode cJ2_getChar_3b067 31 = .ok (.istore_n 1, 1) := by decide +kernel
theorem dJ2_getChar_3b067_32 : decode cJ2_getChar_3b067 32 = .ok (.aload_n 0, 1) := by decide +kernel
theorem dJ2_getChar_3b067_33 : decode cJ2_getChar_3b067 33 = .ok (.iload_n 1, 1) := by decide +kernel
theorem dJ2_getChar_3b067_34 : decode cJ2_getChar_3b067 34 = .ok (.iinc 1 1, 3) := by decide +kernel
theorem dJ2_getChar_3b067_37 : decode cJ2_getChar_3b067 37 = .ok (.baload, 1) := by decide +kernel
theorem dJ2_getChar_3b067_38 : decode cJ2_getChar_3b067 38 = .ok (.sipush 255, 3) := by decide +kernel
theorem dJ2_getChar_3b067_41 : decode cJ2_getChar_3b067 41 = .ok (.iand, 1) := by decide +kernel
theorem dJ2_getChar_3b067_42 : decode cJ2_getChar_3b067 42 = .ok (.getstatic 59, 3) := by decide +kernel
theorem dJ2_getChar_3b067_45 : decode cJ2_getChar_3b067 45 = .ok (.ishl, 1) := by decide +kernel
theorem dJ2_getChar_3b067_46 : decode cJ2_getChar_3b067 46 = .ok (.aload_n 0, 1) := by decide +kernel
theorem dJ2_getChar_3b067_47 : decode cJ2_getChar_3b067 47 = .ok (.iload_n 1, 1) := by decide +kernel
theorem dJ2_getChar_3b067_48 : decode cJ2_getChar_3b067 48 = .ok (.baload, 1) := by decide +kernel
theorem dJ2_getChar_3b067_49 : decode cJ2_getChar_3b067 49 = .ok (.sipush 255, 3) := by decide +kernel
theorem dJ2_getChar_3b067_52 : decode cJ2_getChar_3b067 52 = .ok (.iand, 1) := by decide +kernel
theorem dJ2_getChar_3b067_53 : decode cJ2_getChar_3b067 53 = .ok (.getstatic 63, 3) := by decide +kernel
theorem dJ2_getChar_3b067_56 : decode cJ2_getChar_3b067 56 = .ok (.ishl, 1) := by decide +kernel
theorem dJ2_getChar_3b067_57 : decode cJ2_getChar_3b067 57 = .ok (.ior, 1) := by decide +kernel
theorem dJ2_getChar_3b067_58 : decode cJ2_getChar_3b067 58 = .ok (.i2c, 1) := by decide +kernel
theorem dJ2_getChar_3b067_59 : decode cJ2_getChar_3b067 59 = .ok (.ireturn, 1) := by decide +kernel
theorem dJ2_length_9d52b_0 : decode cJ2_length_9d52b 0 = .ok (.aload_n 0, 1) := by decide +kernel
theorem dJ2_length_9d52b_1 : decode cJ2_length_9d52b 1 = .ok (.arraylength, 1) := by decide +kernel
theorem dJ2_length_9d52b_2 : decode cJ2_length_9d52b 2 = .ok (.iconst 1, 1) := by decide +kernel
theorem dJ2_length_9d52b_3 : decode cJ2_length_9d52b 3 = .ok (.ishr, 1) := by decide +kernel
theorem dJ2_length_9d52b_4 : decode cJ2_length_9d52b 4 = .ok (.ireturn, 1) := by decide +kernel
set_option maxRecDepth 20000 in
theorem ggJ2_charAt_3b067_J2_checkIndex_2214a : GoodIn wsJ2_charAt_3b067 wsJ2_checkIndex_2214a := goodIn_r _ [4, 5, 6, 3, 7, 8, 9, 10, 11, 12, 13, 14, 15, 16] (by decide +kernel) (by decide +kernel)
set_option maxRecDepth 20000 in
theorem gJ2_charAt_3b067_J2_checkIndex_2214a : GoodIn wsJ2_charAt_3b067 (va_wsS RJ2 67 yJ2_checkIndex_2214a wsJ2_checkIndex_2214a) := goodIn_app (goodIn_of _ (by decide +kernel)) ggJ2_charAt_3b067_J2_checkIndex_2214a
set_option maxRecDepth 20000 in
theorem ggJ2_charAt_3b067_J2_getChar_3b067 : GoodIn wsJ2_charAt_3b067 wsJ2_getChar_3b067 := goodIn_r _ [19, 20, 21, 22, 5, 6, 3, 7] (by decide +kernel) (by decide +kernel)
set_option maxRecDepth 20000 in
theorem gJ2_charAt_3b067_J2_getChar_3b067 : GoodIn wsJ2_charAt_3b067 (va_wsS RJ2 71 yJ2_getChar_3b067 wsJ2_getChar_3b067) := goodIn_app (goodIn_of _ (by decide +kernel)) ggJ2_charAt_3b067_J2_getChar_3b067
theorem dJ2_charAt_3b067_0 : decode cJ2_charAt_3b067 0 = .ok (.iload_n 1, 1) := by decide +kernel
theorem dJ2_charAt_3b067_1 : decode cJ2_charAt_3b067 1 = .ok (.aload_n 0, 1) := by decide +kernel
theorem dJ2_charAt_3b067_2 : decode cJ2_charAt_3b067 2 = .ok (.invokestatic 67, 3) := by decide +kernel
theorem dJ2_charAt_3b067_5 : decode cJ2_charAt_3b067 5 = .ok (.aload_n 0, 1) := by decide +kernel
theorem dJ2_charAt_3b067_6 : decode cJ2_charAt_3b067 6 = .ok (.iload_n 1, 1) := by decide +kernel
theorem dJ2_charAt_3b067_7 : decode cJ2_charAt_3b067 7 = .ok (.invokestatic 71, 3) := by decide +kernel
theorem dJ2_charAt_3b067_10 : decode cJ2_charAt_3b067 10 = .ok (.ireturn, 1) := by decide +kernel
set_option maxRecDepth 20000 in
theorem ggJ2_checkIndex_2214a_J2_length_9d52b : GoodIn wsJ2_checkIndex_2214a wsJ2_length_9d52b := goodIn_r _ [4] (by decide +kernel) (by decide +kernel)
set_option maxRecDepth 20000 in
theorem gJ2_checkIndex_2214a_J2_length_9d52b : GoodIn wsJ2_checkIndex_2214a (va_wsS RJ2 48 yJ2_length_9d52b wsJ2_length_9d52b) := goodIn_app (goodIn_of _ (by decide +kernel)) ggJ2_checkIndex_2214a_J2_length_9d52b
set_option maxRecDepth 20000 in
theorem ggJ2_checkIndex_2214a_J0_checkIndex_df160 : GoodIn wsJ2_checkIndex_2214a wsJ0_checkIndex_df160 := goodIn_r _ [8, 9, 10, 11, 12, 13] (by decide +kernel) (by decide +kernel)
set_option maxRecDepth 20000 in
theorem gJ2_checkIndex_2214a_J0_checkIndex_df160 : GoodIn wsJ2_checkIndex_2214a (va_wsS RJ2 414 yJ0_checkIndex_df160 wsJ0_checkIndex_df160) := goodIn_app (goodIn_of _ (by decide +kernel)) ggJ2_checkIndex_2214a_J0_checkIndex_df160
theorem dJ2_checkIndex_2214a_0 : decode cJ2_checkIndex_2214a 0 = .ok (.iload_n 0, 1) := by decide +kernel
theorem dJ2_checkIndex_2214a_1 : decode cJ2_checkIndex_2214a 1 = .ok (.aload_n 1, 1) := by decide +kernel
theorem dJ2_checkIndex_2214a_2 : decode cJ2_checkIndex_2214a 2 = .ok (.invokestatic 48, 3) := by decide +kernel
theorem dJ2_checkIndex_2214a_5 : decode cJ2_checkIndex_2214a 5 = .ok (.invokestatic 414, 3) := by decide +kernel
theorem dJ2_checkIndex_2214a_8 : decode cJ2_checkIndex_2214a 8 = .ok (.return_, 1) := by decide +kernel
theorem dJ7_fill_53178_0 : decode cJ7_fill_53178 0 = .ok (.iconst 0, 1) := by decide +kernel
theorem dJ7_fill_53178_1 : decode cJ7_fill_53178 1 = .ok (.istore_n 2, 1) := by decide +kernel
theorem dJ7_fill_53178_2 : decode cJ7_fill_53178 2 = .ok (.aload_n 0, 1) := by decide +kernel
theorem dJ7_fill_53178_3 : decode cJ7_fill_53178 3 = .ok (.arraylength, 1) := by decide +kernel
theorem dJ7_fill_53178_4 : decode cJ7_fill_53178 4 = .ok (.istore_n 3, 1) := by decide +kernel
theorem dJ7_fill_53178_5 : decode cJ7_fill_53178 5 = .ok (.iload_n 2, 1) := by decide +kernel
theorem dJ7_fill_53178_6 : decode cJ7_fill_53178 6 = .ok (.iload_n 3, 1) := by decide +kernel
theorem dJ7_fill_53178_7 : decode cJ7_fill_53178 7 = .ok (.if_icmp .ge 13, 3) := by decide +kernel
theorem dJ7_fill_53178_10 : decode cJ7_fill_53178 10 = .ok (.aload_n 0, 1) := by decide +kernel
theorem dJ7_fill_53178_11 : decode cJ7_fill_53178 11 = .ok (.iload_n 2, 1) := by decide +kernel
theorem dJ7_fill_53178_12 : decode cJ7_fill_53178 12 = .ok (.iload_n 1, 1) := by decide +kernel
theorem dJ7_fill_53178_13 : decode cJ7_fill_53178 13 = .ok (.iastore, 1) := by decide +kernel
theorem dJ7_fill_53178_14 : decode cJ7_fill_53178 14 = .ok (.iinc 2 1, 3) := by decide +kernel
theorem dJ7_fill_53178_17 : decode cJ7_fill_53178 17 = .ok (.goto (-12), 3) := by decide +kernel
theorem dJ7_fill_53178_20 : decode cJ7_fill_53178 20 = .ok (.return_, 1) := by decide +kernel
theorem dJ3_checkIndex_8e157_0 : decode cJ3_checkIndex_8e157 0 = .ok (.iload_n 0, 1) := by decide +kernel
theorem dJ3_checkIndex_8e157_1 : decode cJ3_checkIndex_8e157 1 = .ok (.ifCond .lt 8, 3) := by decide +kernel
theorem dJ3_checkIndex_8e157_4 : decode cJ3_checkIndex_8e157 4 = .ok (.iload_n 0, 1) := by decide +kernel
theorem dJ3_checkIndex_8e157_5 : decode cJ3_checkIndex_8e157 5 = .ok (.iload_n 1, 1) := by decide +kernel
theorem dJ3_checkIndex_8e157_6 : decode cJ3_checkIndex_8e157 6 = .ok (.if_icmp .lt 10, 3) := by decide +kernel
theorem dJ3_checkIndex_8e157_9 : decode cJ3_checkIndex_8e157 9 = .ok (.aload_n 2, 1) := by decide +kernel
theorem dJ3_checkIndex_8e157_10 : decode cJ3_checkIndex_8e157 10 = .ok (.iload_n 0, 1) := by decide +kernel
theorem dJ3_checkIndex_8e157_11 : decode cJ3_checkIndex_8e157 11 = .ok (.iload_n 1, 1) := by decide +kernel
theorem dJ3_checkIndex_8e157_12 : decode cJ3_checkIndex_8e157 12 = .ok (.invokestatic 95, 3) := by decide +kernel
theorem dJ3_checkIndex_8e157_15 : decode cJ3_checkIndex_8e157 15 = .ok (.athrow, 1) := by decide +kernel
theorem dJ3_checkIndex_8e157_16 : decode cJ3_checkIndex_8e157 16 = .ok (.iload_n 0, 1) := by decide +kernel
theorem dJ3_checkIndex_8e157_17 : decode cJ3_checkIndex_8e157 17 = .ok (.ireturn, 1) := by decide +kernel
