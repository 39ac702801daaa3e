theorem dX9_letGoBy_40 : decode cX9_letGoBy 40 = .ok (.ireturn, 1) := by decide +kernel
set_option maxRecDepth 20000 in
theorem ggX9_carryOutAll_X4_hold : GoodIn wsX9_carryOutAll wsX4_hold := goodIn_r _ [8, 9, 10, 11, 7, 12, 13, 14, 15, 16, 17, 18, 19, 20, 21, 22, 23, 24, 25, 26, 27, 28, 29, 30, 31, 32, 33, 331, 332, 333, 334, 335, 336, 337, 338, 339, 340, 341, 342, 343] (by decide +kernel) (by decide +kernel)
set_option maxRecDepth 20000 in
theorem gX9_carryOutAll_X4_hold : GoodIn wsX9_carryOutAll (wsV RX9 61 RX4 yX4_hold wsX4_hold) := goodIn_app (goodIn_of _ (by decide +kernel)) ggX9_carryOutAll_X4_hold
set_option maxRecDepth 20000 in
theorem ggX9_carryOutAll_X8_toStart : GoodIn wsX9_carryOutAll wsX8_toStart := goodIn_r _ [38, 39, 344, 345, 346, 347, 348, 349, 350, 351] (by decide +kernel) (by decide +kernel)
set_option maxRecDepth 20000 in
theorem gX9_carryOutAll_X8_toStart : GoodIn wsX9_carryOutAll (wsV RX9 317 RX8 yX8_toStart wsX8_toStart) := goodIn_app (goodIn_of _ (by decide +kernel)) ggX9_carryOutAll_X8_toStart
set_option maxRecDepth 20000 in
theorem ggX9_carryOutAll_X8_readNext : GoodIn wsX9_carryOutAll wsX8_readNext := goodIn_r _ [43, 39, 44, 45, 46, 37, 47, 48, 49, 50, 51, 52, 53, 54, 55, 56, 57, 58, 59, 60, 61, 62, 63, 64, 65, 66, 67, 68, 69, 70, 71, 72, 73, 74, 75, 76, 77, 78, 79, 80, 81, 82, 83, 84, 85, 86, 87, 88, 89, 90, 91, 92, 93, 94, 95, 96, 97, 98, 99, 100, 101, 102, 103, 104, 105, 106, 107, 108, 109, 110, 111, 112, 113, 114, 115, 116, 117, 118, 119, 120, 121, 122, 123, 124, 125, 126, 127, 128, 129, 130, 131, 132, 133, 134, 135, 136, 137, 138, 139, 344, 345, 346, 347, 348, 349, 350, 351] (by decide +kernel) (by decide +kernel)
set_option maxRecDepth 20000 in
theorem gX9_carryOutAll_X8_readNext : GoodIn wsX9_carryOutAll (wsV RX9 320 RX8 yX8_readNext wsX8_readNext) := goodIn_app (goodIn_of _ (by decide +kernel)) ggX9_carryOutAll_X8_readNext
set_option maxRecDepth 20000 in
theorem ggX9_carryOutAll_X9_carryOut : GoodIn wsX9_carryOutAll wsX9_carryOut := goodIn_r _ [144, 3, 145, 146, 147, 37, 148, 54, 149, 150, 151, 152, 113, 153, 154, 155, 156, 114, 157, 158, 159, 143, 160, 2, 161, 162, 163, 18, 164, 20, 21, 26, 165, 166, 167, 168, 169, 170, 171, 172, 173, 174, 175, 176, 177, 178, 179, 180, 181, 131, 182, 183, 184, 185, 186, 187, 188, 189, 190, 191, 192, 193, 194, 195, 196, 197, 198, 199, 200, 201, 202, 203, 204, 205, 206, 207, 208, 209, 210, 211, 212, 27, 213, 214, 215, 216, 30, 217, 218, 219, 220, 221, 222, 223, 224, 225, 226, 227, 228, 229, 230, 231, 232, 233, 234, 235, 236, 237, 238, 239, 240, 241, 242, 243, 244, 245, 246, 247, 248, 249, 250, 251, 252, 253, 254, 255, 256, 257, 258, 259, 260, 261, 262, 29, 263, 264, 265, 266, 267, 268, 269, 270, 28, 33, 271, 272, 273, 274, 275, 276, 277, 278, 279, 280, 281, 282, 283, 284, 285, 286, 31, 32, 287, 288, 289, 290, 291, 292, 293, 294, 295, 296, 297, 298, 299, 322, 323, 324, 325, 326, 327, 328, 329, 330, 344, 345, 346, 347, 348, 349, 350, 351, 334, 335, 336, 337, 338, 339, 340, 341, 342, 343, 352, 353, 354] (by decide +kernel) (by decide +kernel)
set_option maxRecDepth 20000 in
theorem gX9_carryOutAll_X9_carryOut : GoodIn wsX9_carryOutAll (wsV RX9 323 RX9 yX9_carryOut wsX9_carryOut) := goodIn_app (goodIn_of _ (by decide +kernel)) ggX9_carryOutAll_X9_carryOut
set_option maxRecDepth 20000 in
theorem ggX9_carryOutAll_X4_bringBackHeld : GoodIn wsX9_carryOutAll wsX4_bringBackHeld := goodIn_r _ [303, 9, 10, 11, 7, 12, 13, 14, 15, 16, 17, 18, 19, 20, 21, 22, 23, 24, 25, 26, 27, 28, 29, 30, 31, 32, 33, 331, 332, 333, 334, 335, 336, 337, 338, 339, 340, 341, 342, 343] (by decide +kernel) (by decide +kernel)
set_option maxRecDepth 20000 in
theorem gX9_carryOutAll_X4_bringBackHeld : GoodIn wsX9_carryOutAll (wsV RX9 326 RX4 yX4_bringBackHeld wsX4_bringBackHeld) := goodIn_app (goodIn_of _ (by decide +kernel)) ggX9_carryOutAll_X4_bringBackHeld
set_option maxRecDepth 20000 in
theorem ggX9_carryOutAll_X9_refuseOrder : GoodIn wsX9_carryOutAll wsX9_refuseOrder := goodIn_r _ [307, 169, 308, 309, 310, 173, 311, 177, 312, 313, 314, 315, 175, 176, 170, 171, 172, 174, 234, 235, 236, 237, 322, 323, 324, 325, 326, 327, 328, 329, 330, 352, 353, 354] (by decide +kernel) (by decide +kernel)
set_option maxRecDepth 20000 in
theorem gX9_carryOutAll_X9_refuseOrder : GoodIn wsX9_carryOutAll (wsV RX9 329 RX9 yX9_refuseOrder wsX9_refuseOrder) := goodIn_app (goodIn_of _ (by decide +kernel)) ggX9_carryOutAll_X9_refuseOrder
set_option maxRecDepth 20000 in
theorem ggX9_carryOutAll_X4_keepHeld : GoodIn wsX9_carryOutAll wsX4_keepHeld := goodIn_r _ [319, 13, 320, 321, 313, 314, 315, 331, 332, 333] (by decide +kernel) (by decide +kernel)
set_option maxRecDepth 20000 in
theorem gX9_carryOutAll_X4_keepHeld : GoodIn wsX9_carryOutAll (wsV RX9 277 RX4 yX4_keepHeld wsX4_keepHeld) := goodIn_app (goodIn_of _ (by decide +kernel)) ggX9_carryOutAll_X4_keepHeld
theorem dX9_carryOutAll_0 : decode cX9_carryOutAll 0 = .ok (.aload_n 0, 1) := by decide +kernel
theorem dX9_carryOutAll_1 : decode cX9_carryOutAll 1 = .ok (.getfield 22, 3) := by decide +kernel
theorem dX9_carryOutAll_4 : decode cX9_carryOutAll 4 = .ok (.aload_n 0, 1) := by decide +kernel
theorem dX9_carryOutAll_5 : decode cX9_carryOutAll 5 = .ok (.getfield 10, 3) := by decide +kernel
theorem dX9_carryOutAll_8 : decode cX9_carryOutAll 8 = .ok (.invokevirtual 61, 3) := by decide +kernel
theorem dX9_carryOutAll_11 : decode cX9_carryOutAll 11 = .ok (.aload_n 0, 1) := by decide +kernel
theorem dX9_carryOutAll_12 : decode cX9_carryOutAll 12 = .ok (.getfield 43, 3) := by decide +kernel
theorem dX9_carryOutAll_15 : decode cX9_carryOutAll 15 = .ok (.invokevirtual 317, 3) := by decide +kernel
theorem dX9_carryOutAll_18 : decode cX9_carryOutAll 18 = .ok (.iconst 0, 1) := by decide +kernel
theorem dX9_carryOutAll_19 : decode cX9_carryOutAll 19 = .ok (.istore_n 1, 1) := by decide +kernel
theorem dX9_carryOutAll_20 : decode cX9_carryOutAll 20 = .ok (.iload_n 1, 1) := by decide +kernel
theorem dX9_carryOutAll_21 : decode cX9_carryOutAll 21 = .ok (.bipush 60, 2) := by decide +kernel
theorem dX9_carryOutAll_23 : decode cX9_carryOutAll 23 = .ok (.if_icmp .ge 46, 3) := by decide +kernel
theorem dX9_carryOutAll_26 : decode cX9_carryOutAll 26 = .ok (.aload_n 0, 1) := by decide +kernel
theorem dX9_carryOutAll_27 : decode cX9_carryOutAll 27 = .ok (.getfield 43, 3) := by decide +kernel
theorem dX9_carryOutAll_30 : decode cX9_carryOutAll 30 = .ok (.invokevirtual 320, 3) := by decide +kernel
theorem dX9_carryOutAll_33 : decode cX9_carryOutAll 33 = .ok (.ifCond .eq 36, 3) := by decide +kernel
theorem dX9_carryOutAll_36 : decode cX9_carryOutAll 36 = .ok (.aload_n 0, 1) := by decide +kernel
theorem dX9_carryOutAll_37 : decode cX9_carryOutAll 37 = .ok (.invokevirtual 323, 3) := by decide +kernel
theorem dX9_carryOutAll_40 : decode cX9_carryOutAll 40 = .ok (.istore_n 2, 1) := by decide +kernel
theorem dX9_carryOutAll_41 : decode cX9_carryOutAll 41 = .ok (.iload_n 2, 1) := by decide +kernel
theorem dX9_carryOutAll_42 : decode cX9_carryOutAll 42 = .ok (.ifCond .ge 21, 3) := by decide +kernel
theorem dX9_carryOutAll_45 : decode cX9_carryOutAll 45 = .ok (.aload_n 0, 1) := by decide +kernel
theorem dX9_carryOutAll_46 : decode cX9_carryOutAll 46 = .ok (.getfield 22, 3) := by decide +kernel
theorem dX9_carryOutAll_49 : decode cX9_carryOutAll 49 = .ok (.aload_n 0, 1) := by decide +kernel
theorem dX9_carryOutAll_50 : decode cX9_carryOutAll 50 = .ok (.getfield 10, 3) := by decide +kernel
theorem dX9_carryOutAll_53 : decode cX9_carryOutAll 53 = .ok (.invokevirtual 326, 3) := by decide +kernel
theorem dX9_carryOutAll_56 : decode cX9_carryOutAll 56 = .ok (.aload_n 0, 1) := by decide +kernel
theorem dX9_carryOutAll_57 : decode cX9_carryOutAll 57 = .ok (.iload_n 1, 1) := by decide +kernel
theorem dX9_carryOutAll_58 : decode cX9_carryOutAll 58 = .ok (.iload_n 2, 1) := by decide +kernel
theorem dX9_carryOutAll_59 : decode cX9_carryOutAll 59 = .ok (.invokevirtual 329, 3) := by decide +kernel
theorem dX9_carryOutAll_62 : decode cX9_carryOutAll 62 = .ok (.ireturn, 1) := by decide +kernel
theorem dX9_carryOutAll_63 : decode cX9_carryOutAll 63 = .ok (.iinc 1 1, 3) := by decide +kernel
theorem dX9_carryOutAll_66 : decode cX9_carryOutAll 66 = .ok (.goto (-46), 3) := by decide +kernel
theorem dX9_carryOutAll_69 : decode cX9_carryOutAll 69 = .ok (.aload_n 0, 1) := by decide +kernel
theorem dX9_carryOutAll_70 : decode cX9_carryOutAll 70 = .ok (.getfield 22, 3) := by decide +kernel
theorem dX9_carryOutAll_73 : decode cX9_carryOutAll 73 = .ok (.invokevirtual 277, 3) := by decide +kernel
theorem dX9_carryOutAll_76 : decode cX9_carryOutAll 76 = .ok (.iload_n 1, 1) := by decide +kernel
theorem dX9_carryOutAll_77 : decode cX9_carryOutAll 77 = .ok (.ireturn, 1) := by decide +kernel
set_option maxRecDepth 20000 in
theorem ggX9_carryOut_X8_word : GoodIn wsX9_carryOut wsX8_word := goodIn_r _ [6, 7, 184, 185, 186, 187, 188, 189, 190, 191] (by decide +kernel) (by decide +kernel)
set_option maxRecDepth 20000 in
theorem gX9_carryOut_X8_word : GoodIn wsX9_carryOut (wsV RX9 332 RX8 yX8_word wsX8_word) := goodIn_app (goodIn_of _ (by decide +kernel)) ggX9_carryOut_X8_word
set_option maxRecDepth 20000 in
theorem ggX9_carryOut_X8_first : GoodIn wsX9_carryOut wsX8_first := goodIn_r _ [11, 12, 184, 185, 186, 187, 188, 189, 190, 191] (by decide +kernel) (by decide +kernel)
set_option maxRecDepth 20000 in
theorem gX9_carryOut_X8_first : GoodIn wsX9_carryOut (wsV RX9 335 RX8 yX8_first wsX8_first) := goodIn_app (goodIn_of _ (by decide +kernel)) ggX9_carryOut_X8_first
set_option maxRecDepth 20000 in
theorem ggX9_carryOut_X8_second : GoodIn wsX9_carryOut wsX8_second := goodIn_r _ [16, 17, 184, 185, 186, 187, 188, 189, 190, 191] (by decide +kernel) (by decide +kernel)
set_option maxRecDepth 20000 in
theorem gX9_carryOut_X8_second : GoodIn wsX9_carryOut (wsV RX9 338 RX8 yX8_second wsX8_second) := goodIn_app (goodIn_of _ (by decide +kernel)) ggX9_carryOut_X8_second
set_option maxRecDepth 20000 in
theorem ggX9_carryOut_X9_hangUp : GoodIn wsX9_carryOut wsX9_hangUp := goodIn_r _ [22, 23, 24, 25, 26, 27, 28, 29, 30, 31, 32, 33, 34, 21, 35, 36, 37, 38, 39, 40, 41, 42, 43, 44, 175, 176, 177, 178, 179, 180, 181, 182, 183, 192, 193, 194, 195, 196, 197, 198, 199, 200, 201, 202, 203, 204] (by decide +kernel) (by decide +kernel)
set_option maxRecDepth 20000 in
theorem gX9_carryOut_X9_hangUp : GoodIn wsX9_carryOut (wsV RX9 65 RX9 yX9_hangUp wsX9_hangUp) := goodIn_app (goodIn_of _ (by decide +kernel)) ggX9_carryOut_X9_hangUp
set_option maxRecDepth 20000 in
theorem ggX9_carryOut_X8_third : GoodIn wsX9_carryOut wsX8_third := goodIn_r _ [48, 49, 184, 185, 186, 187, 188, 189, 190, 191] (by decide +kernel) (by decide +kernel)
set_option maxRecDepth 20000 in
theorem gX9_carryOut_X8_third : GoodIn wsX9_carryOut (wsV RX9 341 RX8 yX8_third wsX8_third) := goodIn_app (goodIn_of _ (by decide +kernel)) ggX9_carryOut_X8_third
set_option maxRecDepth 20000 in
theorem ggX9_carryOut_X9_putWire : GoodIn wsX9_carryOut wsX9_putWire := goodIn_r _ [53, 23, 36, 54, 55, 56, 27, 57, 29, 58, 59, 21, 60, 61, 62, 63, 64, 65, 66, 67, 68, 30, 69, 32, 33, 34, 35, 37, 38, 39, 40, 41, 42, 43, 44, 70, 71, 72, 73, 74, 75, 76, 77, 78, 79, 80, 81, 82, 83, 84, 85, 86, 87, 88, 89, 90, 91, 92, 93, 94, 95, 96, 97, 98, 99, 100, 101, 102, 103, 104, 105, 106, 107, 108, 109, 110, 111, 112, 113, 114, 115, 116, 175, 176, 177, 178, 179, 180, 181, 182, 183, 192, 193, 194, 195, 196, 197, 198, 199, 200, 201, 202, 203, 204] (by decide +kernel) (by decide +kernel)
set_option maxRecDepth 20000 in
theorem gX9_carryOut_X9_putWire : GoodIn wsX9_carryOut (wsV RX9 73 RX9 yX9_putWire wsX9_putWire) := goodIn_app (goodIn_of _ (by decide +kernel)) ggX9_carryOut_X9_putWire
set_option maxRecDepth 20000 in
theorem ggX9_carryOut_X9_cutWire : GoodIn wsX9_carryOut wsX9_cutWire := goodIn_r _ [120, 23, 54, 55, 56, 27, 57, 29, 58, 59, 21, 60, 61, 62, 63, 64, 65, 66, 67, 68, 30, 69, 32, 33, 34, 35, 36, 37, 38, 39, 40, 41, 42, 43, 44, 70, 71, 72, 73, 74, 75, 76, 77, 78, 79, 80, 81, 108, 109, 110, 111, 175, 176, 177, 178, 179, 180, 181, 182, 183, 192, 193, 194, 195, 196, 197, 198, 199, 200, 201, 202, 203, 204] (by decide +kernel) (by decide +kernel)
set_option maxRecDepth 20000 in
theorem gX9_carryOut_X9_cutWire : GoodIn wsX9_carryOut (wsV RX9 77 RX9 yX9_cutWire wsX9_cutWire) := goodIn_app (goodIn_of _ (by decide +kernel)) ggX9_carryOut_X9_cutWire
set_option maxRecDepth 20000 in
theorem ggX9_carryOut_X9_setSwitch : GoodIn wsX9_carryOut wsX9_setSwitch := goodIn_r _ [124, 23, 54, 55, 56, 27, 57, 29, 65, 66, 67, 68, 30, 69, 70, 71, 72, 73, 32, 33, 34, 21, 35, 36, 37, 38, 39, 40, 41, 42, 43, 44, 125, 126, 127, 128, 129, 130, 131, 132, 133, 134, 135, 136, 137, 91, 92, 138, 139, 140, 141, 142, 143, 144, 145, 146, 147, 148, 149, 150, 151, 175, 176, 177, 178, 179, 180, 181, 182, 183, 192, 193, 194, 195, 196, 197, 198, 199, 200, 201, 202, 203, 204] (by decide +kernel) (by decide +kernel)
set_option maxRecDepth 20000 in
theorem gX9_carryOut_X9_setSwitch : GoodIn wsX9_carryOut (wsV RX9 80 RX9 yX9_setSwitch wsX9_setSwitch) := goodIn_app (goodIn_of _ (by decide +kernel)) ggX9_carryOut_X9_setSwitch
set_option maxRecDepth 20000 in
theorem ggX9_carryOut_X9_letGoBy : GoodIn wsX9_carryOut wsX9_letGoBy := goodIn_r _ [155, 23, 156, 157, 158, 27, 159, 133, 142, 160, 161, 162, 163, 164, 165, 29, 30, 31, 134, 135, 136, 137, 166, 167, 168, 169, 170, 171, 172, 173, 81, 174, 146, 147, 148, 149, 150, 151, 175, 176, 177, 178, 179, 180, 181, 182, 183, 192, 193, 194, 195, 196, 197, 198, 199, 200, 201] (by decide +kernel) (by decide +kernel)
set_option maxRecDepth 20000 in
theorem gX9_carryOut_X9_letGoBy : GoodIn wsX9_carryOut (wsV RX9 88 RX9 yX9_letGoBy wsX9_letGoBy) := goodIn_app (goodIn_of _ (by decide +kernel)) ggX9_carryOut_X9_letGoBy
theorem dX9_carryOut_0 : decode cX9_carryOut 0 = .ok (.aload_n 0, 1) := by decide +kernel
theorem dX9_carryOut_1 : decode cX9_carryOut 1 = .ok (.getfield 43, 3) := by decide +kernel
theorem dX9_carryOut_4 : decode cX9_carryOut 4 = .ok (.invokevirtual 332, 3) := by decide +kernel
theorem dX9_carryOut_7 : decode cX9_carryOut 7 = .ok (.tableswitch 121 0 3 #[29, 48, 74, 93], 29) := by decide +kernel
theorem dX9_carryOut_36 : decode cX9_carryOut 36 = .ok (.aload_n 0, 1) := by decide +kernel
theorem dX9_carryOut_37 : decode cX9_carryOut 37 = .ok (.aload_n 0, 1) := by decide +kernel
theorem dX9_carryOut_38 : decode cX9_carryOut 38 = .ok (.getfield 43, 3) := by decide +kernel
theorem dX9_carryOut_41 : decode cX9_carryOut 41 = .ok (.invokevirtual 335, 3) := by decide +kernel
theorem dX9_carryOut_44 : decode cX9_carryOut 44 = .ok (.aload_n 0, 1) := by decide +kernel
theorem dX9_carryOut_45 : decode cX9_carryOut 45 = .ok (.getfield 43, 3) := by decide +kernel
theorem dX9_carryOut_48 : decode cX9_carryOut 48 = .ok (.invokevirtual 338, 3) := by decide +kernel
theorem dX9_carryOut_51 : decode cX9_carryOut 51 = .ok (.invokevirtual 65, 3) := by decide +kernel
theorem dX9_carryOut_54 : decode cX9_carryOut 54 = .ok (.ireturn, 1) := by decide +kernel
theorem dX9_carryOut_55 : decode cX9_carryOut 55 = .ok (.aload_n 0, 1) := by decide +kernel
theorem dX9_carryOut_56 : decode cX9_carryOut 56 = .ok (.aload_n 0, 1) := by decide +kernel
theorem dX9_carryOut_57 : decode cX9_carryOut 57 = .ok (.getfield 43, 3) := by decide +kernel
theorem dX9_carryOut_60 : decode cX9_carryOut 60 = .ok (.invokevirtual 335, 3) := by decide +kernel
theorem dX9_carryOut_63 : decode cX9_carryOut 63 = .ok (.aload_n 0, 1) := by decide +kernel
theorem dX9_carryOut_64 : decode cX9_carryOut 64 = .ok (.getfield 43, 3) := by decide +kernel
theorem dX9_carryOut_67 : decode cX9_carryOut 67 = .ok (.invokevirtual 338, 3) := by decide +kernel
theorem dX9_carryOut_70 : decode cX9_carryOut 70 = .ok (.aload_n 0, 1) := by decide +kernel
theorem dX9_carryOut_71 : decode cX9_carryOut 71 = .ok (.getfield 43, 3) := by decide +kernel
theorem dX9_carryOut_74 : decode cX9_carryOut 74 = .ok (.invokevirtual 341, 3) := by decide +kernel
theorem dX9_carryOut_77 : decode cX9_carryOut 77 = .ok (.invokevirtual 73, 3) := by decide +kernel
theorem dX9_carryOut_80 : decode cX9_carryOut 80 = .ok (.ireturn, 1) := by decide +kernel
theorem dX9_carryOut_81 : decode cX9_carryOut 81 = .ok (.aload_n 0, 1) := by decide +kernel
theorem dX9_carryOut_82 : decode cX9_carryOut 82 = .ok (.aload_n 0, 1) := by decide +kernel
theorem dX9_carryOut_83 : decode cX9_carryOut 83 = .ok (.getfield 43, 3) := by decide +kernel
theorem dX9_carryOut_86 : decode cX9_carryOut 86 = .ok (.invokevirtual 335, 3) := by decide +kernel
theorem dX9_carryOut_89 : decode cX9_carryOut 89 = .ok (.aload_n 0, 1) := by decide +kernel
theorem dX9_carryOut_90 : decode cX9_carryOut 90 = .ok (.getfield 43, 3) := by decide +kernel
theorem dX9_carryOut_93 : decode cX9_carryOut 93 = .ok (.invokevirtual 338, 3) := by decide +kernel
theorem dX9_carryOut_96 : decode cX9_carryOut 96 = .ok (.invokevirtual 77, 3) := by decide +kernel
theorem dX9_carryOut_99 : decode cX9_carryOut 99 = .ok (.ireturn, 1) := by decide +kernel
theorem dX9_carryOut_100 : decode cX9_carryOut 100 = .ok (.aload_n 0, 1) := by decide +kernel
theorem dX9_carryOut_101 : decode cX9_carryOut 101 = .ok (.aload_n 0, 1) := by decide +kernel
theorem dX9_carryOut_102 : decode cX9_carryOut 102 = .ok (.getfield 43, 3) := by decide +kernel
theorem dX9_carryOut_105 : decode cX9_carryOut 105 = .ok (.invokevirtual 335, 3) := by decide +kernel
theorem dX9_carryOut_108 : decode cX9_carryOut 108 = .ok (.aload_n 0, 1) := by decide +kernel
theorem dX9_carryOut_109 : decode cX9_carryOut 109 = .ok (.getfield 43, 3) := by decide +kernel
theorem dX9_carryOut_112 : decode cX9_carryOut 112 = .ok (.invokevirtual 338, 3) := by decide +kernel
theorem dX9_carryOut_115 : decode cX9_carryOut 115 = .ok (.iconst 1, 1) := by decide +kernel
theorem dX9_carryOut_116 : decode cX9_carryOut 116 = .ok (.if_icmp .ne 7, 3) := by decide +kernel
theorem dX9_carryOut_119 : decode cX9_carryOut 119 = .ok (.iconst 1, 1) := by decide +kernel
theorem dX9_carryOut_120 : decode cX9_carryOut 120 = .ok (.goto 4, 3) := by decide +kernel
theorem dX9_carryOut_123 : decode cX9_carryOut 123 = .ok (.iconst 0, 1) := by decide +kernel
theorem dX9_carryOut_124 : decode cX9_carryOut 124 = .ok (.invokevirtual 80, 3) := by decide +kernel
theorem dX9_carryOut_127 : decode cX9_carryOut 127 = .ok (.ireturn, 1) := by decide +kernel
theorem dX9_carryOut_128 : decode cX9_carryOut 128 = .ok (.aload_n 0, 1) := by decide +kernel
theorem dX9_carryOut_129 : decode cX9_carryOut 129 = .ok (.aload_n 0, 1) := by decide +kernel
theorem dX9_carryOut_130 : decode cX9_carryOut 130 = .ok (.getfield 43, 3) := by decide +kernel
theorem dX9_carryOut_133 : decode cX9_carryOut 133 = .ok (.invokevirtual 335, 3) := by decide +kernel
theorem dX9_carryOut_136 : decode cX9_carryOut 136 = .ok (.invokevirtual 88, 3) := by decide +kernel
theorem dX9_carryOut_139 : decode cX9_carryOut 139 = .ok (.ireturn, 1) := by decide +kernel
set_option maxRecDepth 20000 in
theorem ggX9_refuseOrder_X6_putAhead : GoodIn wsX9_refuseOrder wsX6_putAhead := goodIn_r _ [6, 7, 8, 9, 10, 11, 12, 13, 31, 32, 33] (by decide +kernel) (by decide +kernel)
set_option maxRecDepth 20000 in
theorem gX9_refuseOrder_X6_putAhead : GoodIn wsX9_refuseOrder (wsV RX9 344 RX6 yX6_putAhead wsX6_putAhead) := goodIn_app (goodIn_of _ (by decide +kernel)) ggX9_refuseOrder_X6_putAhead
set_option maxRecDepth 20000 in
theorem ggX9_refuseOrder_X6_start : GoodIn wsX9_refuseOrder wsX6_start := goodIn_r _ [17, 12, 13, 7, 31, 32, 33] (by decide +kernel) (by decide +kernel)
set_option maxRecDepth 20000 in
theorem gX9_refuseOrder_X6_start : GoodIn wsX9_refuseOrder (wsV RX9 280 RX6 yX6_start wsX6_start) := goodIn_app (goodIn_of _ (by decide +kernel)) ggX9_refuseOrder_X6_start
set_option maxRecDepth 20000 in
theorem ggX9_refuseOrder_X6_putBehind : GoodIn wsX9_refuseOrder wsX6_putBehind := goodIn_r _ [21, 7, 12, 13, 31, 32, 33] (by decide +kernel) (by decide +kernel)
set_option maxRecDepth 20000 in
theorem gX9_refuseOrder_X6_putBehind : GoodIn wsX9_refuseOrder (wsV RX9 295 RX6 yX6_putBehind wsX6_putBehind) := goodIn_app (goodIn_of _ (by decide +kernel)) ggX9_refuseOrder_X6_putBehind
theorem dX9_refuseOrder_0 : decode cX9_refuseOrder 0 = .ok (.iload_n 2, 1) := by decide +kernel
theorem dX9_refuseOrder_1 : decode cX9_refuseOrder 1 = .ok (.bipush (-14), 2) := by decide +kernel
theorem dX9_refuseOrder_3 : decode cX9_refuseOrder 3 = .ok (.if_icmp .ne 16, 3) := by decide +kernel
theorem dX9_refuseOrder_6 : decode cX9_refuseOrder 6 = .ok (.aload_n 0, 1) := by decide +kernel
theorem dX9_refuseOrder_7 : decode cX9_refuseOrder 7 = .ok (.getfield 57, 3) := by decide +kernel
theorem dX9_refuseOrder_10 : decode cX9_refuseOrder 10 = .ok (.bipush 10, 2) := by decide +kernel
theorem dX9_refuseOrder_12 : decode cX9_refuseOrder 12 = .ok (.iload_n 1, 1) := by decide +kernel
theorem dX9_refuseOrder_13 : decode cX9_refuseOrder 13 = .ok (.invokevirtual 344, 3) := by decide +kernel
theorem dX9_refuseOrder_16 : decode cX9_refuseOrder 16 = .ok (.goto 23, 3) := by decide +kernel
theorem dX9_refuseOrder_19 : decode cX9_refuseOrder 19 = .ok (.aload_n 0, 1) := by decide +kernel
theorem dX9_refuseOrder_20 : decode cX9_refuseOrder 20 = .ok (.getfield 57, 3) := by decide +kernel
theorem dX9_refuseOrder_23 : decode cX9_refuseOrder 23 = .ok (.bipush 10, 2) := by decide +kernel
theorem dX9_refuseOrder_25 : decode cX9_refuseOrder 25 = .ok (.iload_n 1, 1) := by decide +kernel
theorem dX9_refuseOrder_26 : decode cX9_refuseOrder 26 = .ok (.invokevirtual 280, 3) := by decide +kernel
theorem dX9_refuseOrder_29 : decode cX9_refuseOrder 29 = .ok (.aload_n 0, 1) := by decide +kernel
theorem dX9_refuseOrder_30 : decode cX9_refuseOrder 30 = .ok (.getfield 57, 3) := by decide +kernel
theorem dX9_refuseOrder_33 : decode cX9_refuseOrder 33 = .ok (.bipush 13, 2) := by decide +kernel
theorem dX9_refuseOrder_35 : decode cX9_refuseOrder 35 = .ok (.iload_n 2, 1) := by decide +kernel
theorem dX9_refuseOrder_36 : decode cX9_refuseOrder 36 = .ok (.invokevirtual 295, 3) := by decide +kernel
theorem dX9_refuseOrder_39 : decode cX9_refuseOrder 39 = .ok (.bipush (-14), 2) := by decide +kernel
theorem dX9_refuseOrder_41 : decode cX9_refuseOrder 41 = .ok (.ireturn, 1) := by decide +kernel
set_option maxRecDepth 20000 in
theorem ggX9_hasTable_X2_isSwitch : GoodIn wsX9_hasTable wsX2_isSwitch := goodIn_r _ [7, 8, 9, 10, 11, 6, 12, 13, 84, 85, 86, 87, 88, 89, 90, 91, 92, 93] (by decide +kernel) (by decide +kernel)
set_option maxRecDepth 20000 in
theorem gX9_hasTable_X2_isSwitch : GoodIn wsX9_hasTable (wsV RX9 160 RX2 yX2_isSwitch wsX2_isSwitch) := goodIn_app (goodIn_of _ (by decide +kernel)) ggX9_hasTable_X2_isSwitch
set_option maxRecDepth 20000 in
theorem ggX9_hasTable_X0_byWires : GoodIn wsX9_hasTable wsX0_byWires := goodIn_r _ [18, 19, 20, 21, 22, 23, 24, 25, 17, 26, 27, 28, 29, 30, 31, 10, 11, 6, 12, 13, 32, 33, 34, 35, 36, 37, 38, 39, 40, 4, 5, 7, 8, 9, 41, 42, 43, 44, 45, 94, 84, 85, 86, 87, 88, 89, 90, 91, 92, 93] (by decide +kernel) (by decide +kernel)
set_option maxRecDepth 20000 in
theorem gX9_hasTable_X0_byWires : GoodIn wsX9_hasTable (wsV RX9 145 RX0 yX0_byWires wsX0_byWires) := goodIn_app (goodIn_of _ (by decide +kernel)) ggX9_hasTable_X0_byWires
set_option maxRecDepth 20000 in
theorem ggX9_hasTable_X5_switchesTo : GoodIn wsX9_hasTable wsX5_switchesTo := goodIn_r _ [49, 50, 51, 52, 6, 53, 13, 54, 4, 5, 7, 8, 9, 10, 11, 12, 55, 56, 48, 57, 58, 59, 60, 61, 62, 63, 64, 36, 65, 66, 67, 84, 85, 86, 87, 88, 89, 90, 91, 92, 93] (by decide +kernel) (by decide +kernel)
set_option maxRecDepth 20000 in
theorem gX9_hasTable_X5_switchesTo : GoodIn wsX9_hasTable (va_wsS RX9 167 yX5_switchesTo wsX5_switchesTo) := goodIn_app (goodIn_of _ (by decide +kernel)) ggX9_hasTable_X5_switchesTo
set_option maxRecDepth 20000 in
theorem ggX9_hasTable_J6_bitCount_0f7a4 : GoodIn wsX9_hasTable wsJ6_bitCount_0f7a4 := goodIn_r _ [71, 72, 73, 74] (by decide +kernel) (by decide +kernel)
set_option maxRecDepth 20000 in
theorem gX9_hasTable_J6_bitCount_0f7a4 : GoodIn wsX9_hasTable (va_wsS RX9 237 yJ6_bitCount_0f7a4 wsJ6_bitCount_0f7a4) := goodIn_app (goodIn_of _ (by decide +kernel)) ggX9_hasTable_J6_bitCount_0f7a4
theorem dX9_hasTable_0 : decode cX9_hasTable 0 = .ok (.aload_n 0, 1) := by decide +kernel
theorem dX9_hasTable_1 : decode cX9_hasTable 1 = .ok (.getfield 10, 3) := by decide +kernel
theorem dX9_hasTable_4 : decode cX9_hasTable 4 = .ok (.iload_n 1, 1) := by decide +kernel
theorem dX9_hasTable_5 : decode cX9_hasTable 5 = .ok (.invokevirtual 160, 3) := by decide +kernel
theorem dX9_hasTable_8 : decode cX9_hasTable 8 = .ok (.ifCond .ne 37, 3) := by decide +kernel
theorem dX9_hasTable_11 : decode cX9_hasTable 11 = .ok (.aload_n 0, 1) := by decide +kernel
theorem dX9_hasTable_12 : decode cX9_hasTable 12 = .ok (.getfield 29, 3) := by decide +kernel
theorem dX9_hasTable_15 : decode cX9_hasTable 15 = .ok (.aload_n 0, 1) := by decide +kernel
theorem dX9_hasTable_16 : decode cX9_hasTable 16 = .ok (.getfield 10, 3) := by decide +kernel
theorem dX9_hasTable_19 : decode cX9_hasTable 19 = .ok (.iload_n 1, 1) := by decide +kernel
theorem dX9_hasTable_20 : decode cX9_hasTable 20 = .ok (.invokevirtual 145, 3) := by decide +kernel
theorem dX9_hasTable_23 : decode cX9_hasTable 23 = .ok (.ifCond .lt 22, 3) := by decide +kernel
theorem dX9_hasTable_26 : decode cX9_hasTable 26 = .ok (.aload_n 0, 1) := by decide +kernel
theorem dX9_hasTable_27 : decode cX9_hasTable 27 = .ok (.getfield 10, 3) := by decide +kernel
theorem dX9_hasTable_30 : decode cX9_hasTable 30 = .ok (.iload_n 1, 1) := by decide +kernel
theorem dX9_hasTable_31 : decode cX9_hasTable 31 = .ok (.invokestatic 167, 3) := by decide +kernel
theorem dX9_hasTable_34 : decode cX9_hasTable 34 = .ok (.invokestatic 237, 3) := by decide +kernel
theorem dX9_hasTable_37 : decode cX9_hasTable 37 = .ok (.iconst 4, 1) := by decide +kernel
theorem dX9_hasTable_38 : decode cX9_hasTable 38 = .ok (.if_icmp .gt 7, 3) := by decide +kernel
theorem dX9_hasTable_41 : decode cX9_hasTable 41 = .ok (.iconst 1, 1) := by decide +kernel
theorem dX9_hasTable_42 : decode cX9_hasTable 42 = .ok (.goto 4, 3) := by decide +kernel
theorem dX9_hasTable_45 : decode cX9_hasTable 45 = .ok (.iconst 0, 1) := by decide +kernel
theorem dX9_hasTable_46 : decode cX9_hasTable 46 = .ok (.ireturn, 1) := by decide +kernel
set_option maxRecDepth 20000 in
theorem ggX9_addWires_X2_kindOf : GoodIn wsX9_addWires wsX2_kindOf := goodIn_r _ [7, 8, 9, 10, 11, 6, 12, 13, 44, 45, 46, 47, 48, 49, 50, 51, 52, 53] (by decide +kernel) (by decide +kernel)
set_option maxRecDepth 20000 in
theorem gX9_addWires_X2_kindOf : GoodIn wsX9_addWires (wsV RX9 95 RX2 yX2_kindOf wsX2_kindOf) := goodIn_app (goodIn_of _ (by decide +kernel)) ggX9_addWires_X2_kindOf
set_option maxRecDepth 20000 in
theorem ggX9_addWires_X9_placesOf : GoodIn wsX9_addWires wsX9_placesOf := goodIn_r _ [17] (by decide +kernel) (by decide +kernel)
set_option maxRecDepth 20000 in
theorem gX9_addWires_X9_placesOf : GoodIn wsX9_addWires (va_wsS RX9 302 yX9_placesOf wsX9_placesOf) := goodIn_app (goodIn_of _ (by decide +kernel)) ggX9_addWires_X9_placesOf
set_option maxRecDepth 20000 in
theorem ggX9_addWires_X3_add : GoodIn wsX9_addWires wsX3_add := goodIn_r _ [22, 23, 24, 54, 55] (by decide +kernel) (by decide +kernel)
set_option maxRecDepth 20000 in
theorem gX9_addWires_X3_add : GoodIn wsX9_addWires (wsV RX9 201 RX3 yX3_add wsX3_add) := goodIn_app (goodIn_of _ (by decide +kernel)) ggX9_addWires_X3_add
set_option maxRecDepth 20000 in
theorem ggX9_addWires_X2_sourceOf : GoodIn wsX9_addWires wsX2_sourceOf := goodIn_r _ [28, 29, 44, 45, 46, 47, 48, 49, 50, 51, 52, 53] (by decide +kernel) (by decide +kernel)
set_option maxRecDepth 20000 in
theorem gX9_addWires_X2_sourceOf : GoodIn wsX9_addWires (wsV RX9 132 RX2 yX2_sourceOf wsX2_sourceOf) := goodIn_app (goodIn_of _ (by decide +kernel)) ggX9_addWires_X2_sourceOf
set_option maxRecDepth 20000 in
theorem ggX9_addWires_X3_addNumber : GoodIn wsX9_addWires wsX3_addNumber := goodIn_r _ [33, 34, 19, 20, 21, 22, 23, 24, 54, 55] (by decide +kernel) (by decide +kernel)
set_option maxRecDepth 20000 in
theorem gX9_addWires_X3_addNumber : GoodIn wsX9_addWires (wsV RX9 207 RX3 yX3_addNumber wsX3_addNumber) := goodIn_app (goodIn_of _ (by decide +kernel)) ggX9_addWires_X3_addNumber
theorem dX9_addWires_0 : decode cX9_addWires 0 = .ok (.aload_n 0, 1) := by decide +kernel
theorem dX9_addWires_1 : decode cX9_addWires 1 = .ok (.getfield 10, 3) := by decide +kernel
theorem dX9_addWires_4 : decode cX9_addWires 4 = .ok (.iload_n 1, 1) := by decide +kernel
theorem dX9_addWires_5 : decode cX9_addWires 5 = .ok (.invokevirtual 95, 3) := by decide +kernel
theorem dX9_addWires_8 : decode cX9_addWires 8 = .ok (.invokestatic 302, 3) := by decide +kernel
theorem dX9_addWires_11 : decode cX9_addWires 11 = .ok (.istore_n 2, 1) := by decide +kernel
theorem dX9_addWires_12 : decode cX9_addWires 12 = .ok (.iconst 0, 1) := by decide +kernel
theorem dX9_addWires_13 : decode cX9_addWires 13 = .ok (.istore_n 3, 1) := by decide +kernel
theorem dX9_addWires_14 : decode cX9_addWires 14 = .ok (.iload_n 3, 1) := by decide +kernel
theorem dX9_addWires_15 : decode cX9_addWires 15 = .ok (.iload_n 2, 1) := by decide +kernel
theorem dX9_addWires_16 : decode cX9_addWires 16 = .ok (.if_icmp .ge 65, 3) := by decide +kernel
theorem dX9_addWires_19 : decode cX9_addWires 19 = .ok (.aload_n 0, 1) := by decide +kernel
theorem dX9_addWires_20 : decode cX9_addWires 20 = .ok (.getfield 50, 3) := by decide +kernel
theorem dX9_addWires_23 : decode cX9_addWires 23 = .ok (.iload_n 3, 1) := by decide +kernel
theorem dX9_addWires_24 : decode cX9_addWires 24 = .ok (.ifCond .ne 8, 3) := by decide +kernel
theorem dX9_addWires_27 : decode cX9_addWires 27 = .ok (.bipush 40, 2) := by decide +kernel
theorem dX9_addWires_29 : decode cX9_addWires 29 = .ok (.goto 5, 3) := by decide +kernel
theorem dX9_addWires_32 : decode cX9_addWires 32 = .ok (.bipush 44, 2) := by decide +kernel
theorem dX9_addWires_34 : decode cX9_addWires 34 = .ok (.invokevirtual 201, 3) := by decide +kernel
theorem dX9_addWires_37 : decode cX9_addWires 37 = .ok (.aload_n 0, 1) := by decide +kernel
theorem dX9_addWires_38 : decode cX9_addWires 38 = .ok (.getfield 10, 3) := by decide +kernel
theorem dX9_addWires_41 : decode cX9_addWires 41 = .ok (.iload_n 1, 1) := by decide +kernel
theorem dX9_addWires_42 : decode cX9_addWires 42 = .ok (.iload_n 3, 1) := by decide +kernel
theorem dX9_addWires_43 : decode cX9_addWires 43 = .ok (.invokevirtual 132, 3) := by decide +kernel
theorem dX9_addWires_46 : decode cX9_addWires 46 = .ok (.istore 4, 2) := by decide +kernel
theorem dX9_addWires_48 : decode cX9_addWires 48 = .ok (.iload 4, 2) := by decide +kernel
theorem dX9_addWires_50 : decode cX9_addWires 50 = .ok (.iconst (-1), 1) := by decide +kernel
theorem dX9_addWires_51 : decode cX9_addWires 51 = .ok (.if_icmp .ne 15, 3) := by decide +kernel
theorem dX9_addWires_54 : decode cX9_addWires 54 = .ok (.aload_n 0, 1) := by decide +kernel
theorem dX9_addWires_55 : decode cX9_addWires 55 = .ok (.getfield 50, 3) := by decide +kernel
theorem dX9_addWires_58 : decode cX9_addWires 58 = .ok (.bipush 45, 2) := by decide +kernel
theorem dX9_addWires_60 : decode cX9_addWires 60 = .ok (.invokevirtual 201, 3) := by decide +kernel
theorem dX9_addWires_63 : decode cX9_addWires 63 = .ok (.goto 12, 3) := by decide +kernel
theorem dX9_addWires_66 : decode cX9_addWires 66 = .ok (.aload_n 0, 1) := by decide +kernel
theorem dX9_addWires_67 : decode cX9_addWires 67 = .ok (.getfield 50, 3) := by decide +kernel
theorem dX9_addWires_70 : decode cX9_addWires 70 = .ok (.iload 4, 2) := by decide +kernel
theorem dX9_addWires_72 : decode cX9_addWires 72 = .ok (.invokevirtual 207, 3) := by decide +kernel
theorem dX9_addWires_75 : decode cX9_addWires 75 = .ok (.iinc 3 1, 3) := by decide +kernel
theorem dX9_addWires_78 : decode cX9_addWires 78 = .ok (.goto (-64), 3) := by decide +kernel
theorem dX9_addWires_81 : decode cX9_addWires 81 = .ok (.aload_n 0, 1) := by decide +kernel
theorem dX9_addWires_82 : decode cX9_addWires 82 = .ok (.getfield 50, 3) := by decide +kernel
theorem dX9_addWires_85 : decode cX9_addWires 85 = .ok (.bipush 41, 2) := by decide +kernel
theorem dX9_addWires_87 : decode cX9_addWires 87 = .ok (.invokevirtual 201, 3) := by decide +kernel
theorem dX9_addWires_90 : decode cX9_addWires 90 = .ok (.return_, 1) := by decide +kernel
theorem dX9_isPlace_0 : decode cX9_isPlace 0 = .ok (.iload_n 0, 1) := by decide +kernel
theorem dX9_isPlace_1 : decode cX9_isPlace 1 = .ok (.ifCond .lt 12, 3) := by decide +kernel
theorem dX9_isPlace_4 : decode cX9_isPlace 4 = .ok (.iload_n 0, 1) := by decide +kernel
theorem dX9_isPlace_5 : decode cX9_isPlace 5 = .ok (.iconst 3, 1) := by decide +kernel
theorem dX9_isPlace_6 : decode cX9_isPlace 6 = .ok (.if_icmp .ge 7, 3) := by decide +kernel
theorem dX9_isPlace_9 : decode cX9_isPlace 9 = .ok (.iconst 1, 1) := by decide +kernel
theorem dX9_isPlace_10 : decode cX9_isPlace 10 = .ok (.goto 4, 3) := by decide +kernel
theorem dX9_isPlace_13 : decode cX9_isPlace 13 = .ok (.iconst 0, 1) := by decide +kernel
theorem dX9_isPlace_14 : decode cX9_isPlace 14 = .ok (.ireturn, 1) := by decide +kernel
theorem dX9_isIn_0 : decode cX9_isIn 0 = .ok (.iload_n 0, 1) := by decide +kernel
theorem dX9_isIn_1 : decode cX9_isIn 1 = .ok (.iload_n 1, 1) := by decide +kernel
theorem dX9_isIn_2 : decode cX9_isIn 2 = .ok (.ishr, 1) := by decide +kernel
theorem dX9_isIn_3 : decode cX9_isIn 3 = .ok (.iconst 1, 1) := by decide +kernel
theorem dX9_isIn_4 : decode cX9_isIn 4 = .ok (.iand, 1) := by decide +kernel
theorem dX9_isIn_5 : decode cX9_isIn 5 = .ok (.iconst 1, 1) := by decide +kernel
theorem dX9_isIn_6 : decode cX9_isIn 6 = .ok (.if_icmp .ne 7, 3) := by decide +kernel
theorem dX9_isIn_9 : decode cX9_isIn 9 = .ok (.iconst 1, 1) := by decide +kernel
theorem dX9_isIn_10 : decode cX9_isIn 10 = .ok (.goto 4, 3) := by decide +kernel
theorem dX9_isIn_13 : decode cX9_isIn 13 = .ok (.iconst 0, 1) := by decide +kernel
theorem dX9_isIn_14 : decode cX9_isIn 14 = .ok (.ireturn, 1) := by decide +kernel
set_option maxRecDepth 20000 in
theorem ggX9_lowestIn_X9_isIn : GoodIn wsX9_lowestIn wsX9_isIn := goodIn_r _ [4] (by decide +kernel) (by decide +kernel)
set_option maxRecDepth 20000 in
theorem gX9_lowestIn_X9_isIn : GoodIn wsX9_lowestIn (va_wsS RX9 347 yX9_isIn wsX9_isIn) := goodIn_app (goodIn_of _ (by decide +kernel)) ggX9_lowestIn_X9_isIn
theorem dX9_lowestIn_0 : decode cX9_lowestIn 0 = .ok (.iconst 0, 1) := by decide +kernel
theorem dX9_lowestIn_1 : decode cX9_lowestIn 1 = .ok (.istore_n 1, 1) := by decide +kernel
theorem dX9_lowestIn_2 : decode cX9_lowestIn 2 = .ok (.iload_n 1, 1) := by decide +kernel
theorem dX9_lowestIn_3 : decode cX9_lowestIn 3 = .ok (.bipush 16, 2) := by decide +kernel
theorem dX9_lowestIn_5 : decode cX9_lowestIn 5 = .ok (.if_icmp .ge 17, 3) := by decide +kernel
theorem dX9_lowestIn_8 : decode cX9_lowestIn 8 = .ok (.iload_n 0, 1) := by decide +kernel
theorem dX9_lowestIn_9 : decode cX9_lowestIn 9 = .ok (.iload_n 1, 1) := by decide +kernel
theorem dX9_lowestIn_10 : decode cX9_lowestIn 10 = .ok (.invokestatic 347, 3) := by decide +kernel
theorem dX9_lowestIn_13 : decode cX9_lowestIn 13 = .ok (.ifCond .ne 9, 3) := by decide +kernel
theorem dX9_lowestIn_16 : decode cX9_lowestIn 16 = .ok (.iinc 1 1, 3) := by decide +kernel
theorem dX9_lowestIn_19 : decode cX9_lowestIn 19 = .ok (.goto (-17), 3) := by decide +kernel
theorem dX9_lowestIn_22 : decode cX9_lowestIn 22 = .ok (.iload_n 1, 1) := by decide +kernel
theorem dX9_lowestIn_23 : decode cX9_lowestIn 23 = .ok (.ireturn, 1) := by decide +kernel
theorem dX9_placesOf_0 : decode cX9_placesOf 0 = .ok (.iload_n 0, 1) := by decide +kernel
theorem dX9_placesOf_1 : decode cX9_placesOf 1 = .ok (.tableswitch 45 1 6 #[39, 43, 43, 41, 43, 39], 39) := by decide +kernel
theorem dX9_placesOf_40 : decode cX9_placesOf 40 = .ok (.iconst 1, 1) := by decide +kernel
theorem dX9_placesOf_41 : decode cX9_placesOf 41 = .ok (.ireturn, 1) := by decide +kernel
theorem dX9_placesOf_42 : decode cX9_placesOf 42 = .ok (.iconst 2, 1) := by decide +kernel
theorem dX9_placesOf_43 : decode cX9_placesOf 43 = .ok (.ireturn, 1) := by decide +kernel
theorem dX9_placesOf_44 : decode cX9_placesOf 44 = .ok (.iconst 3, 1) := by decide +kernel
theorem dX9_placesOf_45 : decode cX9_placesOf 45 = .ok (.ireturn, 1) := by decide +kernel
theorem dX9_placesOf_46 : decode cX9_placesOf 46 = .ok (.iconst 0, 1) := by decide +kernel
theorem dX9_placesOf_47 : decode cX9_placesOf 47 = .ok (.ireturn, 1) := by decide +kernel
theorem dX9_wordOf_0 : decode cX9_wordOf 0 = .ok (.iload_n 0, 1) := by decide +kernel
theorem dX9_wordOf_1 : decode cX9_wordOf 1 = .ok (.tableswitch 63 1 6 #[39, 43, 47, 51, 55, 59], 39) := by decide +kernel
theorem dX9_wordOf_40 : decode cX9_wordOf 40 = .ok (.ldc_w 350, 3) := by decide +kernel
theorem dX9_wordOf_43 : decode cX9_wordOf 43 = .ok (.areturn, 1) := by decide +kernel
theorem dX9_wordOf_44 : decode cX9_wordOf 44 = .ok (.ldc_w 352, 3) := by decide +kernel
theorem dX9_wordOf_47 : decode cX9_wordOf 47 = .ok (.areturn, 1) := by decide +kernel
theorem dX9_wordOf_48 : decode cX9_wordOf 48 = .ok (.ldc_w 354, 3) := by decide +kernel
theorem dX9_wordOf_51 : decode cX9_wordOf 51 = .ok (.areturn, 1) := by decide +kernel
theorem dX9_wordOf_52 : decode cX9_wordOf 52 = .ok (.ldc_w 356, 3) := by decide +kernel
theorem dX9_wordOf_55 : decode cX9_wordOf 55 = .ok (.areturn, 1) := by decide +kernel
theorem dX9_wordOf_56 : decode cX9_wordOf 56 = .ok (.ldc_w 358, 3) := by decide +kernel
theorem dX9_wordOf_59 : decode cX9_wordOf 59 = .ok (.areturn, 1) := by decide +kernel
theorem dX9_wordOf_60 : decode cX9_wordOf 60 = .ok (.ldc_w 360, 3) := by decide +kernel
theorem dX9_wordOf_63 : decode cX9_wordOf 63 = .ok (.areturn, 1) := by decide +kernel
theorem dX9_wordOf_64 : decode cX9_wordOf 64 = .ok (.ldc_w 362, 3) := by decide +kernel
theorem dX9_wordOf_67 : decode cX9_wordOf 67 = .ok (.areturn, 1) := by decide +kernel
theorem dX10_init_0 : decode cX10_init 0 = .ok (.aload_n 0, 1) := by decide +kernel
theorem dX10_init_1 : decode cX10_init 1 = .ok (.invokespecial 3, 3) := by decide +kernel
theorem dX10_init_4 : decode cX10_init 4 = .ok (.aload_n 0, 1) := by decide +kernel
theorem dX10_init_5 : decode cX10_init 5 = .ok (.sipush 133, 3) := by decide +kernel
theorem dX10_init_8 : decode cX10_init 8 = .ok (.newarray .int, 2) := by decide +kernel
theorem dX10_init_10 : decode cX10_init 10 = .ok (.putfield 9, 3) := by decide +kernel
theorem dX10_init_13 : decode cX10_init 13 = .ok (.aload_n 0, 1) := by decide +kernel
theorem dX10_init_14 : decode cX10_init 14 = .ok (.sipush 133, 3) := by decide +kernel
theorem dX10_init_17 : decode cX10_init 17 = .ok (.newarray .int, 2) := by decide +kernel
theorem dX10_init_19 : decode cX10_init 19 = .ok (.putfield 13, 3) := by decide +kernel
theorem dX10_init_22 : decode cX10_init 22 = .ok (.aload_n 0, 1) := by decide +kernel
theorem dX10_init_23 : decode cX10_init 23 = .ok (.sipush 133, 3) := by decide +kernel
theorem dX10_init_26 : decode cX10_init 26 = .ok (.newarray .int, 2) := by decide +kernel
theorem dX10_init_28 : decode cX10_init 28 = .ok (.putfield 16, 3) := by decide +kernel
theorem dX10_init_31 : decode cX10_init 31 = .ok (.aload_n 0, 1) := by decide +kernel
theorem dX10_init_32 : decode cX10_init 32 = .ok (.sipush 1064, 3) := by decide +kernel
theorem dX10_init_35 : decode cX10_init 35 = .ok (.newarray .int, 2) := by decide +kernel
theorem dX10_init_37 : decode cX10_init 37 = .ok (.putfield 19, 3) := by decide +kernel
theorem dX10_init_40 : decode cX10_init 40 = .ok (.aload_n 0, 1) := by decide +kernel
theorem dX10_init_41 : decode cX10_init 41 = .ok (.sipush 133, 3) := by decide +kernel
theorem dX10_init_44 : decode cX10_init 44 = .ok (.newarray .int, 2) := by decide +kernel
theorem dX10_init_46 : decode cX10_init 46 = .ok (.putfield 22, 3) := by decide +kernel
theorem dX10_init_49 : decode cX10_init 49 = .ok (.aload_n 0, 1) := by decide +kernel
theorem dX10_init_50 : decode cX10_init 50 = .ok (.bipush 16, 2) := by decide +kernel
theorem dX10_init_52 : decode cX10_init 52 = .ok (.newarray .int, 2) := by decide +kernel
theorem dX10_init_54 : decode cX10_init 54 = .ok (.putfield 25, 3) := by decide +kernel
theorem dX10_init_57 : decode cX10_init 57 = .ok (.aload_n 0, 1) := by decide +kernel
theorem dX10_init_58 : decode cX10_init 58 = .ok (.bipush 16, 2) := by decide +kernel
theorem dX10_init_60 : decode cX10_init 60 = .ok (.newarray .int, 2) := by decide +kernel
theorem dX10_init_62 : decode cX10_init 62 = .ok (.putfield 28, 3) := by decide +kernel
theorem dX10_init_65 : decode cX10_init 65 = .ok (.aload_n 0, 1) := by decide +kernel
theorem dX10_init_66 : decode cX10_init 66 = .ok (.bipush 16, 2) := by decide +kernel
theorem dX10_init_68 : decode cX10_init 68 = .ok (.newarray .int, 2) := by decide +kernel
theorem dX10_init_70 : decode cX10_init 70 = .ok (.putfield 31, 3) := by decide +kernel
theorem dX10_init_73 : decode cX10_init 73 = .ok (.aload_n 0, 1) := by decide +kernel
theorem dX10_init_74 : decode cX10_init 74 = .ok (.sipush 257, 3) := by decide +kernel
theorem dX10_init_77 : decode cX10_init 77 = .ok (.newarray .int, 2) := by decide +kernel
theorem dX10_init_79 : decode cX10_init 79 = .ok (.putfield 34, 3) := by decide +kernel
theorem dX10_init_82 : decode cX10_init 82 = .ok (.aload_n 0, 1) := by decide +kernel
theorem dX10_init_83 : decode cX10_init 83 = .ok (.sipush 257, 3) := by decide +kernel
theorem dX10_init_86 : decode cX10_init 86 = .ok (.newarray .int, 2) := by decide +kernel
theorem dX10_init_88 : decode cX10_init 88 = .ok (.putfield 37, 3) := by decide +kernel
theorem dX10_init_91 : decode cX10_init 91 = .ok (.aload_n 0, 1) := by decide +kernel
theorem dX10_init_92 : decode cX10_init 92 = .ok (.sipush 257, 3) := by decide +kernel
theorem dX10_init_95 : decode cX10_init 95 = .ok (.newarray .int, 2) := by decide +kernel
theorem dX10_init_97 : decode cX10_init 97 = .ok (.putfield 40, 3) := by decide +kernel
theorem dX10_init_100 : decode cX10_init 100 = .ok (.aload_n 0, 1) := by decide +kernel
theorem dX10_init_101 : decode cX10_init 101 = .ok (.bipush 40, 2) := by decide +kernel
theorem dX10_init_103 : decode cX10_init 103 = .ok (.newarray .int, 2) := by decide +kernel
theorem dX10_init_105 : decode cX10_init 105 = .ok (.putfield 43, 3) := by decide +kernel
theorem dX10_init_108 : decode cX10_init 108 = .ok (.aload_n 0, 1) := by decide +kernel
theorem dX10_init_109 : decode cX10_init 109 = .ok (.bipush 60, 2) := by decide +kernel
theorem dX10_init_111 : decode cX10_init 111 = .ok (.newarray .char, 2) := by decide +kernel
theorem dX10_init_113 : decode cX10_init 113 = .ok (.putfield 46, 3) := by decide +kernel
theorem dX10_init_116 : decode cX10_init 116 = .ok (.aload_n 0, 1) := by decide +kernel
theorem dX10_init_117 : decode cX10_init 117 = .ok (.iconst 3, 1) := by decide +kernel
theorem dX10_init_118 : decode cX10_init 118 = .ok (.newarray .int, 2) := by decide +kernel
theorem dX10_init_120 : decode cX10_init 120 = .ok (.putfield 50, 3) := by decide +kernel
theorem dX10_init_123 : decode cX10_init 123 = .ok (.aload_n 0, 1) := by decide +kernel
theorem dX10_init_124 : decode cX10_init 124 = .ok (.iconst 4, 1) := by decide +kernel
theorem dX10_init_125 : decode cX10_init 125 = .ok (.newarray .int, 2) := by decide +kernel
theorem dX10_init_127 : decode cX10_init 127 = .ok (.putfield 53, 3) := by decide +kernel
theorem dX10_init_130 : decode cX10_init 130 = .ok (.aload_n 0, 1) := by decide +kernel
theorem dX10_init_131 : decode cX10_init 131 = .ok (.iconst 4, 1) := by decide +kernel
theorem dX10_init_132 : decode cX10_init 132 = .ok (.newarray .int, 2) := by decide +kernel
theorem dX10_init_134 : decode cX10_init 134 = .ok (.putfield 56, 3) := by decide +kernel
theorem dX10_init_137 : decode cX10_init 137 = .ok (.aload_n 0, 1) := by decide +kernel
theorem dX10_init_138 : decode cX10_init 138 = .ok (.getfield 9, 3) := by decide +kernel
theorem dX10_init_141 : decode cX10_init 141 = .ok (.iconst 1, 1) := by decide +kernel
theorem dX10_init_142 : decode cX10_init 142 = .ok (.iconst 1, 1) := by decide +kernel
theorem dX10_init_143 : decode cX10_init 143 = .ok (.iastore, 1) := by decide +kernel
theorem dX10_init_144 : decode cX10_init 144 = .ok (.return_, 1) := by decide +kernel
theorem dX10_in_0 : decode cX10_in 0 = .ok (.iload_n 0, 1) := by decide +kernel
theorem dX10_in_1 : decode cX10_in 1 = .ok (.iload_n 1, 1) := by decide +kernel
theorem dX10_in_2 : decode cX10_in 2 = .ok (.if_icmp .lt 12, 3) := by decide +kernel
theorem dX10_in_5 : decode cX10_in 5 = .ok (.iload_n 0, 1) := by decide +kernel
theorem dX10_in_6 : decode cX10_in 6 = .ok (.iload_n 2, 1) := by decide +kernel
theorem dX10_in_7 : decode cX10_in 7 = .ok (.if_icmp .gt 7, 3) := by decide +kernel
theorem dX10_in_10 : decode cX10_in 10 = .ok (.iconst 1, 1) := by decide +kernel
theorem dX10_in_11 : decode cX10_in 11 = .ok (.goto 4, 3) := by decide +kernel
theorem dX10_in_14 : decode cX10_in 14 = .ok (.iconst 0, 1) := by decide +kernel
theorem dX10_in_15 : decode cX10_in 15 = .ok (.ireturn, 1) := by decide +kernel
theorem dX10_tries_0 : decode cX10_tries 0 = .ok (.iconst 0, 1) := by decide +kernel
theorem dX10_tries_1 : decode cX10_tries 1 = .ok (.istore_n 1, 1) := by decide +kernel
theorem dX10_tries_2 : decode cX10_tries 2 = .ok (.iload_n 1, 1) := by decide +kernel
theorem dX10_tries_3 : decode cX10_tries 3 = .ok (.sipush 133, 3) := by decide +kernel
theorem dX10_tries_6 : decode cX10_tries 6 = .ok (.if_icmp .ge 21, 3) := by decide +kernel
theorem dX10_tries_9 : decode cX10_tries 9 = .ok (.aload_n 0, 1) := by decide +kernel
theorem dX10_tries_10 : decode cX10_tries 10 = .ok (.getfield 13, 3) := by decide +kernel
theorem dX10_tries_13 : decode cX10_tries 13 = .ok (.iload_n 1, 1) := by decide +kernel
theorem dX10_tries_14 : decode cX10_tries 14 = .ok (.aload_n 0, 1) := by decide +kernel
theorem dX10_tries_15 : decode cX10_tries 15 = .ok (.getfield 9, 3) := by decide +kernel
theorem dX10_tries_18 : decode cX10_tries 18 = .ok (.iload_n 1, 1) := by decide +kernel
theorem dX10_tries_19 : decode cX10_tries 19 = .ok (.iaload, 1) := by decide +kernel
theorem dX10_tries_20 : decode cX10_tries 20 = .ok (.iastore, 1) := by decide +kernel
theorem dX10_tries_21 : decode cX10_tries 21 = .ok (.iinc 1 1, 3) := by decide +kernel
theorem dX10_tries_24 : decode cX10_tries 24 = .ok (.goto (-22), 3) := by decide +kernel
theorem dX10_tries_27 : decode cX10_tries 27 = .ok (.return_, 1) := by decide +kernel
theorem dX10_comesBack_0 : decode cX10_comesBack 0 = .ok (.iconst 0, 1) := by decide +kernel
theorem dX10_comesBack_1 : decode cX10_comesBack 1 = .ok (.istore_n 1, 1) := by decide +kernel
theorem dX10_comesBack_2 : decode cX10_comesBack 2 = .ok (.iload_n 1, 1) := by decide +kernel
theorem dX10_comesBack_3 : decode cX10_comesBack 3 = .ok (.sipush 133, 3) := by decide +kernel
theorem dX10_comesBack_6 : decode cX10_comesBack 6 = .ok (.if_icmp .ge 21, 3) := by decide +kernel
theorem dX10_comesBack_9 : decode cX10_comesBack 9 = .ok (.aload_n 0, 1) := by decide +kernel
theorem dX10_comesBack_10 : decode cX10_comesBack 10 = .ok (.getfield 9, 3) := by decide +kernel
theorem dX10_comesBack_13 : decode cX10_comesBack 13 = .ok (.iload_n 1, 1) := by decide +kernel
theorem dX10_comesBack_14 : decode cX10_comesBack 14 = .ok (.aload_n 0, 1) := by decide +kernel
theorem dX10_comesBack_15 : decode cX10_comesBack 15 = .ok (.getfield 13, 3) := by decide +kernel
theorem dX10_comesBack_18 : decode cX10_comesBack 18 = .ok (.iload_n 1, 1) := by decide +kernel
theorem dX10_comesBack_19 : decode cX10_comesBack 19 = .ok (.iaload, 1) := by decide +kernel
theorem dX10_comesBack_20 : decode cX10_comesBack 20 = .ok (.iastore, 1) := by decide +kernel
theorem dX10_comesBack_21 : decode cX10_comesBack 21 = .ok (.iinc 1 1, 3) := by decide +kernel
theorem dX10_comesBack_24 : decode cX10_comesBack 24 = .ok (.goto (-22), 3) := by decide +kernel
theorem dX10_comesBack_27 : decode cX10_comesBack 27 = .ok (.return_, 1) := by decide +kernel
theorem dX10_thinks_0 : decode cX10_thinks 0 = .ok (.iconst 0, 1) := by decide +kernel
theorem dX10_thinks_1 : decode cX10_thinks 1 = .ok (.istore_n 1, 1) := by decide +kernel
theorem dX10_thinks_2 : decode cX10_thinks 2 = .ok (.iload_n 1, 1) := by decide +kernel
theorem dX10_thinks_3 : decode cX10_thinks 3 = .ok (.sipush 133, 3) := by decide +kernel
theorem dX10_thinks_6 : decode cX10_thinks 6 = .ok (.if_icmp .ge 21, 3) := by decide +kernel
theorem dX10_thinks_9 : decode cX10_thinks 9 = .ok (.aload_n 0, 1) := by decide +kernel
theorem dX10_thinks_10 : decode cX10_thinks 10 = .ok (.getfield 16, 3) := by decide +kernel
theorem dX10_thinks_13 : decode cX10_thinks 13 = .ok (.iload_n 1, 1) := by decide +kernel
theorem dX10_thinks_14 : decode cX10_thinks 14 = .ok (.aload_n 0, 1) := by decide +kernel
theorem dX10_thinks_15 : decode cX10_thinks 15 = .ok (.getfield 9, 3) := by decide +kernel
theorem dX10_thinks_18 : decode cX10_thinks 18 = .ok (.iload_n 1, 1) := by decide +kernel
theorem dX10_thinks_19 : decode cX10_thinks 19 = .ok (.iaload, 1) := by decide +kernel
theorem dX10_thinks_20 : decode cX10_thinks 20 = .ok (.iastore, 1) := by decide +kernel
theorem dX10_thinks_21 : decode cX10_thinks 21 = .ok (.iinc 1 1, 3) := by decide +kernel
theorem dX10_thinks_24 : decode cX10_thinks 24 = .ok (.goto (-22), 3) := by decide +kernel
theorem dX10_thinks_27 : decode cX10_thinks 27 = .ok (.return_, 1) := by decide +kernel
theorem dX10_thinksNoMore_0 : decode cX10_thinksNoMore 0 = .ok (.iconst 0, 1) := by decide +kernel
theorem dX10_thinksNoMore_1 : decode cX10_thinksNoMore 1 = .ok (.istore_n 1, 1) := by decide +kernel
theorem dX10_thinksNoMore_2 : decode cX10_thinksNoMore 2 = .ok (.iload_n 1, 1) := by decide +kernel
theorem dX10_thinksNoMore_3 : decode cX10_thinksNoMore 3 = .ok (.sipush 133, 3) := by decide +kernel
theorem dX10_thinksNoMore_6 : decode cX10_thinksNoMore 6 = .ok (.if_icmp .ge 21, 3) := by decide +kernel
theorem dX10_thinksNoMore_9 : decode cX10_thinksNoMore 9 = .ok (.aload_n 0, 1) := by decide +kernel
theorem dX10_thinksNoMore_10 : decode cX10_thinksNoMore 10 = .ok (.getfield 9, 3) := by decide +kernel
theorem dX10_thinksNoMore_13 : decode cX10_thinksNoMore 13 = .ok (.iload_n 1, 1) := by decide +kernel
theorem dX10_thinksNoMore_14 : decode cX10_thinksNoMore 14 = .ok (.aload_n 0, 1) := by decide +kernel
theorem dX10_thinksNoMore_15 : decode cX10_thinksNoMore 15 = .ok (.getfield 16, 3) := by decide +kernel
theorem dX10_thinksNoMore_18 : decode cX10_thinksNoMore 18 = .ok (.iload_n 1, 1) := by decide +kernel
theorem dX10_thinksNoMore_19 : decode cX10_thinksNoMore 19 = .ok (.iaload, 1) := by decide +kernel
theorem dX10_thinksNoMore_20 : decode cX10_thinksNoMore 20 = .ok (.iastore, 1) := by decide +kernel
theorem dX10_thinksNoMore_21 : decode cX10_thinksNoMore 21 = .ok (.iinc 1 1, 3) := by decide +kernel
theorem dX10_thinksNoMore_24 : decode cX10_thinksNoMore 24 = .ok (.goto (-22), 3) := by decide +kernel
theorem dX10_thinksNoMore_27 : decode cX10_thinksNoMore 27 = .ok (.return_, 1) := by decide +kernel
theorem dX10_keeps_0 : decode cX10_keeps 0 = .ok (.aload_n 0, 1) := by decide +kernel
theorem dX10_keeps_1 : decode cX10_keeps 1 = .ok (.getfield 59, 3) := by decide +kernel
theorem dX10_keeps_4 : decode cX10_keeps 4 = .ok (.bipush 8, 2) := by decide +kernel
theorem dX10_keeps_6 : decode cX10_keeps 6 = .ok (.if_icmp .ne 44, 3) := by decide +kernel
theorem dX10_keeps_9 : decode cX10_keeps 9 = .ok (.iconst 0, 1) := by decide +kernel
theorem dX10_keeps_10 : decode cX10_keeps 10 = .ok (.istore_n 2, 1) := by decide +kernel
theorem dX10_keeps_11 : decode cX10_keeps 11 = .ok (.iload_n 2, 1) := by decide +kernel
theorem dX10_keeps_12 : decode cX10_keeps 12 = .ok (.sipush 931, 3) := by decide +kernel
theorem dX10_keeps_15 : decode cX10_keeps 15 = .ok (.if_icmp .ge 25, 3) := by decide +kernel
theorem dX10_keeps_18 : decode cX10_keeps 18 = .ok (.aload_n 0, 1) := by decide +kernel
theorem dX10_keeps_19 : decode cX10_keeps 19 = .ok (.getfield 19, 3) := by decide +kernel
theorem dX10_keeps_22 : decode cX10_keeps 22 = .ok (.iload_n 2, 1) := by decide +kernel
theorem dX10_keeps_23 : decode cX10_keeps 23 = .ok (.aload_n 0, 1) := by decide +kernel
theorem dX10_keeps_24 : decode cX10_keeps 24 = .ok (.getfield 19, 3) := by decide +kernel
theorem dX10_keeps_27 : decode cX10_keeps 27 = .ok (.sipush 133, 3) := by decide +kernel
theorem dX10_keeps_30 : decode cX10_keeps 30 = .ok (.iload_n 2, 1) := by decide +kernel
theorem dX10_keeps_31 : decode cX10_keeps 31 = .ok (.iadd, 1) := by decide +kernel
theorem dX10_keeps_32 : decode cX10_keeps 32 = .ok (.iaload, 1) := by decide +kernel
theorem dX10_keeps_33 : decode cX10_keeps 33 = .ok (.iastore, 1) := by decide +kernel
theorem dX10_keeps_34 : decode cX10_keeps 34 = .ok (.iinc 2 1, 3) := by decide +kernel
theorem dX10_keeps_37 : decode cX10_keeps 37 = .ok (.goto (-26), 3) := by decide +kernel
theorem dX10_keeps_40 : decode cX10_keeps 40 = .ok (.aload_n 0, 1) := by decide +kernel
theorem dX10_keeps_41 : decode cX10_keeps 41 = .ok (.dup, 1) := by decide +kernel
theorem dX10_keeps_42 : decode cX10_keeps 42 = .ok (.getfield 59, 3) := by decide +kernel
theorem dX10_keeps_45 : decode cX10_keeps 45 = .ok (.iconst 1, 1) := by decide +kernel
theorem dX10_keeps_46 : decode cX10_keeps 46 = .ok (.isub, 1) := by decide +kernel
theorem dX10_keeps_47 : decode cX10_keeps 47 = .ok (.putfield 59, 3) := by decide +kernel
theorem dX10_keeps_50 : decode cX10_keeps 50 = .ok (.iconst 0, 1) := by decide +kernel
theorem dX10_keeps_51 : decode cX10_keeps 51 = .ok (.istore_n 2, 1) := by decide +kernel
theorem dX10_keeps_52 : decode cX10_keeps 52 = .ok (.iload_n 2, 1) := by decide +kernel
theorem dX10_keeps_53 : decode cX10_keeps 53 = .ok (.sipush 133, 3) := by decide +kernel
theorem dX10_keeps_56 : decode cX10_keeps 56 = .ok (.if_icmp .ge 30, 3) := by decide +kernel
theorem dX10_keeps_59 : decode cX10_keeps 59 = .ok (.aload_n 0, 1) := by decide +kernel
theorem dX10_keeps_60 : decode cX10_keeps 60 = .ok (.getfield 19, 3) := by decide +kernel
theorem dX10_keeps_63 : decode cX10_keeps 63 = .ok (.sipush 133, 3) := by decide +kernel
theorem dX10_keeps_66 : decode cX10_keeps 66 = .ok (.aload_n 0, 1) := by decide +kernel
theorem dX10_keeps_67 : decode cX10_keeps 67 = .ok (.getfield 59, 3) := by decide +kernel
theorem dX10_keeps_70 : decode cX10_keeps 70 = .ok (.imul, 1) := by decide +kernel
theorem dX10_keeps_71 : decode cX10_keeps 71 = .ok (.iload_n 2, 1) := by decide +kernel
theorem dX10_keeps_72 : decode cX10_keeps 72 = .ok (.iadd, 1) := by decide +kernel
theorem dX10_keeps_73 : decode cX10_keeps 73 = .ok (.aload_n 0, 1) := by decide +kernel
theorem dX10_keeps_74 : decode cX10_keeps 74 = .ok (.getfield 13, 3) := by decide +kernel
theorem dX10_keeps_77 : decode cX10_keeps 77 = .ok (.iload_n 2, 1) := by decide +kernel
theorem dX10_keeps_78 : decode cX10_keeps 78 = .ok (.iaload, 1) := by decide +kernel
theorem dX10_keeps_79 : decode cX10_keeps 79 = .ok (.iastore, 1) := by decide +kernel
theorem dX10_keeps_80 : decode cX10_keeps 80 = .ok (.iinc 2 1, 3) := by decide +kernel
theorem dX10_keeps_83 : decode cX10_keeps 83 = .ok (.goto (-31), 3) := by decide +kernel
theorem dX10_keeps_86 : decode cX10_keeps 86 = .ok (.aload_n 0, 1) := by decide +kernel
theorem dX10_keeps_87 : decode cX10_keeps 87 = .ok (.dup, 1) := by decide +kernel
theorem dX10_keeps_88 : decode cX10_keeps 88 = .ok (.getfield 59, 3) := by decide +kernel
theorem dX10_keeps_91 : decode cX10_keeps 91 = .ok (.iconst 1, 1) := by decide +kernel
theorem dX10_keeps_92 : decode cX10_keeps 92 = .ok (.iadd, 1) := by decide +kernel
theorem dX10_keeps_93 : decode cX10_keeps 93 = .ok (.putfield 59, 3) := by decide +kernel
theorem dX10_keeps_96 : decode cX10_keeps 96 = .ok (.iload_n 1, 1) := by decide +kernel
theorem dX10_keeps_97 : decode cX10_keeps 97 = .ok (.ireturn, 1) := by decide +kernel
theorem dX10_refuses_0 : decode cX10_refuses 0 = .ok (.aload_n 0, 1) := by decide +kernel
theorem dX10_refuses_1 : decode cX10_refuses 1 = .ok (.getfield 53, 3) := by decide +kernel
theorem dX10_refuses_4 : decode cX10_refuses 4 = .ok (.iconst 0, 1) := by decide +kernel
theorem dX10_refuses_5 : decode cX10_refuses 5 = .ok (.iload_n 1, 1) := by decide +kernel
theorem dX10_refuses_6 : decode cX10_refuses 6 = .ok (.iastore, 1) := by decide +kernel
theorem dX10_refuses_7 : decode cX10_refuses 7 = .ok (.aload_n 0, 1) := by decide +kernel
theorem dX10_refuses_8 : decode cX10_refuses 8 = .ok (.getfield 56, 3) := by decide +kernel
theorem dX10_refuses_11 : decode cX10_refuses 11 = .ok (.iconst 0, 1) := by decide +kernel
theorem dX10_refuses_12 : decode cX10_refuses 12 = .ok (.iload_n 2, 1) := by decide +kernel
theorem dX10_refuses_13 : decode cX10_refuses 13 = .ok (.iastore, 1) := by decide +kernel
theorem dX10_refuses_14 : decode cX10_refuses 14 = .ok (.aload_n 0, 1) := by decide +kernel
theorem dX10_refuses_15 : decode cX10_refuses 15 = .ok (.iconst 1, 1) := by decide +kernel
theorem dX10_refuses_16 : decode cX10_refuses 16 = .ok (.putfield 63, 3) := by decide +kernel
theorem dX10_refuses_19 : decode cX10_refuses 19 = .ok (.bipush (-14), 2) := by decide +kernel
theorem dX10_refuses_21 : decode cX10_refuses 21 = .ok (.ireturn, 1) := by decide +kernel
theorem dX10_behind_0 : decode cX10_behind 0 = .ok (.aload_n 0, 1) := by decide +kernel
theorem dX10_behind_1 : decode cX10_behind 1 = .ok (.getfield 53, 3) := by decide +kernel
theorem dX10_behind_4 : decode cX10_behind 4 = .ok (.aload_n 0, 1) := by decide +kernel
theorem dX10_behind_5 : decode cX10_behind 5 = .ok (.getfield 63, 3) := by decide +kernel
theorem dX10_behind_8 : decode cX10_behind 8 = .ok (.iload_n 1, 1) := by decide +kernel
theorem dX10_behind_9 : decode cX10_behind 9 = .ok (.iastore, 1) := by decide +kernel
theorem dX10_behind_10 : decode cX10_behind 10 = .ok (.aload_n 0, 1) := by decide +kernel
theorem dX10_behind_11 : decode cX10_behind 11 = .ok (.getfield 56, 3) := by decide +kernel
theorem dX10_behind_14 : decode cX10_behind 14 = .ok (.aload_n 0, 1) := by decide +kernel
theorem dX10_behind_15 : decode cX10_behind 15 = .ok (.getfield 63, 3) := by decide +kernel
theorem dX10_behind_18 : decode cX10_behind 18 = .ok (.iload_n 2, 1) := by decide +kernel
theorem dX10_behind_19 : decode cX10_behind 19 = .ok (.iastore, 1) := by decide +kernel
theorem dX10_behind_20 : decode cX10_behind 20 = .ok (.aload_n 0, 1) := by decide +kernel
theorem dX10_behind_21 : decode cX10_behind 21 = .ok (.dup, 1) := by decide +kernel
theorem dX10_behind_22 : decode cX10_behind 22 = .ok (.getfield 63, 3) := by decide +kernel
theorem dX10_behind_25 : decode cX10_behind 25 = .ok (.iconst 1, 1) := by decide +kernel
theorem dX10_behind_26 : decode cX10_behind 26 = .ok (.iadd, 1) := by decide +kernel
theorem dX10_behind_27 : decode cX10_behind 27 = .ok (.putfield 63, 3) := by decide +kernel
theorem dX10_behind_30 : decode cX10_behind 30 = .ok (.bipush (-14), 2) := by decide +kernel
theorem dX10_behind_32 : decode cX10_behind 32 = .ok (.ireturn, 1) := by decide +kernel
theorem dX10_does_0 : decode cX10_does 0 = .ok (.aload_n 0, 1) := by decide +kernel
theorem dX10_does_1 : decode cX10_does 1 = .ok (.iload_n 1, 1) := by decide +kernel
theorem dX10_does_2 : decode cX10_does 2 = .ok (.putfield 66, 3) := by decide +kernel
theorem dX10_does_5 : decode cX10_does 5 = .ok (.iconst 0, 1) := by decide +kernel
theorem dX10_does_6 : decode cX10_does 6 = .ok (.ireturn, 1) := by decide +kernel
set_option maxRecDepth 20000 in
theorem ggX10_ends_X10_keeps : GoodIn wsX10_ends wsX10_keeps := goodIn_r _ [6, 7, 8, 9, 10, 11, 12, 13, 14, 15, 16, 17, 18, 19, 20, 21, 22, 23, 24, 25, 26, 27, 28, 29, 30, 31, 32, 33] (by decide +kernel) (by decide +kernel)
set_option maxRecDepth 20000 in
theorem gX10_ends_X10_keeps : GoodIn wsX10_ends (wsV RX10 69 RX10 yX10_keeps wsX10_keeps) := goodIn_app (goodIn_of _ (by decide +kernel)) ggX10_ends_X10_keeps
theorem dX10_ends_0 : decode cX10_ends 0 = .ok (.iload_n 1, 1) := by decide +kernel
theorem dX10_ends_1 : decode cX10_ends 1 = .ok (.ifCond .ne 14, 3) := by decide +kernel
theorem dX10_ends_4 : decode cX10_ends 4 = .ok (.aload_n 0, 1) := by decide +kernel
theorem dX10_ends_5 : decode cX10_ends 5 = .ok (.aload_n 0, 1) := by decide +kernel
theorem dX10_ends_6 : decode cX10_ends 6 = .ok (.getfield 66, 3) := by decide +kernel
theorem dX10_ends_9 : decode cX10_ends 9 = .ok (.invokevirtual 69, 3) := by decide +kernel
theorem dX10_ends_12 : decode cX10_ends 12 = .ok (.goto 4, 3) := by decide +kernel
theorem dX10_ends_15 : decode cX10_ends 15 = .ok (.iload_n 1, 1) := by decide +kernel
theorem dX10_ends_16 : decode cX10_ends 16 = .ok (.ireturn, 1) := by decide +kernel
set_option maxRecDepth 20000 in
theorem ggX10_isLantern_X10_in : GoodIn wsX10_isLantern wsX10_in := goodIn_r _ [5] (by decide +kernel) (by decide +kernel)
set_option maxRecDepth 20000 in
theorem gX10_isLantern_X10_in : GoodIn wsX10_isLantern (va_wsS RX10 73 yX10_in wsX10_in) := goodIn_app (goodIn_of _ (by decide +kernel)) ggX10_isLantern_X10_in
theorem dX10_isLantern_0 : decode cX10_isLantern 0 = .ok (.iload_n 1, 1) := by decide +kernel
theorem dX10_isLantern_1 : decode cX10_isLantern 1 = .ok (.iconst 0, 1) := by decide +kernel
theorem dX10_isLantern_2 : decode cX10_isLantern 2 = .ok (.aload_n 0, 1) := by decide +kernel
theorem dX10_isLantern_3 : decode cX10_isLantern 3 = .ok (.getfield 9, 3) := by decide +kernel
theorem dX10_isLantern_6 : decode cX10_isLantern 6 = .ok (.iconst 0, 1) := by decide +kernel
theorem dX10_isLantern_7 : decode cX10_isLantern 7 = .ok (.iaload, 1) := by decide +kernel
theorem dX10_isLantern_8 : decode cX10_isLantern 8 = .ok (.iconst 1, 1) := by decide +kernel
theorem dX10_isLantern_9 : decode cX10_isLantern 9 = .ok (.isub, 1) := by decide +kernel
theorem dX10_isLantern_10 : decode cX10_isLantern 10 = .ok (.invokestatic 73, 3) := by decide +kernel
theorem dX10_isLantern_13 : decode cX10_isLantern 13 = .ok (.ireturn, 1) := by decide +kernel
theorem dX10_of_0 : decode cX10_of 0 = .ok (.aload_n 0, 1) := by decide +kernel
theorem dX10_of_1 : decode cX10_of 1 = .ok (.getfield 9, 3) := by decide +kernel
theorem dX10_of_4 : decode cX10_of 4 = .ok (.iconst 5, 1) := by decide +kernel
theorem dX10_of_5 : decode cX10_of 5 = .ok (.bipush 8, 2) := by decide +kernel
theorem dX10_of_7 : decode cX10_of 7 = .ok (.iload_n 1, 1) := by decide +kernel
theorem dX10_of_8 : decode cX10_of 8 = .ok (.imul, 1) := by decide +kernel
theorem dX10_of_9 : decode cX10_of 9 = .ok (.iadd, 1) := by decide +kernel
theorem dX10_of_10 : decode cX10_of 10 = .ok (.iload_n 2, 1) := by decide +kernel
theorem dX10_of_11 : decode cX10_of 11 = .ok (.iadd, 1) := by decide +kernel
theorem dX10_of_12 : decode cX10_of 12 = .ok (.iaload, 1) := by decide +kernel
theorem dX10_of_13 : decode cX10_of 13 = .ok (.ireturn, 1) := by decide +kernel
theorem dX10_sets_0 : decode cX10_sets 0 = .ok (.aload_n 0, 1) := by decide +kernel
theorem dX10_sets_1 : decode cX10_sets 1 = .ok (.getfield 9, 3) := by decide +kernel
theorem dX10_sets_4 : decode cX10_sets 4 = .ok (.iconst 5, 1) := by decide +kernel
theorem dX10_sets_5 : decode cX10_sets 5 = .ok (.bipush 8, 2) := by decide +kernel
theorem dX10_sets_7 : decode cX10_sets 7 = .ok (.iload_n 1, 1) := by decide +kernel
theorem dX10_sets_8 : decode cX10_sets 8 = .ok (.imul, 1) := by decide +kernel
theorem dX10_sets_9 : decode cX10_sets 9 = .ok (.iadd, 1) := by decide +kernel
theorem dX10_sets_10 : decode cX10_sets 10 = .ok (.iload_n 2, 1) := by decide +kernel
theorem dX10_sets_11 : decode cX10_sets 11 = .ok (.iadd, 1) := by decide +kernel
theorem dX10_sets_12 : decode cX10_sets 12 = .ok (.iload_n 3, 1) := by decide +kernel
theorem dX10_sets_13 : decode cX10_sets 13 = .ok (.iastore, 1) := by decide +kernel
theorem dX10_sets_14 : decode cX10_sets 14 = .ok (.return_, 1) := by decide +kernel
set_option maxRecDepth 20000 in
theorem ggX10_isSwitch_X10_of : GoodIn wsX10_isSwitch wsX10_of := goodIn_r _ [5, 6, 7, 8, 9, 10, 11, 12, 13, 14, 15, 16, 17, 18, 19, 20, 21, 22, 23, 24, 25, 26, 27, 28, 29, 30] (by decide +kernel) (by decide +kernel)
set_option maxRecDepth 20000 in
theorem gX10_isSwitch_X10_of : GoodIn wsX10_isSwitch (wsV RX10 77 RX10 yX10_of wsX10_of) := goodIn_app (goodIn_of _ (by decide +kernel)) ggX10_isSwitch_X10_of
theorem dX10_isSwitch_0 : decode cX10_isSwitch 0 = .ok (.aload_n 0, 1) := by decide +kernel
theorem dX10_isSwitch_1 : decode cX10_isSwitch 1 = .ok (.iload_n 1, 1) := by decide +kernel
theorem dX10_isSwitch_2 : decode cX10_isSwitch 2 = .ok (.iconst 0, 1) := by decide +kernel
theorem dX10_isSwitch_3 : decode cX10_isSwitch 3 = .ok (.invokevirtual 77, 3) := by decide +kernel
theorem dX10_isSwitch_6 : decode cX10_isSwitch 6 = .ok (.ifCond .ne 7, 3) := by decide +kernel
theorem dX10_isSwitch_9 : decode cX10_isSwitch 9 = .ok (.iconst 1, 1) := by decide +kernel
theorem dX10_isSwitch_10 : decode cX10_isSwitch 10 = .ok (.goto 4, 3) := by decide +kernel
theorem dX10_isSwitch_13 : decode cX10_isSwitch 13 = .ok (.iconst 0, 1) := by decide +kernel
theorem dX10_isSwitch_14 : decode cX10_isSwitch 14 = .ok (.ireturn, 1) := by decide +kernel
set_option maxRecDepth 20000 in
theorem ggX10_places_X10_of : GoodIn wsX10_places wsX10_of := goodIn_r _ [5, 6, 7, 8, 9, 10, 11, 12, 13, 14, 15, 16, 17, 18, 19, 20, 21, 22, 23, 24, 25, 26, 27, 28, 29, 30] (by decide +kernel) (by decide +kernel)
set_option maxRecDepth 20000 in
theorem gX10_places_X10_of : GoodIn wsX10_places (wsV RX10 77 RX10 yX10_of wsX10_of) := goodIn_app (goodIn_of _ (by decide +kernel)) ggX10_places_X10_of
theorem dX10_places_0 : decode cX10_places 0 = .ok (.aload_n 0, 1) := by decide +kernel
theorem dX10_places_1 : decode cX10_places 1 = .ok (.iload_n 1, 1) := by decide +kernel
theorem dX10_places_2 : decode cX10_places 2 = .ok (.iconst 0, 1) := by decide +kernel
theorem dX10_places_3 : decode cX10_places 3 = .ok (.invokevirtual 77, 3) := by decide +kernel
theorem dX10_places_6 : decode cX10_places 6 = .ok (.tableswitch 48 0 6 #[42, 44, 48, 48, 46, 48, 44], 42) := by decide +kernel
theorem dX10_places_48 : decode cX10_places 48 = .ok (.iconst 0, 1) := by decide +kernel
theorem dX10_places_49 : decode cX10_places 49 = .ok (.ireturn, 1) := by decide +kernel
theorem dX10_places_50 : decode cX10_places 50 = .ok (.iconst 1, 1) := by decide +kernel
theorem dX10_places_51 : decode cX10_places 51 = .ok (.ireturn, 1) := by decide +kernel
theorem dX10_places_52 : decode cX10_places 52 = .ok (.iconst 2, 1) := by decide +kernel
theorem dX10_places_53 : decode cX10_places 53 = .ok (.ireturn, 1) := by decide +kernel
theorem dX10_places_54 : decode cX10_places 54 = .ok (.iconst 3, 1) := by decide +kernel
theorem dX10_places_55 : decode cX10_places 55 = .ok (.ireturn, 1) := by decide +kernel
set_option maxRecDepth 20000 in
theorem ggX10_wired_X10_of : GoodIn wsX10_wired wsX10_of := goodIn_r _ [5, 6, 7, 8, 9, 10, 11, 12, 13, 14, 15, 16, 17, 18, 19, 20, 21, 22, 23, 24, 25, 26, 27, 28, 29, 30] (by decide +kernel) (by decide +kernel)
set_option maxRecDepth 20000 in
theorem gX10_wired_X10_of : GoodIn wsX10_wired (wsV RX10 77 RX10 yX10_of wsX10_of) := goodIn_app (goodIn_of _ (by decide +kernel)) ggX10_wired_X10_of
theorem dX10_wired_0 : decode cX10_wired 0 = .ok (.aload_n 0, 1) := by decide +kernel
theorem dX10_wired_1 : decode cX10_wired 1 = .ok (.iload_n 1, 1) := by decide +kernel
theorem dX10_wired_2 : decode cX10_wired 2 = .ok (.iconst 4, 1) := by decide +kernel
theorem dX10_wired_3 : decode cX10_wired 3 = .ok (.iload_n 2, 1) := by decide +kernel
theorem dX10_wired_4 : decode cX10_wired 4 = .ok (.iadd, 1) := by decide +kernel
theorem dX10_wired_5 : decode cX10_wired 5 = .ok (.invokevirtual 77, 3) := by decide +kernel
theorem dX10_wired_8 : decode cX10_wired 8 = .ok (.iconst 1, 1) := by decide +kernel
theorem dX10_wired_9 : decode cX10_wired 9 = .ok (.isub, 1) := by decide +kernel
theorem dX10_wired_10 : decode cX10_wired 10 = .ok (.ireturn, 1) := by decide +kernel
set_option maxRecDepth 20000 in
theorem ggX10_wiresTo_X10_wired : GoodIn wsX10_wiresTo wsX10_wired := goodIn_r _ [5, 6, 7, 8, 4, 9, 10, 11, 12, 13, 14, 15, 16, 17, 18, 19, 20, 21, 22, 23, 24, 25, 26, 27, 28, 29, 30, 31, 32, 33, 34] (by decide +kernel) (by decide +kernel)
set_option maxRecDepth 20000 in
theorem gX10_wiresTo_X10_wired : GoodIn wsX10_wiresTo (wsV RX10 81 RX10 yX10_wired wsX10_wired) := goodIn_app (goodIn_of _ (by decide +kernel)) ggX10_wiresTo_X10_wired
theorem dX10_wiresTo_0 : decode cX10_wiresTo 0 = .ok (.iconst 0, 1) := by decide +kernel
theorem dX10_wiresTo_1 : decode cX10_wiresTo 1 = .ok (.istore_n 2, 1) := by decide +kernel
theorem dX10_wiresTo_2 : decode cX10_wiresTo 2 = .ok (.iconst 0, 1) := by decide +kernel
theorem dX10_wiresTo_3 : decode cX10_wiresTo 3 = .ok (.istore_n 3, 1) := by decide +kernel
theorem dX10_wiresTo_4 : decode cX10_wiresTo 4 = .ok (.iload_n 3, 1) := by decide +kernel
theorem dX10_wiresTo_5 : decode cX10_wiresTo 5 = .ok (.iconst 3, 1) := by decide +kernel
theorem dX10_wiresTo_6 : decode cX10_wiresTo 6 = .ok (.if_icmp .ge 21, 3) := by decide +kernel
theorem dX10_wiresTo_9 : decode cX10_wiresTo 9 = .ok (.aload_n 0, 1) := by decide +kernel
theorem dX10_wiresTo_10 : decode cX10_wiresTo 10 = .ok (.iload_n 1, 1) := by decide +kernel
theorem dX10_wiresTo_11 : decode cX10_wiresTo 11 = .ok (.iload_n 3, 1) := by decide +kernel
theorem dX10_wiresTo_12 : decode cX10_wiresTo 12 = .ok (.invokevirtual 81, 3) := by decide +kernel
theorem dX10_wiresTo_15 : decode cX10_wiresTo 15 = .ok (.ifCond .lt 6, 3) := by decide +kernel
theorem dX10_wiresTo_18 : decode cX10_wiresTo 18 = .ok (.iinc 2 1, 3) := by decide +kernel
theorem dX10_wiresTo_21 : decode cX10_wiresTo 21 = .ok (.iinc 3 1, 3) := by decide +kernel
theorem dX10_wiresTo_24 : decode cX10_wiresTo 24 = .ok (.goto (-20), 3) := by decide +kernel
theorem dX10_wiresTo_27 : decode cX10_wiresTo 27 = .ok (.iload_n 2, 1) := by decide +kernel
theorem dX10_wiresTo_28 : decode cX10_wiresTo 28 = .ok (.ireturn, 1) := by decide +kernel
set_option maxRecDepth 20000 in
theorem ggX10_wiresFrom_X10_wired : GoodIn wsX10_wiresFrom wsX10_wired := goodIn_r _ [6, 7, 8, 9, 5, 10, 1, 11, 12, 13, 14, 15, 16, 17, 18, 19, 20, 21, 22, 23, 24, 25, 26, 27, 28, 29, 30, 31, 32, 33, 34] (by decide +kernel) (by decide +kernel)
set_option maxRecDepth 20000 in
theorem gX10_wiresFrom_X10_wired : GoodIn wsX10_wiresFrom (wsV RX10 81 RX10 yX10_wired wsX10_wired) := goodIn_app (goodIn_of _ (by decide +kernel)) ggX10_wiresFrom_X10_wired
theorem dX10_wiresFrom_0 : decode cX10_wiresFrom 0 = .ok (.iconst 0, 1) := by decide +kernel
theorem dX10_wiresFrom_1 : decode cX10_wiresFrom 1 = .ok (.istore_n 2, 1) := by decide +kernel
theorem dX10_wiresFrom_2 : decode cX10_wiresFrom 2 = .ok (.iconst 0, 1) := by decide +kernel
theorem dX10_wiresFrom_3 : decode cX10_wiresFrom 3 = .ok (.istore_n 3, 1) := by decide +kernel
theorem dX10_wiresFrom_4 : decode cX10_wiresFrom 4 = .ok (.iload_n 3, 1) := by decide +kernel
theorem dX10_wiresFrom_5 : decode cX10_wiresFrom 5 = .ok (.aload_n 0, 1) := by decide +kernel
theorem dX10_wiresFrom_6 : decode cX10_wiresFrom 6 = .ok (.getfield 9, 3) := by decide +kernel
theorem dX10_wiresFrom_9 : decode cX10_wiresFrom 9 = .ok (.iconst 0, 1) := by decide +kernel
theorem dX10_wiresFrom_10 : decode cX10_wiresFrom 10 = .ok (.iaload, 1) := by decide +kernel
theorem dX10_wiresFrom_11 : decode cX10_wiresFrom 11 = .ok (.if_icmp .ge 38, 3) := by decide +kernel
theorem dX10_wiresFrom_14 : decode cX10_wiresFrom 14 = .ok (.iconst 0, 1) := by decide +kernel
theorem dX10_wiresFrom_15 : decode cX10_wiresFrom 15 = .ok (.istore 4, 2) := by decide +kernel
theorem dX10_wiresFrom_17 : decode cX10_wiresFrom 17 = .ok (.iload 4, 2) := by decide +kernel
theorem dX10_wiresFrom_19 : decode cX10_wiresFrom 19 = .ok (.iconst 3, 1) := by decide +kernel
theorem dX10_wiresFrom_20 : decode cX10_wiresFrom 20 = .ok (.if_icmp .ge 23, 3) := by decide +kernel
theorem dX10_wiresFrom_23 : decode cX10_wiresFrom 23 = .ok (.aload_n 0, 1) := by decide +kernel
theorem dX10_wiresFrom_24 : decode cX10_wiresFrom 24 = .ok (.iload_n 3, 1) := by decide +kernel
theorem dX10_wiresFrom_25 : decode cX10_wiresFrom 25 = .ok (.iload 4, 2) := by decide +kernel
theorem dX10_wiresFrom_27 : decode cX10_wiresFrom 27 = .ok (.invokevirtual 81, 3) := by decide +kernel
theorem dX10_wiresFrom_30 : decode cX10_wiresFrom 30 = .ok (.iload_n 1, 1) := by decide +kernel
theorem dX10_wiresFrom_31 : decode cX10_wiresFrom 31 = .ok (.if_icmp .ne 6, 3) := by decide +kernel
theorem dX10_wiresFrom_34 : decode cX10_wiresFrom 34 = .ok (.iinc 2 1, 3) := by decide +kernel
theorem dX10_wiresFrom_37 : decode cX10_wiresFrom 37 = .ok (.iinc 4 1, 3) := by decide +kernel
theorem dX10_wiresFrom_40 : decode cX10_wiresFrom 40 = .ok (.goto (-23), 3) := by decide +kernel
theorem dX10_wiresFrom_43 : decode cX10_wiresFrom 43 = .ok (.iinc 3 1, 3) := by decide +kernel
theorem dX10_wiresFrom_46 : decode cX10_wiresFrom 46 = .ok (.goto (-42), 3) := by decide +kernel
theorem dX10_wiresFrom_49 : decode cX10_wiresFrom 49 = .ok (.iload_n 2, 1) := by decide +kernel
theorem dX10_wiresFrom_50 : decode cX10_wiresFrom 50 = .ok (.ireturn, 1) := by decide +kernel
set_option maxRecDepth 20000 in
theorem ggX10_glowing_X10_of : GoodIn wsX10_glowing wsX10_of := goodIn_r _ [6, 1, 7, 8, 9, 10, 11, 12, 13, 14, 15, 16, 17, 18, 19, 20, 21, 22, 23, 24, 25, 26, 27, 28, 29, 30] (by decide +kernel) (by decide +kernel)
set_option maxRecDepth 20000 in
theorem gX10_glowing_X10_of : GoodIn wsX10_glowing (wsV RX10 77 RX10 yX10_of wsX10_of) := goodIn_app (goodIn_of _ (by decide +kernel)) ggX10_glowing_X10_of
theorem dX10_glowing_0 : decode cX10_glowing 0 = .ok (.iconst 0, 1) := by decide +kernel
theorem dX10_glowing_1 : decode cX10_glowing 1 = .ok (.istore_n 1, 1) := by decide +kernel
theorem dX10_glowing_2 : decode cX10_glowing 2 = .ok (.iconst 0, 1) := by decide +kernel
theorem dX10_glowing_3 : decode cX10_glowing 3 = .ok (.istore_n 2, 1) := by decide +kernel
theorem dX10_glowing_4 : decode cX10_glowing 4 = .ok (.iload_n 2, 1) := by decide +kernel
theorem dX10_glowing_5 : decode cX10_glowing 5 = .ok (.aload_n 0, 1) := by decide +kernel
theorem dX10_glowing_6 : decode cX10_glowing 6 = .ok (.getfield 9, 3) := by decide +kernel
theorem dX10_glowing_9 : decode cX10_glowing 9 = .ok (.iconst 0, 1) := by decide +kernel
theorem dX10_glowing_10 : decode cX10_glowing 10 = .ok (.iaload, 1) := by decide +kernel
theorem dX10_glowing_11 : decode cX10_glowing 11 = .ok (.if_icmp .ge 18, 3) := by decide +kernel
theorem dX10_glowing_14 : decode cX10_glowing 14 = .ok (.iload_n 1, 1) := by decide +kernel
theorem dX10_glowing_15 : decode cX10_glowing 15 = .ok (.aload_n 0, 1) := by decide +kernel
theorem dX10_glowing_16 : decode cX10_glowing 16 = .ok (.iload_n 2, 1) := by decide +kernel
theorem dX10_glowing_17 : decode cX10_glowing 17 = .ok (.iconst 2, 1) := by decide +kernel
theorem dX10_glowing_18 : decode cX10_glowing 18 = .ok (.invokevirtual 77, 3) := by decide +kernel
theorem dX10_glowing_21 : decode cX10_glowing 21 = .ok (.iadd, 1) := by decide +kernel
theorem dX10_glowing_22 : decode cX10_glowing 22 = .ok (.istore_n 1, 1) := by decide +kernel
theorem dX10_glowing_23 : decode cX10_glowing 23 = .ok (.iinc 2 1, 3) := by decide +kernel
theorem dX10_glowing_26 : decode cX10_glowing 26 = .ok (.goto (-22), 3) := by decide +kernel
theorem dX10_glowing_29 : decode cX10_glowing 29 = .ok (.iload_n 1, 1) := by decide +kernel
theorem dX10_glowing_30 : decode cX10_glowing 30 = .ok (.ireturn, 1) := by decide +kernel
set_option maxRecDepth 20000 in
theorem ggX10_reaches_X10_wired : GoodIn wsX10_reaches wsX10_wired := goodIn_r _ [7, 8, 9, 10, 6, 11, 2, 12, 13, 14, 15, 16, 17, 18, 19, 20, 21, 22, 23, 24, 25, 26, 27, 28, 29, 30, 31, 32, 33, 34, 35] (by decide +kernel) (by decide +kernel)
set_option maxRecDepth 20000 in
theorem gX10_reaches_X10_wired : GoodIn wsX10_reaches (wsV RX10 81 RX10 yX10_wired wsX10_wired) := goodIn_app (goodIn_of _ (by decide +kernel)) ggX10_reaches_X10_wired
theorem dX10_reaches_0 : decode cX10_reaches 0 = .ok (.iconst 0, 1) := by decide +kernel
theorem dX10_reaches_1 : decode cX10_reaches 1 = .ok (.istore_n 1, 1) := by decide +kernel
theorem dX10_reaches_2 : decode cX10_reaches 2 = .ok (.iload_n 1, 1) := by decide +kernel
theorem dX10_reaches_3 : decode cX10_reaches 3 = .ok (.bipush 16, 2) := by decide +kernel
theorem dX10_reaches_5 : decode cX10_reaches 5 = .ok (.if_icmp .ge 16, 3) := by decide +kernel
theorem dX10_reaches_8 : decode cX10_reaches 8 = .ok (.aload_n 0, 1) := by decide +kernel
theorem dX10_reaches_9 : decode cX10_reaches 9 = .ok (.getfield 28, 3) := by decide +kernel
theorem dX10_reaches_12 : decode cX10_reaches 12 = .ok (.iload_n 1, 1) := by decide +kernel
theorem dX10_reaches_13 : decode cX10_reaches 13 = .ok (.iconst 0, 1) := by decide +kernel
theorem dX10_reaches_14 : decode cX10_reaches 14 = .ok (.iastore, 1) := by decide +kernel
theorem dX10_reaches_15 : decode cX10_reaches 15 = .ok (.iinc 1 1, 3) := by decide +kernel
theorem dX10_reaches_18 : decode cX10_reaches 18 = .ok (.goto (-16), 3) := by decide +kernel
theorem dX10_reaches_21 : decode cX10_reaches 21 = .ok (.iconst 0, 1) := by decide +kernel
theorem dX10_reaches_22 : decode cX10_reaches 22 = .ok (.istore_n 1, 1) := by decide +kernel
theorem dX10_reaches_23 : decode cX10_reaches 23 = .ok (.iload_n 1, 1) := by decide +kernel
theorem dX10_reaches_24 : decode cX10_reaches 24 = .ok (.aload_n 0, 1) := by decide +kernel
theorem dX10_reaches_25 : decode cX10_reaches 25 = .ok (.getfield 9, 3) := by decide +kernel
theorem dX10_reaches_28 : decode cX10_reaches 28 = .ok (.iconst 0, 1) := by decide +kernel
theorem dX10_reaches_29 : decode cX10_reaches 29 = .ok (.iaload, 1) := by decide +kernel
theorem dX10_reaches_30 : decode cX10_reaches 30 = .ok (.if_icmp .ge 48, 3) := by decide +kernel
theorem dX10_reaches_33 : decode cX10_reaches 33 = .ok (.iconst 0, 1) := by decide +kernel
theorem dX10_reaches_34 : decode cX10_reaches 34 = .ok (.istore_n 2, 1) := by decide +kernel
theorem dX10_reaches_35 : decode cX10_reaches 35 = .ok (.iload_n 2, 1) := by decide +kernel
theorem dX10_reaches_36 : decode cX10_reaches 36 = .ok (.iconst 3, 1) := by decide +kernel
theorem dX10_reaches_37 : decode cX10_reaches 37 = .ok (.if_icmp .ge 35, 3) := by decide +kernel
theorem dX10_reaches_40 : decode cX10_reaches 40 = .ok (.aload_n 0, 1) := by decide +kernel
theorem dX10_reaches_41 : decode cX10_reaches 41 = .ok (.iload_n 1, 1) := by decide +kernel
theorem dX10_reaches_42 : decode cX10_reaches 42 = .ok (.iload_n 2, 1) := by decide +kernel
theorem dX10_reaches_43 : decode cX10_reaches 43 = .ok (.invokevirtual 81, 3) := by decide +kernel
theorem dX10_reaches_46 : decode cX10_reaches 46 = .ok (.ifCond .lt 20, 3) := by decide +kernel
theorem dX10_reaches_49 : decode cX10_reaches 49 = .ok (.aload_n 0, 1) := by decide +kernel
theorem dX10_reaches_50 : decode cX10_reaches 50 = .ok (.getfield 28, 3) := by decide +kernel
theorem dX10_reaches_53 : decode cX10_reaches 53 = .ok (.aload_n 0, 1) := by decide +kernel
theorem dX10_reaches_54 : decode cX10_reaches 54 = .ok (.iload_n 1, 1) := by decide +kernel
theorem dX10_reaches_55 : decode cX10_reaches 55 = .ok (.iload_n 2, 1) := by decide +kernel
theorem dX10_reaches_56 : decode cX10_reaches 56 = .ok (.invokevirtual 81, 3) := by decide +kernel
theorem dX10_reaches_59 : decode cX10_reaches 59 = .ok (.dup2, 1) := by decide +kernel
theorem dX10_reaches_60 : decode cX10_reaches 60 = .ok (.iaload, 1) := by decide +kernel
theorem dX10_reaches_61 : decode cX10_reaches 61 = .ok (.iconst 1, 1) := by decide +kernel
theorem dX10_reaches_62 : decode cX10_reaches 62 = .ok (.iload_n 1, 1) := by decide +kernel
theorem dX10_reaches_63 : decode cX10_reaches 63 = .ok (.ishl, 1) := by decide +kernel
theorem dX10_reaches_64 : decode cX10_reaches 64 = .ok (.ior, 1) := by decide +kernel
theorem dX10_reaches_65 : decode cX10_reaches 65 = .ok (.iastore, 1) := by decide +kernel
theorem dX10_reaches_66 : decode cX10_reaches 66 = .ok (.iinc 2 1, 3) := by decide +kernel
theorem dX10_reaches_69 : decode cX10_reaches 69 = .ok (.goto (-34), 3) := by decide +kernel
theorem dX10_reaches_72 : decode cX10_reaches 72 = .ok (.iinc 1 1, 3) := by decide +kernel
theorem dX10_reaches_75 : decode cX10_reaches 75 = .ok (.goto (-52), 3) := by decide +kernel
theorem dX10_reaches_78 : decode cX10_reaches 78 = .ok (.iconst 1, 1) := by decide +kernel
theorem dX10_reaches_79 : decode cX10_reaches 79 = .ok (.istore_n 1, 1) := by decide +kernel
theorem dX10_reaches_80 : decode cX10_reaches 80 = .ok (.iload_n 1, 1) := by decide +kernel
theorem dX10_reaches_81 : decode cX10_reaches 81 = .ok (.ifCond .eq 103, 3) := by decide +kernel
theorem dX10_reaches_84 : decode cX10_reaches 84 = .ok (.iconst 0, 1) := by decide +kernel
theorem dX10_reaches_85 : decode cX10_reaches 85 = .ok (.istore_n 1, 1) := by decide +kernel
theorem dX10_reaches_86 : decode cX10_reaches 86 = .ok (.iconst 0, 1) := by decide +kernel
theorem dX10_reaches_87 : decode cX10_reaches 87 = .ok (.istore_n 2, 1) := by decide +kernel
theorem dX10_reaches_88 : decode cX10_reaches 88 = .ok (.iload_n 2, 1) := by decide +kernel
theorem dX10_reaches_89 : decode cX10_reaches 89 = .ok (.aload_n 0, 1) := by decide +kernel
theorem dX10_reaches_90 : decode cX10_reaches 90 = .ok (.getfield 9, 3) := by decide +kernel
theorem dX10_reaches_93 : decode cX10_reaches 93 = .ok (.iconst 0, 1) := by decide +kernel
theorem dX10_reaches_94 : decode cX10_reaches 94 = .ok (.iaload, 1) := by decide +kernel
theorem dX10_reaches_95 : decode cX10_reaches 95 = .ok (.if_icmp .ge 86, 3) := by decide +kernel
theorem dX10_reaches_98 : decode cX10_reaches 98 = .ok (.aload_n 0, 1) := by decide +kernel
theorem dX10_reaches_99 : decode cX10_reaches 99 = .ok (.getfield 28, 3) := by decide +kernel
theorem dX10_reaches_102 : decode cX10_reaches 102 = .ok (.iload_n 2, 1) := by decide +kernel
theorem dX10_reaches_103 : decode cX10_reaches 103 = .ok (.iaload, 1) := by decide +kernel
theorem dX10_reaches_104 : decode cX10_reaches 104 = .ok (.istore_n 3, 1) := by decide +kernel
theorem dX10_reaches_105 : decode cX10_reaches 105 = .ok (.iconst 0, 1) := by decide +kernel
theorem dX10_reaches_106 : decode cX10_reaches 106 = .ok (.istore 4, 2) := by decide +kernel
theorem dX10_reaches_108 : decode cX10_reaches 108 = .ok (.iload 4, 2) := by decide +kernel
theorem dX10_reaches_110 : decode cX10_reaches 110 = .ok (.aload_n 0, 1) := by decide +kernel
theorem dX10_reaches_111 : decode cX10_reaches 111 = .ok (.getfield 9, 3) := by decide +kernel
theorem dX10_reaches_114 : decode cX10_reaches 114 = .ok (.iconst 0, 1) := by decide +kernel
theorem dX10_reaches_115 : decode cX10_reaches 115 = .ok (.iaload, 1) := by decide +kernel
theorem dX10_reaches_116 : decode cX10_reaches 116 = .ok (.if_icmp .ge 34, 3) := by decide +kernel
theorem dX10_reaches_119 : decode cX10_reaches 119 = .ok (.aload_n 0, 1) := by decide +kernel
theorem dX10_reaches_120 : decode cX10_reaches 120 = .ok (.getfield 28, 3) := by decide +kernel
theorem dX10_reaches_123 : decode cX10_reaches 123 = .ok (.iload_n 2, 1) := by decide +kernel
theorem dX10_reaches_124 : decode cX10_reaches 124 = .ok (.iaload, 1) := by decide +kernel
theorem dX10_reaches_125 : decode cX10_reaches 125 = .ok (.iload 4, 2) := by decide +kernel
theorem dX10_reaches_127 : decode cX10_reaches 127 = .ok (.ishr, 1) := by decide +kernel
theorem dX10_reaches_128 : decode cX10_reaches 128 = .ok (.iconst 1, 1) := by decide +kernel
theorem dX10_reaches_129 : decode cX10_reaches 129 = .ok (.iand, 1) := by decide +kernel
theorem dX10_reaches_130 : decode cX10_reaches 130 = .ok (.iconst 1, 1) := by decide +kernel
theorem dX10_reaches_131 : decode cX10_reaches 131 = .ok (.if_icmp .ne 13, 3) := by decide +kernel
theorem dX10_reaches_134 : decode cX10_reaches 134 = .ok (.iload_n 3, 1) := by decide +kernel
theorem dX10_reaches_135 : decode cX10_reaches 135 = .ok (.aload_n 0, 1) := by decide +kernel
theorem dX10_reaches_136 : decode cX10_reaches 136 = .ok (.getfield 28, 3) := by decide +kernel
theorem dX10_reaches_139 : decode cX10_reaches 139 = .ok (.iload 4, 2) := by decide +kernel
theorem dX10_reaches_141 : decode cX10_reaches 141 = .ok (.iaload, 1) := by decide +kernel
theorem dX10_reaches_142 : decode cX10_reaches 142 = .ok (.ior, 1) := by decide +kernel
theorem dX10_reaches_143 : decode cX10_reaches 143 = .ok (.istore_n 3, 1) := by decide +kernel
theorem dX10_reaches_144 : decode cX10_reaches 144 = .ok (.iinc 4 1, 3) := by decide +kernel
theorem dX10_reaches_147 : decode cX10_reaches 147 = .ok (.goto (-39), 3) := by decide +kernel
theorem dX10_reaches_150 : decode cX10_reaches 150 = .ok (.iload_n 1, 1) := by decide +kernel
theorem dX10_reaches_151 : decode cX10_reaches 151 = .ok (.iload_n 3, 1) := by decide +kernel
theorem dX10_reaches_152 : decode cX10_reaches 152 = .ok (.aload_n 0, 1) := by decide +kernel
theorem dX10_reaches_153 : decode cX10_reaches 153 = .ok (.getfield 28, 3) := by decide +kernel
theorem dX10_reaches_156 : decode cX10_reaches 156 = .ok (.iload_n 2, 1) := by decide +kernel
theorem dX10_reaches_157 : decode cX10_reaches 157 = .ok (.iaload, 1) := by decide +kernel
theorem dX10_reaches_158 : decode cX10_reaches 158 = .ok (.if_icmp .eq 7, 3) := by decide +kernel
theorem dX10_reaches_161 : decode cX10_reaches 161 = .ok (.iconst 1, 1) := by decide +kernel
theorem dX10_reaches_162 : decode cX10_reaches 162 = .ok (.goto 4, 3) := by decide +kernel
theorem dX10_reaches_165 : decode cX10_reaches 165 = .ok (.iconst 0, 1) := by decide +kernel
theorem dX10_reaches_166 : decode cX10_reaches 166 = .ok (.ior, 1) := by decide +kernel
theorem dX10_reaches_167 : decode cX10_reaches 167 = .ok (.istore_n 1, 1) := by decide +kernel
theorem dX10_reaches_168 : decode cX10_reaches 168 = .ok (.aload_n 0, 1) := by decide +kernel
theorem dX10_reaches_169 : decode cX10_reaches 169 = .ok (.getfield 28, 3) := by decide +kernel
theorem dX10_reaches_172 : decode cX10_reaches 172 = .ok (.iload_n 2, 1) := by decide +kernel
theorem dX10_reaches_173 : decode cX10_reaches 173 = .ok (.iload_n 3, 1) := by decide +kernel
theorem dX10_reaches_174 : decode cX10_reaches 174 = .ok (.iastore, 1) := by decide +kernel
theorem dX10_reaches_175 : decode cX10_reaches 175 = .ok (.iinc 2 1, 3) := by decide +kernel
theorem dX10_reaches_178 : decode cX10_reaches 178 = .ok (.goto (-90), 3) := by decide +kernel
theorem dX10_reaches_181 : decode cX10_reaches 181 = .ok (.goto (-101), 3) := by decide +kernel
theorem dX10_reaches_184 : decode cX10_reaches 184 = .ok (.return_, 1) := by decide +kernel
set_option maxRecDepth 20000 in
theorem ggX10_loopSet_X10_reaches : GoodIn wsX10_loopSet wsX10_reaches := goodIn_r _ [7, 2, 1, 8, 9, 10, 6, 11, 12, 13, 14, 15, 16, 17, 18, 19, 20, 21, 22, 23, 24, 25, 26, 27, 28, 29, 30, 31, 32, 33, 34, 35, 36, 37, 38, 39] (by decide +kernel) (by decide +kernel)
set_option maxRecDepth 20000 in
theorem gX10_loopSet_X10_reaches : GoodIn wsX10_loopSet (wsV RX10 84 RX10 yX10_reaches wsX10_reaches) := goodIn_app (goodIn_of _ (by decide +kernel)) ggX10_loopSet_X10_reaches
theorem dX10_loopSet_0 : decode cX10_loopSet 0 = .ok (.aload_n 0, 1) := by decide +kernel
theorem dX10_loopSet_1 : decode cX10_loopSet 1 = .ok (.invokevirtual 84, 3) := by decide +kernel
theorem dX10_loopSet_4 : decode cX10_loopSet 4 = .ok (.iconst 0, 1) := by decide +kernel
theorem dX10_loopSet_5 : decode cX10_loopSet 5 = .ok (.istore_n 1, 1) := by decide +kernel
theorem dX10_loopSet_6 : decode cX10_loopSet 6 = .ok (.iconst 0, 1) := by decide +kernel
theorem dX10_loopSet_7 : decode cX10_loopSet 7 = .ok (.istore_n 2, 1) := by decide +kernel
theorem dX10_loopSet_8 : decode cX10_loopSet 8 = .ok (.iload_n 2, 1) := by decide +kernel
theorem dX10_loopSet_9 : decode cX10_loopSet 9 = .ok (.aload_n 0, 1) := by decide +kernel
theorem dX10_loopSet_10 : decode cX10_loopSet 10 = .ok (.getfield 9, 3) := by decide +kernel
theorem dX10_loopSet_13 : decode cX10_loopSet 13 = .ok (.iconst 0, 1) := by decide +kernel
theorem dX10_loopSet_14 : decode cX10_loopSet 14 = .ok (.iaload, 1) := by decide +kernel
theorem dX10_loopSet_15 : decode cX10_loopSet 15 = .ok (.if_icmp .ge 29, 3) := by decide +kernel
theorem dX10_loopSet_18 : decode cX10_loopSet 18 = .ok (.aload_n 0, 1) := by decide +kernel
theorem dX10_loopSet_19 : decode cX10_loopSet 19 = .ok (.getfield 28, 3) := by decide +kernel
theorem dX10_loopSet_22 : decode cX10_loopSet 22 = .ok (.iload_n 2, 1) := by decide +kernel
theorem dX10_loopSet_23 : decode cX10_loopSet 23 = .ok (.iaload, 1) := by decide +kernel
theorem dX10_loopSet_24 : decode cX10_loopSet 24 = .ok (.iload_n 2, 1) := by decide +kernel
theorem dX10_loopSet_25 : decode cX10_loopSet 25 = .ok (.ishr, 1) := by decide +kernel
theorem dX10_loopSet_26 : decode cX10_loopSet 26 = .ok (.iconst 1, 1) := by decide +kernel
theorem dX10_loopSet_27 : decode cX10_loopSet 27 = .ok (.iand, 1) := by decide +kernel
theorem dX10_loopSet_28 : decode cX10_loopSet 28 = .ok (.iconst 1, 1) := by decide +kernel
theorem dX10_loopSet_29 : decode cX10_loopSet 29 = .ok (.if_icmp .ne 9, 3) := by decide +kernel
theorem dX10_loopSet_32 : decode cX10_loopSet 32 = .ok (.iload_n 1, 1) := by decide +kernel
theorem dX10_loopSet_33 : decode cX10_loopSet 33 = .ok (.iconst 1, 1) := by decide +kernel
theorem dX10_loopSet_34 : decode cX10_loopSet 34 = .ok (.iload_n 2, 1) := by decide +kernel
theorem dX10_loopSet_35 : decode cX10_loopSet 35 = .ok (.ishl, 1) := by decide +kernel
theorem dX10_loopSet_36 : decode cX10_loopSet 36 = .ok (.ior, 1) := by decide +kernel
theorem dX10_loopSet_37 : decode cX10_loopSet 37 = .ok (.istore_n 1, 1) := by decide +kernel
theorem dX10_loopSet_38 : decode cX10_loopSet 38 = .ok (.iinc 2 1, 3) := by decide +kernel
theorem dX10_loopSet_41 : decode cX10_loopSet 41 = .ok (.goto (-33), 3) := by decide +kernel
theorem dX10_loopSet_44 : decode cX10_loopSet 44 = .ok (.iload_n 1, 1) := by decide +kernel
theorem dX10_loopSet_45 : decode cX10_loopSet 45 = .ok (.ireturn, 1) := by decide +kernel
set_option maxRecDepth 20000 in
theorem ggX10_way_X10_wired : GoodIn wsX10_way wsX10_wired := goodIn_r _ [7, 8, 9, 10, 6, 11, 2, 12, 13, 14, 15, 16, 17, 18, 19, 20, 21, 22, 23, 24, 25, 26, 27, 28, 29, 30, 31, 32, 33, 34, 35] (by decide +kernel) (by decide +kernel)
set_option maxRecDepth 20000 in
theorem gX10_way_X10_wired : GoodIn wsX10_way (wsV RX10 81 RX10 yX10_wired wsX10_wired) := goodIn_app (goodIn_of _ (by decide +kernel)) ggX10_way_X10_wired
theorem dX10_way_0 : decode cX10_way 0 = .ok (.iconst 0, 1) := by decide +kernel
theorem dX10_way_1 : decode cX10_way 1 = .ok (.istore_n 3, 1) := by decide +kernel
theorem dX10_way_2 : decode cX10_way 2 = .ok (.iload_n 3, 1) := by decide +kernel
theorem dX10_way_3 : decode cX10_way 3 = .ok (.bipush 16, 2) := by decide +kernel
theorem dX10_way_5 : decode cX10_way 5 = .ok (.if_icmp .ge 25, 3) := by decide +kernel
theorem dX10_way_8 : decode cX10_way 8 = .ok (.aload_n 0, 1) := by decide +kernel
theorem dX10_way_9 : decode cX10_way 9 = .ok (.getfield 31, 3) := by decide +kernel
theorem dX10_way_12 : decode cX10_way 12 = .ok (.iload_n 3, 1) := by decide +kernel
theorem dX10_way_13 : decode cX10_way 13 = .ok (.iload_n 3, 1) := by decide +kernel
theorem dX10_way_14 : decode cX10_way 14 = .ok (.iload_n 1, 1) := by decide +kernel
theorem dX10_way_15 : decode cX10_way 15 = .ok (.if_icmp .ne 7, 3) := by decide +kernel
theorem dX10_way_18 : decode cX10_way 18 = .ok (.iconst 0, 1) := by decide +kernel
theorem dX10_way_19 : decode cX10_way 19 = .ok (.goto 4, 3) := by decide +kernel
theorem dX10_way_22 : decode cX10_way 22 = .ok (.iconst (-1), 1) := by decide +kernel
theorem dX10_way_23 : decode cX10_way 23 = .ok (.iastore, 1) := by decide +kernel
theorem dX10_way_24 : decode cX10_way 24 = .ok (.iinc 3 1, 3) := by decide +kernel
theorem dX10_way_27 : decode cX10_way 27 = .ok (.goto (-25), 3) := by decide +kernel
theorem dX10_way_30 : decode cX10_way 30 = .ok (.iconst 1, 1) := by decide +kernel
theorem dX10_way_31 : decode cX10_way 31 = .ok (.istore_n 3, 1) := by decide +kernel
theorem dX10_way_32 : decode cX10_way 32 = .ok (.iload_n 3, 1) := by decide +kernel
theorem dX10_way_33 : decode cX10_way 33 = .ok (.bipush 16, 2) := by decide +kernel
theorem dX10_way_35 : decode cX10_way 35 = .ok (.if_icmp .gt 92, 3) := by decide +kernel
theorem dX10_way_38 : decode cX10_way 38 = .ok (.iconst 0, 1) := by decide +kernel
theorem dX10_way_39 : decode cX10_way 39 = .ok (.istore 4, 2) := by decide +kernel
theorem dX10_way_41 : decode cX10_way 41 = .ok (.iload 4, 2) := by decide +kernel
theorem dX10_way_43 : decode cX10_way 43 = .ok (.aload_n 0, 1) := by decide +kernel
theorem dX10_way_44 : decode cX10_way 44 = .ok (.getfield 9, 3) := by decide +kernel
theorem dX10_way_47 : decode cX10_way 47 = .ok (.iconst 0, 1) := by decide +kernel
theorem dX10_way_48 : decode cX10_way 48 = .ok (.iaload, 1) := by decide +kernel
theorem dX10_way_49 : decode cX10_way 49 = .ok (.if_icmp .ge 72, 3) := by decide +kernel
theorem dX10_way_52 : decode cX10_way 52 = .ok (.iconst 0, 1) := by decide +kernel
theorem dX10_way_53 : decode cX10_way 53 = .ok (.istore 5, 2) := by decide +kernel
theorem dX10_way_55 : decode cX10_way 55 = .ok (.iload 5, 2) := by decide +kernel
theorem dX10_way_57 : decode cX10_way 57 = .ok (.iconst 3, 1) := by decide +kernel
theorem dX10_way_58 : decode cX10_way 58 = .ok (.if_icmp .ge 57, 3) := by decide +kernel
theorem dX10_way_61 : decode cX10_way 61 = .ok (.aload_n 0, 1) := by decide +kernel
theorem dX10_way_62 : decode cX10_way 62 = .ok (.getfield 31, 3) := by decide +kernel
theorem dX10_way_65 : decode cX10_way 65 = .ok (.iload 4, 2) := by decide +kernel
theorem dX10_way_67 : decode cX10_way 67 = .ok (.iaload, 1) := by decide +kernel
theorem dX10_way_68 : decode cX10_way 68 = .ok (.ifCond .ge 47, 3) := by decide +kernel
theorem dX10_way_71 : decode cX10_way 71 = .ok (.aload_n 0, 1) := by decide +kernel
theorem dX10_way_72 : decode cX10_way 72 = .ok (.iload 4, 2) := by decide +kernel
theorem dX10_way_74 : decode cX10_way 74 = .ok (.iload 5, 2) := by decide +kernel
theorem dX10_way_76 : decode cX10_way 76 = .ok (.invokevirtual 81, 3) := by decide +kernel
theorem dX10_way_79 : decode cX10_way 79 = .ok (.ifCond .lt 30, 3) := by decide +kernel
theorem dX10_way_82 : decode cX10_way 82 = .ok (.aload_n 0, 1) := by decide +kernel
theorem dX10_way_83 : decode cX10_way 83 = .ok (.getfield 31, 3) := by decide +kernel
theorem dX10_way_86 : decode cX10_way 86 = .ok (.aload_n 0, 1) := by decide +kernel
theorem dX10_way_87 : decode cX10_way 87 = .ok (.iload 4, 2) := by decide +kernel
theorem dX10_way_89 : decode cX10_way 89 = .ok (.iload 5, 2) := by decide +kernel
theorem dX10_way_91 : decode cX10_way 91 = .ok (.invokevirtual 81, 3) := by decide +kernel
theorem dX10_way_94 : decode cX10_way 94 = .ok (.iaload, 1) := by decide +kernel
theorem dX10_way_95 : decode cX10_way 95 = .ok (.iload_n 3, 1) := by decide +kernel
theorem dX10_way_96 : decode cX10_way 96 = .ok (.iconst 1, 1) := by decide +kernel
theorem dX10_way_97 : decode cX10_way 97 = .ok (.isub, 1) := by decide +kernel
theorem dX10_way_98 : decode cX10_way 98 = .ok (.if_icmp .ne 11, 3) := by decide +kernel
theorem dX10_way_101 : decode cX10_way 101 = .ok (.aload_n 0, 1) := by decide +kernel
theorem dX10_way_102 : decode cX10_way 102 = .ok (.getfield 31, 3) := by decide +kernel
theorem dX10_way_105 : decode cX10_way 105 = .ok (.iload 4, 2) := by decide +kernel
theorem dX10_way_107 : decode cX10_way 107 = .ok (.iload_n 3, 1) := by decide +kernel
theorem dX10_way_108 : decode cX10_way 108 = .ok (.iastore, 1) := by decide +kernel
theorem dX10_way_109 : decode cX10_way 109 = .ok (.iinc 5 1, 3) := by decide +kernel
theorem dX10_way_112 : decode cX10_way 112 = .ok (.goto (-57), 3) := by decide +kernel
theorem dX10_way_115 : decode cX10_way 115 = .ok (.iinc 4 1, 3) := by decide +kernel
theorem dX10_way_118 : decode cX10_way 118 = .ok (.goto (-77), 3) := by decide +kernel
theorem dX10_way_121 : decode cX10_way 121 = .ok (.iinc 3 1, 3) := by decide +kernel
theorem dX10_way_124 : decode cX10_way 124 = .ok (.goto (-92), 3) := by decide +kernel
theorem dX10_way_127 : decode cX10_way 127 = .ok (.aload_n 0, 1) := by decide +kernel
theorem dX10_way_128 : decode cX10_way 128 = .ok (.getfield 31, 3) := by decide +kernel
theorem dX10_way_131 : decode cX10_way 131 = .ok (.iload_n 2, 1) := by decide +kernel
theorem dX10_way_132 : decode cX10_way 132 = .ok (.iaload, 1) := by decide +kernel
theorem dX10_way_133 : decode cX10_way 133 = .ok (.ireturn, 1) := by decide +kernel
set_option maxRecDepth 20000 in
theorem ggX10_hangs_X10_in : GoodIn wsX10_hangs wsX10_in := goodIn_r _ [5] (by decide +kernel) (by decide +kernel)
set_option maxRecDepth 20000 in
theorem gX10_hangs_X10_in : GoodIn wsX10_hangs (va_wsS RX10 73 yX10_in wsX10_in) := goodIn_app (goodIn_of _ (by decide +kernel)) ggX10_hangs_X10_in
set_option maxRecDepth 20000 in
theorem ggX10_hangs_X10_refuses : GoodIn wsX10_hangs wsX10_refuses := goodIn_r _ [9, 10, 11, 12, 22, 23, 24, 25, 26, 27, 28, 29, 30, 31, 32, 33, 34, 35, 36, 37, 38, 39, 40, 41, 42, 43, 44, 45] (by decide +kernel) (by decide +kernel)
set_option maxRecDepth 20000 in
theorem gX10_hangs_X10_refuses : GoodIn wsX10_hangs (wsV RX10 87 RX10 yX10_refuses wsX10_refuses) := goodIn_app (goodIn_of _ (by decide +kernel)) ggX10_hangs_X10_refuses
set_option maxRecDepth 20000 in
theorem ggX10_hangs_X10_sets : GoodIn wsX10_hangs wsX10_sets := goodIn_r _ [16, 1, 22, 23, 24, 25, 26, 27, 28, 29, 30, 31, 32, 33, 34, 35, 36, 37, 38, 39, 40, 41, 42, 43, 44, 45] (by decide +kernel) (by decide +kernel)
set_option maxRecDepth 20000 in
theorem gX10_hangs_X10_sets : GoodIn wsX10_hangs (wsV RX10 90 RX10 yX10_sets wsX10_sets) := goodIn_app (goodIn_of _ (by decide +kernel)) ggX10_hangs_X10_sets
set_option maxRecDepth 20000 in
theorem ggX10_hangs_X10_does : GoodIn wsX10_hangs wsX10_does := goodIn_r _ [20, 21, 22, 23, 24, 25, 26, 27, 28, 29, 30, 31, 32, 33, 34, 35, 36, 37, 38, 39, 40, 41, 42, 43, 44, 45] (by decide +kernel) (by decide +kernel)
set_option maxRecDepth 20000 in
theorem gX10_hangs_X10_does : GoodIn wsX10_hangs (wsV RX10 94 RX10 yX10_does wsX10_does) := goodIn_app (goodIn_of _ (by decide +kernel)) ggX10_hangs_X10_does
theorem dX10_hangs_0 : decode cX10_hangs 0 = .ok (.iload_n 1, 1) := by decide +kernel
theorem dX10_hangs_1 : decode cX10_hangs 1 = .ok (.iconst 0, 1) := by decide +kernel
theorem dX10_hangs_2 : decode cX10_hangs 2 = .ok (.bipush 6, 2) := by decide +kernel
theorem dX10_hangs_4 : decode cX10_hangs 4 = .ok (.invokestatic 73, 3) := by decide +kernel
theorem dX10_hangs_7 : decode cX10_hangs 7 = .ok (.ifCond .eq 12, 3) := by decide +kernel
theorem dX10_hangs_10 : decode cX10_hangs 10 = .ok (.iload_n 2, 1) := by decide +kernel
theorem dX10_hangs_11 : decode cX10_hangs 11 = .ok (.iconst 1, 1) := by decide +kernel
theorem dX10_hangs_12 : decode cX10_hangs 12 = .ok (.iconst 4, 1) := by decide +kernel
theorem dX10_hangs_13 : decode cX10_hangs 13 = .ok (.invokestatic 73, 3) := by decide +kernel
theorem dX10_hangs_16 : decode cX10_hangs 16 = .ok (.ifCond .ne 6, 3) := by decide +kernel
theorem dX10_hangs_19 : decode cX10_hangs 19 = .ok (.bipush (-12), 2) := by decide +kernel
theorem dX10_hangs_21 : decode cX10_hangs 21 = .ok (.ireturn, 1) := by decide +kernel
theorem dX10_hangs_22 : decode cX10_hangs 22 = .ok (.aload_n 0, 1) := by decide +kernel
theorem dX10_hangs_23 : decode cX10_hangs 23 = .ok (.getfield 9, 3) := by decide +kernel
theorem dX10_hangs_26 : decode cX10_hangs 26 = .ok (.iconst 0, 1) := by decide +kernel
theorem dX10_hangs_27 : decode cX10_hangs 27 = .ok (.iaload, 1) := by decide +kernel
theorem dX10_hangs_28 : decode cX10_hangs 28 = .ok (.istore_n 3, 1) := by decide +kernel
theorem dX10_hangs_29 : decode cX10_hangs 29 = .ok (.iload_n 3, 1) := by decide +kernel
theorem dX10_hangs_30 : decode cX10_hangs 30 = .ok (.bipush 16, 2) := by decide +kernel
theorem dX10_hangs_32 : decode cX10_hangs 32 = .ok (.if_icmp .ne 11, 3) := by decide +kernel
theorem dX10_hangs_35 : decode cX10_hangs 35 = .ok (.aload_n 0, 1) := by decide +kernel
theorem dX10_hangs_36 : decode cX10_hangs 36 = .ok (.iconst 1, 1) := by decide +kernel
theorem dX10_hangs_37 : decode cX10_hangs 37 = .ok (.bipush 16, 2) := by decide +kernel
theorem dX10_hangs_39 : decode cX10_hangs 39 = .ok (.invokevirtual 87, 3) := by decide +kernel
theorem dX10_hangs_42 : decode cX10_hangs 42 = .ok (.ireturn, 1) := by decide +kernel
theorem dX10_hangs_43 : decode cX10_hangs 43 = .ok (.aload_n 0, 1) := by decide +kernel
theorem dX10_hangs_44 : decode cX10_hangs 44 = .ok (.getfield 9, 3) := by decide +kernel
theorem dX10_hangs_47 : decode cX10_hangs 47 = .ok (.iconst 0, 1) := by decide +kernel
theorem dX10_hangs_48 : decode cX10_hangs 48 = .ok (.dup2, 1) := by decide +kernel
theorem dX10_hangs_49 : decode cX10_hangs 49 = .ok (.iaload, 1) := by decide +kernel
theorem dX10_hangs_50 : decode cX10_hangs 50 = .ok (.iconst 1, 1) := by decide +kernel
theorem dX10_hangs_51 : decode cX10_hangs 51 = .ok (.iadd, 1) := by decide +kernel
theorem dX10_hangs_52 : decode cX10_hangs 52 = .ok (.iastore, 1) := by decide +kernel
theorem dX10_hangs_53 : decode cX10_hangs 53 = .ok (.iconst 0, 1) := by decide +kernel
theorem dX10_hangs_54 : decode cX10_hangs 54 = .ok (.istore 4, 2) := by decide +kernel
theorem dX10_hangs_56 : decode cX10_hangs 56 = .ok (.iload 4, 2) := by decide +kernel
theorem dX10_hangs_58 : decode cX10_hangs 58 = .ok (.bipush 8, 2) := by decide +kernel
theorem dX10_hangs_60 : decode cX10_hangs 60 = .ok (.if_icmp .ge 17, 3) := by decide +kernel
theorem dX10_hangs_63 : decode cX10_hangs 63 = .ok (.aload_n 0, 1) := by decide +kernel
theorem dX10_hangs_64 : decode cX10_hangs 64 = .ok (.iload_n 3, 1) := by decide +kernel
theorem dX10_hangs_65 : decode cX10_hangs 65 = .ok (.iload 4, 2) := by decide +kernel
theorem dX10_hangs_67 : decode cX10_hangs 67 = .ok (.iconst 0, 1) := by decide +kernel
theorem dX10_hangs_68 : decode cX10_hangs 68 = .ok (.invokevirtual 90, 3) := by decide +kernel
theorem dX10_hangs_71 : decode cX10_hangs 71 = .ok (.iinc 4 1, 3) := by decide +kernel
theorem dX10_hangs_74 : decode cX10_hangs 74 = .ok (.goto (-18), 3) := by decide +kernel
theorem dX10_hangs_77 : decode cX10_hangs 77 = .ok (.aload_n 0, 1) := by decide +kernel
theorem dX10_hangs_78 : decode cX10_hangs 78 = .ok (.iload_n 3, 1) := by decide +kernel
theorem dX10_hangs_79 : decode cX10_hangs 79 = .ok (.iconst 0, 1) := by decide +kernel
theorem dX10_hangs_80 : decode cX10_hangs 80 = .ok (.iload_n 1, 1) := by decide +kernel
theorem dX10_hangs_81 : decode cX10_hangs 81 = .ok (.invokevirtual 90, 3) := by decide +kernel
theorem dX10_hangs_84 : decode cX10_hangs 84 = .ok (.aload_n 0, 1) := by decide +kernel
theorem dX10_hangs_85 : decode cX10_hangs 85 = .ok (.iload_n 3, 1) := by decide +kernel
theorem dX10_hangs_86 : decode cX10_hangs 86 = .ok (.iconst 1, 1) := by decide +kernel
theorem dX10_hangs_87 : decode cX10_hangs 87 = .ok (.iload_n 2, 1) := by decide +kernel
theorem dX10_hangs_88 : decode cX10_hangs 88 = .ok (.invokevirtual 90, 3) := by decide +kernel
theorem dX10_hangs_91 : decode cX10_hangs 91 = .ok (.aload_n 0, 1) := by decide +kernel
theorem dX10_hangs_92 : decode cX10_hangs 92 = .ok (.iload_n 3, 1) := by decide +kernel
theorem dX10_hangs_93 : decode cX10_hangs 93 = .ok (.invokevirtual 94, 3) := by decide +kernel
theorem dX10_hangs_96 : decode cX10_hangs 96 = .ok (.ireturn, 1) := by decide +kernel
set_option maxRecDepth 20000 in
theorem ggX10_hang_X10_tries : GoodIn wsX10_hang wsX10_tries := goodIn_r _ [5, 6, 7, 41, 42, 43, 44, 45, 46, 47, 48, 49, 50, 51, 52, 53, 54, 55, 56, 57, 58, 59, 60, 61, 62, 63, 64] (by decide +kernel) (by decide +kernel)
set_option maxRecDepth 20000 in
theorem gX10_hang_X10_tries : GoodIn wsX10_hang (wsV RX10 97 RX10 yX10_tries wsX10_tries) := goodIn_app (goodIn_of _ (by decide +kernel)) ggX10_hang_X10_tries
set_option maxRecDepth 20000 in
theorem ggX10_hang_X10_hangs : GoodIn wsX10_hang wsX10_hangs := goodIn_r _ [11, 7, 12, 13, 4, 14, 15, 16, 17, 18, 19, 20, 21, 22, 23, 24, 25, 26, 27, 28, 29, 30, 41, 42, 43, 44, 45, 46, 47, 48, 49, 50, 51, 52, 53, 54, 55, 56, 57, 58, 59, 60, 61, 62, 63, 64] (by decide +kernel) (by decide +kernel)
set_option maxRecDepth 20000 in
theorem gX10_hang_X10_hangs : GoodIn wsX10_hang (wsV RX10 100 RX10 yX10_hangs wsX10_hangs) := goodIn_app (goodIn_of _ (by decide +kernel)) ggX10_hang_X10_hangs
set_option maxRecDepth 20000 in
theorem ggX10_hang_X10_ends : GoodIn wsX10_hang wsX10_ends := goodIn_r _ [34, 30, 35, 36, 37, 4, 38, 39, 40, 6, 41, 42, 43, 44, 45, 46, 47, 48, 49, 50, 51, 52, 53, 54, 55, 56, 57, 58, 59, 60, 61, 62, 63, 64] (by decide +kernel) (by decide +kernel)
set_option maxRecDepth 20000 in
theorem gX10_hang_X10_ends : GoodIn wsX10_hang (wsV RX10 103 RX10 yX10_ends wsX10_ends) := goodIn_app (goodIn_of _ (by decide +kernel)) ggX10_hang_X10_ends
theorem dX10_hang_0 : decode cX10_hang 0 = .ok (.aload_n 0, 1) := by decide +kernel
theorem dX10_hang_1 : decode cX10_hang 1 = .ok (.invokevirtual 97, 3) := by decide +kernel
theorem dX10_hang_4 : decode cX10_hang 4 = .ok (.aload_n 0, 1) := by decide +kernel
theorem dX10_hang_5 : decode cX10_hang 5 = .ok (.aload_n 0, 1) := by decide +kernel
theorem dX10_hang_6 : decode cX10_hang 6 = .ok (.iload_n 1, 1) := by decide +kernel
theorem dX10_hang_7 : decode cX10_hang 7 = .ok (.iload_n 2, 1) := by decide +kernel
theorem dX10_hang_8 : decode cX10_hang 8 = .ok (.invokevirtual 100, 3) := by decide +kernel
theorem dX10_hang_11 : decode cX10_hang 11 = .ok (.invokevirtual 103, 3) := by decide +kernel
theorem dX10_hang_14 : decode cX10_hang 14 = .ok (.ireturn, 1) := by decide +kernel
set_option maxRecDepth 20000 in
theorem ggX10_wires_X10_isLantern : GoodIn wsX10_wires wsX10_isLantern := goodIn_r _ [6, 1, 7, 8, 5, 9, 55, 56, 57, 58, 59, 60, 61, 62, 63, 64, 65, 66, 67, 68, 69, 70, 71, 72, 73, 74, 75, 76, 77, 78] (by decide +kernel) (by decide +kernel)
set_option maxRecDepth 20000 in
theorem gX10_wires_X10_isLantern : GoodIn wsX10_wires (wsV RX10 106 RX10 yX10_isLantern wsX10_isLantern) := goodIn_app (goodIn_of _ (by decide +kernel)) ggX10_wires_X10_isLantern
set_option maxRecDepth 20000 in
theorem ggX10_wires_X10_in : GoodIn wsX10_wires wsX10_in := goodIn_r _ [9] (by decide +kernel) (by decide +kernel)
set_option maxRecDepth 20000 in
theorem gX10_wires_X10_in : GoodIn wsX10_wires (va_wsS RX10 73 yX10_in wsX10_in) := goodIn_app (goodIn_of _ (by decide +kernel)) ggX10_wires_X10_in
set_option maxRecDepth 20000 in
theorem ggX10_wires_X10_isSwitch : GoodIn wsX10_wires wsX10_isSwitch := goodIn_r _ [13, 14, 15, 16, 5, 17, 1, 55, 56, 57, 58, 59, 60, 61, 62, 63, 64, 65, 66, 67, 68, 69, 70, 71, 72, 73, 74, 75, 76, 77, 78] (by decide +kernel) (by decide +kernel)
set_option maxRecDepth 20000 in
theorem gX10_wires_X10_isSwitch : GoodIn wsX10_wires (wsV RX10 110 RX10 yX10_isSwitch wsX10_isSwitch) := goodIn_app (goodIn_of _ (by decide +kernel)) ggX10_wires_X10_isSwitch
set_option maxRecDepth 20000 in
theorem ggX10_wires_X10_refuses : GoodIn wsX10_wires wsX10_refuses := goodIn_r _ [21, 22, 23, 24, 55, 56, 57, 58, 59, 60, 61, 62, 63, 64, 65, 66, 67, 68, 69, 70, 71, 72, 73, 74, 75, 76, 77, 78] (by decide +kernel) (by decide +kernel)
set_option maxRecDepth 20000 in
theorem gX10_wires_X10_refuses : GoodIn wsX10_wires (wsV RX10 87 RX10 yX10_refuses wsX10_refuses) := goodIn_app (goodIn_of _ (by decide +kernel)) ggX10_wires_X10_refuses
set_option maxRecDepth 20000 in
theorem ggX10_wires_X10_places : GoodIn wsX10_wires wsX10_places := goodIn_r _ [28, 14, 15, 16, 5, 17, 1, 55, 56, 57, 58, 59, 60, 61, 62, 63, 64, 65, 66, 67, 68, 69, 70, 71, 72, 73, 74, 75, 76, 77, 78] (by decide +kernel) (by decide +kernel)
set_option maxRecDepth 20000 in
theorem gX10_wires_X10_places : GoodIn wsX10_wires (wsV RX10 113 RX10 yX10_places wsX10_places) := goodIn_app (goodIn_of _ (by decide +kernel)) ggX10_wires_X10_places
set_option maxRecDepth 20000 in
theorem ggX10_wires_X10_wired : GoodIn wsX10_wires wsX10_wired := goodIn_r _ [32, 14, 15, 16, 5, 17, 1, 55, 56, 57, 58, 59, 60, 61, 62, 63, 64, 65, 66, 67, 68, 69, 70, 71, 72, 73, 74, 75, 76, 77, 78] (by decide +kernel) (by decide +kernel)
set_option maxRecDepth 20000 in
theorem gX10_wires_X10_wired : GoodIn wsX10_wires (wsV RX10 81 RX10 yX10_wired wsX10_wired) := goodIn_app (goodIn_of _ (by decide +kernel)) ggX10_wires_X10_wired
set_option maxRecDepth 20000 in
theorem ggX10_wires_X10_way : GoodIn wsX10_wires wsX10_way := goodIn_r _ [36, 37, 1, 29, 30, 31, 5, 32, 14, 15, 16, 17, 55, 56, 57, 58, 59, 60, 61, 62, 63, 64, 65, 66, 67, 68, 69, 70, 71, 72, 73, 74, 75, 76, 77, 78] (by decide +kernel) (by decide +kernel)
set_option maxRecDepth 20000 in
theorem gX10_wires_X10_way : GoodIn wsX10_wires (wsV RX10 116 RX10 yX10_way wsX10_way) := goodIn_app (goodIn_of _ (by decide +kernel)) ggX10_wires_X10_way
set_option maxRecDepth 20000 in
theorem ggX10_wires_X10_behind : GoodIn wsX10_wires wsX10_behind := goodIn_r _ [41, 22, 24, 23, 55, 56, 57, 58, 59, 60, 61, 62, 63, 64, 65, 66, 67, 68, 69, 70, 71, 72, 73, 74, 75, 76, 77, 78] (by decide +kernel) (by decide +kernel)
set_option maxRecDepth 20000 in
theorem gX10_wires_X10_behind : GoodIn wsX10_wires (wsV RX10 119 RX10 yX10_behind wsX10_behind) := goodIn_app (goodIn_of _ (by decide +kernel)) ggX10_wires_X10_behind
set_option maxRecDepth 20000 in
theorem ggX10_wires_X10_sets : GoodIn wsX10_wires wsX10_sets := goodIn_r _ [45, 1, 55, 56, 57, 58, 59, 60, 61, 62, 63, 64, 65, 66, 67, 68, 69, 70, 71, 72, 73, 74, 75, 76, 77, 78] (by decide +kernel) (by decide +kernel)
set_option maxRecDepth 20000 in
theorem gX10_wires_X10_sets : GoodIn wsX10_wires (wsV RX10 90 RX10 yX10_sets wsX10_sets) := goodIn_app (goodIn_of _ (by decide +kernel)) ggX10_wires_X10_sets
set_option maxRecDepth 20000 in
theorem ggX10_wires_X10_wiresTo : GoodIn wsX10_wires wsX10_wiresTo := goodIn_r _ [49, 29, 30, 31, 5, 32, 14, 15, 16, 17, 1, 55, 56, 57, 58, 59, 60, 61, 62, 63, 64, 65, 66, 67, 68, 69, 70, 71, 72, 73, 74, 75, 76, 77, 78] (by decide +kernel) (by decide +kernel)
set_option maxRecDepth 20000 in
theorem gX10_wires_X10_wiresTo : GoodIn wsX10_wires (wsV RX10 122 RX10 yX10_wiresTo wsX10_wiresTo) := goodIn_app (goodIn_of _ (by decide +kernel)) ggX10_wires_X10_wiresTo
set_option maxRecDepth 20000 in
theorem ggX10_wires_X10_does : GoodIn wsX10_wires wsX10_does := goodIn_r _ [53, 54, 55, 56, 57, 58, 59, 60, 61, 62, 63, 64, 65, 66, 67, 68, 69, 70, 71, 72, 73, 74, 75, 76, 77, 78] (by decide +kernel) (by decide +kernel)
set_option maxRecDepth 20000 in
theorem gX10_wires_X10_does : GoodIn wsX10_wires (wsV RX10 94 RX10 yX10_does wsX10_does) := goodIn_app (goodIn_of _ (by decide +kernel)) ggX10_wires_X10_does
theorem dX10_wires_0 : decode cX10_wires 0 = .ok (.aload_n 0, 1) := by decide +kernel
theorem dX10_wires_1 : decode cX10_wires 1 = .ok (.iload_n 1, 1) := by decide +kernel
theorem dX10_wires_2 : decode cX10_wires 2 = .ok (.invokevirtual 106, 3) := by decide +kernel
theorem dX10_wires_5 : decode cX10_wires 5 = .ok (.ifCond .eq 11, 3) := by decide +kernel
theorem dX10_wires_8 : decode cX10_wires 8 = .ok (.aload_n 0, 1) := by decide +kernel
theorem dX10_wires_9 : decode cX10_wires 9 = .ok (.iload_n 3, 1) := by decide +kernel
theorem dX10_wires_10 : decode cX10_wires 10 = .ok (.invokevirtual 106, 3) := by decide +kernel
theorem dX10_wires_13 : decode cX10_wires 13 = .ok (.ifCond .ne 6, 3) := by decide +kernel
theorem dX10_wires_16 : decode cX10_wires 16 = .ok (.bipush (-11), 2) := by decide +kernel
theorem dX10_wires_18 : decode cX10_wires 18 = .ok (.ireturn, 1) := by decide +kernel
theorem dX10_wires_19 : decode cX10_wires 19 = .ok (.iload_n 2, 1) := by decide +kernel
theorem dX10_wires_20 : decode cX10_wires 20 = .ok (.iconst 0, 1) := by decide +kernel
theorem dX10_wires_21 : decode cX10_wires 21 = .ok (.iconst 2, 1) := by decide +kernel
theorem dX10_wires_22 : decode cX10_wires 22 = .ok (.invokestatic 73, 3) := by decide +kernel
theorem dX10_wires_25 : decode cX10_wires 25 = .ok (.ifCond .ne 6, 3) := by decide +kernel
theorem dX10_wires_28 : decode cX10_wires 28 = .ok (.bipush (-12), 2) := by decide +kernel
theorem dX10_wires_30 : decode cX10_wires 30 = .ok (.ireturn, 1) := by decide +kernel
theorem dX10_wires_31 : decode cX10_wires 31 = .ok (.aload_n 0, 1) := by decide +kernel
theorem dX10_wires_32 : decode cX10_wires 32 = .ok (.iload_n 1, 1) := by decide +kernel
theorem dX10_wires_33 : decode cX10_wires 33 = .ok (.invokevirtual 110, 3) := by decide +kernel
theorem dX10_wires_36 : decode cX10_wires 36 = .ok (.ifCond .eq 10, 3) := by decide +kernel
theorem dX10_wires_39 : decode cX10_wires 39 = .ok (.aload_n 0, 1) := by decide +kernel
theorem dX10_wires_40 : decode cX10_wires 40 = .ok (.iconst 2, 1) := by decide +kernel
theorem dX10_wires_41 : decode cX10_wires 41 = .ok (.iload_n 1, 1) := by decide +kernel
theorem dX10_wires_42 : decode cX10_wires 42 = .ok (.invokevirtual 87, 3) := by decide +kernel
theorem dX10_wires_45 : decode cX10_wires 45 = .ok (.ireturn, 1) := by decide +kernel
theorem dX10_wires_46 : decode cX10_wires 46 = .ok (.iload_n 2, 1) := by decide +kernel
theorem dX10_wires_47 : decode cX10_wires 47 = .ok (.aload_n 0, 1) := by decide +kernel
theorem dX10_wires_48 : decode cX10_wires 48 = .ok (.iload_n 1, 1) := by decide +kernel
theorem dX10_wires_49 : decode cX10_wires 49 = .ok (.invokevirtual 113, 3) := by decide +kernel
theorem dX10_wires_52 : decode cX10_wires 52 = .ok (.if_icmp .lt 14, 3) := by decide +kernel
theorem dX10_wires_55 : decode cX10_wires 55 = .ok (.aload_n 0, 1) := by decide +kernel
theorem dX10_wires_56 : decode cX10_wires 56 = .ok (.iconst 3, 1) := by decide +kernel
theorem dX10_wires_57 : decode cX10_wires 57 = .ok (.aload_n 0, 1) := by decide +kernel
theorem dX10_wires_58 : decode cX10_wires 58 = .ok (.iload_n 1, 1) := by decide +kernel
theorem dX10_wires_59 : decode cX10_wires 59 = .ok (.invokevirtual 113, 3) := by decide +kernel
theorem dX10_wires_62 : decode cX10_wires 62 = .ok (.invokevirtual 87, 3) := by decide +kernel
theorem dX10_wires_65 : decode cX10_wires 65 = .ok (.ireturn, 1) := by decide +kernel
theorem dX10_wires_66 : decode cX10_wires 66 = .ok (.aload_n 0, 1) := by decide +kernel
theorem dX10_wires_67 : decode cX10_wires 67 = .ok (.iload_n 1, 1) := by decide +kernel
theorem dX10_wires_68 : decode cX10_wires 68 = .ok (.iload_n 2, 1) := by decide +kernel
theorem dX10_wires_69 : decode cX10_wires 69 = .ok (.invokevirtual 81, 3) := by decide +kernel
theorem dX10_wires_72 : decode cX10_wires 72 = .ok (.ifCond .lt 15, 3) := by decide +kernel
theorem dX10_wires_75 : decode cX10_wires 75 = .ok (.aload_n 0, 1) := by decide +kernel
theorem dX10_wires_76 : decode cX10_wires 76 = .ok (.iconst 4, 1) := by decide +kernel
theorem dX10_wires_77 : decode cX10_wires 77 = .ok (.aload_n 0, 1) := by decide +kernel
theorem dX10_wires_78 : decode cX10_wires 78 = .ok (.iload_n 1, 1) := by decide +kernel
theorem dX10_wires_79 : decode cX10_wires 79 = .ok (.iload_n 2, 1) := by decide +kernel
theorem dX10_wires_80 : decode cX10_wires 80 = .ok (.invokevirtual 81, 3) := by decide +kernel
theorem dX10_wires_83 : decode cX10_wires 83 = .ok (.invokevirtual 87, 3) := by decide +kernel
theorem dX10_wires_86 : decode cX10_wires 86 = .ok (.ireturn, 1) := by decide +kernel
theorem dX10_wires_87 : decode cX10_wires 87 = .ok (.aload_n 0, 1) := by decide +kernel
theorem dX10_wires_88 : decode cX10_wires 88 = .ok (.iload_n 1, 1) := by decide +kernel
theorem dX10_wires_89 : decode cX10_wires 89 = .ok (.iload_n 3, 1) := by decide +kernel
theorem dX10_wires_90 : decode cX10_wires 90 = .ok (.invokevirtual 116, 3) := by decide +kernel
theorem dX10_wires_93 : decode cX10_wires 93 = .ok (.istore 4, 2) := by decide +kernel
theorem dX10_wires_95 : decode cX10_wires 95 = .ok (.aload_n 0, 1) := by decide +kernel
theorem dX10_wires_96 : decode cX10_wires 96 = .ok (.getfield 9, 3) := by decide +kernel
theorem dX10_wires_99 : decode cX10_wires 99 = .ok (.iconst 1, 1) := by decide +kernel
theorem dX10_wires_100 : decode cX10_wires 100 = .ok (.iaload, 1) := by decide +kernel
theorem dX10_wires_101 : decode cX10_wires 101 = .ok (.ifCond .ne 28, 3) := by decide +kernel
theorem dX10_wires_104 : decode cX10_wires 104 = .ok (.iload 4, 2) := by decide +kernel
theorem dX10_wires_106 : decode cX10_wires 106 = .ok (.ifCond .lt 23, 3) := by decide +kernel
theorem dX10_wires_109 : decode cX10_wires 109 = .ok (.aload_n 0, 1) := by decide +kernel
theorem dX10_wires_110 : decode cX10_wires 110 = .ok (.bipush 8, 2) := by decide +kernel
theorem dX10_wires_112 : decode cX10_wires 112 = .ok (.iload_n 3, 1) := by decide +kernel
theorem dX10_wires_113 : decode cX10_wires 113 = .ok (.invokevirtual 87, 3) := by decide +kernel
theorem dX10_wires_116 : decode cX10_wires 116 = .ok (.istore 5, 2) := by decide +kernel
theorem dX10_wires_118 : decode cX10_wires 118 = .ok (.aload_n 0, 1) := by decide +kernel
theorem dX10_wires_119 : decode cX10_wires 119 = .ok (.bipush 11, 2) := by decide +kernel
theorem dX10_wires_121 : decode cX10_wires 121 = .ok (.iload 4, 2) := by decide +kernel
theorem dX10_wires_123 : decode cX10_wires 123 = .ok (.iconst 1, 1) := by decide +kernel
theorem dX10_wires_124 : decode cX10_wires 124 = .ok (.iadd, 1) := by decide +kernel
theorem dX10_wires_125 : decode cX10_wires 125 = .ok (.invokevirtual 119, 3) := by decide +kernel
theorem dX10_wires_128 : decode cX10_wires 128 = .ok (.ireturn, 1) := by decide +kernel
theorem dX10_wires_129 : decode cX10_wires 129 = .ok (.aload_n 0, 1) := by decide +kernel
theorem dX10_wires_130 : decode cX10_wires 130 = .ok (.iload_n 1, 1) := by decide +kernel
theorem dX10_wires_131 : decode cX10_wires 131 = .ok (.iconst 4, 1) := by decide +kernel
theorem dX10_wires_132 : decode cX10_wires 132 = .ok (.iload_n 2, 1) := by decide +kernel
theorem dX10_wires_133 : decode cX10_wires 133 = .ok (.iadd, 1) := by decide +kernel
theorem dX10_wires_134 : decode cX10_wires 134 = .ok (.iload_n 3, 1) := by decide +kernel
theorem dX10_wires_135 : decode cX10_wires 135 = .ok (.iconst 1, 1) := by decide +kernel
theorem dX10_wires_136 : decode cX10_wires 136 = .ok (.iadd, 1) := by decide +kernel
theorem dX10_wires_137 : decode cX10_wires 137 = .ok (.invokevirtual 90, 3) := by decide +kernel
theorem dX10_wires_140 : decode cX10_wires 140 = .ok (.aload_n 0, 1) := by decide +kernel
theorem dX10_wires_141 : decode cX10_wires 141 = .ok (.aload_n 0, 1) := by decide +kernel
theorem dX10_wires_142 : decode cX10_wires 142 = .ok (.iload_n 1, 1) := by decide +kernel
theorem dX10_wires_143 : decode cX10_wires 143 = .ok (.invokevirtual 122, 3) := by decide +kernel
theorem dX10_wires_146 : decode cX10_wires 146 = .ok (.invokevirtual 94, 3) := by decide +kernel
theorem dX10_wires_149 : decode cX10_wires 149 = .ok (.ireturn, 1) := by decide +kernel
set_option maxRecDepth 20000 in
theorem ggX10_wire_X10_tries : GoodIn wsX10_wire wsX10_tries := goodIn_r _ [5, 6, 7, 74, 75, 76, 77, 78, 79, 80, 81, 82, 83, 84, 85, 86, 87, 88, 89, 90, 91, 92, 93, 94, 95, 96, 97] (by decide +kernel) (by decide +kernel)
set_option maxRecDepth 20000 in
theorem gX10_wire_X10_tries : GoodIn wsX10_wire (wsV RX10 97 RX10 yX10_tries wsX10_tries) := goodIn_app (goodIn_of _ (by decide +kernel)) ggX10_wire_X10_tries
set_option maxRecDepth 20000 in
theorem ggX10_wire_X10_wires : GoodIn wsX10_wire wsX10_wires := goodIn_r _ [11, 7, 12, 13, 14, 4, 15, 16, 17, 18, 19, 20, 21, 22, 23, 24, 25, 26, 27, 28, 29, 30, 31, 32, 33, 34, 35, 36, 37, 38, 39, 40, 41, 42, 43, 44, 45, 46, 47, 48, 49, 50, 51, 52, 53, 54, 55, 56, 57, 58, 59, 60, 61, 62, 63, 74, 75, 76, 77, 78, 79, 80, 81, 82, 83, 84, 85, 86, 87, 88, 89, 90, 91, 92, 93, 94, 95, 96, 97] (by decide +kernel) (by decide +kernel)
set_option maxRecDepth 20000 in
theorem gX10_wire_X10_wires : GoodIn wsX10_wire (wsV RX10 125 RX10 yX10_wires wsX10_wires) := goodIn_app (goodIn_of _ (by decide +kernel)) ggX10_wire_X10_wires
set_option maxRecDepth 20000 in
theorem ggX10_wire_X10_ends : GoodIn wsX10_wire wsX10_ends := goodIn_r _ [67, 63, 68, 69, 70, 4, 71, 72, 73, 6, 74, 75, 76, 77, 78, 79, 80, 81, 82, 83, 84, 85, 86, 87, 88, 89, 90, 91, 92, 93, 94, 95, 96, 97] (by decide +kernel) (by decide +kernel)
set_option maxRecDepth 20000 in
theorem gX10_wire_X10_ends : GoodIn wsX10_wire (wsV RX10 103 RX10 yX10_ends wsX10_ends) := goodIn_app (goodIn_of _ (by decide +kernel)) ggX10_wire_X10_ends
theorem dX10_wire_0 : decode cX10_wire 0 = .ok (.aload_n 0, 1) := by decide +kernel
theorem dX10_wire_1 : decode cX10_wire 1 = .ok (.invokevirtual 97, 3) := by decide +kernel
theorem dX10_wire_4 : decode cX10_wire 4 = .ok (.aload_n 0, 1) := by decide +kernel
theorem dX10_wire_5 : decode cX10_wire 5 = .ok (.aload_n 0, 1) := by decide +kernel
theorem dX10_wire_6 : decode cX10_wire 6 = .ok (.iload_n 1, 1) := by decide +kernel
theorem dX10_wire_7 : decode cX10_wire 7 = .ok (.iload_n 2, 1) := by decide +kernel
theorem dX10_wire_8 : decode cX10_wire 8 = .ok (.iload_n 3, 1) := by decide +kernel
theorem dX10_wire_9 : decode cX10_wire 9 = .ok (.invokevirtual 125, 3) := by decide +kernel
theorem dX10_wire_12 : decode cX10_wire 12 = .ok (.invokevirtual 103, 3) := by decide +kernel
theorem dX10_wire_15 : decode cX10_wire 15 = .ok (.ireturn, 1) := by decide +kernel
set_option maxRecDepth 20000 in
theorem ggX10_cuts_X10_isLantern : GoodIn wsX10_cuts wsX10_isLantern := goodIn_r _ [5, 6, 7, 8, 4, 9, 42, 43, 44, 45, 46, 47, 48, 49, 50, 51, 52, 53, 54, 55, 56, 57, 58, 59, 60, 61, 62, 63, 64, 65] (by decide +kernel) (by decide +kernel)
set_option maxRecDepth 20000 in
theorem gX10_cuts_X10_isLantern : GoodIn wsX10_cuts (wsV RX10 106 RX10 yX10_isLantern wsX10_isLantern) := goodIn_app (goodIn_of _ (by decide +kernel)) ggX10_cuts_X10_isLantern
set_option maxRecDepth 20000 in
theorem ggX10_cuts_X10_in : GoodIn wsX10_cuts wsX10_in := goodIn_r _ [9] (by decide +kernel) (by decide +kernel)
set_option maxRecDepth 20000 in
theorem gX10_cuts_X10_in : GoodIn wsX10_cuts (va_wsS RX10 73 yX10_in wsX10_in) := goodIn_app (goodIn_of _ (by decide +kernel)) ggX10_cuts_X10_in
set_option maxRecDepth 20000 in
theorem ggX10_cuts_X10_isSwitch : GoodIn wsX10_cuts wsX10_isSwitch := goodIn_r _ [13, 14, 15, 16, 4, 17, 6, 42, 43, 44, 45, 46, 47, 48, 49, 50, 51, 52, 53, 54, 55, 56, 57, 58, 59, 60, 61, 62, 63, 64, 65] (by decide +kernel) (by decide +kernel)
set_option maxRecDepth 20000 in
theorem gX10_cuts_X10_isSwitch : GoodIn wsX10_cuts (wsV RX10 110 RX10 yX10_isSwitch wsX10_isSwitch) := goodIn_app (goodIn_of _ (by decide +kernel)) ggX10_cuts_X10_isSwitch
set_option maxRecDepth 20000 in
theorem ggX10_cuts_X10_refuses : GoodIn wsX10_cuts wsX10_refuses := goodIn_r _ [21, 22, 23, 24, 42, 43, 44, 45, 46, 47, 48, 49, 50, 51, 52, 53, 54, 55, 56, 57, 58, 59, 60, 61, 62, 63, 64, 65] (by decide +kernel) (by decide +kernel)
set_option maxRecDepth 20000 in
theorem gX10_cuts_X10_refuses : GoodIn wsX10_cuts (wsV RX10 87 RX10 yX10_refuses wsX10_refuses) := goodIn_app (goodIn_of _ (by decide +kernel)) ggX10_cuts_X10_refuses
set_option maxRecDepth 20000 in
theorem ggX10_cuts_X10_places : GoodIn wsX10_cuts wsX10_places := goodIn_r _ [28, 14, 15, 16, 4, 17, 6, 42, 43, 44, 45, 46, 47, 48, 49, 50, 51, 52, 53, 54, 55, 56, 57, 58, 59, 60, 61, 62, 63, 64, 65] (by decide +kernel) (by decide +kernel)
set_option maxRecDepth 20000 in
theorem gX10_cuts_X10_places : GoodIn wsX10_cuts (wsV RX10 113 RX10 yX10_places wsX10_places) := goodIn_app (goodIn_of _ (by decide +kernel)) ggX10_cuts_X10_places
set_option maxRecDepth 20000 in
theorem ggX10_cuts_X10_wired : GoodIn wsX10_cuts wsX10_wired := goodIn_r _ [32, 14, 15, 16, 4, 17, 6, 42, 43, 44, 45, 46, 47, 48, 49, 50, 51, 52, 53, 54, 55, 56, 57, 58, 59, 60, 61, 62, 63, 64, 65] (by decide +kernel) (by decide +kernel)
set_option maxRecDepth 20000 in
theorem gX10_cuts_X10_wired : GoodIn wsX10_cuts (wsV RX10 81 RX10 yX10_wired wsX10_wired) := goodIn_app (goodIn_of _ (by decide +kernel)) ggX10_cuts_X10_wired
set_option maxRecDepth 20000 in
theorem ggX10_cuts_X10_sets : GoodIn wsX10_cuts wsX10_sets := goodIn_r _ [36, 6, 42, 43, 44, 45, 46, 47, 48, 49, 50, 51, 52, 53, 54, 55, 56, 57, 58, 59, 60, 61, 62, 63, 64, 65] (by decide +kernel) (by decide +kernel)
set_option maxRecDepth 20000 in
theorem gX10_cuts_X10_sets : GoodIn wsX10_cuts (wsV RX10 90 RX10 yX10_sets wsX10_sets) := goodIn_app (goodIn_of _ (by decide +kernel)) ggX10_cuts_X10_sets
set_option maxRecDepth 20000 in
theorem ggX10_cuts_X10_does : GoodIn wsX10_cuts wsX10_does := goodIn_r _ [40, 41, 42, 43, 44, 45, 46, 47, 48, 49, 50, 51, 52, 53, 54, 55, 56, 57, 58, 59, 60, 61, 62, 63, 64, 65] (by decide +kernel) (by decide +kernel)
set_option maxRecDepth 20000 in
theorem gX10_cuts_X10_does : GoodIn wsX10_cuts (wsV RX10 94 RX10 yX10_does wsX10_does) := goodIn_app (goodIn_of _ (by decide +kernel)) ggX10_cuts_X10_does
theorem dX10_cuts_0 : decode cX10_cuts 0 = .ok (.aload_n 0, 1) := by decide +kernel
theorem dX10_cuts_1 : decode cX10_cuts 1 = .ok (.iload_n 1, 1) := by decide +kernel
theorem dX10_cuts_2 : decode cX10_cuts 2 = .ok (.invokevirtual 106, 3) := by decide +kernel
theorem dX10_cuts_5 : decode cX10_cuts 5 = .ok (.ifCond .ne 6, 3) := by decide +kernel
theorem dX10_cuts_8 : decode cX10_cuts 8 = .ok (.bipush (-11), 2) := by decide +kernel
theorem dX10_cuts_10 : decode cX10_cuts 10 = .ok (.ireturn, 1) := by decide +kernel
theorem dX10_cuts_11 : decode cX10_cuts 11 = .ok (.iload_n 2, 1) := by decide +kernel
theorem dX10_cuts_12 : decode cX10_cuts 12 = .ok (.iconst 0, 1) := by decide +kernel
theorem dX10_cuts_13 : decode cX10_cuts 13 = .ok (.iconst 2, 1) := by decide +kernel
theorem dX10_cuts_14 : decode cX10_cuts 14 = .ok (.invokestatic 73, 3) := by decide +kernel
theorem dX10_cuts_17 : decode cX10_cuts 17 = .ok (.ifCond .ne 6, 3) := by decide +kernel
theorem dX10_cuts_20 : decode cX10_cuts 20 = .ok (.bipush (-12), 2) := by decide +kernel
theorem dX10_cuts_22 : decode cX10_cuts 22 = .ok (.ireturn, 1) := by decide +kernel
theorem dX10_cuts_23 : decode cX10_cuts 23 = .ok (.aload_n 0, 1) := by decide +kernel
theorem dX10_cuts_24 : decode cX10_cuts 24 = .ok (.iload_n 1, 1) := by decide +kernel
theorem dX10_cuts_25 : decode cX10_cuts 25 = .ok (.invokevirtual 110, 3) := by decide +kernel
theorem dX10_cuts_28 : decode cX10_cuts 28 = .ok (.ifCond .eq 10, 3) := by decide +kernel
theorem dX10_cuts_31 : decode cX10_cuts 31 = .ok (.aload_n 0, 1) := by decide +kernel
theorem dX10_cuts_32 : decode cX10_cuts 32 = .ok (.iconst 2, 1) := by decide +kernel
theorem dX10_cuts_33 : decode cX10_cuts 33 = .ok (.iload_n 1, 1) := by decide +kernel
theorem dX10_cuts_34 : decode cX10_cuts 34 = .ok (.invokevirtual 87, 3) := by decide +kernel
theorem dX10_cuts_37 : decode cX10_cuts 37 = .ok (.ireturn, 1) := by decide +kernel
theorem dX10_cuts_38 : decode cX10_cuts 38 = .ok (.iload_n 2, 1) := by decide +kernel
theorem dX10_cuts_39 : decode cX10_cuts 39 = .ok (.aload_n 0, 1) := by decide +kernel
theorem dX10_cuts_40 : decode cX10_cuts 40 = .ok (.iload_n 1, 1) := by decide +kernel
theorem dX10_cuts_41 : decode cX10_cuts 41 = .ok (.invokevirtual 113, 3) := by decide +kernel
theorem dX10_cuts_44 : decode cX10_cuts 44 = .ok (.if_icmp .lt 14, 3) := by decide +kernel
theorem dX10_cuts_47 : decode cX10_cuts 47 = .ok (.aload_n 0, 1) := by decide +kernel
theorem dX10_cuts_48 : decode cX10_cuts 48 = .ok (.iconst 3, 1) := by decide +kernel
theorem dX10_cuts_49 : decode cX10_cuts 49 = .ok (.aload_n 0, 1) := by decide +kernel
theorem dX10_cuts_50 : decode cX10_cuts 50 = .ok (.iload_n 1, 1) := by decide +kernel
theorem dX10_cuts_51 : decode cX10_cuts 51 = .ok (.invokevirtual 113, 3) := by decide +kernel
theorem dX10_cuts_54 : decode cX10_cuts 54 = .ok (.invokevirtual 87, 3) := by decide +kernel
theorem dX10_cuts_57 : decode cX10_cuts 57 = .ok (.ireturn, 1) := by decide +kernel
theorem dX10_cuts_58 : decode cX10_cuts 58 = .ok (.aload_n 0, 1) := by decide +kernel
theorem dX10_cuts_59 : decode cX10_cuts 59 = .ok (.iload_n 1, 1) := by decide +kernel
theorem dX10_cuts_60 : decode cX10_cuts 60 = .ok (.iload_n 2, 1) := by decide +kernel
theorem dX10_cuts_61 : decode cX10_cuts 61 = .ok (.invokevirtual 81, 3) := by decide +kernel
theorem dX10_cuts_64 : decode cX10_cuts 64 = .ok (.istore_n 3, 1) := by decide +kernel
theorem dX10_cuts_65 : decode cX10_cuts 65 = .ok (.iload_n 3, 1) := by decide +kernel
theorem dX10_cuts_66 : decode cX10_cuts 66 = .ok (.ifCond .ge 10, 3) := by decide +kernel
theorem dX10_cuts_69 : decode cX10_cuts 69 = .ok (.aload_n 0, 1) := by decide +kernel
theorem dX10_cuts_70 : decode cX10_cuts 70 = .ok (.iconst 5, 1) := by decide +kernel
theorem dX10_cuts_71 : decode cX10_cuts 71 = .ok (.iload_n 2, 1) := by decide +kernel
theorem dX10_cuts_72 : decode cX10_cuts 72 = .ok (.invokevirtual 87, 3) := by decide +kernel
theorem dX10_cuts_75 : decode cX10_cuts 75 = .ok (.ireturn, 1) := by decide +kernel
theorem dX10_cuts_76 : decode cX10_cuts 76 = .ok (.aload_n 0, 1) := by decide +kernel
theorem dX10_cuts_77 : decode cX10_cuts 77 = .ok (.iload_n 1, 1) := by decide +kernel
theorem dX10_cuts_78 : decode cX10_cuts 78 = .ok (.iconst 4, 1) := by decide +kernel
theorem dX10_cuts_79 : decode cX10_cuts 79 = .ok (.iload_n 2, 1) := by decide +kernel
theorem dX10_cuts_80 : decode cX10_cuts 80 = .ok (.iadd, 1) := by decide +kernel
theorem dX10_cuts_81 : decode cX10_cuts 81 = .ok (.iconst 0, 1) := by decide +kernel
theorem dX10_cuts_82 : decode cX10_cuts 82 = .ok (.invokevirtual 90, 3) := by decide +kernel
theorem dX10_cuts_85 : decode cX10_cuts 85 = .ok (.aload_n 0, 1) := by decide +kernel
theorem dX10_cuts_86 : decode cX10_cuts 86 = .ok (.iload_n 3, 1) := by decide +kernel
theorem dX10_cuts_87 : decode cX10_cuts 87 = .ok (.invokevirtual 94, 3) := by decide +kernel
theorem dX10_cuts_90 : decode cX10_cuts 90 = .ok (.ireturn, 1) := by decide +kernel
set_option maxRecDepth 20000 in
theorem ggX10_cut_X10_tries : GoodIn wsX10_cut wsX10_tries := goodIn_r _ [5, 6, 7, 61, 62, 63, 64, 65, 66, 67, 68, 69, 70, 71, 72, 73, 74, 75, 76, 77, 78, 79, 80, 81, 82, 83, 84] (by decide +kernel) (by decide +kernel)
set_option maxRecDepth 20000 in
theorem gX10_cut_X10_tries : GoodIn wsX10_cut (wsV RX10 97 RX10 yX10_tries wsX10_tries) := goodIn_app (goodIn_of _ (by decide +kernel)) ggX10_cut_X10_tries
set_option maxRecDepth 20000 in
theorem ggX10_cut_X10_cuts : GoodIn wsX10_cut wsX10_cuts := goodIn_r _ [11, 12, 13, 14, 4, 15, 7, 16, 17, 18, 19, 20, 21, 22, 23, 24, 25, 26, 27, 28, 29, 30, 31, 32, 33, 34, 35, 36, 37, 38, 39, 40, 41, 42, 43, 44, 45, 46, 47, 48, 49, 50, 61, 62, 63, 64, 65, 66, 67, 68, 69, 70, 71, 72, 73, 74, 75, 76, 77, 78, 79, 80, 81, 82, 83, 84] (by decide +kernel) (by decide +kernel)
set_option maxRecDepth 20000 in
theorem gX10_cut_X10_cuts : GoodIn wsX10_cut (wsV RX10 129 RX10 yX10_cuts wsX10_cuts) := goodIn_app (goodIn_of _ (by decide +kernel)) ggX10_cut_X10_cuts
set_option maxRecDepth 20000 in
theorem ggX10_cut_X10_ends : GoodIn wsX10_cut wsX10_ends := goodIn_r _ [54, 50, 55, 56, 57, 4, 58, 59, 60, 6, 61, 62, 63, 64, 65, 66, 67, 68, 69, 70, 71, 72, 73, 74, 75, 76, 77, 78, 79, 80, 81, 82, 83, 84] (by decide +kernel) (by decide +kernel)
set_option maxRecDepth 20000 in
theorem gX10_cut_X10_ends : GoodIn wsX10_cut (wsV RX10 103 RX10 yX10_ends wsX10_ends) := goodIn_app (goodIn_of _ (by decide +kernel)) ggX10_cut_X10_ends
theorem dX10_cut_0 : decode cX10_cut 0 = .ok (.aload_n 0, 1) := by decide +kernel
theorem dX10_cut_1 : decode cX10_cut 1 = .ok (.invokevirtual 97, 3) := by decide +kernel
theorem dX10_cut_4 : decode cX10_cut 4 = .ok (.aload_n 0, 1) := by decide +kernel
theorem dX10_cut_5 : decode cX10_cut 5 = .ok (.aload_n 0, 1) := by decide +kernel
theorem dX10_cut_6 : decode cX10_cut 6 = .ok (.iload_n 1, 1) := by decide +kernel
theorem dX10_cut_7 : decode cX10_cut 7 = .ok (.iload_n 2, 1) := by decide +kernel
theorem dX10_cut_8 : decode cX10_cut 8 = .ok (.invokevirtual 129, 3) := by decide +kernel
theorem dX10_cut_11 : decode cX10_cut 11 = .ok (.invokevirtual 103, 3) := by decide +kernel
theorem dX10_cut_14 : decode cX10_cut 14 = .ok (.ireturn, 1) := by decide +kernel
set_option maxRecDepth 20000 in
theorem ggX10_switches_X10_isLantern : GoodIn wsX10_switches wsX10_isLantern := goodIn_r _ [6, 1, 7, 8, 5, 9, 38, 39, 40, 41, 42, 43, 44, 45, 46, 47, 48, 49, 50, 51, 52, 53, 54, 55, 56, 57, 58, 59, 60, 61] (by decide +kernel) (by decide +kernel)
set_option maxRecDepth 20000 in
theorem gX10_switches_X10_isLantern : GoodIn wsX10_switches (wsV RX10 106 RX10 yX10_isLantern wsX10_isLantern) := goodIn_app (goodIn_of _ (by decide +kernel)) ggX10_switches_X10_isLantern
set_option maxRecDepth 20000 in
theorem ggX10_switches_X10_isSwitch : GoodIn wsX10_switches wsX10_isSwitch := goodIn_r _ [13, 14, 15, 16, 5, 17, 1, 38, 39, 40, 41, 42, 43, 44, 45, 46, 47, 48, 49, 50, 51, 52, 53, 54, 55, 56, 57, 58, 59, 60, 61] (by decide +kernel) (by decide +kernel)
set_option maxRecDepth 20000 in
theorem gX10_switches_X10_isSwitch : GoodIn wsX10_switches (wsV RX10 110 RX10 yX10_isSwitch wsX10_isSwitch) := goodIn_app (goodIn_of _ (by decide +kernel)) ggX10_switches_X10_isSwitch
set_option maxRecDepth 20000 in
theorem ggX10_switches_X10_of : GoodIn wsX10_switches wsX10_of := goodIn_r _ [17, 1, 38, 39, 40, 41, 42, 43, 44, 45, 46, 47, 48, 49, 50, 51, 52, 53, 54, 55, 56, 57, 58, 59, 60, 61] (by decide +kernel) (by decide +kernel)
set_option maxRecDepth 20000 in
theorem gX10_switches_X10_of : GoodIn wsX10_switches (wsV RX10 77 RX10 yX10_of wsX10_of) := goodIn_app (goodIn_of _ (by decide +kernel)) ggX10_switches_X10_of
set_option maxRecDepth 20000 in
theorem ggX10_switches_X10_refuses : GoodIn wsX10_switches wsX10_refuses := goodIn_r _ [21, 22, 23, 24, 38, 39, 40, 41, 42, 43, 44, 45, 46, 47, 48, 49, 50, 51, 52, 53, 54, 55, 56, 57, 58, 59, 60, 61] (by decide +kernel) (by decide +kernel)
set_option maxRecDepth 20000 in
theorem gX10_switches_X10_refuses : GoodIn wsX10_switches (wsV RX10 87 RX10 yX10_refuses wsX10_refuses) := goodIn_app (goodIn_of _ (by decide +kernel)) ggX10_switches_X10_refuses
set_option maxRecDepth 20000 in
theorem ggX10_switches_X10_sets : GoodIn wsX10_switches wsX10_sets := goodIn_r _ [28, 1, 38, 39, 40, 41, 42, 43, 44, 45, 46, 47, 48, 49, 50, 51, 52, 53, 54, 55, 56, 57, 58, 59, 60, 61] (by decide +kernel) (by decide +kernel)
set_option maxRecDepth 20000 in
theorem gX10_switches_X10_sets : GoodIn wsX10_switches (wsV RX10 90 RX10 yX10_sets wsX10_sets) := goodIn_app (goodIn_of _ (by decide +kernel)) ggX10_switches_X10_sets
set_option maxRecDepth 20000 in
theorem ggX10_switches_X10_glowing : GoodIn wsX10_switches wsX10_glowing := goodIn_r _ [32, 1, 14, 15, 16, 5, 17, 38, 39, 40, 41, 42, 43, 44, 45, 46, 47, 48, 49, 50, 51, 52, 53, 54, 55, 56, 57, 58, 59, 60, 61] (by decide +kernel) (by decide +kernel)
set_option maxRecDepth 20000 in
theorem gX10_switches_X10_glowing : GoodIn wsX10_switches (wsV RX10 132 RX10 yX10_glowing wsX10_glowing) := goodIn_app (goodIn_of _ (by decide +kernel)) ggX10_switches_X10_glowing
set_option maxRecDepth 20000 in
theorem ggX10_switches_X10_does : GoodIn wsX10_switches wsX10_does := goodIn_r _ [36, 37, 38, 39, 40, 41, 42, 43, 44, 45, 46, 47, 48, 49, 50, 51, 52, 53, 54, 55, 56, 57, 58, 59, 60, 61] (by decide +kernel) (by decide +kernel)
set_option maxRecDepth 20000 in
theorem gX10_switches_X10_does : GoodIn wsX10_switches (wsV RX10 94 RX10 yX10_does wsX10_does) := goodIn_app (goodIn_of _ (by decide +kernel)) ggX10_switches_X10_does
theorem dX10_switches_0 : decode cX10_switches 0 = .ok (.aload_n 0, 1) := by decide +kernel
theorem dX10_switches_1 : decode cX10_switches 1 = .ok (.iload_n 1, 1) := by decide +kernel
theorem dX10_switches_2 : decode cX10_switches 2 = .ok (.invokevirtual 106, 3) := by decide +kernel
theorem dX10_switches_5 : decode cX10_switches 5 = .ok (.ifCond .ne 6, 3) := by decide +kernel
theorem dX10_switches_8 : decode cX10_switches 8 = .ok (.bipush (-11), 2) := by decide +kernel
theorem dX10_switches_10 : decode cX10_switches 10 = .ok (.ireturn, 1) := by decide +kernel
theorem dX10_switches_11 : decode cX10_switches 11 = .ok (.aload_n 0, 1) := by decide +kernel
theorem dX10_switches_12 : decode cX10_switches 12 = .ok (.iload_n 1, 1) := by decide +kernel
theorem dX10_switches_13 : decode cX10_switches 13 = .ok (.invokevirtual 110, 3) := by decide +kernel
theorem dX10_switches_16 : decode cX10_switches 16 = .ok (.ifCond .ne 16, 3) := by decide +kernel
theorem dX10_switches_19 : decode cX10_switches 19 = .ok (.aload_n 0, 1) := by decide +kernel
theorem dX10_switches_20 : decode cX10_switches 20 = .ok (.bipush 6, 2) := by decide +kernel
theorem dX10_switches_22 : decode cX10_switches 22 = .ok (.aload_n 0, 1) := by decide +kernel
theorem dX10_switches_23 : decode cX10_switches 23 = .ok (.iload_n 1, 1) := by decide +kernel
theorem dX10_switches_24 : decode cX10_switches 24 = .ok (.iconst 0, 1) := by decide +kernel
theorem dX10_switches_25 : decode cX10_switches 25 = .ok (.invokevirtual 77, 3) := by decide +kernel
theorem dX10_switches_28 : decode cX10_switches 28 = .ok (.invokevirtual 87, 3) := by decide +kernel
theorem dX10_switches_31 : decode cX10_switches 31 = .ok (.ireturn, 1) := by decide +kernel
theorem dX10_switches_32 : decode cX10_switches 32 = .ok (.aload_n 0, 1) := by decide +kernel
theorem dX10_switches_33 : decode cX10_switches 33 = .ok (.iload_n 1, 1) := by decide +kernel
theorem dX10_switches_34 : decode cX10_switches 34 = .ok (.iconst 2, 1) := by decide +kernel
theorem dX10_switches_35 : decode cX10_switches 35 = .ok (.invokevirtual 77, 3) := by decide +kernel
theorem dX10_switches_38 : decode cX10_switches 38 = .ok (.iload_n 2, 1) := by decide +kernel
theorem dX10_switches_39 : decode cX10_switches 39 = .ok (.if_icmp .ne 11, 3) := by decide +kernel
theorem dX10_switches_42 : decode cX10_switches 42 = .ok (.aload_n 0, 1) := by decide +kernel
theorem dX10_switches_43 : decode cX10_switches 43 = .ok (.bipush 7, 2) := by decide +kernel
theorem dX10_switches_45 : decode cX10_switches 45 = .ok (.iload_n 1, 1) := by decide +kernel
theorem dX10_switches_46 : decode cX10_switches 46 = .ok (.invokevirtual 87, 3) := by decide +kernel
theorem dX10_switches_49 : decode cX10_switches 49 = .ok (.ireturn, 1) := by decide +kernel
theorem dX10_switches_50 : decode cX10_switches 50 = .ok (.aload_n 0, 1) := by decide +kernel
theorem dX10_switches_51 : decode cX10_switches 51 = .ok (.iload_n 1, 1) := by decide +kernel
theorem dX10_switches_52 : decode cX10_switches 52 = .ok (.iconst 2, 1) := by decide +kernel
theorem dX10_switches_53 : decode cX10_switches 53 = .ok (.iload_n 2, 1) := by decide +kernel
theorem dX10_switches_54 : decode cX10_switches 54 = .ok (.invokevirtual 90, 3) := by decide +kernel
theorem dX10_switches_57 : decode cX10_switches 57 = .ok (.aload_n 0, 1) := by decide +kernel
theorem dX10_switches_58 : decode cX10_switches 58 = .ok (.iload_n 1, 1) := by decide +kernel
theorem dX10_switches_59 : decode cX10_switches 59 = .ok (.iconst 3, 1) := by decide +kernel
theorem dX10_switches_60 : decode cX10_switches 60 = .ok (.aload_n 0, 1) := by decide +kernel
theorem dX10_switches_61 : decode cX10_switches 61 = .ok (.iload_n 1, 1) := by decide +kernel
theorem dX10_switches_62 : decode cX10_switches 62 = .ok (.iconst 3, 1) := by decide +kernel
theorem dX10_switches_63 : decode cX10_switches 63 = .ok (.invokevirtual 77, 3) := by decide +kernel
theorem dX10_switches_66 : decode cX10_switches 66 = .ok (.iconst 1, 1) := by decide +kernel
theorem dX10_switches_67 : decode cX10_switches 67 = .ok (.iadd, 1) := by decide +kernel
theorem dX10_switches_68 : decode cX10_switches 68 = .ok (.invokevirtual 90, 3) := by decide +kernel
theorem dX10_switches_71 : decode cX10_switches 71 = .ok (.aload_n 0, 1) := by decide +kernel
theorem dX10_switches_72 : decode cX10_switches 72 = .ok (.getfield 9, 3) := by decide +kernel
theorem dX10_switches_75 : decode cX10_switches 75 = .ok (.iconst 4, 1) := by decide +kernel
theorem dX10_switches_76 : decode cX10_switches 76 = .ok (.dup2, 1) := by decide +kernel
theorem dX10_switches_77 : decode cX10_switches 77 = .ok (.iaload, 1) := by decide +kernel
theorem dX10_switches_78 : decode cX10_switches 78 = .ok (.iconst 1, 1) := by decide +kernel
theorem dX10_switches_79 : decode cX10_switches 79 = .ok (.iadd, 1) := by decide +kernel
theorem dX10_switches_80 : decode cX10_switches 80 = .ok (.iastore, 1) := by decide +kernel
theorem dX10_switches_81 : decode cX10_switches 81 = .ok (.aload_n 0, 1) := by decide +kernel
theorem dX10_switches_82 : decode cX10_switches 82 = .ok (.aload_n 0, 1) := by decide +kernel
theorem dX10_switches_83 : decode cX10_switches 83 = .ok (.invokevirtual 132, 3) := by decide +kernel
theorem dX10_switches_86 : decode cX10_switches 86 = .ok (.invokevirtual 94, 3) := by decide +kernel
theorem dX10_switches_89 : decode cX10_switches 89 = .ok (.ireturn, 1) := by decide +kernel
set_option maxRecDepth 20000 in
theorem ggX10_set_X10_tries : GoodIn wsX10_set wsX10_tries := goodIn_r _ [5, 6, 7, 57, 58, 59, 60, 61, 62, 63, 64, 65, 66, 67, 68, 69, 70, 71, 72, 73, 74, 75, 76, 77, 78, 79, 80] (by decide +kernel) (by decide +kernel)
set_option maxRecDepth 20000 in
theorem gX10_set_X10_tries : GoodIn wsX10_set (wsV RX10 97 RX10 yX10_tries wsX10_tries) := goodIn_app (goodIn_of _ (by decide +kernel)) ggX10_set_X10_tries
set_option maxRecDepth 20000 in
theorem ggX10_set_X10_switches : GoodIn wsX10_set wsX10_switches := goodIn_r _ [11, 7, 12, 13, 14, 4, 15, 16, 17, 18, 19, 20, 21, 22, 23, 24, 25, 26, 27, 28, 29, 30, 31, 32, 33, 34, 35, 36, 37, 38, 39, 40, 41, 42, 43, 44, 45, 46, 57, 58, 59, 60, 61, 62, 63, 64, 65, 66, 67, 68, 69, 70, 71, 72, 73, 74, 75, 76, 77, 78, 79, 80] (by decide +kernel) (by decide +kernel)
set_option maxRecDepth 20000 in
theorem gX10_set_X10_switches : GoodIn wsX10_set (wsV RX10 136 RX10 yX10_switches wsX10_switches) := goodIn_app (goodIn_of _ (by decide +kernel)) ggX10_set_X10_switches
set_option maxRecDepth 20000 in
theorem ggX10_set_X10_ends : GoodIn wsX10_set wsX10_ends := goodIn_r _ [50, 46, 51, 52, 53, 4, 54, 55, 56, 6, 57, 58, 59, 60, 61, 62, 63, 64, 65, 66, 67, 68, 69, 70, 71, 72, 73, 74, 75, 76, 77, 78, 79, 80] (by decide +kernel) (by decide +kernel)
set_option maxRecDepth 20000 in
theorem gX10_set_X10_ends : GoodIn wsX10_set (wsV RX10 103 RX10 yX10_ends wsX10_ends) := goodIn_app (goodIn_of _ (by decide +kernel)) ggX10_set_X10_ends
theorem dX10_set_0 : decode cX10_set 0 = .ok (.aload_n 0, 1) := by decide +kernel
theorem dX10_set_1 : decode cX10_set 1 = .ok (.invokevirtual 97, 3) := by decide +kernel
theorem dX10_set_4 : decode cX10_set 4 = .ok (.aload_n 0, 1) := by decide +kernel
theorem dX10_set_5 : decode cX10_set 5 = .ok (.aload_n 0, 1) := by decide +kernel
theorem dX10_set_6 : decode cX10_set 6 = .ok (.iload_n 1, 1) := by decide +kernel
theorem dX10_set_7 : decode cX10_set 7 = .ok (.iload_n 2, 1) := by decide +kernel
theorem dX10_set_8 : decode cX10_set 8 = .ok (.ifCond .eq 7, 3) := by decide +kernel
theorem dX10_set_11 : decode cX10_set 11 = .ok (.iconst 1, 1) := by decide +kernel
theorem dX10_set_12 : decode cX10_set 12 = .ok (.goto 4, 3) := by decide +kernel
theorem dX10_set_15 : decode cX10_set 15 = .ok (.iconst 0, 1) := by decide +kernel
theorem dX10_set_16 : decode cX10_set 16 = .ok (.invokevirtual 136, 3) := by decide +kernel
theorem dX10_set_19 : decode cX10_set 19 = .ok (.invokevirtual 103, 3) := by decide +kernel
theorem dX10_set_22 : decode cX10_set 22 = .ok (.ireturn, 1) := by decide +kernel
set_option maxRecDepth 20000 in
theorem ggX10_loops_X10_tries : GoodIn wsX10_loops wsX10_tries := goodIn_r _ [6, 7, 1, 53, 54, 55, 56, 57, 58, 59, 60, 61, 62, 63, 64, 65, 66, 67, 68, 69, 70, 71, 72, 73, 74, 75, 76] (by decide +kernel) (by decide +kernel)
set_option maxRecDepth 20000 in
theorem gX10_loops_X10_tries : GoodIn wsX10_loops (wsV RX10 97 RX10 yX10_tries wsX10_tries) := goodIn_app (goodIn_of _ (by decide +kernel)) ggX10_loops_X10_tries
set_option maxRecDepth 20000 in
theorem ggX10_loops_X10_loopSet : GoodIn wsX10_loops wsX10_loopSet := goodIn_r _ [11, 1, 12, 13, 14, 15, 5, 16, 17, 18, 19, 20, 21, 22, 23, 24, 53, 54, 55, 56, 57, 58, 59, 60, 61, 62, 63, 64, 65, 66, 67, 68, 69, 70, 71, 72, 73, 74, 75, 76] (by decide +kernel) (by decide +kernel)
set_option maxRecDepth 20000 in
theorem gX10_loops_X10_loopSet : GoodIn wsX10_loops (wsV RX10 139 RX10 yX10_loopSet wsX10_loopSet) := goodIn_app (goodIn_of _ (by decide +kernel)) ggX10_loops_X10_loopSet
set_option maxRecDepth 20000 in
theorem ggX10_loops_J6_numberOfTrailingZeros_0f7a4 : GoodIn wsX10_loops wsJ6_numberOfTrailingZeros_0f7a4 := goodIn_r _ [28, 29] (by decide +kernel) (by decide +kernel)
set_option maxRecDepth 20000 in
theorem gX10_loops_J6_numberOfTrailingZeros_0f7a4 : GoodIn wsX10_loops (va_wsS RX10 142 yJ6_numberOfTrailingZeros_0f7a4 wsJ6_numberOfTrailingZeros_0f7a4) := goodIn_app (goodIn_of _ (by decide +kernel)) ggX10_loops_J6_numberOfTrailingZeros_0f7a4
set_option maxRecDepth 20000 in
theorem ggX10_loops_X10_refuses : GoodIn wsX10_loops wsX10_refuses := goodIn_r _ [33, 34, 35, 36, 53, 54, 55, 56, 57, 58, 59, 60, 61, 62, 63, 64, 65, 66, 67, 68, 69, 70, 71, 72, 73, 74, 75, 76] (by decide +kernel) (by decide +kernel)
set_option maxRecDepth 20000 in
theorem gX10_loops_X10_refuses : GoodIn wsX10_loops (wsV RX10 87 RX10 yX10_refuses wsX10_refuses) := goodIn_app (goodIn_of _ (by decide +kernel)) ggX10_loops_X10_refuses
set_option maxRecDepth 20000 in
theorem ggX10_loops_J6_bitCount_0f7a4 : GoodIn wsX10_loops wsJ6_bitCount_0f7a4 := goodIn_r _ [39, 40, 41, 42] (by decide +kernel) (by decide +kernel)
set_option maxRecDepth 20000 in
theorem gX10_loops_J6_bitCount_0f7a4 : GoodIn wsX10_loops (va_wsS RX10 147 yJ6_bitCount_0f7a4 wsJ6_bitCount_0f7a4) := goodIn_app (goodIn_of _ (by decide +kernel)) ggX10_loops_J6_bitCount_0f7a4
set_option maxRecDepth 20000 in
theorem ggX10_loops_X10_behind : GoodIn wsX10_loops wsX10_behind := goodIn_r _ [46, 34, 36, 35, 53, 54, 55, 56, 57, 58, 59, 60, 61, 62, 63, 64, 65, 66, 67, 68, 69, 70, 71, 72, 73, 74, 75, 76] (by decide +kernel) (by decide +kernel)
set_option maxRecDepth 20000 in
theorem gX10_loops_X10_behind : GoodIn wsX10_loops (wsV RX10 119 RX10 yX10_behind wsX10_behind) := goodIn_app (goodIn_of _ (by decide +kernel)) ggX10_loops_X10_behind
set_option maxRecDepth 20000 in
theorem ggX10_loops_X10_keeps : GoodIn wsX10_loops wsX10_keeps := goodIn_r _ [50, 51, 52, 7, 53, 54, 55, 56, 57, 58, 59, 60, 61, 62, 63, 64, 65, 66, 67, 68, 69, 70, 71, 72, 73, 74, 75, 76] (by decide +kernel) (by decide +kernel)
set_option maxRecDepth 20000 in
theorem gX10_loops_X10_keeps : GoodIn wsX10_loops (wsV RX10 69 RX10 yX10_keeps wsX10_keeps) := goodIn_app (goodIn_of _ (by decide +kernel)) ggX10_loops_X10_keeps
theorem dX10_loops_0 : decode cX10_loops 0 = .ok (.aload_n 0, 1) := by decide +kernel
theorem dX10_loops_1 : decode cX10_loops 1 = .ok (.invokevirtual 97, 3) := by decide +kernel
theorem dX10_loops_4 : decode cX10_loops 4 = .ok (.aload_n 0, 1) := by decide +kernel
theorem dX10_loops_5 : decode cX10_loops 5 = .ok (.invokevirtual 139, 3) := by decide +kernel
theorem dX10_loops_8 : decode cX10_loops 8 = .ok (.istore_n 2, 1) := by decide +kernel
theorem dX10_loops_9 : decode cX10_loops 9 = .ok (.iload_n 1, 1) := by decide +kernel
theorem dX10_loops_10 : decode cX10_loops 10 = .ok (.ifCond .ne 29, 3) := by decide +kernel
theorem dX10_loops_13 : decode cX10_loops 13 = .ok (.iload_n 2, 1) := by decide +kernel
theorem dX10_loops_14 : decode cX10_loops 14 = .ok (.ifCond .eq 25, 3) := by decide +kernel
theorem dX10_loops_17 : decode cX10_loops 17 = .ok (.aload_n 0, 1) := by decide +kernel
theorem dX10_loops_18 : decode cX10_loops 18 = .ok (.bipush 9, 2) := by decide +kernel
theorem dX10_loops_20 : decode cX10_loops 20 = .ok (.iload_n 2, 1) := by decide +kernel
theorem dX10_loops_21 : decode cX10_loops 21 = .ok (.invokestatic 142, 3) := by decide +kernel
theorem dX10_loops_24 : decode cX10_loops 24 = .ok (.invokevirtual 87, 3) := by decide +kernel
theorem dX10_loops_27 : decode cX10_loops 27 = .ok (.istore_n 3, 1) := by decide +kernel
theorem dX10_loops_28 : decode cX10_loops 28 = .ok (.aload_n 0, 1) := by decide +kernel
theorem dX10_loops_29 : decode cX10_loops 29 = .ok (.bipush 12, 2) := by decide +kernel
theorem dX10_loops_31 : decode cX10_loops 31 = .ok (.iload_n 2, 1) := by decide +kernel
theorem dX10_loops_32 : decode cX10_loops 32 = .ok (.invokestatic 147, 3) := by decide +kernel
theorem dX10_loops_35 : decode cX10_loops 35 = .ok (.invokevirtual 119, 3) := by decide +kernel
theorem dX10_loops_38 : decode cX10_loops 38 = .ok (.ireturn, 1) := by decide +kernel
theorem dX10_loops_39 : decode cX10_loops 39 = .ok (.aload_n 0, 1) := by decide +kernel
theorem dX10_loops_40 : decode cX10_loops 40 = .ok (.getfield 9, 3) := by decide +kernel
theorem dX10_loops_43 : decode cX10_loops 43 = .ok (.iconst 1, 1) := by decide +kernel
theorem dX10_loops_44 : decode cX10_loops 44 = .ok (.iaload, 1) := by decide +kernel
theorem dX10_loops_45 : decode cX10_loops 45 = .ok (.istore_n 3, 1) := by decide +kernel
theorem dX10_loops_46 : decode cX10_loops 46 = .ok (.aload_n 0, 1) := by decide +kernel
theorem dX10_loops_47 : decode cX10_loops 47 = .ok (.getfield 9, 3) := by decide +kernel
theorem dX10_loops_50 : decode cX10_loops 50 = .ok (.iconst 1, 1) := by decide +kernel
theorem dX10_loops_51 : decode cX10_loops 51 = .ok (.iload_n 1, 1) := by decide +kernel
theorem dX10_loops_52 : decode cX10_loops 52 = .ok (.ifCond .eq 7, 3) := by decide +kernel
theorem dX10_loops_55 : decode cX10_loops 55 = .ok (.iconst 1, 1) := by decide +kernel
theorem dX10_loops_56 : decode cX10_loops 56 = .ok (.goto 4, 3) := by decide +kernel
theorem dX10_loops_59 : decode cX10_loops 59 = .ok (.iconst 0, 1) := by decide +kernel
theorem dX10_loops_60 : decode cX10_loops 60 = .ok (.iastore, 1) := by decide +kernel
theorem dX10_loops_61 : decode cX10_loops 61 = .ok (.aload_n 0, 1) := by decide +kernel
theorem dX10_loops_62 : decode cX10_loops 62 = .ok (.iload_n 3, 1) := by decide +kernel
theorem dX10_loops_63 : decode cX10_loops 63 = .ok (.invokevirtual 69, 3) := by decide +kernel
theorem dX10_loops_66 : decode cX10_loops 66 = .ok (.ireturn, 1) := by decide +kernel
theorem dX10_found_0 : decode cX10_found 0 = .ok (.iload_n 2, 1) := by decide +kernel
theorem dX10_found_1 : decode cX10_found 1 = .ok (.ifCond .ne 5, 3) := by decide +kernel
theorem dX10_found_4 : decode cX10_found 4 = .ok (.iconst 0, 1) := by decide +kernel
theorem dX10_found_5 : decode cX10_found 5 = .ok (.ireturn, 1) := by decide +kernel
theorem dX10_found_6 : decode cX10_found 6 = .ok (.iload_n 0, 1) := by decide +kernel
theorem dX10_found_7 : decode cX10_found 7 = .ok (.tableswitch 71 1 5 #[33, 43, 71, 54, 58], 33) := by decide +kernel
theorem dX10_found_40 : decode cX10_found 40 = .ok (.iload_n 1, 1) := by decide +kernel
theorem dX10_found_41 : decode cX10_found 41 = .ok (.ifCond .ne 7, 3) := by decide +kernel
theorem dX10_found_44 : decode cX10_found 44 = .ok (.iconst 1, 1) := by decide +kernel
theorem dX10_found_45 : decode cX10_found 45 = .ok (.goto 4, 3) := by decide +kernel
theorem dX10_found_48 : decode cX10_found 48 = .ok (.iconst 0, 1) := by decide +kernel
theorem dX10_found_49 : decode cX10_found 49 = .ok (.ireturn, 1) := by decide +kernel
theorem dX10_found_50 : decode cX10_found 50 = .ok (.iload_n 1, 1) := by decide +kernel
theorem dX10_found_51 : decode cX10_found 51 = .ok (.iload_n 2, 1) := by decide +kernel
theorem dX10_found_52 : decode cX10_found 52 = .ok (.if_icmp .ne 7, 3) := by decide +kernel
theorem dX10_found_55 : decode cX10_found 55 = .ok (.iconst 1, 1) := by decide +kernel
theorem dX10_found_56 : decode cX10_found 56 = .ok (.goto 4, 3) := by decide +kernel
theorem dX10_found_59 : decode cX10_found 59 = .ok (.iconst 0, 1) := by decide +kernel
theorem dX10_found_60 : decode cX10_found 60 = .ok (.ireturn, 1) := by decide +kernel
theorem dX10_found_61 : decode cX10_found 61 = .ok (.iload_n 1, 1) := by decide +kernel
theorem dX10_found_62 : decode cX10_found 62 = .ok (.iconst 2, 1) := by decide +kernel
theorem dX10_found_63 : decode cX10_found 63 = .ok (.irem, 1) := by decide +kernel
theorem dX10_found_64 : decode cX10_found 64 = .ok (.ireturn, 1) := by decide +kernel
theorem dX10_found_65 : decode cX10_found 65 = .ok (.iconst 2, 1) := by decide +kernel
theorem dX10_found_66 : decode cX10_found 66 = .ok (.iload_n 1, 1) := by decide +kernel
theorem dX10_found_67 : decode cX10_found 67 = .ok (.imul, 1) := by decide +kernel
theorem dX10_found_68 : decode cX10_found 68 = .ok (.iload_n 2, 1) := by decide +kernel
theorem dX10_found_69 : decode cX10_found 69 = .ok (.if_icmp .le 7, 3) := by decide +kernel
theorem dX10_found_72 : decode cX10_found 72 = .ok (.iconst 1, 1) := by decide +kernel
theorem dX10_found_73 : decode cX10_found 73 = .ok (.goto 4, 3) := by decide +kernel
theorem dX10_found_76 : decode cX10_found 76 = .ok (.iconst 0, 1) := by decide +kernel
theorem dX10_found_77 : decode cX10_found 77 = .ok (.ireturn, 1) := by decide +kernel
theorem dX10_found_78 : decode cX10_found 78 = .ok (.iload_n 1, 1) := by decide +kernel
theorem dX10_found_79 : decode cX10_found 79 = .ok (.ifCond .le 7, 3) := by decide +kernel
theorem dX10_found_82 : decode cX10_found 82 = .ok (.iconst 1, 1) := by decide +kernel
theorem dX10_found_83 : decode cX10_found 83 = .ok (.goto 4, 3) := by decide +kernel
theorem dX10_found_86 : decode cX10_found 86 = .ok (.iconst 0, 1) := by decide +kernel
theorem dX10_found_87 : decode cX10_found 87 = .ok (.ireturn, 1) := by decide +kernel
set_option maxRecDepth 20000 in
theorem ggX10_findsNow_X10_isSwitch : GoodIn wsX10_findsNow wsX10_isSwitch := goodIn_r _ [5, 6, 7, 8, 4, 9, 10, 22, 23, 24, 25, 26, 27, 28, 29, 30, 31, 32, 33, 34, 35, 36, 37, 38, 39, 40, 41, 42, 43, 44, 45] (by decide +kernel) (by decide +kernel)
set_option maxRecDepth 20000 in
theorem gX10_findsNow_X10_isSwitch : GoodIn wsX10_findsNow (wsV RX10 110 RX10 yX10_isSwitch wsX10_isSwitch) := goodIn_app (goodIn_of _ (by decide +kernel)) ggX10_findsNow_X10_isSwitch
set_option maxRecDepth 20000 in
theorem ggX10_findsNow_X10_wired : GoodIn wsX10_findsNow wsX10_wired := goodIn_r _ [14, 6, 7, 8, 4, 9, 10, 22, 23, 24, 25, 26, 27, 28, 29, 30, 31, 32, 33, 34, 35, 36, 37, 38, 39, 40, 41, 42, 43, 44, 45] (by decide +kernel) (by decide +kernel)
set_option maxRecDepth 20000 in
theorem gX10_findsNow_X10_wired : GoodIn wsX10_findsNow (wsV RX10 81 RX10 yX10_wired wsX10_wired) := goodIn_app (goodIn_of _ (by decide +kernel)) ggX10_findsNow_X10_wired
set_option maxRecDepth 20000 in
theorem ggX10_findsNow_X10_of : GoodIn wsX10_findsNow wsX10_of := goodIn_r _ [9, 10, 22, 23, 24, 25, 26, 27, 28, 29, 30, 31, 32, 33, 34, 35, 36, 37, 38, 39, 40, 41, 42, 43, 44, 45] (by decide +kernel) (by decide +kernel)
set_option maxRecDepth 20000 in
theorem gX10_findsNow_X10_of : GoodIn wsX10_findsNow (wsV RX10 77 RX10 yX10_of wsX10_of) := goodIn_app (goodIn_of _ (by decide +kernel)) ggX10_findsNow_X10_of
set_option maxRecDepth 20000 in
theorem ggX10_findsNow_X10_wiresTo : GoodIn wsX10_findsNow wsX10_wiresTo := goodIn_r _ [18, 11, 12, 13, 4, 14, 6, 7, 8, 9, 10, 22, 23, 24, 25, 26, 27, 28, 29, 30, 31, 32, 33, 34, 35, 36, 37, 38, 39, 40, 41, 42, 43, 44, 45] (by decide +kernel) (by decide +kernel)
set_option maxRecDepth 20000 in
theorem gX10_findsNow_X10_wiresTo : GoodIn wsX10_findsNow (wsV RX10 122 RX10 yX10_wiresTo wsX10_wiresTo) := goodIn_app (goodIn_of _ (by decide +kernel)) ggX10_findsNow_X10_wiresTo
set_option maxRecDepth 20000 in
theorem ggX10_findsNow_X10_found : GoodIn wsX10_findsNow wsX10_found := goodIn_r _ [21] (by decide +kernel) (by decide +kernel)
set_option maxRecDepth 20000 in
theorem gX10_findsNow_X10_found : GoodIn wsX10_findsNow (va_wsS RX10 150 yX10_found wsX10_found) := goodIn_app (goodIn_of _ (by decide +kernel)) ggX10_findsNow_X10_found
theorem dX10_findsNow_0 : decode cX10_findsNow 0 = .ok (.aload_n 0, 1) := by decide +kernel
theorem dX10_findsNow_1 : decode cX10_findsNow 1 = .ok (.iload_n 1, 1) := by decide +kernel
theorem dX10_findsNow_2 : decode cX10_findsNow 2 = .ok (.invokevirtual 110, 3) := by decide +kernel
theorem dX10_findsNow_5 : decode cX10_findsNow 5 = .ok (.ifCond .eq 5, 3) := by decide +kernel
theorem dX10_findsNow_8 : decode cX10_findsNow 8 = .ok (.iconst 0, 1) := by decide +kernel
theorem dX10_findsNow_9 : decode cX10_findsNow 9 = .ok (.ireturn, 1) := by decide +kernel
theorem dX10_findsNow_10 : decode cX10_findsNow 10 = .ok (.iconst 0, 1) := by decide +kernel
theorem dX10_findsNow_11 : decode cX10_findsNow 11 = .ok (.istore_n 2, 1) := by decide +kernel
theorem dX10_findsNow_12 : decode cX10_findsNow 12 = .ok (.iconst 0, 1) := by decide +kernel
theorem dX10_findsNow_13 : decode cX10_findsNow 13 = .ok (.istore_n 3, 1) := by decide +kernel
theorem dX10_findsNow_14 : decode cX10_findsNow 14 = .ok (.iload_n 3, 1) := by decide +kernel
theorem dX10_findsNow_15 : decode cX10_findsNow 15 = .ok (.iconst 3, 1) := by decide +kernel
theorem dX10_findsNow_16 : decode cX10_findsNow 16 = .ok (.if_icmp .ge 32, 3) := by decide +kernel
theorem dX10_findsNow_19 : decode cX10_findsNow 19 = .ok (.aload_n 0, 1) := by decide +kernel
theorem dX10_findsNow_20 : decode cX10_findsNow 20 = .ok (.iload_n 1, 1) := by decide +kernel
theorem dX10_findsNow_21 : decode cX10_findsNow 21 = .ok (.iload_n 3, 1) := by decide +kernel
theorem dX10_findsNow_22 : decode cX10_findsNow 22 = .ok (.invokevirtual 81, 3) := by decide +kernel
theorem dX10_findsNow_25 : decode cX10_findsNow 25 = .ok (.ifCond .lt 17, 3) := by decide +kernel
theorem dX10_findsNow_28 : decode cX10_findsNow 28 = .ok (.iload_n 2, 1) := by decide +kernel
theorem dX10_findsNow_29 : decode cX10_findsNow 29 = .ok (.aload_n 0, 1) := by decide +kernel
theorem dX10_findsNow_30 : decode cX10_findsNow 30 = .ok (.aload_n 0, 1) := by decide +kernel
theorem dX10_findsNow_31 : decode cX10_findsNow 31 = .ok (.iload_n 1, 1) := by decide +kernel
theorem dX10_findsNow_32 : decode cX10_findsNow 32 = .ok (.iload_n 3, 1) := by decide +kernel
theorem dX10_findsNow_33 : decode cX10_findsNow 33 = .ok (.invokevirtual 81, 3) := by decide +kernel
theorem dX10_findsNow_36 : decode cX10_findsNow 36 = .ok (.iconst 2, 1) := by decide +kernel
theorem dX10_findsNow_37 : decode cX10_findsNow 37 = .ok (.invokevirtual 77, 3) := by decide +kernel
theorem dX10_findsNow_40 : decode cX10_findsNow 40 = .ok (.iadd, 1) := by decide +kernel
theorem dX10_findsNow_41 : decode cX10_findsNow 41 = .ok (.istore_n 2, 1) := by decide +kernel
theorem dX10_findsNow_42 : decode cX10_findsNow 42 = .ok (.iinc 3 1, 3) := by decide +kernel
theorem dX10_findsNow_45 : decode cX10_findsNow 45 = .ok (.goto (-31), 3) := by decide +kernel
theorem dX10_findsNow_48 : decode cX10_findsNow 48 = .ok (.aload_n 0, 1) := by decide +kernel
theorem dX10_findsNow_49 : decode cX10_findsNow 49 = .ok (.iload_n 1, 1) := by decide +kernel
theorem dX10_findsNow_50 : decode cX10_findsNow 50 = .ok (.iconst 0, 1) := by decide +kernel
theorem dX10_findsNow_51 : decode cX10_findsNow 51 = .ok (.invokevirtual 77, 3) := by decide +kernel
theorem dX10_findsNow_54 : decode cX10_findsNow 54 = .ok (.iload_n 2, 1) := by decide +kernel
theorem dX10_findsNow_55 : decode cX10_findsNow 55 = .ok (.aload_n 0, 1) := by decide +kernel
theorem dX10_findsNow_56 : decode cX10_findsNow 56 = .ok (.iload_n 1, 1) := by decide +kernel
theorem dX10_findsNow_57 : decode cX10_findsNow 57 = .ok (.invokevirtual 122, 3) := by decide +kernel
theorem dX10_findsNow_60 : decode cX10_findsNow 60 = .ok (.invokestatic 150, 3) := by decide +kernel
theorem dX10_findsNow_63 : decode cX10_findsNow 63 = .ok (.ireturn, 1) := by decide +kernel
set_option maxRecDepth 20000 in
theorem ggX10_allFind_X10_findsNow : GoodIn wsX10_allFind wsX10_findsNow := goodIn_r _ [7, 8, 9, 10, 6, 11, 12, 13, 14, 15, 1, 16, 17, 18, 19, 20, 21, 22, 23, 24, 25, 26, 27, 28, 29, 30, 31, 32, 33, 34, 35, 36, 37, 38, 39, 40, 41, 42, 43, 44, 45, 46, 47, 48, 49, 50] (by decide +kernel) (by decide +kernel)
set_option maxRecDepth 20000 in
theorem gX10_allFind_X10_findsNow : GoodIn wsX10_allFind (wsV RX10 153 RX10 yX10_findsNow wsX10_findsNow) := goodIn_app (goodIn_of _ (by decide +kernel)) ggX10_allFind_X10_findsNow
theorem dX10_allFind_0 : decode cX10_allFind 0 = .ok (.iconst 0, 1) := by decide +kernel
theorem dX10_allFind_1 : decode cX10_allFind 1 = .ok (.istore_n 1, 1) := by decide +kernel
theorem dX10_allFind_2 : decode cX10_allFind 2 = .ok (.iload_n 1, 1) := by decide +kernel
theorem dX10_allFind_3 : decode cX10_allFind 3 = .ok (.aload_n 0, 1) := by decide +kernel
theorem dX10_allFind_4 : decode cX10_allFind 4 = .ok (.getfield 9, 3) := by decide +kernel
theorem dX10_allFind_7 : decode cX10_allFind 7 = .ok (.iconst 0, 1) := by decide +kernel
theorem dX10_allFind_8 : decode cX10_allFind 8 = .ok (.iaload, 1) := by decide +kernel
theorem dX10_allFind_9 : decode cX10_allFind 9 = .ok (.if_icmp .ge 20, 3) := by decide +kernel
theorem dX10_allFind_12 : decode cX10_allFind 12 = .ok (.aload_n 0, 1) := by decide +kernel
theorem dX10_allFind_13 : decode cX10_allFind 13 = .ok (.getfield 25, 3) := by decide +kernel
theorem dX10_allFind_16 : decode cX10_allFind 16 = .ok (.iload_n 1, 1) := by decide +kernel
theorem dX10_allFind_17 : decode cX10_allFind 17 = .ok (.aload_n 0, 1) := by decide +kernel
theorem dX10_allFind_18 : decode cX10_allFind 18 = .ok (.iload_n 1, 1) := by decide +kernel
theorem dX10_allFind_19 : decode cX10_allFind 19 = .ok (.invokevirtual 153, 3) := by decide +kernel
theorem dX10_allFind_22 : decode cX10_allFind 22 = .ok (.iastore, 1) := by decide +kernel
theorem dX10_allFind_23 : decode cX10_allFind 23 = .ok (.iinc 1 1, 3) := by decide +kernel
theorem dX10_allFind_26 : decode cX10_allFind 26 = .ok (.goto (-24), 3) := by decide +kernel
theorem dX10_allFind_29 : decode cX10_allFind 29 = .ok (.return_, 1) := by decide +kernel
set_option maxRecDepth 20000 in
theorem ggX10_glowBehind_X10_of : GoodIn wsX10_glowBehind wsX10_of := goodIn_r _ [6, 7, 8, 9, 10, 11, 12, 13, 14, 15, 16, 17, 18, 19, 20, 21, 22, 23, 24, 25, 26, 27, 28, 29, 30, 31] (by decide +kernel) (by decide +kernel)
set_option maxRecDepth 20000 in
theorem gX10_glowBehind_X10_of : GoodIn wsX10_glowBehind (wsV RX10 77 RX10 yX10_of wsX10_of) := goodIn_app (goodIn_of _ (by decide +kernel)) ggX10_glowBehind_X10_of
theorem dX10_glowBehind_0 : decode cX10_glowBehind 0 = .ok (.aload_n 0, 1) := by decide +kernel
theorem dX10_glowBehind_1 : decode cX10_glowBehind 1 = .ok (.iload_n 1, 1) := by decide +kernel
theorem dX10_glowBehind_2 : decode cX10_glowBehind 2 = .ok (.iconst 1, 1) := by decide +kernel
theorem dX10_glowBehind_3 : decode cX10_glowBehind 3 = .ok (.invokevirtual 77, 3) := by decide +kernel
theorem dX10_glowBehind_6 : decode cX10_glowBehind 6 = .ok (.iconst 1, 1) := by decide +kernel
theorem dX10_glowBehind_7 : decode cX10_glowBehind 7 = .ok (.if_icmp .ne 12, 3) := by decide +kernel
theorem dX10_glowBehind_10 : decode cX10_glowBehind 10 = .ok (.aload_n 0, 1) := by decide +kernel
theorem dX10_glowBehind_11 : decode cX10_glowBehind 11 = .ok (.getfield 25, 3) := by decide +kernel
theorem dX10_glowBehind_14 : decode cX10_glowBehind 14 = .ok (.iload_n 1, 1) := by decide +kernel
theorem dX10_glowBehind_15 : decode cX10_glowBehind 15 = .ok (.iaload, 1) := by decide +kernel
theorem dX10_glowBehind_16 : decode cX10_glowBehind 16 = .ok (.goto 12, 3) := by decide +kernel
theorem dX10_glowBehind_19 : decode cX10_glowBehind 19 = .ok (.aload_n 0, 1) := by decide +kernel
theorem dX10_glowBehind_20 : decode cX10_glowBehind 20 = .ok (.iload_n 1, 1) := by decide +kernel
theorem dX10_glowBehind_21 : decode cX10_glowBehind 21 = .ok (.bipush 7, 2) := by decide +kernel
theorem dX10_glowBehind_23 : decode cX10_glowBehind 23 = .ok (.invokevirtual 77, 3) := by decide +kernel
theorem dX10_glowBehind_26 : decode cX10_glowBehind 26 = .ok (.iconst 1, 1) := by decide +kernel
theorem dX10_glowBehind_27 : decode cX10_glowBehind 27 = .ok (.iand, 1) := by decide +kernel
theorem dX10_glowBehind_28 : decode cX10_glowBehind 28 = .ok (.ireturn, 1) := by decide +kernel
set_option maxRecDepth 20000 in
theorem ggX10_foundBehind_X10_of : GoodIn wsX10_foundBehind wsX10_of := goodIn_r _ [6, 7, 8, 9, 10, 11, 12, 13, 14, 15, 16, 17, 18, 19, 20, 21, 22, 23, 24, 25, 26, 27, 28, 29, 30, 31] (by decide +kernel) (by decide +kernel)
set_option maxRecDepth 20000 in
theorem gX10_foundBehind_X10_of : GoodIn wsX10_foundBehind (wsV RX10 77 RX10 yX10_of wsX10_of) := goodIn_app (goodIn_of _ (by decide +kernel)) ggX10_foundBehind_X10_of
theorem dX10_foundBehind_0 : decode cX10_foundBehind 0 = .ok (.aload_n 0, 1) := by decide +kernel
theorem dX10_foundBehind_1 : decode cX10_foundBehind 1 = .ok (.iload_n 1, 1) := by decide +kernel
theorem dX10_foundBehind_2 : decode cX10_foundBehind 2 = .ok (.iconst 1, 1) := by decide +kernel
theorem dX10_foundBehind_3 : decode cX10_foundBehind 3 = .ok (.invokevirtual 77, 3) := by decide +kernel
theorem dX10_foundBehind_6 : decode cX10_foundBehind 6 = .ok (.istore_n 2, 1) := by decide +kernel
theorem dX10_foundBehind_7 : decode cX10_foundBehind 7 = .ok (.iload_n 2, 1) := by decide +kernel
theorem dX10_foundBehind_8 : decode cX10_foundBehind 8 = .ok (.iconst 1, 1) := by decide +kernel
theorem dX10_foundBehind_9 : decode cX10_foundBehind 9 = .ok (.if_icmp .ne 7, 3) := by decide +kernel
theorem dX10_foundBehind_12 : decode cX10_foundBehind 12 = .ok (.iconst 0, 1) := by decide +kernel
theorem dX10_foundBehind_13 : decode cX10_foundBehind 13 = .ok (.goto 23, 3) := by decide +kernel
theorem dX10_foundBehind_16 : decode cX10_foundBehind 16 = .ok (.aload_n 0, 1) := by decide +kernel
theorem dX10_foundBehind_17 : decode cX10_foundBehind 17 = .ok (.iload_n 1, 1) := by decide +kernel
theorem dX10_foundBehind_18 : decode cX10_foundBehind 18 = .ok (.bipush 7, 2) := by decide +kernel
theorem dX10_foundBehind_20 : decode cX10_foundBehind 20 = .ok (.invokevirtual 77, 3) := by decide +kernel
theorem dX10_foundBehind_23 : decode cX10_foundBehind 23 = .ok (.iconst 1, 1) := by decide +kernel
theorem dX10_foundBehind_24 : decode cX10_foundBehind 24 = .ok (.ishr, 1) := by decide +kernel
theorem dX10_foundBehind_25 : decode cX10_foundBehind 25 = .ok (.aload_n 0, 1) := by decide +kernel
theorem dX10_foundBehind_26 : decode cX10_foundBehind 26 = .ok (.getfield 25, 3) := by decide +kernel
theorem dX10_foundBehind_29 : decode cX10_foundBehind 29 = .ok (.iload_n 1, 1) := by decide +kernel
theorem dX10_foundBehind_30 : decode cX10_foundBehind 30 = .ok (.iaload, 1) := by decide +kernel
theorem dX10_foundBehind_31 : decode cX10_foundBehind 31 = .ok (.iload_n 2, 1) := by decide +kernel
theorem dX10_foundBehind_32 : decode cX10_foundBehind 32 = .ok (.iconst 2, 1) := by decide +kernel
theorem dX10_foundBehind_33 : decode cX10_foundBehind 33 = .ok (.isub, 1) := by decide +kernel
theorem dX10_foundBehind_34 : decode cX10_foundBehind 34 = .ok (.ishl, 1) := by decide +kernel
theorem dX10_foundBehind_35 : decode cX10_foundBehind 35 = .ok (.ior, 1) := by decide +kernel
theorem dX10_foundBehind_36 : decode cX10_foundBehind 36 = .ok (.ireturn, 1) := by decide +kernel
set_option maxRecDepth 20000 in
theorem ggX10_isSettled_X10_allFind : GoodIn wsX10_isSettled wsX10_allFind := goodIn_r _ [6, 1, 7, 8, 9, 10, 5, 11, 12, 13, 14, 15, 16, 17, 18, 19, 20, 21, 22, 23, 24, 25, 26, 27, 28, 29, 30, 39, 40, 41, 42, 43, 44, 45, 46, 47, 48, 49, 50, 51, 52, 53, 54, 55, 56, 57, 58, 59, 60, 61, 62] (by decide +kernel) (by decide +kernel)
set_option maxRecDepth 20000 in
theorem gX10_isSettled_X10_allFind : GoodIn wsX10_isSettled (wsV RX10 156 RX10 yX10_allFind wsX10_allFind) := goodIn_app (goodIn_of _ (by decide +kernel)) ggX10_isSettled_X10_allFind
set_option maxRecDepth 20000 in
theorem ggX10_isSettled_X10_isSwitch : GoodIn wsX10_isSettled wsX10_isSwitch := goodIn_r _ [15, 16, 17, 18, 5, 19, 1, 39, 40, 41, 42, 43, 44, 45, 46, 47, 48, 49, 50, 51, 52, 53, 54, 55, 56, 57, 58, 59, 60, 61, 62] (by decide +kernel) (by decide +kernel)
set_option maxRecDepth 20000 in
theorem gX10_isSettled_X10_isSwitch : GoodIn wsX10_isSettled (wsV RX10 110 RX10 yX10_isSwitch wsX10_isSwitch) := goodIn_app (goodIn_of _ (by decide +kernel)) ggX10_isSettled_X10_isSwitch
set_option maxRecDepth 20000 in
theorem ggX10_isSettled_X10_glowBehind : GoodIn wsX10_isSettled wsX10_glowBehind := goodIn_r _ [34, 7, 16, 17, 18, 5, 19, 1, 39, 40, 41, 42, 43, 44, 45, 46, 47, 48, 49, 50, 51, 52, 53, 54, 55, 56, 57, 58, 59, 60, 61, 62] (by decide +kernel) (by decide +kernel)
set_option maxRecDepth 20000 in
theorem gX10_isSettled_X10_glowBehind : GoodIn wsX10_isSettled (wsV RX10 159 RX10 yX10_glowBehind wsX10_glowBehind) := goodIn_app (goodIn_of _ (by decide +kernel)) ggX10_isSettled_X10_glowBehind
set_option maxRecDepth 20000 in
theorem ggX10_isSettled_X10_of : GoodIn wsX10_isSettled wsX10_of := goodIn_r _ [19, 1, 39, 40, 41, 42, 43, 44, 45, 46, 47, 48, 49, 50, 51, 52, 53, 54, 55, 56, 57, 58, 59, 60, 61, 62] (by decide +kernel) (by decide +kernel)
set_option maxRecDepth 20000 in
theorem gX10_isSettled_X10_of : GoodIn wsX10_isSettled (wsV RX10 77 RX10 yX10_of wsX10_of) := goodIn_app (goodIn_of _ (by decide +kernel)) ggX10_isSettled_X10_of
set_option maxRecDepth 20000 in
theorem ggX10_isSettled_X10_foundBehind : GoodIn wsX10_isSettled wsX10_foundBehind := goodIn_r _ [38, 7, 16, 17, 18, 5, 19, 1, 39, 40, 41, 42, 43, 44, 45, 46, 47, 48, 49, 50, 51, 52, 53, 54, 55, 56, 57, 58, 59, 60, 61, 62] (by decide +kernel) (by decide +kernel)
set_option maxRecDepth 20000 in
theorem gX10_isSettled_X10_foundBehind : GoodIn wsX10_isSettled (wsV RX10 162 RX10 yX10_foundBehind wsX10_foundBehind) := goodIn_app (goodIn_of _ (by decide +kernel)) ggX10_isSettled_X10_foundBehind
theorem dX10_isSettled_0 : decode cX10_isSettled 0 = .ok (.aload_n 0, 1) := by decide +kernel
theorem dX10_isSettled_1 : decode cX10_isSettled 1 = .ok (.invokevirtual 156, 3) := by decide +kernel
theorem dX10_isSettled_4 : decode cX10_isSettled 4 = .ok (.iconst 0, 1) := by decide +kernel
theorem dX10_isSettled_5 : decode cX10_isSettled 5 = .ok (.istore_n 1, 1) := by decide +kernel
theorem dX10_isSettled_6 : decode cX10_isSettled 6 = .ok (.iload_n 1, 1) := by decide +kernel
theorem dX10_isSettled_7 : decode cX10_isSettled 7 = .ok (.aload_n 0, 1) := by decide +kernel
theorem dX10_isSettled_8 : decode cX10_isSettled 8 = .ok (.getfield 9, 3) := by decide +kernel
theorem dX10_isSettled_11 : decode cX10_isSettled 11 = .ok (.iconst 0, 1) := by decide +kernel
theorem dX10_isSettled_12 : decode cX10_isSettled 12 = .ok (.iaload, 1) := by decide +kernel
theorem dX10_isSettled_13 : decode cX10_isSettled 13 = .ok (.if_icmp .ge 48, 3) := by decide +kernel
theorem dX10_isSettled_16 : decode cX10_isSettled 16 = .ok (.aload_n 0, 1) := by decide +kernel
theorem dX10_isSettled_17 : decode cX10_isSettled 17 = .ok (.iload_n 1, 1) := by decide +kernel
theorem dX10_isSettled_18 : decode cX10_isSettled 18 = .ok (.invokevirtual 110, 3) := by decide +kernel
theorem dX10_isSettled_21 : decode cX10_isSettled 21 = .ok (.ifCond .ne 34, 3) := by decide +kernel
theorem dX10_isSettled_24 : decode cX10_isSettled 24 = .ok (.aload_n 0, 1) := by decide +kernel
theorem dX10_isSettled_25 : decode cX10_isSettled 25 = .ok (.iload_n 1, 1) := by decide +kernel
theorem dX10_isSettled_26 : decode cX10_isSettled 26 = .ok (.invokevirtual 159, 3) := by decide +kernel
theorem dX10_isSettled_29 : decode cX10_isSettled 29 = .ok (.aload_n 0, 1) := by decide +kernel
theorem dX10_isSettled_30 : decode cX10_isSettled 30 = .ok (.iload_n 1, 1) := by decide +kernel
theorem dX10_isSettled_31 : decode cX10_isSettled 31 = .ok (.iconst 2, 1) := by decide +kernel
theorem dX10_isSettled_32 : decode cX10_isSettled 32 = .ok (.invokevirtual 77, 3) := by decide +kernel
theorem dX10_isSettled_35 : decode cX10_isSettled 35 = .ok (.if_icmp .ne 18, 3) := by decide +kernel
theorem dX10_isSettled_38 : decode cX10_isSettled 38 = .ok (.aload_n 0, 1) := by decide +kernel
theorem dX10_isSettled_39 : decode cX10_isSettled 39 = .ok (.iload_n 1, 1) := by decide +kernel
theorem dX10_isSettled_40 : decode cX10_isSettled 40 = .ok (.invokevirtual 162, 3) := by decide +kernel
theorem dX10_isSettled_43 : decode cX10_isSettled 43 = .ok (.aload_n 0, 1) := by decide +kernel
theorem dX10_isSettled_44 : decode cX10_isSettled 44 = .ok (.iload_n 1, 1) := by decide +kernel
theorem dX10_isSettled_45 : decode cX10_isSettled 45 = .ok (.bipush 7, 2) := by decide +kernel
theorem dX10_isSettled_47 : decode cX10_isSettled 47 = .ok (.invokevirtual 77, 3) := by decide +kernel
theorem dX10_isSettled_50 : decode cX10_isSettled 50 = .ok (.if_icmp .eq 5, 3) := by decide +kernel
theorem dX10_isSettled_53 : decode cX10_isSettled 53 = .ok (.iconst 0, 1) := by decide +kernel
theorem dX10_isSettled_54 : decode cX10_isSettled 54 = .ok (.ireturn, 1) := by decide +kernel
theorem dX10_isSettled_55 : decode cX10_isSettled 55 = .ok (.iinc 1 1, 3) := by decide +kernel
theorem dX10_isSettled_58 : decode cX10_isSettled 58 = .ok (.goto (-52), 3) := by decide +kernel
theorem dX10_isSettled_61 : decode cX10_isSettled 61 = .ok (.iconst 1, 1) := by decide +kernel
theorem dX10_isSettled_62 : decode cX10_isSettled 62 = .ok (.ireturn, 1) := by decide +kernel
set_option maxRecDepth 20000 in
theorem ggX10_goes_X10_allFind : GoodIn wsX10_goes wsX10_allFind := goodIn_r _ [6, 1, 7, 8, 9, 10, 5, 11, 12, 13, 14, 15, 16, 17, 18, 19, 20, 21, 22, 23, 24, 25, 26, 27, 28, 29, 30, 43, 44, 45, 46, 47, 48, 49, 50, 51, 52, 53, 54, 55, 56, 57, 58, 59, 60, 61, 62, 63, 64, 65, 66] (by decide +kernel) (by decide +kernel)
set_option maxRecDepth 20000 in
theorem gX10_goes_X10_allFind : GoodIn wsX10_goes (wsV RX10 156 RX10 yX10_allFind wsX10_allFind) := goodIn_app (goodIn_of _ (by decide +kernel)) ggX10_goes_X10_allFind
set_option maxRecDepth 20000 in
theorem ggX10_goes_X10_isSwitch : GoodIn wsX10_goes wsX10_isSwitch := goodIn_r _ [15, 16, 17, 18, 5, 19, 1, 43, 44, 45, 46, 47, 48, 49, 50, 51, 52, 53, 54, 55, 56, 57, 58, 59, 60, 61, 62, 63, 64, 65, 66] (by decide +kernel) (by decide +kernel)
set_option maxRecDepth 20000 in
theorem gX10_goes_X10_isSwitch : GoodIn wsX10_goes (wsV RX10 110 RX10 yX10_isSwitch wsX10_isSwitch) := goodIn_app (goodIn_of _ (by decide +kernel)) ggX10_goes_X10_isSwitch
set_option maxRecDepth 20000 in
theorem ggX10_goes_X10_glowBehind : GoodIn wsX10_goes wsX10_glowBehind := goodIn_r _ [34, 7, 16, 17, 18, 5, 19, 1, 43, 44, 45, 46, 47, 48, 49, 50, 51, 52, 53, 54, 55, 56, 57, 58, 59, 60, 61, 62, 63, 64, 65, 66] (by decide +kernel) (by decide +kernel)
set_option maxRecDepth 20000 in
theorem gX10_goes_X10_glowBehind : GoodIn wsX10_goes (wsV RX10 159 RX10 yX10_glowBehind wsX10_glowBehind) := goodIn_app (goodIn_of _ (by decide +kernel)) ggX10_goes_X10_glowBehind
set_option maxRecDepth 20000 in
theorem ggX10_goes_X10_foundBehind : GoodIn wsX10_goes wsX10_foundBehind := goodIn_r _ [38, 7, 16, 17, 18, 5, 19, 1, 43, 44, 45, 46, 47, 48, 49, 50, 51, 52, 53, 54, 55, 56, 57, 58, 59, 60, 61, 62, 63, 64, 65, 66] (by decide +kernel) (by decide +kernel)
set_option maxRecDepth 20000 in
theorem gX10_goes_X10_foundBehind : GoodIn wsX10_goes (wsV RX10 162 RX10 yX10_foundBehind wsX10_foundBehind) := goodIn_app (goodIn_of _ (by decide +kernel)) ggX10_goes_X10_foundBehind
set_option maxRecDepth 20000 in
theorem ggX10_goes_X10_of : GoodIn wsX10_goes wsX10_of := goodIn_r _ [19, 1, 43, 44, 45, 46, 47, 48, 49, 50, 51, 52, 53, 54, 55, 56, 57, 58, 59, 60, 61, 62, 63, 64, 65, 66] (by decide +kernel) (by decide +kernel)
set_option maxRecDepth 20000 in
theorem gX10_goes_X10_of : GoodIn wsX10_goes (wsV RX10 77 RX10 yX10_of wsX10_of) := goodIn_app (goodIn_of _ (by decide +kernel)) ggX10_goes_X10_of
set_option maxRecDepth 20000 in
theorem ggX10_goes_X10_sets : GoodIn wsX10_goes wsX10_sets := goodIn_r _ [42, 1, 43, 44, 45, 46, 47, 48, 49, 50, 51, 52, 53, 54, 55, 56, 57, 58, 59, 60, 61, 62, 63, 64, 65, 66] (by decide +kernel) (by decide +kernel)
set_option maxRecDepth 20000 in
theorem gX10_goes_X10_sets : GoodIn wsX10_goes (wsV RX10 90 RX10 yX10_sets wsX10_sets) := goodIn_app (goodIn_of _ (by decide +kernel)) ggX10_goes_X10_sets
theorem dX10_goes_0 : decode cX10_goes 0 = .ok (.aload_n 0, 1) := by decide +kernel
theorem dX10_goes_1 : decode cX10_goes 1 = .ok (.invokevirtual 156, 3) := by decide +kernel
theorem dX10_goes_4 : decode cX10_goes 4 = .ok (.iconst 0, 1) := by decide +kernel
theorem dX10_goes_5 : decode cX10_goes 5 = .ok (.istore_n 1, 1) := by decide +kernel
theorem dX10_goes_6 : decode cX10_goes 6 = .ok (.iconst 0, 1) := by decide +kernel
theorem dX10_goes_7 : decode cX10_goes 7 = .ok (.istore_n 2, 1) := by decide +kernel
theorem dX10_goes_8 : decode cX10_goes 8 = .ok (.iload_n 2, 1) := by decide +kernel
theorem dX10_goes_9 : decode cX10_goes 9 = .ok (.aload_n 0, 1) := by decide +kernel
theorem dX10_goes_10 : decode cX10_goes 10 = .ok (.getfield 9, 3) := by decide +kernel
theorem dX10_goes_13 : decode cX10_goes 13 = .ok (.iconst 0, 1) := by decide +kernel
theorem dX10_goes_14 : decode cX10_goes 14 = .ok (.iaload, 1) := by decide +kernel
theorem dX10_goes_15 : decode cX10_goes 15 = .ok (.if_icmp .ge 76, 3) := by decide +kernel
theorem dX10_goes_18 : decode cX10_goes 18 = .ok (.aload_n 0, 1) := by decide +kernel
theorem dX10_goes_19 : decode cX10_goes 19 = .ok (.iload_n 2, 1) := by decide +kernel
theorem dX10_goes_20 : decode cX10_goes 20 = .ok (.invokevirtual 110, 3) := by decide +kernel
theorem dX10_goes_23 : decode cX10_goes 23 = .ok (.ifCond .eq 6, 3) := by decide +kernel
theorem dX10_goes_26 : decode cX10_goes 26 = .ok (.goto 59, 3) := by decide +kernel
theorem dX10_goes_29 : decode cX10_goes 29 = .ok (.aload_n 0, 1) := by decide +kernel
theorem dX10_goes_30 : decode cX10_goes 30 = .ok (.iload_n 2, 1) := by decide +kernel
theorem dX10_goes_31 : decode cX10_goes 31 = .ok (.invokevirtual 159, 3) := by decide +kernel
theorem dX10_goes_34 : decode cX10_goes 34 = .ok (.istore_n 3, 1) := by decide +kernel
theorem dX10_goes_35 : decode cX10_goes 35 = .ok (.aload_n 0, 1) := by decide +kernel
theorem dX10_goes_36 : decode cX10_goes 36 = .ok (.iload_n 2, 1) := by decide +kernel
theorem dX10_goes_37 : decode cX10_goes 37 = .ok (.invokevirtual 162, 3) := by decide +kernel
theorem dX10_goes_40 : decode cX10_goes 40 = .ok (.istore 4, 2) := by decide +kernel
theorem dX10_goes_42 : decode cX10_goes 42 = .ok (.iload_n 3, 1) := by decide +kernel
theorem dX10_goes_43 : decode cX10_goes 43 = .ok (.aload_n 0, 1) := by decide +kernel
theorem dX10_goes_44 : decode cX10_goes 44 = .ok (.iload_n 2, 1) := by decide +kernel
theorem dX10_goes_45 : decode cX10_goes 45 = .ok (.iconst 2, 1) := by decide +kernel
theorem dX10_goes_46 : decode cX10_goes 46 = .ok (.invokevirtual 77, 3) := by decide +kernel
theorem dX10_goes_49 : decode cX10_goes 49 = .ok (.if_icmp .eq 20, 3) := by decide +kernel
theorem dX10_goes_52 : decode cX10_goes 52 = .ok (.iinc 1 1, 3) := by decide +kernel
theorem dX10_goes_55 : decode cX10_goes 55 = .ok (.aload_n 0, 1) := by decide +kernel
theorem dX10_goes_56 : decode cX10_goes 56 = .ok (.iload_n 2, 1) := by decide +kernel
theorem dX10_goes_57 : decode cX10_goes 57 = .ok (.iconst 3, 1) := by decide +kernel
theorem dX10_goes_58 : decode cX10_goes 58 = .ok (.aload_n 0, 1) := by decide +kernel
theorem dX10_goes_59 : decode cX10_goes 59 = .ok (.iload_n 2, 1) := by decide +kernel
theorem dX10_goes_60 : decode cX10_goes 60 = .ok (.iconst 3, 1) := by decide +kernel
theorem dX10_goes_61 : decode cX10_goes 61 = .ok (.invokevirtual 77, 3) := by decide +kernel
theorem dX10_goes_64 : decode cX10_goes 64 = .ok (.iconst 1, 1) := by decide +kernel
theorem dX10_goes_65 : decode cX10_goes 65 = .ok (.iadd, 1) := by decide +kernel
theorem dX10_goes_66 : decode cX10_goes 66 = .ok (.invokevirtual 90, 3) := by decide +kernel
theorem dX10_goes_69 : decode cX10_goes 69 = .ok (.aload_n 0, 1) := by decide +kernel
theorem dX10_goes_70 : decode cX10_goes 70 = .ok (.iload_n 2, 1) := by decide +kernel
theorem dX10_goes_71 : decode cX10_goes 71 = .ok (.iconst 2, 1) := by decide +kernel
theorem dX10_goes_72 : decode cX10_goes 72 = .ok (.iload_n 3, 1) := by decide +kernel
theorem dX10_goes_73 : decode cX10_goes 73 = .ok (.invokevirtual 90, 3) := by decide +kernel
theorem dX10_goes_76 : decode cX10_goes 76 = .ok (.aload_n 0, 1) := by decide +kernel
theorem dX10_goes_77 : decode cX10_goes 77 = .ok (.iload_n 2, 1) := by decide +kernel
theorem dX10_goes_78 : decode cX10_goes 78 = .ok (.bipush 7, 2) := by decide +kernel
theorem dX10_goes_80 : decode cX10_goes 80 = .ok (.iload 4, 2) := by decide +kernel
theorem dX10_goes_82 : decode cX10_goes 82 = .ok (.invokevirtual 90, 3) := by decide +kernel
theorem dX10_goes_85 : decode cX10_goes 85 = .ok (.iinc 2 1, 3) := by decide +kernel
theorem dX10_goes_88 : decode cX10_goes 88 = .ok (.goto (-80), 3) := by decide +kernel
theorem dX10_goes_91 : decode cX10_goes 91 = .ok (.aload_n 0, 1) := by decide +kernel
theorem dX10_goes_92 : decode cX10_goes 92 = .ok (.getfield 9, 3) := by decide +kernel
theorem dX10_goes_95 : decode cX10_goes 95 = .ok (.iconst 2, 1) := by decide +kernel
theorem dX10_goes_96 : decode cX10_goes 96 = .ok (.dup2, 1) := by decide +kernel
theorem dX10_goes_97 : decode cX10_goes 97 = .ok (.iaload, 1) := by decide +kernel
theorem dX10_goes_98 : decode cX10_goes 98 = .ok (.iconst 1, 1) := by decide +kernel
theorem dX10_goes_99 : decode cX10_goes 99 = .ok (.iadd, 1) := by decide +kernel
theorem dX10_goes_100 : decode cX10_goes 100 = .ok (.iastore, 1) := by decide +kernel
theorem dX10_goes_101 : decode cX10_goes 101 = .ok (.aload_n 0, 1) := by decide +kernel
theorem dX10_goes_102 : decode cX10_goes 102 = .ok (.getfield 9, 3) := by decide +kernel
theorem dX10_goes_105 : decode cX10_goes 105 = .ok (.iconst 3, 1) := by decide +kernel
theorem dX10_goes_106 : decode cX10_goes 106 = .ok (.dup2, 1) := by decide +kernel
theorem dX10_goes_107 : decode cX10_goes 107 = .ok (.iaload, 1) := by decide +kernel
theorem dX10_goes_108 : decode cX10_goes 108 = .ok (.iload_n 1, 1) := by decide +kernel
theorem dX10_goes_109 : decode cX10_goes 109 = .ok (.iadd, 1) := by decide +kernel
theorem dX10_goes_110 : decode cX10_goes 110 = .ok (.iastore, 1) := by decide +kernel
theorem dX10_goes_111 : decode cX10_goes 111 = .ok (.iload_n 1, 1) := by decide +kernel
theorem dX10_goes_112 : decode cX10_goes 112 = .ok (.ireturn, 1) := by decide +kernel
set_option maxRecDepth 20000 in
theorem ggX10_ticks_X10_in : GoodIn wsX10_ticks wsX10_in := goodIn_r _ [4] (by decide +kernel) (by decide +kernel)
set_option maxRecDepth 20000 in
theorem gX10_ticks_X10_in : GoodIn wsX10_ticks (va_wsS RX10 73 yX10_in wsX10_in) := goodIn_app (goodIn_of _ (by decide +kernel)) ggX10_ticks_X10_in
set_option maxRecDepth 20000 in
theorem ggX10_ticks_X10_goes : GoodIn wsX10_ticks wsX10_goes := goodIn_r _ [8, 9, 10, 11, 12, 3, 13, 14, 15, 16, 17, 18, 19, 20, 21, 22, 23, 24, 25, 26, 27, 28, 29, 30, 31, 32, 33, 34, 35, 36, 37, 38, 39, 40, 41, 42, 43, 44, 45, 46, 47, 48, 49, 55, 56, 57, 58, 59, 60, 61, 62, 63, 64, 65, 66, 67, 68, 69, 70, 71, 72, 73, 74, 75, 76, 77, 78] (by decide +kernel) (by decide +kernel)
set_option maxRecDepth 20000 in
theorem gX10_ticks_X10_goes : GoodIn wsX10_ticks (wsV RX10 165 RX10 yX10_goes wsX10_goes) := goodIn_app (goodIn_of _ (by decide +kernel)) ggX10_ticks_X10_goes
set_option maxRecDepth 20000 in
theorem ggX10_ticks_X10_does : GoodIn wsX10_ticks wsX10_does := goodIn_r _ [53, 54, 55, 56, 57, 58, 59, 60, 61, 62, 63, 64, 65, 66, 67, 68, 69, 70, 71, 72, 73, 74, 75, 76, 77, 78] (by decide +kernel) (by decide +kernel)
set_option maxRecDepth 20000 in
theorem gX10_ticks_X10_does : GoodIn wsX10_ticks (wsV RX10 94 RX10 yX10_does wsX10_does) := goodIn_app (goodIn_of _ (by decide +kernel)) ggX10_ticks_X10_does
theorem dX10_ticks_0 : decode cX10_ticks 0 = .ok (.iload_n 1, 1) := by decide +kernel
theorem dX10_ticks_1 : decode cX10_ticks 1 = .ok (.iconst 1, 1) := by decide +kernel
theorem dX10_ticks_2 : decode cX10_ticks 2 = .ok (.bipush 99, 2) := by decide +kernel
theorem dX10_ticks_4 : decode cX10_ticks 4 = .ok (.invokestatic 73, 3) := by decide +kernel
theorem dX10_ticks_7 : decode cX10_ticks 7 = .ok (.ifCond .ne 6, 3) := by decide +kernel
theorem dX10_ticks_10 : decode cX10_ticks 10 = .ok (.bipush (-12), 2) := by decide +kernel
theorem dX10_ticks_12 : decode cX10_ticks 12 = .ok (.ireturn, 1) := by decide +kernel
theorem dX10_ticks_13 : decode cX10_ticks 13 = .ok (.iconst 0, 1) := by decide +kernel
theorem dX10_ticks_14 : decode cX10_ticks 14 = .ok (.istore_n 2, 1) := by decide +kernel
theorem dX10_ticks_15 : decode cX10_ticks 15 = .ok (.iconst 0, 1) := by decide +kernel
theorem dX10_ticks_16 : decode cX10_ticks 16 = .ok (.istore_n 3, 1) := by decide +kernel
theorem dX10_ticks_17 : decode cX10_ticks 17 = .ok (.iload_n 3, 1) := by decide +kernel
theorem dX10_ticks_18 : decode cX10_ticks 18 = .ok (.iload_n 1, 1) := by decide +kernel
theorem dX10_ticks_19 : decode cX10_ticks 19 = .ok (.if_icmp .ge 16, 3) := by decide +kernel
theorem dX10_ticks_22 : decode cX10_ticks 22 = .ok (.iload_n 2, 1) := by decide +kernel
theorem dX10_ticks_23 : decode cX10_ticks 23 = .ok (.aload_n 0, 1) := by decide +kernel
theorem dX10_ticks_24 : decode cX10_ticks 24 = .ok (.invokevirtual 165, 3) := by decide +kernel
theorem dX10_ticks_27 : decode cX10_ticks 27 = .ok (.iadd, 1) := by decide +kernel
theorem dX10_ticks_28 : decode cX10_ticks 28 = .ok (.istore_n 2, 1) := by decide +kernel
theorem dX10_ticks_29 : decode cX10_ticks 29 = .ok (.iinc 3 1, 3) := by decide +kernel
theorem dX10_ticks_32 : decode cX10_ticks 32 = .ok (.goto (-15), 3) := by decide +kernel
theorem dX10_ticks_35 : decode cX10_ticks 35 = .ok (.aload_n 0, 1) := by decide +kernel
theorem dX10_ticks_36 : decode cX10_ticks 36 = .ok (.iload_n 2, 1) := by decide +kernel
theorem dX10_ticks_37 : decode cX10_ticks 37 = .ok (.invokevirtual 94, 3) := by decide +kernel
theorem dX10_ticks_40 : decode cX10_ticks 40 = .ok (.ireturn, 1) := by decide +kernel
set_option maxRecDepth 20000 in
theorem ggX10_tick_X10_tries : GoodIn wsX10_tick wsX10_tries := goodIn_r _ [5, 6, 7, 74, 75, 76, 77, 78, 79, 80, 81, 82, 83, 84, 85, 86, 87, 88, 89, 90, 91, 92, 93, 94, 95, 96, 97] (by decide +kernel) (by decide +kernel)
set_option maxRecDepth 20000 in
theorem gX10_tick_X10_tries : GoodIn wsX10_tick (wsV RX10 97 RX10 yX10_tries wsX10_tries) := goodIn_app (goodIn_of _ (by decide +kernel)) ggX10_tick_X10_tries
set_option maxRecDepth 20000 in
theorem ggX10_tick_X10_ticks : GoodIn wsX10_tick wsX10_ticks := goodIn_r _ [11, 12, 13, 4, 14, 15, 16, 17, 18, 7, 19, 20, 21, 22, 23, 24, 25, 26, 27, 28, 29, 30, 31, 32, 33, 34, 35, 36, 37, 38, 39, 40, 41, 42, 43, 44, 45, 46, 47, 48, 49, 50, 51, 52, 53, 54, 55, 56, 57, 58, 59, 60, 61, 62, 63, 74, 75, 76, 77, 78, 79, 80, 81, 82, 83, 84, 85, 86, 87, 88, 89, 90, 91, 92, 93, 94, 95, 96, 97] (by decide +kernel) (by decide +kernel)
set_option maxRecDepth 20000 in
theorem gX10_tick_X10_ticks : GoodIn wsX10_tick (wsV RX10 168 RX10 yX10_ticks wsX10_ticks) := goodIn_app (goodIn_of _ (by decide +kernel)) ggX10_tick_X10_ticks
set_option maxRecDepth 20000 in
theorem ggX10_tick_X10_ends : GoodIn wsX10_tick wsX10_ends := goodIn_r _ [67, 63, 68, 69, 70, 4, 71, 72, 73, 6, 74, 75, 76, 77, 78, 79, 80, 81, 82, 83, 84, 85, 86, 87, 88, 89, 90, 91, 92, 93, 94, 95, 96, 97] (by decide +kernel) (by decide +kernel)
set_option maxRecDepth 20000 in
theorem gX10_tick_X10_ends : GoodIn wsX10_tick (wsV RX10 103 RX10 yX10_ends wsX10_ends) := goodIn_app (goodIn_of _ (by decide +kernel)) ggX10_tick_X10_ends
theorem dX10_tick_0 : decode cX10_tick 0 = .ok (.aload_n 0, 1) := by decide +kernel
theorem dX10_tick_1 : decode cX10_tick 1 = .ok (.invokevirtual 97, 3) := by decide +kernel
theorem dX10_tick_4 : decode cX10_tick 4 = .ok (.aload_n 0, 1) := by decide +kernel
theorem dX10_tick_5 : decode cX10_tick 5 = .ok (.aload_n 0, 1) := by decide +kernel
theorem dX10_tick_6 : decode cX10_tick 6 = .ok (.iload_n 1, 1) := by decide +kernel
theorem dX10_tick_7 : decode cX10_tick 7 = .ok (.invokevirtual 168, 3) := by decide +kernel
theorem dX10_tick_10 : decode cX10_tick 10 = .ok (.invokevirtual 103, 3) := by decide +kernel
theorem dX10_tick_13 : decode cX10_tick 13 = .ok (.ireturn, 1) := by decide +kernel
set_option maxRecDepth 20000 in
theorem ggX10_lanternOf_X10_isLantern : GoodIn wsX10_lanternOf wsX10_isLantern := goodIn_r _ [5, 6, 7, 8, 4, 9, 37, 38, 39, 40, 41, 42, 43, 44, 45, 46, 47, 48, 49, 50, 51, 52, 53, 54, 55, 56, 57, 58, 59, 60] (by decide +kernel) (by decide +kernel)
set_option maxRecDepth 20000 in
theorem gX10_lanternOf_X10_isLantern : GoodIn wsX10_lanternOf (wsV RX10 106 RX10 yX10_isLantern wsX10_isLantern) := goodIn_app (goodIn_of _ (by decide +kernel)) ggX10_lanternOf_X10_isLantern
set_option maxRecDepth 20000 in
theorem ggX10_lanternOf_X10_of : GoodIn wsX10_lanternOf wsX10_of := goodIn_r _ [13, 6, 37, 38, 39, 40, 41, 42, 43, 44, 45, 46, 47, 48, 49, 50, 51, 52, 53, 54, 55, 56, 57, 58, 59, 60] (by decide +kernel) (by decide +kernel)
set_option maxRecDepth 20000 in
theorem gX10_lanternOf_X10_of : GoodIn wsX10_lanternOf (wsV RX10 77 RX10 yX10_of wsX10_of) := goodIn_app (goodIn_of _ (by decide +kernel)) ggX10_lanternOf_X10_of
set_option maxRecDepth 20000 in
theorem ggX10_lanternOf_X10_wiresTo : GoodIn wsX10_lanternOf wsX10_wiresTo := goodIn_r _ [17, 18, 19, 20, 4, 21, 10, 11, 12, 13, 6, 37, 38, 39, 40, 41, 42, 43, 44, 45, 46, 47, 48, 49, 50, 51, 52, 53, 54, 55, 56, 57, 58, 59, 60] (by decide +kernel) (by decide +kernel)
set_option maxRecDepth 20000 in
theorem gX10_lanternOf_X10_wiresTo : GoodIn wsX10_lanternOf (wsV RX10 122 RX10 yX10_wiresTo wsX10_wiresTo) := goodIn_app (goodIn_of _ (by decide +kernel)) ggX10_lanternOf_X10_wiresTo
set_option maxRecDepth 20000 in
theorem ggX10_lanternOf_X10_wiresFrom : GoodIn wsX10_lanternOf wsX10_wiresFrom := goodIn_r _ [25, 6, 18, 19, 20, 4, 21, 10, 11, 12, 13, 37, 38, 39, 40, 41, 42, 43, 44, 45, 46, 47, 48, 49, 50, 51, 52, 53, 54, 55, 56, 57, 58, 59, 60] (by decide +kernel) (by decide +kernel)
set_option maxRecDepth 20000 in
theorem gX10_lanternOf_X10_wiresFrom : GoodIn wsX10_lanternOf (wsV RX10 171 RX10 yX10_wiresFrom wsX10_wiresFrom) := goodIn_app (goodIn_of _ (by decide +kernel)) ggX10_lanternOf_X10_wiresFrom
set_option maxRecDepth 20000 in
theorem ggX10_lanternOf_X10_findsNow : GoodIn wsX10_lanternOf wsX10_findsNow := goodIn_r _ [29, 30, 31, 32, 4, 33, 10, 11, 12, 13, 6, 18, 19, 20, 21, 14, 15, 16, 17, 34, 35, 36, 37, 38, 39, 40, 41, 42, 43, 44, 45, 46, 47, 48, 49, 50, 51, 52, 53, 54, 55, 56, 57, 58, 59, 60] (by decide +kernel) (by decide +kernel)
set_option maxRecDepth 20000 in
theorem gX10_lanternOf_X10_findsNow : GoodIn wsX10_lanternOf (wsV RX10 153 RX10 yX10_findsNow wsX10_findsNow) := goodIn_app (goodIn_of _ (by decide +kernel)) ggX10_lanternOf_X10_findsNow
theorem dX10_lanternOf_0 : decode cX10_lanternOf 0 = .ok (.aload_n 0, 1) := by decide +kernel
theorem dX10_lanternOf_1 : decode cX10_lanternOf 1 = .ok (.iload_n 1, 1) := by decide +kernel
theorem dX10_lanternOf_2 : decode cX10_lanternOf 2 = .ok (.invokevirtual 106, 3) := by decide +kernel
theorem dX10_lanternOf_5 : decode cX10_lanternOf 5 = .ok (.ifCond .ne 6, 3) := by decide +kernel
theorem dX10_lanternOf_8 : decode cX10_lanternOf 8 = .ok (.bipush (-11), 2) := by decide +kernel
theorem dX10_lanternOf_10 : decode cX10_lanternOf 10 = .ok (.ireturn, 1) := by decide +kernel
theorem dX10_lanternOf_11 : decode cX10_lanternOf 11 = .ok (.iload_n 2, 1) := by decide +kernel
theorem dX10_lanternOf_12 : decode cX10_lanternOf 12 = .ok (.tableswitch 88 0 7 #[48, 48, 48, 55, 61, 67, 74, 80], 48) := by decide +kernel
theorem dX10_lanternOf_60 : decode cX10_lanternOf 60 = .ok (.aload_n 0, 1) := by decide +kernel
theorem dX10_lanternOf_61 : decode cX10_lanternOf 61 = .ok (.iload_n 1, 1) := by decide +kernel
theorem dX10_lanternOf_62 : decode cX10_lanternOf 62 = .ok (.iload_n 2, 1) := by decide +kernel
theorem dX10_lanternOf_63 : decode cX10_lanternOf 63 = .ok (.invokevirtual 77, 3) := by decide +kernel
theorem dX10_lanternOf_66 : decode cX10_lanternOf 66 = .ok (.ireturn, 1) := by decide +kernel
theorem dX10_lanternOf_67 : decode cX10_lanternOf 67 = .ok (.aload_n 0, 1) := by decide +kernel
theorem dX10_lanternOf_68 : decode cX10_lanternOf 68 = .ok (.iload_n 1, 1) := by decide +kernel
theorem dX10_lanternOf_69 : decode cX10_lanternOf 69 = .ok (.invokevirtual 122, 3) := by decide +kernel
theorem dX10_lanternOf_72 : decode cX10_lanternOf 72 = .ok (.ireturn, 1) := by decide +kernel
theorem dX10_lanternOf_73 : decode cX10_lanternOf 73 = .ok (.aload_n 0, 1) := by decide +kernel
theorem dX10_lanternOf_74 : decode cX10_lanternOf 74 = .ok (.iload_n 1, 1) := by decide +kernel
theorem dX10_lanternOf_75 : decode cX10_lanternOf 75 = .ok (.invokevirtual 171, 3) := by decide +kernel
theorem dX10_lanternOf_78 : decode cX10_lanternOf 78 = .ok (.ireturn, 1) := by decide +kernel
theorem dX10_lanternOf_79 : decode cX10_lanternOf 79 = .ok (.aload_n 0, 1) := by decide +kernel
theorem dX10_lanternOf_80 : decode cX10_lanternOf 80 = .ok (.iload_n 1, 1) := by decide +kernel
theorem dX10_lanternOf_81 : decode cX10_lanternOf 81 = .ok (.iconst 3, 1) := by decide +kernel
theorem dX10_lanternOf_82 : decode cX10_lanternOf 82 = .ok (.invokevirtual 77, 3) := by decide +kernel
theorem dX10_lanternOf_85 : decode cX10_lanternOf 85 = .ok (.ireturn, 1) := by decide +kernel
theorem dX10_lanternOf_86 : decode cX10_lanternOf 86 = .ok (.aload_n 0, 1) := by decide +kernel
theorem dX10_lanternOf_87 : decode cX10_lanternOf 87 = .ok (.iload_n 1, 1) := by decide +kernel
theorem dX10_lanternOf_88 : decode cX10_lanternOf 88 = .ok (.invokevirtual 153, 3) := by decide +kernel
theorem dX10_lanternOf_91 : decode cX10_lanternOf 91 = .ok (.ireturn, 1) := by decide +kernel
theorem dX10_lanternOf_92 : decode cX10_lanternOf 92 = .ok (.aload_n 0, 1) := by decide +kernel
theorem dX10_lanternOf_93 : decode cX10_lanternOf 93 = .ok (.iload_n 1, 1) := by decide +kernel
theorem dX10_lanternOf_94 : decode cX10_lanternOf 94 = .ok (.bipush 7, 2) := by decide +kernel
theorem dX10_lanternOf_96 : decode cX10_lanternOf 96 = .ok (.invokevirtual 77, 3) := by decide +kernel
theorem dX10_lanternOf_99 : decode cX10_lanternOf 99 = .ok (.ireturn, 1) := by decide +kernel
theorem dX10_lanternOf_100 : decode cX10_lanternOf 100 = .ok (.bipush (-12), 2) := by decide +kernel
theorem dX10_lanternOf_102 : decode cX10_lanternOf 102 = .ok (.ireturn, 1) := by decide +kernel
set_option maxRecDepth 20000 in
theorem ggX10_wireOf_X10_isLantern : GoodIn wsX10_wireOf wsX10_isLantern := goodIn_r _ [5, 6, 7, 8, 4, 9, 18, 19, 20, 21, 22, 23, 24, 25, 26, 27, 28, 29, 30, 31, 32, 33, 34, 35, 36, 37, 38, 39, 40, 41] (by decide +kernel) (by decide +kernel)
set_option maxRecDepth 20000 in
theorem gX10_wireOf_X10_isLantern : GoodIn wsX10_wireOf (wsV RX10 106 RX10 yX10_isLantern wsX10_isLantern) := goodIn_app (goodIn_of _ (by decide +kernel)) ggX10_wireOf_X10_isLantern
set_option maxRecDepth 20000 in
theorem ggX10_wireOf_X10_in : GoodIn wsX10_wireOf wsX10_in := goodIn_r _ [9] (by decide +kernel) (by decide +kernel)
set_option maxRecDepth 20000 in
theorem gX10_wireOf_X10_in : GoodIn wsX10_wireOf (va_wsS RX10 73 yX10_in wsX10_in) := goodIn_app (goodIn_of _ (by decide +kernel)) ggX10_wireOf_X10_in
set_option maxRecDepth 20000 in
theorem ggX10_wireOf_X10_wired : GoodIn wsX10_wireOf wsX10_wired := goodIn_r _ [13, 14, 15, 16, 4, 17, 6, 18, 19, 20, 21, 22, 23, 24, 25, 26, 27, 28, 29, 30, 31, 32, 33, 34, 35, 36, 37, 38, 39, 40, 41] (by decide +kernel) (by decide +kernel)
set_option maxRecDepth 20000 in
theorem gX10_wireOf_X10_wired : GoodIn wsX10_wireOf (wsV RX10 81 RX10 yX10_wired wsX10_wired) := goodIn_app (goodIn_of _ (by decide +kernel)) ggX10_wireOf_X10_wired
theorem dX10_wireOf_0 : decode cX10_wireOf 0 = .ok (.aload_n 0, 1) := by decide +kernel
theorem dX10_wireOf_1 : decode cX10_wireOf 1 = .ok (.iload_n 1, 1) := by decide +kernel
theorem dX10_wireOf_2 : decode cX10_wireOf 2 = .ok (.invokevirtual 106, 3) := by decide +kernel
theorem dX10_wireOf_5 : decode cX10_wireOf 5 = .ok (.ifCond .ne 6, 3) := by decide +kernel
theorem dX10_wireOf_8 : decode cX10_wireOf 8 = .ok (.bipush (-11), 2) := by decide +kernel
theorem dX10_wireOf_10 : decode cX10_wireOf 10 = .ok (.ireturn, 1) := by decide +kernel
theorem dX10_wireOf_11 : decode cX10_wireOf 11 = .ok (.iload_n 2, 1) := by decide +kernel
theorem dX10_wireOf_12 : decode cX10_wireOf 12 = .ok (.iconst 0, 1) := by decide +kernel
theorem dX10_wireOf_13 : decode cX10_wireOf 13 = .ok (.iconst 2, 1) := by decide +kernel
theorem dX10_wireOf_14 : decode cX10_wireOf 14 = .ok (.invokestatic 73, 3) := by decide +kernel
theorem dX10_wireOf_17 : decode cX10_wireOf 17 = .ok (.ifCond .ne 6, 3) := by decide +kernel
theorem dX10_wireOf_20 : decode cX10_wireOf 20 = .ok (.bipush (-12), 2) := by decide +kernel
theorem dX10_wireOf_22 : decode cX10_wireOf 22 = .ok (.ireturn, 1) := by decide +kernel
theorem dX10_wireOf_23 : decode cX10_wireOf 23 = .ok (.aload_n 0, 1) := by decide +kernel
theorem dX10_wireOf_24 : decode cX10_wireOf 24 = .ok (.iload_n 1, 1) := by decide +kernel
theorem dX10_wireOf_25 : decode cX10_wireOf 25 = .ok (.iload_n 2, 1) := by decide +kernel
theorem dX10_wireOf_26 : decode cX10_wireOf 26 = .ok (.invokevirtual 81, 3) := by decide +kernel
theorem dX10_wireOf_29 : decode cX10_wireOf 29 = .ok (.ifCond .ge 8, 3) := by decide +kernel
theorem dX10_wireOf_32 : decode cX10_wireOf 32 = .ok (.bipush (-15), 2) := by decide +kernel
theorem dX10_wireOf_34 : decode cX10_wireOf 34 = .ok (.goto 9, 3) := by decide +kernel
theorem dX10_wireOf_37 : decode cX10_wireOf 37 = .ok (.aload_n 0, 1) := by decide +kernel
theorem dX10_wireOf_38 : decode cX10_wireOf 38 = .ok (.iload_n 1, 1) := by decide +kernel
theorem dX10_wireOf_39 : decode cX10_wireOf 39 = .ok (.iload_n 2, 1) := by decide +kernel
theorem dX10_wireOf_40 : decode cX10_wireOf 40 = .ok (.invokevirtual 81, 3) := by decide +kernel
theorem dX10_wireOf_43 : decode cX10_wireOf 43 = .ok (.ireturn, 1) := by decide +kernel
set_option maxRecDepth 20000 in
theorem ggX10_leads_X10_isLantern : GoodIn wsX10_leads wsX10_isLantern := goodIn_r _ [6, 7, 8, 9, 5, 10, 23, 24, 25, 26, 27, 28, 29, 30, 31, 32, 33, 34, 35, 36, 37, 38, 39, 40, 41, 42, 43, 44, 45, 46] (by decide +kernel) (by decide +kernel)
set_option maxRecDepth 20000 in
theorem gX10_leads_X10_isLantern : GoodIn wsX10_leads (wsV RX10 106 RX10 yX10_isLantern wsX10_isLantern) := goodIn_app (goodIn_of _ (by decide +kernel)) ggX10_leads_X10_isLantern
set_option maxRecDepth 20000 in
theorem ggX10_leads_X10_reaches : GoodIn wsX10_leads wsX10_reaches := goodIn_r _ [14, 1, 7, 15, 16, 17, 5, 18, 19, 20, 21, 22, 23, 24, 25, 26, 27, 28, 29, 30, 31, 32, 33, 34, 35, 36, 37, 38, 39, 40, 41, 42, 43, 44, 45, 46] (by decide +kernel) (by decide +kernel)
set_option maxRecDepth 20000 in
theorem gX10_leads_X10_reaches : GoodIn wsX10_leads (wsV RX10 84 RX10 yX10_reaches wsX10_reaches) := goodIn_app (goodIn_of _ (by decide +kernel)) ggX10_leads_X10_reaches
theorem dX10_leads_0 : decode cX10_leads 0 = .ok (.aload_n 0, 1) := by decide +kernel
theorem dX10_leads_1 : decode cX10_leads 1 = .ok (.iload_n 1, 1) := by decide +kernel
theorem dX10_leads_2 : decode cX10_leads 2 = .ok (.invokevirtual 106, 3) := by decide +kernel
theorem dX10_leads_5 : decode cX10_leads 5 = .ok (.ifCond .ne 6, 3) := by decide +kernel
theorem dX10_leads_8 : decode cX10_leads 8 = .ok (.bipush (-11), 2) := by decide +kernel
theorem dX10_leads_10 : decode cX10_leads 10 = .ok (.ireturn, 1) := by decide +kernel
theorem dX10_leads_11 : decode cX10_leads 11 = .ok (.aload_n 0, 1) := by decide +kernel
theorem dX10_leads_12 : decode cX10_leads 12 = .ok (.invokevirtual 84, 3) := by decide +kernel
theorem dX10_leads_15 : decode cX10_leads 15 = .ok (.aload_n 0, 1) := by decide +kernel
theorem dX10_leads_16 : decode cX10_leads 16 = .ok (.getfield 28, 3) := by decide +kernel
theorem dX10_leads_19 : decode cX10_leads 19 = .ok (.iload_n 1, 1) := by decide +kernel
theorem dX10_leads_20 : decode cX10_leads 20 = .ok (.iaload, 1) := by decide +kernel
theorem dX10_leads_21 : decode cX10_leads 21 = .ok (.ireturn, 1) := by decide +kernel
set_option maxRecDepth 20000 in
theorem ggX10_looped_X10_loopSet : GoodIn wsX10_looped wsX10_loopSet := goodIn_r _ [5, 6, 7, 8, 9, 10, 4, 11, 12, 13, 14, 15, 16, 17, 18, 19, 20, 21, 22, 23, 24, 25, 26, 27, 28, 29, 30, 31, 32, 33, 34, 35, 36, 37, 38, 39, 40, 41, 42, 43] (by decide +kernel) (by decide +kernel)
set_option maxRecDepth 20000 in
theorem gX10_looped_X10_loopSet : GoodIn wsX10_looped (wsV RX10 139 RX10 yX10_loopSet wsX10_loopSet) := goodIn_app (goodIn_of _ (by decide +kernel)) ggX10_looped_X10_loopSet
theorem dX10_looped_0 : decode cX10_looped 0 = .ok (.aload_n 0, 1) := by decide +kernel
theorem dX10_looped_1 : decode cX10_looped 1 = .ok (.invokevirtual 139, 3) := by decide +kernel
theorem dX10_looped_4 : decode cX10_looped 4 = .ok (.ireturn, 1) := by decide +kernel
set_option maxRecDepth 20000 in
theorem ggX10_deep_X10_isSwitch : GoodIn wsX10_deep wsX10_isSwitch := goodIn_r _ [7, 8, 9, 10, 6, 11, 1, 32, 33, 34, 35, 36, 37, 38, 39, 40, 41, 42, 43, 44, 45, 46, 47, 48, 49, 50, 51, 52, 53, 54, 55] (by decide +kernel) (by decide +kernel)
set_option maxRecDepth 20000 in
theorem gX10_deep_X10_isSwitch : GoodIn wsX10_deep (wsV RX10 110 RX10 yX10_isSwitch wsX10_isSwitch) := goodIn_app (goodIn_of _ (by decide +kernel)) ggX10_deep_X10_isSwitch
set_option maxRecDepth 20000 in
theorem ggX10_deep_X10_loopSet : GoodIn wsX10_deep wsX10_loopSet := goodIn_r _ [15, 1, 2, 16, 17, 18, 6, 19, 20, 21, 22, 23, 8, 9, 10, 11, 32, 33, 34, 35, 36, 37, 38, 39, 40, 41, 42, 43, 44, 45, 46, 47, 48, 49, 50, 51, 52, 53, 54, 55] (by decide +kernel) (by decide +kernel)
set_option maxRecDepth 20000 in
theorem gX10_deep_X10_loopSet : GoodIn wsX10_deep (wsV RX10 139 RX10 yX10_loopSet wsX10_loopSet) := goodIn_app (goodIn_of _ (by decide +kernel)) ggX10_deep_X10_loopSet
set_option maxRecDepth 20000 in
theorem ggX10_deep_X10_rises : GoodIn wsX10_deep wsX10_rises := goodIn_r _ [27, 28, 29, 30, 31, 3, 4, 5, 6, 7, 8, 9, 10, 11, 1, 20, 21, 22, 23, 24, 25, 26, 32, 33, 34, 35, 36, 37, 38, 39, 40, 41, 42, 43, 44, 45, 46, 47, 48, 49, 50, 51, 52, 53, 54, 55] (by decide +kernel) (by decide +kernel)
set_option maxRecDepth 20000 in
theorem gX10_deep_X10_rises : GoodIn wsX10_deep (wsV RX10 174 RX10 yX10_rises wsX10_rises) := goodIn_app (goodIn_of _ (by decide +kernel)) ggX10_deep_X10_rises
theorem dX10_deep_0 : decode cX10_deep 0 = .ok (.aload_n 0, 1) := by decide +kernel
theorem dX10_deep_1 : decode cX10_deep 1 = .ok (.iload_n 1, 1) := by decide +kernel
theorem dX10_deep_2 : decode cX10_deep 2 = .ok (.invokevirtual 110, 3) := by decide +kernel
theorem dX10_deep_5 : decode cX10_deep 5 = .ok (.ifCond .eq 5, 3) := by decide +kernel
theorem dX10_deep_8 : decode cX10_deep 8 = .ok (.iconst 0, 1) := by decide +kernel
theorem dX10_deep_9 : decode cX10_deep 9 = .ok (.ireturn, 1) := by decide +kernel
theorem dX10_deep_10 : decode cX10_deep 10 = .ok (.aload_n 0, 1) := by decide +kernel
theorem dX10_deep_11 : decode cX10_deep 11 = .ok (.invokevirtual 139, 3) := by decide +kernel
theorem dX10_deep_14 : decode cX10_deep 14 = .ok (.istore_n 2, 1) := by decide +kernel
theorem dX10_deep_15 : decode cX10_deep 15 = .ok (.iload_n 2, 1) := by decide +kernel
theorem dX10_deep_16 : decode cX10_deep 16 = .ok (.iload_n 1, 1) := by decide +kernel
theorem dX10_deep_17 : decode cX10_deep 17 = .ok (.ishr, 1) := by decide +kernel
theorem dX10_deep_18 : decode cX10_deep 18 = .ok (.iconst 1, 1) := by decide +kernel
theorem dX10_deep_19 : decode cX10_deep 19 = .ok (.iand, 1) := by decide +kernel
theorem dX10_deep_20 : decode cX10_deep 20 = .ok (.iconst 1, 1) := by decide +kernel
theorem dX10_deep_21 : decode cX10_deep 21 = .ok (.if_icmp .ne 5, 3) := by decide +kernel
theorem dX10_deep_24 : decode cX10_deep 24 = .ok (.iconst (-1), 1) := by decide +kernel
theorem dX10_deep_25 : decode cX10_deep 25 = .ok (.ireturn, 1) := by decide +kernel
theorem dX10_deep_26 : decode cX10_deep 26 = .ok (.iconst 0, 1) := by decide +kernel
theorem dX10_deep_27 : decode cX10_deep 27 = .ok (.istore_n 3, 1) := by decide +kernel
theorem dX10_deep_28 : decode cX10_deep 28 = .ok (.iload_n 3, 1) := by decide +kernel
theorem dX10_deep_29 : decode cX10_deep 29 = .ok (.aload_n 0, 1) := by decide +kernel
theorem dX10_deep_30 : decode cX10_deep 30 = .ok (.getfield 9, 3) := by decide +kernel
theorem dX10_deep_33 : decode cX10_deep 33 = .ok (.iconst 0, 1) := by decide +kernel
theorem dX10_deep_34 : decode cX10_deep 34 = .ok (.iaload, 1) := by decide +kernel
theorem dX10_deep_35 : decode cX10_deep 35 = .ok (.if_icmp .ge 34, 3) := by decide +kernel
theorem dX10_deep_38 : decode cX10_deep 38 = .ok (.iload_n 2, 1) := by decide +kernel
theorem dX10_deep_39 : decode cX10_deep 39 = .ok (.iload_n 3, 1) := by decide +kernel
theorem dX10_deep_40 : decode cX10_deep 40 = .ok (.ishr, 1) := by decide +kernel
theorem dX10_deep_41 : decode cX10_deep 41 = .ok (.iconst 1, 1) := by decide +kernel
theorem dX10_deep_42 : decode cX10_deep 42 = .ok (.iand, 1) := by decide +kernel
theorem dX10_deep_43 : decode cX10_deep 43 = .ok (.iconst 1, 1) := by decide +kernel
theorem dX10_deep_44 : decode cX10_deep 44 = .ok (.if_icmp .ne 19, 3) := by decide +kernel
theorem dX10_deep_47 : decode cX10_deep 47 = .ok (.aload_n 0, 1) := by decide +kernel
theorem dX10_deep_48 : decode cX10_deep 48 = .ok (.getfield 28, 3) := by decide +kernel
theorem dX10_deep_51 : decode cX10_deep 51 = .ok (.iload_n 3, 1) := by decide +kernel
theorem dX10_deep_52 : decode cX10_deep 52 = .ok (.iaload, 1) := by decide +kernel
theorem dX10_deep_53 : decode cX10_deep 53 = .ok (.iload_n 1, 1) := by decide +kernel
theorem dX10_deep_54 : decode cX10_deep 54 = .ok (.ishr, 1) := by decide +kernel
theorem dX10_deep_55 : decode cX10_deep 55 = .ok (.iconst 1, 1) := by decide +kernel
