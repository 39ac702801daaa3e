set_option maxRecDepth 20000 in
theorem ggL_reads_J0_length_8abf5 : GoodIn wsL_reads wsJ0_length_8abf5 := goodIn_r _ [5, 6, 7, 8, 9, 4, 10, 11, 12, 353, 354, 355, 356] (by decide +kernel) (by decide +kernel)
set_option maxRecDepth 20000 in
theorem gL_reads_J0_length_8abf5 : GoodIn wsL_reads (wsV RL 7 RJ0 yJ0_length_8abf5 wsJ0_length_8abf5) := goodIn_app (goodIn_of _ (by decide +kernel)) ggL_reads_J0_length_8abf5
set_option maxRecDepth 20000 in
theorem ggL_reads_J0_charAt_5068e : GoodIn wsL_reads wsJ0_charAt_5068e := goodIn_r _ [16, 6, 17, 18, 19, 4, 20, 11, 12, 21, 22, 23, 24, 25, 26, 27, 28, 29, 30, 31, 32, 33, 34, 35, 36, 37, 38, 39, 40, 41, 42, 43, 44, 45, 46, 47, 48, 49, 353, 354, 355, 356] (by decide +kernel) (by decide +kernel)
set_option maxRecDepth 20000 in
theorem gL_reads_J0_charAt_5068e : GoodIn wsL_reads (wsV RL 13 RJ0 yJ0_charAt_5068e wsJ0_charAt_5068e) := goodIn_app (goodIn_of _ (by decide +kernel)) ggL_reads_J0_charAt_5068e
set_option maxRecDepth 20000 in
theorem ggL_reads_X9_append : GoodIn wsL_reads wsX9_append := goodIn_r _ [54, 55, 56, 57, 58, 59, 60, 61, 62, 357, 358, 359, 360, 361, 362, 363, 364, 365, 366, 367, 368, 369, 370, 371, 372, 373] (by decide +kernel) (by decide +kernel)
set_option maxRecDepth 20000 in
theorem gL_reads_X9_append : GoodIn wsL_reads (wsV RL 17 RX9 yX9_append wsX9_append) := goodIn_app (goodIn_of _ (by decide +kernel)) ggL_reads_X9_append
set_option maxRecDepth 20000 in
theorem ggL_reads_X9_run : GoodIn wsL_reads wsX9_run := goodIn_r _ [66, 55, 67, 68, 69, 59, 70, 71, 61, 72, 73, 74, 75, 76, 77, 78, 79, 80, 81, 82, 83, 84, 62, 85, 86, 87, 88, 89, 2, 3, 4, 5, 6, 7, 8, 9, 10, 11, 12, 90, 14, 15, 16, 17, 18, 19, 20, 21, 22, 23, 24, 25, 26, 27, 28, 29, 30, 31, 32, 33, 34, 35, 36, 37, 38, 39, 40, 41, 42, 43, 44, 45, 46, 47, 48, 49, 91, 92, 93, 94, 95, 96, 97, 98, 99, 100, 101, 102, 103, 104, 105, 106, 107, 108, 109, 110, 111, 112, 113, 114, 115, 116, 117, 118, 119, 120, 121, 122, 123, 124, 125, 53, 126, 127, 128, 129, 130, 131, 132, 133, 134, 135, 136, 137, 138, 139, 140, 141, 142, 143, 144, 145, 146, 147, 148, 149, 150, 151, 152, 153, 154, 155, 156, 157, 158, 159, 160, 161, 162, 163, 164, 165, 166, 167, 168, 169, 170, 171, 172, 173, 174, 175, 176, 177, 178, 179, 180, 181, 182, 183, 184, 185, 186, 187, 188, 189, 190, 191, 192, 193, 194, 195, 196, 197, 198, 199, 200, 201, 202, 203, 204, 205, 206, 207, 208, 209, 210, 211, 212, 213, 214, 215, 216, 217, 218, 219, 220, 221, 222, 223, 224, 225, 226, 227, 228, 229, 230, 231, 232, 233, 234, 235, 236, 237, 238, 239, 240, 241, 242, 243, 244, 245, 246, 247, 248, 249, 250, 251, 252, 253, 254, 255, 256, 257, 258, 259, 260, 261, 262, 263, 264, 265, 266, 267, 268, 269, 270, 271, 272, 273, 274, 275, 276, 277, 278, 279, 280, 281, 282, 283, 284, 285, 286, 287, 288, 289, 290, 291, 292, 293, 294, 295, 296, 297, 298, 299, 300, 301, 302, 303, 304, 305, 306, 307, 308, 309, 310, 311, 312, 313, 314, 315, 316, 317, 318, 319, 320, 321, 322, 323, 324, 325, 326, 327, 328, 329, 330, 331, 332, 333, 334, 335, 336, 337, 338, 339, 340, 341, 342, 343, 344, 345, 346, 347, 348, 349, 350, 351, 352, 357, 358, 359, 360, 361, 362, 363, 364, 365, 366, 367, 368, 369, 370, 371, 372, 373, 353, 354, 355, 356, 374, 375, 376, 377, 378, 379, 380, 381, 382, 383, 384, 385, 386, 387, 388, 389] (by decide +kernel) (by decide +kernel)
set_option maxRecDepth 20000 in
theorem gL_reads_X9_run : GoodIn wsL_reads (wsV RL 23 RX9 yX9_run wsX9_run) := goodIn_app (goodIn_of _ (by decide +kernel)) ggL_reads_X9_run
set_option maxRecDepth 20000 in
theorem ggL_is_X9_reason : GoodIn wsL_is wsX9_reason := goodIn_r _ [5, 6, 7, 8, 9, 10, 11, 12, 13, 14, 15, 16, 17, 18, 19, 20, 21, 22, 23, 24, 25, 26, 27, 28, 29, 30, 31, 32, 33, 34] (by decide +kernel) (by decide +kernel)
set_option maxRecDepth 20000 in
theorem gL_is_X9_reason : GoodIn wsL_is (wsV RL 26 RX9 yX9_reason wsX9_reason) := goodIn_app (goodIn_of _ (by decide +kernel)) ggL_is_X9_reason
set_option maxRecDepth 20000 in
theorem ggL_is__X9_reason : GoodIn wsL_is_ wsX9_reason := goodIn_r _ [5, 6, 7, 8, 9, 10, 11, 12, 13, 14, 15, 16, 17, 18, 19, 20, 21, 22, 23, 24, 25, 26, 27, 28, 29, 30, 31, 32, 33, 34] (by decide +kernel) (by decide +kernel)
set_option maxRecDepth 20000 in
theorem gL_is__X9_reason : GoodIn wsL_is_ (wsV RL 26 RX9 yX9_reason wsX9_reason) := goodIn_app (goodIn_of _ (by decide +kernel)) ggL_is__X9_reason
set_option maxRecDepth 20000 in
theorem ggL_makes_X9_hang : GoodIn wsL_makes wsX9_hang := goodIn_r _ [5, 6, 7, 8, 9, 10, 11, 12, 13, 14, 15, 16, 17, 18, 19, 20, 21, 22, 23, 24, 25, 26, 27, 28, 29, 30, 31, 32, 33, 34, 35, 36, 37, 38, 39, 40, 4, 41, 42, 43, 44, 45, 46, 47, 48, 49, 50, 51, 52, 53, 54, 55, 56, 57, 58, 59, 60, 61, 62, 63, 64, 65, 66, 67, 68, 69, 70, 71, 205, 206, 207, 208, 209, 210, 211, 212, 213, 214, 215, 216, 217, 218, 219, 220, 221, 222, 223, 224, 225, 226, 227, 228, 229] (by decide +kernel) (by decide +kernel)
set_option maxRecDepth 20000 in
theorem gL_makes_X9_hang : GoodIn wsL_makes (wsV RL 33 RX9 yX9_hang wsX9_hang) := goodIn_app (goodIn_of _ (by decide +kernel)) ggL_makes_X9_hang
set_option maxRecDepth 20000 in
theorem ggL_makes_L_at : GoodIn wsL_makes wsL_at := goodIn_r _ [75] (by decide +kernel) (by decide +kernel)
set_option maxRecDepth 20000 in
theorem gL_makes_L_at : GoodIn wsL_makes (va_wsS RL 37 yL_at wsL_at) := goodIn_app (goodIn_of _ (by decide +kernel)) ggL_makes_L_at
set_option maxRecDepth 20000 in
theorem ggL_makes_L_some : GoodIn wsL_makes wsL_some := goodIn_r _ [78] (by decide +kernel) (by decide +kernel)
set_option maxRecDepth 20000 in
theorem gL_makes_L_some : GoodIn wsL_makes (va_wsS RL 43 yL_some wsL_some) := goodIn_app (goodIn_of _ (by decide +kernel)) ggL_makes_L_some
set_option maxRecDepth 20000 in
theorem ggL_makes_X9_wire : GoodIn wsL_makes wsX9_wire := goodIn_r _ [82, 6, 7, 8, 9, 10, 11, 12, 13, 14, 15, 16, 17, 18, 19, 20, 21, 22, 23, 24, 25, 26, 27, 28, 29, 30, 31, 32, 33, 34, 35, 36, 37, 83, 84, 85, 4, 86, 50, 87, 88, 89, 90, 91, 92, 93, 94, 95, 96, 97, 98, 99, 100, 101, 102, 46, 47, 48, 49, 51, 52, 53, 54, 55, 56, 57, 58, 103, 104, 105, 106, 107, 108, 109, 110, 111, 112, 113, 114, 115, 116, 117, 118, 119, 120, 121, 122, 123, 124, 125, 126, 127, 128, 129, 130, 131, 132, 133, 134, 135, 136, 137, 138, 139, 140, 141, 142, 143, 144, 145, 146, 147, 59, 60, 61, 62, 63, 64, 65, 66, 67, 68, 69, 70, 71, 205, 206, 207, 208, 209, 210, 211, 212, 213, 214, 215, 216, 217, 218, 219, 220, 221, 222, 223, 224, 225, 226, 227, 228, 229] (by decide +kernel) (by decide +kernel)
set_option maxRecDepth 20000 in
theorem gL_makes_X9_wire : GoodIn wsL_makes (wsV RL 46 RX9 yX9_wire wsX9_wire) := goodIn_app (goodIn_of _ (by decide +kernel)) ggL_makes_X9_wire
set_option maxRecDepth 20000 in
theorem ggL_makes_X9_set : GoodIn wsL_makes wsX9_set := goodIn_r _ [151, 6, 7, 8, 9, 10, 11, 12, 13, 14, 15, 16, 17, 18, 19, 20, 21, 22, 23, 24, 25, 26, 27, 28, 29, 30, 31, 32, 33, 34, 35, 36, 37, 152, 153, 154, 4, 155, 87, 88, 89, 90, 98, 99, 100, 101, 102, 103, 104, 105, 106, 46, 47, 48, 49, 50, 51, 52, 53, 54, 55, 56, 57, 58, 156, 157, 158, 159, 160, 161, 162, 163, 164, 165, 166, 167, 122, 123, 168, 169, 170, 171, 172, 173, 174, 175, 176, 177, 178, 179, 59, 60, 61, 62, 63, 64, 65, 66, 67, 68, 69, 70, 71, 205, 206, 207, 208, 209, 210, 211, 212, 213, 214, 215, 216, 217, 218, 219, 220, 221, 222, 223, 224, 225, 226, 227, 228, 229] (by decide +kernel) (by decide +kernel)
set_option maxRecDepth 20000 in
theorem gL_makes_X9_set : GoodIn wsL_makes (wsV RL 50 RX9 yX9_set wsX9_set) := goodIn_app (goodIn_of _ (by decide +kernel)) ggL_makes_X9_set
set_option maxRecDepth 20000 in
theorem ggL_makes_X9_tick : GoodIn wsL_makes wsX9_tick := goodIn_r _ [183, 6, 7, 8, 9, 10, 11, 12, 13, 14, 15, 16, 17, 18, 19, 20, 21, 22, 23, 24, 25, 26, 27, 28, 29, 30, 31, 32, 33, 34, 35, 36, 37, 184, 185, 186, 4, 187, 188, 189, 190, 191, 192, 193, 194, 195, 164, 165, 166, 167, 196, 197, 198, 199, 200, 201, 202, 203, 204, 174, 175, 176, 177, 178, 179, 59, 60, 61, 62, 63, 64, 65, 66, 67, 68, 69, 70, 71, 205, 206, 207, 208, 209, 210, 211, 212, 213, 214, 215, 216, 217, 218, 219, 220, 221, 222, 223, 224, 225, 226] (by decide +kernel) (by decide +kernel)
set_option maxRecDepth 20000 in
theorem gL_makes_X9_tick : GoodIn wsL_makes (wsV RL 53 RX9 yX9_tick wsX9_tick) := goodIn_app (goodIn_of _ (by decide +kernel)) ggL_makes_X9_tick
set_option maxRecDepth 20000 in
theorem ggL_asks_X9_meanWick : GoodIn wsL_asks wsX9_meanWick := goodIn_r _ [6, 7, 8, 9, 10, 11, 12, 13, 14, 15, 16, 17, 18, 19, 20, 21, 22, 23, 24, 25, 26, 27, 444, 445, 446, 447, 448, 449, 450, 451, 452, 453, 454, 455, 456, 457, 458, 459, 460, 461, 462] (by decide +kernel) (by decide +kernel)
set_option maxRecDepth 20000 in
theorem gL_asks_X9_meanWick : GoodIn wsL_asks (wsV RL 58 RX9 yX9_meanWick wsX9_meanWick) := goodIn_app (goodIn_of _ (by decide +kernel)) ggL_asks_X9_meanWick
set_option maxRecDepth 20000 in
theorem ggL_asks_Jxe99ae_doubleToLongBits_ccdee : GoodIn wsL_asks wsJxe99ae_doubleToLongBits_ccdee := goodIn_r _ [31, 32, 33, 34, 35, 36, 37, 38, 30, 39] (by decide +kernel) (by decide +kernel)
set_option maxRecDepth 20000 in
theorem gL_asks_Jxe99ae_doubleToLongBits_ccdee : GoodIn wsL_asks (va_wsS RL 62 yJxe99ae_doubleToLongBits_ccdee wsJxe99ae_doubleToLongBits_ccdee) := goodIn_app (goodIn_of _ (by decide +kernel)) ggL_asks_Jxe99ae_doubleToLongBits_ccdee
set_option maxRecDepth 20000 in
theorem ggL_asks_X9_glowShare : GoodIn wsL_asks wsX9_glowShare := goodIn_r _ [43, 7, 8, 9, 10, 11, 12, 13, 44, 45, 46, 47, 48, 49, 50, 51, 52, 53, 54, 55, 56, 57, 58, 59, 444, 445, 446, 447, 448, 449, 450, 451, 452, 453, 454, 455, 456, 457, 458, 459, 460, 461, 462] (by decide +kernel) (by decide +kernel)
set_option maxRecDepth 20000 in
theorem gL_asks_X9_glowShare : GoodIn wsL_asks (wsV RL 68 RX9 yX9_glowShare wsX9_glowShare) := goodIn_app (goodIn_of _ (by decide +kernel)) ggL_asks_X9_glowShare
set_option maxRecDepth 20000 in
theorem ggL_asks_Jxf58ca_floatToIntBits_5c35a : GoodIn wsL_asks wsJxf58ca_floatToIntBits_5c35a := goodIn_r _ [63, 64, 65, 66, 67, 68, 69, 70, 62, 71] (by decide +kernel) (by decide +kernel)
set_option maxRecDepth 20000 in
theorem gL_asks_Jxf58ca_floatToIntBits_5c35a : GoodIn wsL_asks (va_wsS RL 72 yJxf58ca_floatToIntBits_5c35a wsJxf58ca_floatToIntBits_5c35a) := goodIn_app (goodIn_of _ (by decide +kernel)) ggL_asks_Jxf58ca_floatToIntBits_5c35a
set_option maxRecDepth 20000 in
theorem ggL_asks_X9_account : GoodIn wsL_asks wsX9_account := goodIn_r _ [75, 7, 76, 77, 78, 79, 80, 81, 11, 82, 83, 8, 9, 10, 12, 13, 84, 85, 86, 87, 88, 15, 16, 17, 18, 19, 20, 21, 22, 53, 54, 55, 56, 57, 58, 59, 89, 90, 91, 92, 93, 94, 95, 96, 97, 98, 99, 100, 101, 44, 45, 46, 47, 48, 49, 50, 51, 52, 102, 103, 104, 105, 106, 107, 108, 109, 110, 111, 112, 113, 114, 115, 116, 117, 5, 118, 119, 120, 121, 122, 123, 124, 125, 126, 127, 128, 129, 130, 131, 132, 133, 134, 135, 136, 137, 138, 139, 140, 141, 142, 143, 144, 145, 146, 147, 148, 149, 150, 151, 152, 153, 154, 155, 156, 157, 158, 159, 160, 161, 162, 163, 164, 165, 166, 167, 24, 25, 26, 27, 168, 169, 170, 171, 172, 173, 174, 175, 176, 177, 178, 179, 444, 445, 446, 447, 448, 449, 450, 451, 452, 453, 454, 455, 456, 457, 458, 459, 460, 461, 462, 463, 464, 465, 466, 467, 468, 469, 470, 471, 472, 473, 474] (by decide +kernel) (by decide +kernel)
set_option maxRecDepth 20000 in
theorem gL_asks_X9_account : GoodIn wsL_asks (wsV RL 78 RX9 yX9_account wsX9_account) := goodIn_app (goodIn_of _ (by decide +kernel)) ggL_asks_X9_account
set_option maxRecDepth 20000 in
theorem ggL_asks_X9_lanternOf : GoodIn wsL_asks wsX9_lanternOf := goodIn_r _ [183, 7, 184, 20, 21, 11, 22, 13, 185, 186, 187, 188, 18, 19, 23, 24, 25, 26, 27, 189, 190, 191, 192, 193, 45, 46, 47, 48, 49, 50, 51, 52, 117, 5, 118, 194, 94, 95, 96, 97, 98, 99, 100, 101, 195, 196, 197, 198, 199, 129, 130, 131, 132, 44, 200, 201, 202, 203, 204, 205, 206, 207, 208, 209, 210, 211, 444, 445, 446, 447, 448, 449, 450, 451, 452, 453, 454, 455, 456, 457, 458, 459, 460, 461, 462] (by decide +kernel) (by decide +kernel)
set_option maxRecDepth 20000 in
theorem gL_asks_X9_lanternOf : GoodIn wsL_asks (wsV RL 81 RX9 yX9_lanternOf wsX9_lanternOf) := goodIn_app (goodIn_of _ (by decide +kernel)) ggL_asks_X9_lanternOf
set_option maxRecDepth 20000 in
theorem ggL_asks_X9_wireOf : GoodIn wsL_asks wsX9_wireOf := goodIn_r _ [215, 7, 184, 20, 21, 11, 22, 13, 216, 217, 5, 218, 219, 98, 99, 100, 101, 444, 445, 446, 447, 448, 449, 450, 451, 452, 453, 454, 455, 456, 457, 458, 459, 460, 461, 462] (by decide +kernel) (by decide +kernel)
set_option maxRecDepth 20000 in
theorem gL_asks_X9_wireOf : GoodIn wsL_asks (wsV RL 84 RX9 yX9_wireOf wsX9_wireOf) := goodIn_app (goodIn_of _ (by decide +kernel)) ggL_asks_X9_wireOf
set_option maxRecDepth 20000 in
theorem ggL_asks_X9_leads : GoodIn wsL_asks wsX9_leads := goodIn_r _ [223, 7, 184, 20, 21, 11, 22, 13, 224, 108, 104, 109, 110, 111, 112, 106, 9, 10, 12, 113, 114, 115, 116, 101, 444, 445, 446, 447, 448, 449, 450, 451, 452, 453, 454, 455, 456, 457, 458, 459, 460, 461, 462] (by decide +kernel) (by decide +kernel)
set_option maxRecDepth 20000 in
theorem gL_asks_X9_leads : GoodIn wsL_asks (wsV RL 87 RX9 yX9_leads wsX9_leads) := goodIn_app (goodIn_of _ (by decide +kernel)) ggL_asks_X9_leads
set_option maxRecDepth 20000 in
theorem ggL_asks_X9_depth : GoodIn wsL_asks wsX9_depth := goodIn_r _ [228, 7, 76, 184, 20, 21, 11, 22, 13, 229, 230, 231, 146, 232, 148, 153, 154, 155, 156, 158, 159, 160, 149, 150, 151, 152, 161, 162, 98, 99, 100, 101, 163, 164, 165, 166, 15, 16, 17, 18, 19, 167, 24, 25, 26, 27, 444, 445, 446, 447, 448, 449, 450, 451, 452, 453, 454, 455, 456, 457, 458, 459, 460, 461, 462, 463] (by decide +kernel) (by decide +kernel)
set_option maxRecDepth 20000 in
theorem gL_asks_X9_depth : GoodIn wsL_asks (wsV RL 90 RX9 yX9_depth wsX9_depth) := goodIn_app (goodIn_of _ (by decide +kernel)) ggL_asks_X9_depth
set_option maxRecDepth 20000 in
theorem ggL_asks_X9_depthAgain : GoodIn wsL_asks wsX9_depthAgain := goodIn_r _ [236, 7, 76, 184, 20, 21, 11, 22, 13, 237, 238, 239, 146, 240, 148, 153, 154, 155, 156, 241, 242, 243, 244, 157, 9, 10, 12, 245, 246, 247, 248, 149, 150, 151, 152, 162, 98, 99, 100, 101, 161, 163, 164, 165, 166, 15, 16, 17, 18, 19, 167, 24, 25, 26, 27, 444, 445, 446, 447, 448, 449, 450, 451, 452, 453, 454, 455, 456, 457, 458, 459, 460, 461, 462, 463] (by decide +kernel) (by decide +kernel)
