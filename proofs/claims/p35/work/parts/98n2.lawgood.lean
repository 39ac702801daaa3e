set_option maxRecDepth 20000 in
theorem gL_asks_X9_depthAgain : GoodIn wsL_asks (wsV RL 93 RX9 yX9_depthAgain wsX9_depthAgain) := goodIn_app (goodIn_of _ (by decide +kernel)) ggL_asks_X9_depthAgain
set_option maxRecDepth 20000 in
theorem ggL_asks_X9_switchesOf : GoodIn wsL_asks wsX9_switchesOf := goodIn_r _ [252, 7, 184, 20, 21, 11, 22, 13, 253, 254, 104, 255, 106, 9, 10, 12, 256, 15, 16, 17, 18, 19, 107, 108, 109, 110, 111, 112, 113, 114, 115, 116, 101, 117, 5, 118, 444, 445, 446, 447, 448, 449, 450, 451, 452, 453, 454, 455, 456, 457, 458, 459, 460, 461, 462] (by decide +kernel) (by decide +kernel)
set_option maxRecDepth 20000 in
theorem gL_asks_X9_switchesOf : GoodIn wsL_asks (wsV RL 96 RX9 yX9_switchesOf wsX9_switchesOf) := goodIn_app (goodIn_of _ (by decide +kernel)) ggL_asks_X9_switchesOf
set_option maxRecDepth 20000 in
theorem ggL_asks_X9_flickers : GoodIn wsL_asks wsX9_flickers := goodIn_r _ [260, 7, 261, 184, 20, 21, 11, 22, 13, 14, 15, 16, 17, 18, 19, 262, 263, 264, 265, 266, 267, 205, 206, 207, 48, 268, 269, 270, 271, 27, 49, 50, 51, 52, 272, 209, 210, 211, 273, 201, 202, 203, 101, 444, 445, 446, 447, 448, 449, 450, 451, 452, 453, 454, 455, 456, 457, 458, 459, 460, 461, 462] (by decide +kernel) (by decide +kernel)
set_option maxRecDepth 20000 in
theorem gL_asks_X9_flickers : GoodIn wsL_asks (wsV RL 99 RX9 yX9_flickers wsX9_flickers) := goodIn_app (goodIn_of _ (by decide +kernel)) ggL_asks_X9_flickers
set_option maxRecDepth 20000 in
theorem ggL_asks_X9_table : GoodIn wsL_asks wsX9_table := goodIn_r _ [277, 7, 184, 20, 21, 11, 22, 13, 278, 279, 280, 5, 281, 76, 14, 15, 16, 17, 18, 19, 229, 230, 231, 146, 232, 148, 153, 154, 155, 156, 158, 159, 160, 149, 150, 151, 152, 161, 162, 98, 99, 100, 101, 163, 164, 165, 166, 167, 24, 25, 26, 27, 253, 254, 104, 255, 106, 9, 10, 12, 256, 107, 108, 109, 110, 111, 112, 113, 114, 115, 116, 117, 118, 53, 54, 55, 56, 57, 58, 59, 282, 283, 284, 285, 286, 287, 288, 289, 290, 291, 292, 293, 294, 85, 86, 87, 88, 295, 296, 297, 201, 202, 203, 444, 445, 446, 447, 448, 449, 450, 451, 452, 453, 454, 455, 456, 457, 458, 459, 460, 461, 462, 463] (by decide +kernel) (by decide +kernel)
set_option maxRecDepth 20000 in
theorem gL_asks_X9_table : GoodIn wsL_asks (wsV RL 102 RX9 yX9_table wsX9_table) := goodIn_app (goodIn_of _ (by decide +kernel)) ggL_asks_X9_table
set_option maxRecDepth 20000 in
theorem ggL_asks_X9_tableAgain : GoodIn wsL_asks wsX9_tableAgain := goodIn_r _ [301, 7, 76, 184, 20, 21, 11, 22, 13, 278, 279, 280, 5, 281, 14, 15, 16, 17, 18, 19, 229, 230, 231, 146, 232, 148, 153, 154, 155, 156, 158, 159, 160, 149, 150, 151, 152, 161, 162, 98, 99, 100, 101, 163, 164, 165, 166, 167, 24, 25, 26, 27, 253, 254, 104, 255, 106, 9, 10, 12, 256, 107, 108, 109, 110, 111, 112, 113, 114, 115, 116, 117, 118, 53, 54, 55, 56, 57, 58, 59, 302, 303, 284, 304, 305, 286, 287, 306, 205, 206, 207, 48, 288, 289, 290, 307, 269, 270, 271, 49, 50, 51, 52, 272, 209, 210, 211, 273, 201, 202, 203, 444, 445, 446, 447, 448, 449, 450, 451, 452, 453, 454, 455, 456, 457, 458, 459, 460, 461, 462, 463] (by decide +kernel) (by decide +kernel)
set_option maxRecDepth 20000 in
theorem gL_asks_X9_tableAgain : GoodIn wsL_asks (wsV RL 105 RX9 yX9_tableAgain wsX9_tableAgain) := goodIn_app (goodIn_of _ (by decide +kernel)) ggL_asks_X9_tableAgain
set_option maxRecDepth 20000 in
theorem ggL_asks_X9_tellLantern : GoodIn wsL_asks wsX9_tellLantern := goodIn_r _ [311, 7, 312, 184, 20, 21, 11, 22, 13, 313, 314, 315, 316, 317, 318, 319, 320, 321, 322, 323, 324, 325, 326, 327, 328, 185, 186, 187, 188, 18, 19, 329, 330, 5, 331, 332, 333, 334, 335, 336, 337, 338, 339, 340, 341, 342, 343, 344, 345, 346, 347, 348, 349, 350, 351, 352, 353, 354, 355, 356, 357, 358, 359, 360, 361, 362, 363, 364, 365, 366, 367, 368, 369, 370, 371, 372, 373, 374, 375, 376, 377, 378, 379, 380, 381, 382, 383, 384, 23, 24, 25, 26, 27, 14, 15, 16, 17, 385, 386, 387, 388, 389, 390, 391, 219, 98, 99, 100, 101, 189, 190, 191, 192, 193, 45, 46, 47, 48, 49, 50, 51, 52, 117, 118, 392, 393, 394, 395, 444, 445, 446, 447, 448, 449, 450, 451, 452, 453, 454, 455, 456, 457, 458, 459, 460, 461, 462, 475, 476, 477, 478, 479, 480] (by decide +kernel) (by decide +kernel)
set_option maxRecDepth 20000 in
theorem gL_asks_X9_tellLantern : GoodIn wsL_asks (wsV RL 108 RX9 yX9_tellLantern wsX9_tellLantern) := goodIn_app (goodIn_of _ (by decide +kernel)) ggL_asks_X9_tellLantern
set_option maxRecDepth 20000 in
theorem ggL_asks_X9_character : GoodIn wsL_asks wsX9_character := goodIn_r _ [399, 312, 400, 401, 402, 316, 403, 318, 327, 444, 445, 446, 447, 448, 449, 450, 451, 452, 475, 476] (by decide +kernel) (by decide +kernel)
set_option maxRecDepth 20000 in
theorem gL_asks_X9_character : GoodIn wsL_asks (wsV RL 30 RX9 yX9_character wsX9_character) := goodIn_app (goodIn_of _ (by decide +kernel)) ggL_asks_X9_character
set_option maxRecDepth 20000 in
theorem ggL_asks_X9_tell : GoodIn wsL_asks wsX9_tell := goodIn_r _ [407, 312, 7, 313, 314, 315, 316, 317, 318, 8, 9, 10, 11, 12, 13, 189, 190, 191, 192, 193, 45, 46, 47, 48, 49, 50, 51, 52, 117, 5, 118, 328, 324, 325, 326, 327, 392, 393, 394, 395, 444, 445, 446, 447, 448, 449, 450, 451, 452, 475, 476, 453, 454, 455, 456, 457, 458, 459, 460, 461, 462] (by decide +kernel) (by decide +kernel)
set_option maxRecDepth 20000 in
theorem gL_asks_X9_tell : GoodIn wsL_asks (wsV RL 111 RX9 yX9_tell wsX9_tell) := goodIn_app (goodIn_of _ (by decide +kernel)) ggL_asks_X9_tell
set_option maxRecDepth 20000 in
theorem ggL_asks_X9_looped : GoodIn wsL_asks wsX9_looped := goodIn_r _ [411, 7, 102, 103, 104, 105, 106, 9, 10, 11, 12, 13, 107, 108, 109, 110, 111, 112, 113, 114, 115, 116, 101, 117, 5, 118, 444, 445, 446, 447, 448, 449, 450, 451, 452, 453, 454, 455, 456, 457, 458, 459, 460, 461, 462] (by decide +kernel) (by decide +kernel)
set_option maxRecDepth 20000 in
theorem gL_asks_X9_looped : GoodIn wsL_asks (wsV RL 114 RX9 yX9_looped wsX9_looped) := goodIn_app (goodIn_of _ (by decide +kernel)) ggL_asks_X9_looped
set_option maxRecDepth 20000 in
theorem ggL_asks_X9_settlesIn : GoodIn wsL_asks wsX9_settlesIn := goodIn_r _ [415, 261, 7, 416, 417, 418, 265, 419, 267, 205, 206, 11, 207, 48, 268, 269, 270, 271, 13, 18, 27, 49, 50, 51, 52, 272, 209, 210, 211, 273, 201, 202, 203, 101, 444, 445, 446, 447, 448, 449, 450, 451, 452, 453, 454, 455, 456, 457, 458, 459, 460, 461, 462] (by decide +kernel) (by decide +kernel)
set_option maxRecDepth 20000 in
theorem gL_asks_X9_settlesIn : GoodIn wsL_asks (wsV RL 117 RX9 yX9_settlesIn wsX9_settlesIn) := goodIn_app (goodIn_of _ (by decide +kernel)) ggL_asks_X9_settlesIn
set_option maxRecDepth 20000 in
theorem ggL_asks_X9_period : GoodIn wsL_asks wsX9_period := goodIn_r _ [423, 261, 7, 424, 425, 426, 265, 427, 428, 267, 205, 206, 11, 207, 48, 268, 269, 270, 271, 13, 18, 27, 49, 50, 51, 52, 272, 209, 210, 211, 273, 201, 202, 203, 101, 444, 445, 446, 447, 448, 449, 450, 451, 452, 481, 453, 454, 455, 456, 457, 458, 459, 460, 461, 462] (by decide +kernel) (by decide +kernel)
set_option maxRecDepth 20000 in
theorem gL_asks_X9_period : GoodIn wsL_asks (wsV RL 120 RX9 yX9_period wsX9_period) := goodIn_app (goodIn_of _ (by decide +kernel)) ggL_asks_X9_period
set_option maxRecDepth 20000 in
theorem ggL_asks_X9_periodAgain : GoodIn wsL_asks wsX9_periodAgain := goodIn_r _ [432, 261, 7, 433, 434, 435, 265, 436, 267, 205, 206, 11, 207, 48, 268, 269, 270, 271, 13, 18, 27, 49, 50, 51, 52, 272, 209, 210, 211, 273, 201, 202, 203, 101, 437, 438, 439, 444, 445, 446, 447, 448, 449, 450, 451, 452, 453, 454, 455, 456, 457, 458, 459, 460, 461, 462] (by decide +kernel) (by decide +kernel)
set_option maxRecDepth 20000 in
theorem gL_asks_X9_periodAgain : GoodIn wsL_asks (wsV RL 123 RX9 yX9_periodAgain wsX9_periodAgain) := goodIn_app (goodIn_of _ (by decide +kernel)) ggL_asks_X9_periodAgain
set_option maxRecDepth 20000 in
theorem ggL_asks_X9_isBalanced : GoodIn wsL_asks wsX9_isBalanced := goodIn_r _ [443, 7, 8, 9, 10, 11, 12, 13, 199, 129, 130, 131, 132, 19, 20, 21, 22, 189, 190, 191, 192, 193, 45, 46, 47, 48, 49, 50, 51, 52, 117, 5, 118, 124, 125, 126, 127, 128, 133, 134, 135, 136, 137, 138, 139, 140, 141, 142, 444, 445, 446, 447, 448, 449, 450, 451, 452, 453, 454, 455, 456, 457, 458, 459, 460, 461, 462] (by decide +kernel) (by decide +kernel)
set_option maxRecDepth 20000 in
theorem gL_asks_X9_isBalanced : GoodIn wsL_asks (wsV RL 126 RX9 yX9_isBalanced wsX9_isBalanced) := goodIn_app (goodIn_of _ (by decide +kernel)) ggL_asks_X9_isBalanced
set_option maxRecDepth 20000 in
theorem ggL_changes_X9_account : GoodIn wsL_changes wsX9_account := goodIn_r _ [8, 9, 10, 11, 12, 13, 14, 15, 16, 17, 18, 19, 20, 21, 22, 23, 24, 25, 26, 27, 28, 29, 30, 31, 32, 33, 34, 35, 36, 37, 38, 39, 40, 41, 42, 43, 44, 45, 46, 47, 48, 49, 50, 51, 52, 53, 54, 55, 56, 57, 58, 59, 60, 61, 62, 63, 64, 65, 66, 67, 68, 69, 70, 71, 72, 73, 74, 75, 76, 77, 78, 79, 80, 81, 7, 82, 83, 84, 85, 86, 87, 88, 89, 90, 91, 92, 93, 94, 95, 96, 97, 98, 99, 100, 101, 102, 103, 104, 105, 106, 107, 108, 109, 110, 111, 112, 113, 114, 115, 116, 117, 118, 119, 120, 121, 122, 123, 124, 125, 126, 127, 128, 129, 130, 131, 132, 133, 134, 135, 136, 137, 138, 139, 140, 141, 142, 143, 144, 145, 146, 147, 681, 682, 683, 684, 685, 686, 687, 688, 689, 690, 691, 692, 693, 694, 695, 696, 697, 698, 699, 700, 701, 702, 703, 704, 705, 706, 707, 708, 709, 710, 711] (by decide +kernel) (by decide +kernel)
set_option maxRecDepth 20000 in
theorem gL_changes_X9_account : GoodIn wsL_changes (wsV RL 78 RX9 yX9_account wsX9_account) := goodIn_app (goodIn_of _ (by decide +kernel)) ggL_changes_X9_account
set_option maxRecDepth 20000 in
theorem ggL_changes_L_some : GoodIn wsL_changes wsL_some := goodIn_r _ [151] (by decide +kernel) (by decide +kernel)
set_option maxRecDepth 20000 in
theorem gL_changes_L_some : GoodIn wsL_changes (va_wsS RL 43 yL_some wsL_some) := goodIn_app (goodIn_of _ (by decide +kernel)) ggL_changes_L_some
set_option maxRecDepth 20000 in
theorem ggL_changes_X9_hang : GoodIn wsL_changes wsX9_hang := goodIn_r _ [155, 12, 9, 156, 157, 158, 145, 159, 160, 161, 162, 163, 164, 165, 166, 167, 168, 16, 169, 23, 32, 170, 171, 172, 173, 135, 56, 96, 61, 87, 18, 101, 106, 174, 175, 176, 7, 177, 178, 179, 180, 181, 182, 183, 184, 185, 186, 187, 188, 189, 190, 191, 192, 193, 194, 195, 196, 197, 198, 199, 200, 201, 202, 147, 203, 204, 115, 205, 681, 682, 683, 684, 685, 686, 687, 688, 689, 709, 710, 711, 690, 691, 692, 693, 694, 695, 696, 697, 698, 699, 712, 713, 714] (by decide +kernel) (by decide +kernel)
set_option maxRecDepth 20000 in
theorem gL_changes_X9_hang : GoodIn wsL_changes (wsV RL 33 RX9 yX9_hang wsX9_hang) := goodIn_app (goodIn_of _ (by decide +kernel)) ggL_changes_X9_hang
set_option maxRecDepth 20000 in
theorem ggL_changes_X9_wire : GoodIn wsL_changes wsX9_wire := goodIn_r _ [209, 12, 9, 156, 157, 158, 145, 159, 160, 161, 162, 163, 164, 165, 166, 167, 168, 16, 169, 23, 32, 170, 171, 172, 173, 135, 56, 96, 61, 87, 18, 101, 106, 210, 211, 212, 7, 213, 186, 214, 34, 35, 36, 215, 216, 217, 218, 219, 220, 221, 222, 29, 30, 31, 33, 182, 183, 184, 185, 187, 188, 189, 190, 191, 192, 193, 194, 223, 224, 225, 226, 227, 228, 229, 230, 53, 54, 55, 83, 84, 85, 86, 231, 232, 68, 233, 81, 82, 74, 75, 76, 70, 20, 21, 22, 77, 78, 79, 80, 234, 235, 236, 237, 238, 239, 240, 241, 242, 49, 50, 51, 52, 195, 196, 197, 198, 199, 200, 201, 202, 147, 203, 204, 115, 205, 681, 682, 683, 684, 685, 686, 687, 688, 689, 709, 710, 711, 690, 691, 692, 693, 694, 695, 696, 697, 698, 699, 712, 713, 714] (by decide +kernel) (by decide +kernel)
set_option maxRecDepth 20000 in
theorem gL_changes_X9_wire : GoodIn wsL_changes (wsV RL 46 RX9 yX9_wire wsX9_wire) := goodIn_app (goodIn_of _ (by decide +kernel)) ggL_changes_X9_wire
set_option maxRecDepth 20000 in
theorem ggL_changes_X9_cut : GoodIn wsL_changes wsX9_cut := goodIn_r _ [246, 12, 9, 156, 157, 158, 145, 159, 160, 161, 162, 163, 164, 165, 166, 167, 168, 16, 169, 23, 32, 170, 171, 172, 173, 135, 56, 96, 61, 87, 18, 101, 106, 247, 248, 249, 7, 250, 214, 34, 35, 36, 215, 216, 217, 218, 219, 220, 221, 222, 29, 30, 31, 33, 182, 183, 184, 185, 186, 187, 188, 189, 190, 191, 192, 193, 194, 223, 224, 225, 226, 227, 228, 229, 230, 53, 54, 55, 238, 239, 240, 241, 195, 196, 197, 198, 199, 200, 201, 202, 147, 203, 204, 115, 205, 681, 682, 683, 684, 685, 686, 687, 688, 689, 709, 710, 711, 690, 691, 692, 693, 694, 695, 696, 697, 698, 699, 712, 713, 714] (by decide +kernel) (by decide +kernel)
set_option maxRecDepth 20000 in
theorem gL_changes_X9_cut : GoodIn wsL_changes (wsV RL 129 RX9 yX9_cut wsX9_cut) := goodIn_app (goodIn_of _ (by decide +kernel)) ggL_changes_X9_cut
set_option maxRecDepth 20000 in
theorem ggL_changes_X9_set : GoodIn wsL_changes wsX9_set := goodIn_r _ [254, 12, 9, 156, 157, 158, 145, 159, 160, 161, 162, 163, 164, 165, 166, 167, 168, 16, 169, 23, 32, 170, 171, 172, 173, 135, 56, 96, 61, 87, 18, 101, 106, 255, 256, 257, 7, 258, 214, 34, 35, 36, 222, 29, 30, 31, 33, 223, 224, 225, 226, 182, 183, 184, 185, 186, 187, 188, 189, 190, 191, 192, 193, 194, 259, 260, 261, 262, 263, 58, 59, 60, 62, 63, 64, 65, 81, 82, 264, 265, 266, 267, 57, 37, 38, 39, 40, 41, 42, 43, 195, 196, 197, 198, 199, 200, 201, 202, 147, 203, 204, 115, 205, 681, 682, 683, 684, 685, 686, 687, 688, 689, 709, 710, 711, 690, 691, 692, 693, 694, 695, 696, 697, 698, 699, 712, 713, 714] (by decide +kernel) (by decide +kernel)
set_option maxRecDepth 20000 in
theorem gL_changes_X9_set : GoodIn wsL_changes (wsV RL 50 RX9 yX9_set wsX9_set) := goodIn_app (goodIn_of _ (by decide +kernel)) ggL_changes_X9_set
set_option maxRecDepth 20000 in
theorem ggL_changes_X9_loops : GoodIn wsL_changes wsX9_loops := goodIn_r _ [271, 12, 9, 156, 157, 158, 145, 159, 160, 161, 162, 163, 164, 165, 166, 167, 168, 16, 169, 23, 32, 170, 171, 172, 173, 135, 56, 96, 61, 87, 18, 101, 106, 272, 273, 274, 7, 275, 186, 66, 67, 68, 69, 70, 20, 21, 22, 71, 72, 73, 74, 75, 76, 77, 78, 79, 80, 81, 82, 276, 277, 278, 279, 182, 183, 184, 185, 187, 188, 189, 190, 191, 192, 193, 194, 37, 38, 39, 40, 41, 42, 43, 234, 235, 236, 237, 83, 84, 85, 86, 280, 281, 282, 283, 195, 196, 197, 198, 199, 200, 201, 202, 147, 203, 204, 115, 205, 681, 682, 683, 684, 685, 686, 687, 688, 689, 709, 710, 711, 690, 691, 692, 693, 694, 695, 696, 697, 698, 699, 712, 713, 714] (by decide +kernel) (by decide +kernel)
set_option maxRecDepth 20000 in
theorem gL_changes_X9_loops : GoodIn wsL_changes (wsV RL 132 RX9 yX9_loops wsX9_loops) := goodIn_app (goodIn_of _ (by decide +kernel)) ggL_changes_X9_loops
set_option maxRecDepth 20000 in
theorem ggL_changes_X9_tick : GoodIn wsL_changes wsX9_tick := goodIn_r _ [287, 12, 9, 156, 157, 158, 145, 159, 160, 161, 162, 163, 164, 165, 166, 167, 168, 16, 169, 23, 32, 170, 171, 172, 173, 135, 56, 96, 61, 87, 18, 101, 106, 288, 289, 290, 7, 291, 292, 293, 294, 295, 296, 297, 298, 299, 62, 63, 64, 65, 300, 301, 302, 303, 304, 305, 306, 307, 308, 38, 39, 40, 41, 42, 43, 195, 196, 197, 198, 199, 200, 201, 202, 147, 203, 204, 115, 205, 681, 682, 683, 684, 685, 686, 687, 688, 689, 709, 710, 711, 690, 691, 692, 693, 694, 695, 696, 697, 698, 699] (by decide +kernel) (by decide +kernel)
set_option maxRecDepth 20000 in
theorem gL_changes_X9_tick : GoodIn wsL_changes (wsV RL 53 RX9 yX9_tick wsX9_tick) := goodIn_app (goodIn_of _ (by decide +kernel)) ggL_changes_X9_tick
set_option maxRecDepth 20000 in
theorem ggL_changes_J4_init_da8c8 : GoodIn wsL_changes wsJ4_init_da8c8 := goodIn_r _ [311, 312, 313, 314, 315, 316, 317, 318, 319, 320, 321, 322, 323, 324, 325, 326, 327, 328, 329, 330, 677, 678, 679, 680] (by decide +kernel) (by decide +kernel)
set_option maxRecDepth 20000 in
theorem gL_changes_J4_init_da8c8 : GoodIn wsL_changes (wsJ4_init_da8c8) := ggL_changes_J4_init_da8c8
