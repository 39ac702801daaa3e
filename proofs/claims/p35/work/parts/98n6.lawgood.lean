set_option maxRecDepth 20000 in
theorem gL_law_X9_undo : GoodIn wsL_law (wsV RL 183 RX9 yX9_undo wsX9_undo) := goodIn_app (goodIn_of _ (by decide +kernel)) ggL_law_X9_undo
set_option maxRecDepth 20000 in
theorem ggL_law_X9_restore : GoodIn wsL_law wsX9_restore := goodIn_r _ [121, 122, 18, 19, 23, 123, 106, 107, 17, 108, 109, 49, 110, 111, 112, 113, 50, 51, 52, 114, 53, 115, 116, 117, 124, 125, 126, 22, 127, 95, 128, 129, 130, 131, 1009, 1010, 1011, 1012, 1013, 1014, 1015, 1016, 1017, 1018, 1019, 1020, 1021, 1022, 1023, 1024, 1025, 1026, 1027, 1028, 1029, 1030] (by decide +kernel) (by decide +kernel)
set_option maxRecDepth 20000 in
theorem gL_law_X9_restore : GoodIn wsL_law (wsV RL 186 RX9 yX9_restore wsX9_restore) := goodIn_app (goodIn_of _ (by decide +kernel)) ggL_law_X9_restore
set_option maxRecDepth 20000 in
theorem ggL_law_X9_save : GoodIn wsL_law wsX9_save := goodIn_r _ [135, 19, 18, 122, 123, 106, 107, 17, 108, 109, 49, 110, 111, 112, 113, 50, 51, 52, 114, 53, 115, 116, 117, 128, 129, 130, 131, 1009, 1010, 1011, 1012, 1013, 1014, 1015, 1016, 1017, 1018, 1019, 1020, 1021, 1022, 1023, 1024, 1025, 1026, 1027] (by decide +kernel) (by decide +kernel)
set_option maxRecDepth 20000 in
theorem gL_law_X9_save : GoodIn wsL_law (wsV RL 189 RX9 yX9_save wsX9_save) := goodIn_app (goodIn_of _ (by decide +kernel)) ggL_law_X9_save
set_option maxRecDepth 20000 in
theorem ggL_law_X9_tick : GoodIn wsL_law wsX9_tick := goodIn_r _ [139, 23, 18, 140, 141, 142, 22, 143, 101, 102, 103, 104, 100, 63, 105, 106, 107, 17, 108, 109, 49, 110, 111, 112, 113, 50, 51, 52, 114, 53, 115, 116, 117, 144, 145, 146, 2, 147, 148, 149, 150, 151, 152, 153, 154, 155, 156, 157, 158, 159, 160, 161, 162, 163, 164, 165, 166, 167, 168, 169, 170, 171, 172, 173, 174, 175, 176, 177, 178, 179, 180, 181, 182, 95, 183, 6, 7, 8, 1009, 1010, 1011, 1012, 1013, 1014, 1015, 1016, 1017, 1028, 1029, 1030, 1018, 1019, 1020, 1021, 1022, 1023, 1024, 1025, 1026, 1027] (by decide +kernel) (by decide +kernel)
set_option maxRecDepth 20000 in
theorem gL_law_X9_tick : GoodIn wsL_law (wsV RL 53 RX9 yX9_tick wsX9_tick) := goodIn_app (goodIn_of _ (by decide +kernel)) ggL_law_X9_tick
set_option maxRecDepth 20000 in
theorem ggL_law_X9_account : GoodIn wsL_law wsX9_account := goodIn_r _ [187, 18, 27, 35, 23, 188, 189, 190, 17, 191, 115, 128, 129, 130, 131, 109, 192, 193, 194, 195, 196, 197, 198, 199, 49, 200, 201, 202, 203, 204, 169, 170, 171, 172, 173, 174, 205, 206, 207, 208, 209, 210, 211, 212, 213, 214, 215, 216, 51, 217, 218, 219, 220, 114, 156, 157, 158, 159, 221, 222, 223, 224, 225, 226, 227, 228, 229, 230, 231, 232, 233, 234, 235, 236, 2, 237, 238, 239, 240, 241, 53, 242, 243, 244, 245, 246, 247, 248, 249, 52, 250, 251, 252, 253, 116, 254, 255, 256, 257, 117, 258, 259, 260, 26, 261, 68, 262, 263, 7, 264, 265, 55, 56, 57, 266, 267, 268, 269, 270, 271, 272, 273, 274, 275, 276, 277, 278, 279, 50, 280, 281, 282, 34, 283, 284, 91, 92, 93, 22, 94, 95, 1009, 1010, 1011, 1012, 1013, 1014, 1015, 1016, 1017, 1018, 1019, 1020, 1021, 1022, 1023, 1024, 1025, 1026, 1027, 1031, 1033, 1034, 1035, 1036, 1037, 1038, 1039, 1040, 1028, 1029, 1030] (by decide +kernel) (by decide +kernel)
set_option maxRecDepth 20000 in
theorem gL_law_X9_account : GoodIn wsL_law (wsV RL 78 RX9 yX9_account wsX9_account) := goodIn_app (goodIn_of _ (by decide +kernel)) ggL_law_X9_account
set_option maxRecDepth 20000 in
theorem ggL_law_X9_append : GoodIn wsL_law wsX9_append := goodIn_r _ [288, 35, 289, 290, 291, 34, 292, 284, 77, 1009, 1010, 1011, 1012, 1013, 1014, 1015, 1016, 1017, 1033, 1034, 1035, 1036, 1037, 1038, 1039, 1040] (by decide +kernel) (by decide +kernel)
set_option maxRecDepth 20000 in
theorem gL_law_X9_append : GoodIn wsL_law (wsV RL 17 RX9 yX9_append wsX9_append) := goodIn_app (goodIn_of _ (by decide +kernel)) ggL_law_X9_append
set_option maxRecDepth 20000 in
theorem ggL_law_X9_run : GoodIn wsL_law wsX9_run := goodIn_r _ [296, 35, 297, 298, 299, 34, 300, 301, 284, 302, 303, 304, 305, 306, 307, 308, 309, 310, 311, 312, 313, 314, 77, 315, 316, 317, 318, 319, 320, 321, 322, 323, 324, 325, 326, 327, 328, 329, 330, 331, 332, 333, 334, 335, 336, 337, 338, 339, 340, 341, 342, 343, 344, 345, 346, 347, 348, 349, 350, 351, 352, 353, 354, 355, 356, 357, 358, 359, 360, 361, 362, 363, 364, 365, 366, 367, 368, 369, 370, 371, 372, 373, 374, 375, 376, 377, 378, 379, 380, 381, 382, 383, 384, 385, 386, 387, 388, 389, 390, 391, 392, 393, 394, 395, 396, 397, 398, 399, 400, 401, 402, 2, 403, 23, 18, 140, 141, 142, 22, 143, 101, 102, 103, 104, 100, 63, 105, 106, 107, 17, 108, 109, 49, 110, 111, 112, 113, 50, 51, 52, 114, 53, 115, 116, 117, 404, 405, 406, 407, 408, 409, 410, 411, 412, 413, 414, 415, 416, 417, 418, 419, 420, 421, 422, 423, 424, 425, 426, 427, 428, 429, 430, 431, 432, 433, 434, 435, 436, 43, 437, 438, 439, 42, 440, 85, 86, 441, 442, 443, 444, 445, 446, 447, 448, 449, 450, 201, 202, 203, 451, 452, 453, 454, 455, 456, 457, 458, 197, 198, 199, 200, 459, 460, 461, 462, 463, 464, 465, 466, 214, 215, 216, 238, 239, 240, 241, 467, 468, 223, 469, 236, 237, 229, 230, 231, 225, 129, 130, 131, 232, 233, 234, 235, 470, 471, 472, 473, 474, 475, 476, 477, 478, 210, 211, 212, 213, 479, 480, 481, 482, 483, 484, 485, 486, 487, 488, 489, 490, 491, 218, 219, 220, 156, 157, 158, 159, 492, 493, 494, 495, 217, 204, 169, 170, 171, 172, 173, 174, 144, 145, 146, 147, 148, 149, 150, 151, 152, 153, 154, 155, 160, 161, 162, 163, 164, 165, 166, 167, 168, 496, 497, 498, 499, 500, 501, 502, 503, 504, 505, 506, 507, 508, 6, 7, 8, 179, 180, 181, 182, 95, 183, 509, 510, 511, 512, 513, 514, 515, 516, 1009, 1010, 1011, 1012, 1013, 1014, 1015, 1016, 1017, 1033, 1034, 1035, 1036, 1037, 1038, 1039, 1040, 1046, 1047, 1048, 1049, 1028, 1029, 1030, 1018, 1019, 1020, 1021, 1022, 1023, 1024, 1025, 1026, 1027, 1043, 1044, 1045] (by decide +kernel) (by decide +kernel)
set_option maxRecDepth 20000 in
theorem gL_law_X9_run : GoodIn wsL_law (wsV RL 23 RX9 yX9_run wsX9_run) := goodIn_app (goodIn_of _ (by decide +kernel)) ggL_law_X9_run
set_option maxRecDepth 20000 in
theorem ggL_law_X9_hang : GoodIn wsL_law wsX9_hang := goodIn_r _ [520, 23, 18, 140, 141, 142, 22, 143, 101, 102, 103, 104, 100, 63, 105, 106, 107, 17, 108, 109, 49, 110, 111, 112, 113, 50, 51, 52, 114, 53, 115, 116, 117, 425, 426, 427, 2, 428, 429, 430, 431, 432, 433, 434, 435, 436, 43, 437, 438, 439, 42, 440, 85, 86, 441, 175, 176, 177, 178, 179, 180, 181, 182, 95, 183, 6, 7, 8, 1009, 1010, 1011, 1012, 1013, 1014, 1015, 1016, 1017, 1028, 1029, 1030, 1018, 1019, 1020, 1021, 1022, 1023, 1024, 1025, 1026, 1027, 1043, 1044, 1045] (by decide +kernel) (by decide +kernel)
set_option maxRecDepth 20000 in
theorem gL_law_X9_hang : GoodIn wsL_law (wsV RL 33 RX9 yX9_hang wsX9_hang) := goodIn_app (goodIn_of _ (by decide +kernel)) ggL_law_X9_hang
set_option maxRecDepth 20000 in
theorem ggL_law_X9_wire : GoodIn wsL_law wsX9_wire := goodIn_r _ [524, 23, 18, 140, 141, 142, 22, 143, 101, 102, 103, 104, 100, 63, 105, 106, 107, 17, 108, 109, 49, 110, 111, 112, 113, 50, 51, 52, 114, 53, 115, 116, 117, 446, 447, 448, 2, 449, 43, 450, 201, 202, 203, 451, 452, 453, 454, 455, 456, 457, 458, 197, 198, 199, 200, 433, 434, 435, 436, 437, 438, 439, 42, 440, 85, 86, 441, 459, 460, 461, 462, 463, 464, 465, 466, 214, 215, 216, 238, 239, 240, 241, 467, 468, 223, 469, 236, 237, 229, 230, 231, 225, 129, 130, 131, 232, 233, 234, 235, 470, 471, 472, 473, 474, 475, 476, 477, 478, 210, 211, 212, 213, 175, 176, 177, 178, 179, 180, 181, 182, 95, 183, 6, 7, 8, 1009, 1010, 1011, 1012, 1013, 1014, 1015, 1016, 1017, 1028, 1029, 1030, 1018, 1019, 1020, 1021, 1022, 1023, 1024, 1025, 1026, 1027, 1043, 1044, 1045] (by decide +kernel) (by decide +kernel)
set_option maxRecDepth 20000 in
theorem gL_law_X9_wire : GoodIn wsL_law (wsV RL 46 RX9 yX9_wire wsX9_wire) := goodIn_app (goodIn_of _ (by decide +kernel)) ggL_law_X9_wire
set_option maxRecDepth 20000 in
theorem ggL_law_L_is : GoodIn wsL_law wsL_is := goodIn_r _ [528, 529, 530, 531, 2, 532, 43, 533, 534, 535, 42, 536, 86, 537, 538, 539, 540, 441, 541, 542, 543, 544, 85, 1009, 1010, 1011, 1012, 1013, 1014, 1015, 1016, 1017, 1043, 1044, 1045] (by decide +kernel) (by decide +kernel)
set_option maxRecDepth 20000 in
theorem gL_law_L_is : GoodIn wsL_law (va_wsS RL 179 yL_is wsL_is) := goodIn_app (goodIn_of _ (by decide +kernel)) ggL_law_L_is
set_option maxRecDepth 20000 in
theorem ggL_law_X9_depth : GoodIn wsL_law wsX9_depth := goodIn_r _ [548, 18, 27, 450, 201, 202, 17, 203, 109, 549, 550, 551, 26, 552, 68, 265, 55, 56, 57, 267, 268, 269, 262, 263, 7, 264, 270, 271, 214, 215, 216, 51, 272, 273, 274, 275, 197, 198, 199, 49, 200, 276, 277, 278, 279, 50, 1009, 1010, 1011, 1012, 1013, 1014, 1015, 1016, 1017, 1018, 1019, 1020, 1021, 1022, 1023, 1024, 1025, 1026, 1027, 1031] (by decide +kernel) (by decide +kernel)
set_option maxRecDepth 20000 in
theorem gL_law_X9_depth : GoodIn wsL_law (wsV RL 90 RX9 yX9_depth wsX9_depth) := goodIn_app (goodIn_of _ (by decide +kernel)) ggL_law_X9_depth
set_option maxRecDepth 20000 in
theorem ggL_law_X9_settlesIn : GoodIn wsL_law wsX9_settlesIn := goodIn_r _ [556, 31, 18, 557, 558, 559, 30, 560, 561, 562, 563, 17, 564, 114, 565, 153, 154, 155, 109, 49, 50, 156, 157, 158, 159, 160, 161, 162, 163, 164, 165, 166, 167, 51, 1009, 1010, 1011, 1012, 1013, 1014, 1015, 1016, 1017, 1018, 1019, 1020, 1021, 1022, 1023, 1024, 1025, 1026, 1027] (by decide +kernel) (by decide +kernel)
set_option maxRecDepth 20000 in
theorem gL_law_X9_settlesIn : GoodIn wsL_law (wsV RL 117 RX9 yX9_settlesIn wsX9_settlesIn) := goodIn_app (goodIn_of _ (by decide +kernel)) ggL_law_X9_settlesIn
set_option maxRecDepth 20000 in
theorem ggL_law_X9_looped : GoodIn wsL_law wsX9_looped := goodIn_r _ [569, 18, 221, 222, 223, 224, 225, 129, 130, 17, 131, 109, 226, 227, 228, 229, 230, 231, 232, 233, 234, 235, 51, 236, 2, 237, 1009, 1010, 1011, 1012, 1013, 1014, 1015, 1016, 1017, 1018, 1019, 1020, 1021, 1022, 1023, 1024, 1025, 1026, 1027] (by decide +kernel) (by decide +kernel)
set_option maxRecDepth 20000 in
theorem gL_law_X9_looped : GoodIn wsL_law (wsV RL 114 RX9 yX9_looped wsX9_looped) := goodIn_app (goodIn_of _ (by decide +kernel)) ggL_law_X9_looped
set_option maxRecDepth 20000 in
theorem ggL_law_X9_period : GoodIn wsL_law wsX9_period := goodIn_r _ [573, 31, 18, 574, 575, 576, 30, 577, 72, 561, 562, 563, 17, 564, 114, 565, 153, 154, 155, 109, 49, 50, 156, 157, 158, 159, 160, 161, 162, 163, 164, 165, 166, 167, 51, 1009, 1010, 1011, 1012, 1013, 1014, 1015, 1016, 1017, 1032, 1018, 1019, 1020, 1021, 1022, 1023, 1024, 1025, 1026, 1027] (by decide +kernel) (by decide +kernel)
set_option maxRecDepth 20000 in
theorem gL_law_X9_period : GoodIn wsL_law (wsV RL 120 RX9 yX9_period wsX9_period) := goodIn_app (goodIn_of _ (by decide +kernel)) ggL_law_X9_period
set_option maxRecDepth 20000 in
theorem ggL_law_X9_periodAgain : GoodIn wsL_law wsX9_periodAgain := goodIn_r _ [581, 31, 18, 582, 583, 584, 30, 585, 561, 562, 563, 17, 564, 114, 565, 153, 154, 155, 109, 49, 50, 156, 157, 158, 159, 160, 161, 162, 163, 164, 165, 166, 167, 51, 586, 587, 588, 1009, 1010, 1011, 1012, 1013, 1014, 1015, 1016, 1017, 1018, 1019, 1020, 1021, 1022, 1023, 1024, 1025, 1026, 1027] (by decide +kernel) (by decide +kernel)
set_option maxRecDepth 20000 in
theorem gL_law_X9_periodAgain : GoodIn wsL_law (wsV RL 123 RX9 yX9_periodAgain wsX9_periodAgain) := goodIn_app (goodIn_of _ (by decide +kernel)) ggL_law_X9_periodAgain
set_option maxRecDepth 20000 in
theorem ggL_law_X9_isBalanced : GoodIn wsL_law wsX9_isBalanced := goodIn_r _ [592, 18, 128, 129, 130, 17, 131, 109, 593, 247, 248, 249, 52, 200, 201, 202, 203, 487, 488, 489, 490, 491, 218, 219, 220, 114, 156, 157, 158, 159, 236, 2, 237, 242, 243, 244, 245, 246, 250, 251, 252, 253, 116, 254, 255, 256, 257, 117, 1009, 1010, 1011, 1012, 1013, 1014, 1015, 1016, 1017, 1018, 1019, 1020, 1021, 1022, 1023, 1024, 1025, 1026, 1027] (by decide +kernel) (by decide +kernel)
set_option maxRecDepth 20000 in
theorem gL_law_X9_isBalanced : GoodIn wsL_law (wsV RL 126 RX9 yX9_isBalanced wsX9_isBalanced) := goodIn_app (goodIn_of _ (by decide +kernel)) ggL_law_X9_isBalanced
set_option maxRecDepth 20000 in
theorem ggL_law_X9_loops : GoodIn wsL_law wsX9_loops := goodIn_r _ [597, 23, 18, 140, 141, 142, 22, 143, 101, 102, 103, 104, 100, 63, 105, 106, 107, 17, 108, 109, 49, 110, 111, 112, 113, 50, 51, 52, 114, 53, 115, 116, 117, 598, 599, 600, 2, 601, 43, 221, 222, 223, 224, 225, 129, 130, 131, 226, 227, 228, 229, 230, 231, 232, 233, 234, 235, 236, 237, 602, 603, 604, 605, 433, 434, 435, 436, 437, 438, 439, 42, 440, 85, 86, 441, 204, 169, 170, 171, 172, 173, 174, 470, 471, 472, 473, 238, 239, 240, 241, 606, 607, 608, 609, 175, 176, 177, 178, 179, 180, 181, 182, 95, 183, 6, 7, 8, 1009, 1010, 1011, 1012, 1013, 1014, 1015, 1016, 1017, 1028, 1029, 1030, 1018, 1019, 1020, 1021, 1022, 1023, 1024, 1025, 1026, 1027, 1043, 1044, 1045] (by decide +kernel) (by decide +kernel)
set_option maxRecDepth 20000 in
theorem gL_law_X9_loops : GoodIn wsL_law (wsV RL 132 RX9 yX9_loops wsX9_loops) := goodIn_app (goodIn_of _ (by decide +kernel)) ggL_law_X9_loops
set_option maxRecDepth 20000 in
theorem ggL_law_L_is_ : GoodIn wsL_law wsL_is_ := goodIn_r _ [612, 529, 530, 531, 2, 532, 43, 533, 534, 535, 42, 536, 86, 537, 538, 539, 540, 441, 541, 542, 543, 544, 85, 1009, 1010, 1011, 1012, 1013, 1014, 1015, 1016, 1017, 1043, 1044, 1045] (by decide +kernel) (by decide +kernel)
set_option maxRecDepth 20000 in
theorem gL_law_L_is_ : GoodIn wsL_law (va_wsS RL 175 yL_is_ wsL_is_) := goodIn_app (goodIn_of _ (by decide +kernel)) ggL_law_L_is_
set_option maxRecDepth 20000 in
theorem ggL_law_X9_cut : GoodIn wsL_law wsX9_cut := goodIn_r _ [616, 23, 18, 140, 141, 142, 22, 143, 101, 102, 103, 104, 100, 63, 105, 106, 107, 17, 108, 109, 49, 110, 111, 112, 113, 50, 51, 52, 114, 53, 115, 116, 117, 479, 480, 481, 2, 482, 450, 201, 202, 203, 451, 452, 453, 454, 455, 456, 457, 458, 197, 198, 199, 200, 433, 434, 435, 436, 43, 437, 438, 439, 42, 440, 85, 86, 441, 459, 460, 461, 462, 463, 464, 465, 466, 214, 215, 216, 474, 475, 476, 477, 175, 176, 177, 178, 179, 180, 181, 182, 95, 183, 6, 7, 8, 1009, 1010, 1011, 1012, 1013, 1014, 1015, 1016, 1017, 1028, 1029, 1030, 1018, 1019, 1020, 1021, 1022, 1023, 1024, 1025, 1026, 1027, 1043, 1044, 1045] (by decide +kernel) (by decide +kernel)
set_option maxRecDepth 20000 in
theorem gL_law_X9_cut : GoodIn wsL_law (wsV RL 129 RX9 yX9_cut wsX9_cut) := goodIn_app (goodIn_of _ (by decide +kernel)) ggL_law_X9_cut
set_option maxRecDepth 20000 in
theorem ggL_law_X9_wireOf : GoodIn wsL_law wsX9_wireOf := goodIn_r _ [620, 18, 450, 201, 202, 17, 203, 109, 451, 452, 2, 453, 466, 214, 215, 216, 51, 1009, 1010, 1011, 1012, 1013, 1014, 1015, 1016, 1017, 1018, 1019, 1020, 1021, 1022, 1023, 1024, 1025, 1026, 1027] (by decide +kernel) (by decide +kernel)
set_option maxRecDepth 20000 in
theorem gL_law_X9_wireOf : GoodIn wsL_law (wsV RL 84 RX9 yX9_wireOf wsX9_wireOf) := goodIn_app (goodIn_of _ (by decide +kernel)) ggL_law_X9_wireOf
set_option maxRecDepth 20000 in
theorem ggL_law_L_makes_h : GoodIn wsL_law [Cond.code yL_makes cL_makes 6 (some .boolean)] := goodIn_r _ [623] (by decide +kernel) (by decide +kernel)
set_option maxRecDepth 20000 in
theorem ggL_law_L_makes_1 : GoodIn wsL_law wsL_makes_r1 := goodIn_r _ [517, 518, 519, 2, 520, 23, 18, 140, 141, 142, 22, 143, 101, 102, 103, 104, 100, 63, 105, 106, 107, 17, 108, 109] (by decide +kernel) (by decide +kernel)
set_option maxRecDepth 20000 in
theorem ggL_law_L_makes_2 : GoodIn wsL_law wsL_makes_r2 := goodIn_r _ [49, 110, 111, 112, 113, 50, 51, 52, 114, 53, 115, 116, 117, 425, 426, 427, 428, 429, 430, 431, 432, 433, 434, 435] (by decide +kernel) (by decide +kernel)
set_option maxRecDepth 20000 in
theorem ggL_law_L_makes_3 : GoodIn wsL_law wsL_makes_r3 := goodIn_r _ [436, 43, 437, 438, 439, 42, 440, 85, 86, 441, 175, 176, 177, 178, 179, 180, 181, 182, 95, 183, 6, 7, 8, 624] (by decide +kernel) (by decide +kernel)
