set_option maxRecDepth 20000 in
theorem ggL_refused_L_asks_13 : GoodIn wsL_refused wsL_asks_r13 := goodIn_r _ [293, 294, 295, 296, 297, 298, 299, 300, 301, 302, 303, 304, 305, 306, 307, 308, 309, 310, 311, 312, 313, 314, 315, 316] (by decide +kernel) (by decide +kernel)
set_option maxRecDepth 20000 in
theorem ggL_refused_L_asks_14 : GoodIn wsL_refused wsL_asks_r14 := goodIn_r _ [317, 318, 319, 320, 321, 322, 323, 324, 325, 326, 327, 328, 329, 330, 331, 332, 333, 334, 335, 336, 337, 338, 339, 340] (by decide +kernel) (by decide +kernel)
set_option maxRecDepth 20000 in
theorem ggL_refused_L_asks_15 : GoodIn wsL_refused wsL_asks_r15 := goodIn_r _ [341, 342, 343, 344, 345, 346, 347, 348, 349, 350, 351, 352, 353, 354, 355, 356, 357, 358, 359, 360, 361, 362, 363, 364] (by decide +kernel) (by decide +kernel)
set_option maxRecDepth 20000 in
theorem ggL_refused_L_asks_16 : GoodIn wsL_refused wsL_asks_r16 := goodIn_r _ [365, 366, 367, 368, 369, 370, 371, 372, 373, 374, 375, 376, 377, 378, 379, 380, 381, 382, 383, 384, 385, 386, 387, 388] (by decide +kernel) (by decide +kernel)
set_option maxRecDepth 20000 in
theorem ggL_refused_L_asks_17 : GoodIn wsL_refused wsL_asks_r17 := goodIn_r _ [389, 390, 391, 392, 393, 394, 395, 396, 397, 398, 399, 400, 401, 402, 403, 404, 405, 406, 407, 408, 409, 410, 411, 412] (by decide +kernel) (by decide +kernel)
set_option maxRecDepth 20000 in
theorem ggL_refused_L_asks_18 : GoodIn wsL_refused wsL_asks_r18 := goodIn_r _ [413, 414, 415, 416, 417, 418, 419, 420, 421, 422, 423, 424, 425, 426, 427, 428, 429, 430, 431, 432, 433, 434, 435, 436] (by decide +kernel) (by decide +kernel)
set_option maxRecDepth 20000 in
theorem ggL_refused_L_asks_19 : GoodIn wsL_refused wsL_asks_r19 := goodIn_r _ [437, 438, 439, 440, 441, 442, 443, 444, 445, 446, 447] (by decide +kernel) (by decide +kernel)
set_option maxRecDepth 20000 in
theorem ggL_refused_L_asks_20 : GoodIn wsL_refused wsX90 := goodIn_r _ [705, 706, 707, 708, 709, 710, 711, 712, 713] (by decide +kernel) (by decide +kernel)
set_option maxRecDepth 20000 in
theorem ggL_refused_L_asks_21 : GoodIn wsL_refused wsX20 := goodIn_r _ [714, 715, 716, 717, 718, 719, 720, 721, 722, 723] (by decide +kernel) (by decide +kernel)
set_option maxRecDepth 20000 in
theorem ggL_refused_L_asks_22 : GoodIn wsL_refused wsX00 := goodIn_r _ [724] (by decide +kernel) (by decide +kernel)
set_option maxRecDepth 20000 in
theorem ggL_refused_L_asks_23 : GoodIn wsL_refused wsX80 := goodIn_r _ [725, 726, 727, 728, 729, 730, 731, 732] (by decide +kernel) (by decide +kernel)
set_option maxRecDepth 20000 in
theorem ggL_refused_L_asks_24 : GoodIn wsL_refused wsX40 := goodIn_r _ [733, 734, 735] (by decide +kernel) (by decide +kernel)
set_option maxRecDepth 20000 in
theorem ggL_refused_L_asks_25 : GoodIn wsL_refused wsX30 := goodIn_r _ [736, 737] (by decide +kernel) (by decide +kernel)
set_option maxRecDepth 20000 in
theorem ggL_refused_L_asks_26 : GoodIn wsL_refused wsJ00 := goodIn_r _ [738, 739, 740, 741] (by decide +kernel) (by decide +kernel)
set_option maxRecDepth 20000 in
theorem ggL_refused_L_asks_27 : GoodIn wsL_refused wsX10 := goodIn_r _ [742] (by decide +kernel) (by decide +kernel)
set_option maxRecDepth 20000 in
theorem ggL_refused_L_asks : GoodIn wsL_refused wsL_asks := goodIn_app (a := [Cond.code yL_asks cL_asks 7 (some .long)]) ggL_refused_L_asks_h (goodIn_app (goodIn_app (goodIn_app (goodIn_app (goodIn_app (goodIn_app (goodIn_app (goodIn_app (goodIn_app ggL_refused_L_asks_1 (goodIn_app ggL_refused_L_asks_2 (goodIn_app ggL_refused_L_asks_3 (goodIn_app ggL_refused_L_asks_4 (goodIn_app ggL_refused_L_asks_5 (goodIn_app ggL_refused_L_asks_6 (goodIn_app ggL_refused_L_asks_7 (goodIn_app ggL_refused_L_asks_8 (goodIn_app ggL_refused_L_asks_9 (goodIn_app ggL_refused_L_asks_10 (goodIn_app ggL_refused_L_asks_11 (goodIn_app ggL_refused_L_asks_12 (goodIn_app ggL_refused_L_asks_13 (goodIn_app ggL_refused_L_asks_14 (goodIn_app ggL_refused_L_asks_15 (goodIn_app ggL_refused_L_asks_16 (goodIn_app ggL_refused_L_asks_17 (goodIn_app ggL_refused_L_asks_18 ggL_refused_L_asks_19)))))))))))))))))) ggL_refused_L_asks_20) ggL_refused_L_asks_21) ggL_refused_L_asks_22) ggL_refused_L_asks_23) ggL_refused_L_asks_24) ggL_refused_L_asks_25) ggL_refused_L_asks_26) ggL_refused_L_asks_27)
set_option maxRecDepth 20000 in
theorem gL_refused_L_asks : GoodIn wsL_refused (va_wsS RL 167 yL_asks wsL_asks) := goodIn_app (goodIn_of _ (by decide +kernel)) ggL_refused_L_asks
set_option maxRecDepth 20000 in
theorem ggL_refused_X9_account : GoodIn wsL_refused wsX9_account := goodIn_r _ [79, 11, 80, 81, 82, 83, 84, 85, 15, 86, 87, 12, 13, 14, 16, 17, 88, 89, 90, 91, 92, 19, 20, 21, 22, 23, 24, 25, 26, 57, 58, 59, 60, 61, 62, 63, 93, 94, 95, 96, 97, 98, 99, 100, 101, 102, 103, 104, 105, 48, 49, 50, 51, 52, 53, 54, 55, 56, 106, 107, 108, 109, 110, 111, 112, 113, 114, 115, 116, 117, 118, 119, 120, 121, 9, 122, 123, 124, 125, 126, 127, 128, 129, 130, 131, 132, 133, 134, 135, 136, 137, 138, 139, 140, 141, 142, 143, 144, 145, 146, 147, 148, 149, 150, 151, 152, 153, 154, 155, 156, 157, 158, 159, 160, 161, 162, 163, 164, 165, 166, 167, 168, 169, 170, 171, 28, 29, 30, 31, 172, 173, 174, 175, 176, 177, 178, 179, 180, 181, 182, 183, 705, 706, 707, 708, 709, 710, 711, 712, 713, 714, 715, 716, 717, 718, 719, 720, 721, 722, 723, 724, 725, 726, 727, 728, 729, 730, 731, 732, 733, 734, 735] (by decide +kernel) (by decide +kernel)
set_option maxRecDepth 20000 in
theorem gL_refused_X9_account : GoodIn wsL_refused (wsV RL 78 RX9 yX9_account wsX9_account) := goodIn_app (goodIn_of _ (by decide +kernel)) ggL_refused_X9_account
set_option maxRecDepth 20000 in
theorem ggL_refused_X9_reason : GoodIn wsL_refused wsX9_reason := goodIn_r _ [451, 452, 453, 454, 455, 456, 457, 458, 459, 460, 461, 462, 463, 464, 465, 466, 467, 468, 705, 706, 707, 708, 709, 710, 711, 712, 713, 743, 744, 745] (by decide +kernel) (by decide +kernel)
set_option maxRecDepth 20000 in
theorem gL_refused_X9_reason : GoodIn wsL_refused (wsV RL 26 RX9 yX9_reason wsX9_reason) := goodIn_app (goodIn_of _ (by decide +kernel)) ggL_refused_X9_reason
set_option maxRecDepth 20000 in
theorem ggL_refused_X9_hang : GoodIn wsL_refused wsX9_hang := goodIn_r _ [472, 82, 11, 473, 474, 475, 181, 476, 477, 478, 479, 480, 481, 482, 483, 484, 485, 15, 486, 17, 22, 487, 488, 489, 490, 31, 105, 136, 52, 127, 87, 141, 146, 491, 492, 493, 9, 494, 495, 496, 497, 498, 499, 500, 501, 502, 452, 503, 504, 505, 456, 506, 468, 458, 463, 507, 508, 509, 510, 511, 512, 513, 514, 183, 515, 516, 155, 517, 705, 706, 707, 708, 709, 710, 711, 712, 713, 733, 734, 735, 714, 715, 716, 717, 718, 719, 720, 721, 722, 723, 743, 744, 745] (by decide +kernel) (by decide +kernel)
set_option maxRecDepth 20000 in
theorem gL_refused_X9_hang : GoodIn wsL_refused (wsV RL 33 RX9 yX9_hang wsX9_hang) := goodIn_app (goodIn_of _ (by decide +kernel)) ggL_refused_X9_hang
set_option maxRecDepth 20000 in
theorem ggL_refused_X9_wire : GoodIn wsL_refused wsX9_wire := goodIn_r _ [521, 82, 11, 473, 474, 475, 181, 476, 477, 478, 479, 480, 481, 482, 483, 484, 485, 15, 486, 17, 22, 487, 488, 489, 490, 31, 105, 136, 52, 127, 87, 141, 146, 522, 523, 524, 9, 525, 452, 188, 24, 25, 26, 220, 221, 222, 526, 527, 528, 529, 18, 19, 20, 21, 23, 499, 500, 501, 502, 503, 504, 505, 456, 506, 468, 458, 463, 189, 190, 191, 192, 393, 394, 395, 223, 102, 103, 104, 123, 124, 125, 126, 530, 531, 108, 532, 121, 122, 114, 115, 116, 110, 13, 14, 16, 117, 118, 119, 120, 533, 534, 535, 536, 537, 538, 539, 540, 198, 98, 99, 100, 101, 507, 508, 509, 510, 511, 512, 513, 514, 183, 515, 516, 155, 517, 705, 706, 707, 708, 709, 710, 711, 712, 713, 733, 734, 735, 714, 715, 716, 717, 718, 719, 720, 721, 722, 723, 743, 744, 745] (by decide +kernel) (by decide +kernel)
set_option maxRecDepth 20000 in
theorem gL_refused_X9_wire : GoodIn wsL_refused (wsV RL 46 RX9 yX9_wire wsX9_wire) := goodIn_app (goodIn_of _ (by decide +kernel)) ggL_refused_X9_wire
set_option maxRecDepth 20000 in
theorem ggL_refused_X9_cut : GoodIn wsL_refused wsX9_cut := goodIn_r _ [544, 82, 11, 473, 474, 475, 181, 476, 477, 478, 479, 480, 481, 482, 483, 484, 485, 15, 486, 17, 22, 487, 488, 489, 490, 31, 105, 136, 52, 127, 87, 141, 146, 545, 546, 547, 9, 548, 188, 24, 25, 26, 220, 221, 222, 526, 527, 528, 529, 18, 19, 20, 21, 23, 499, 500, 501, 502, 452, 503, 504, 505, 456, 506, 468, 458, 463, 189, 190, 191, 192, 393, 394, 395, 223, 102, 103, 104, 537, 538, 539, 540, 507, 508, 509, 510, 511, 512, 513, 514, 183, 515, 516, 155, 517, 705, 706, 707, 708, 709, 710, 711, 712, 713, 733, 734, 735, 714, 715, 716, 717, 718, 719, 720, 721, 722, 723, 743, 744, 745] (by decide +kernel) (by decide +kernel)
set_option maxRecDepth 20000 in
theorem gL_refused_X9_cut : GoodIn wsL_refused (wsV RL 129 RX9 yX9_cut wsX9_cut) := goodIn_app (goodIn_of _ (by decide +kernel)) ggL_refused_X9_cut
set_option maxRecDepth 20000 in
theorem ggL_refused_X9_set : GoodIn wsL_refused wsX9_set := goodIn_r _ [552, 82, 11, 473, 474, 475, 181, 476, 477, 478, 479, 480, 481, 482, 483, 484, 485, 15, 486, 17, 22, 487, 488, 489, 490, 31, 105, 136, 52, 127, 87, 141, 146, 553, 554, 555, 9, 556, 188, 24, 25, 26, 18, 19, 20, 21, 23, 189, 190, 191, 192, 499, 500, 501, 502, 452, 503, 504, 505, 456, 506, 468, 458, 463, 193, 194, 195, 196, 197, 49, 50, 51, 53, 54, 55, 56, 121, 122, 557, 558, 559, 560, 48, 57, 58, 59, 60, 61, 62, 63, 507, 508, 509, 510, 511, 512, 513, 514, 183, 515, 516, 155, 517, 705, 706, 707, 708, 709, 710, 711, 712, 713, 733, 734, 735, 714, 715, 716, 717, 718, 719, 720, 721, 722, 723, 743, 744, 745] (by decide +kernel) (by decide +kernel)
set_option maxRecDepth 20000 in
theorem gL_refused_X9_set : GoodIn wsL_refused (wsV RL 50 RX9 yX9_set wsX9_set) := goodIn_app (goodIn_of _ (by decide +kernel)) ggL_refused_X9_set
set_option maxRecDepth 20000 in
theorem ggL_refused_X9_tick : GoodIn wsL_refused wsX9_tick := goodIn_r _ [564, 82, 11, 473, 474, 475, 181, 476, 477, 478, 479, 480, 481, 482, 483, 484, 485, 15, 486, 17, 22, 487, 488, 489, 490, 31, 105, 136, 52, 127, 87, 141, 146, 565, 566, 567, 9, 568, 569, 570, 571, 572, 573, 273, 274, 275, 53, 54, 55, 56, 276, 213, 214, 215, 277, 205, 206, 207, 574, 58, 59, 60, 61, 62, 63, 507, 508, 509, 510, 511, 512, 513, 514, 183, 515, 516, 155, 517, 705, 706, 707, 708, 709, 710, 711, 712, 713, 733, 734, 735, 714, 715, 716, 717, 718, 719, 720, 721, 722, 723] (by decide +kernel) (by decide +kernel)
set_option maxRecDepth 20000 in
theorem gL_refused_X9_tick : GoodIn wsL_refused (wsV RL 53 RX9 yX9_tick wsX9_tick) := goodIn_app (goodIn_of _ (by decide +kernel)) ggL_refused_X9_tick
set_option maxRecDepth 20000 in
theorem ggL_refused_X9_lanternOf : GoodIn wsL_refused wsX9_lanternOf := goodIn_r _ [187, 11, 188, 24, 25, 15, 26, 17, 189, 190, 191, 192, 22, 23, 27, 28, 29, 30, 31, 193, 194, 195, 196, 197, 49, 50, 51, 52, 53, 54, 55, 56, 121, 9, 122, 198, 98, 99, 100, 101, 102, 103, 104, 105, 199, 200, 201, 202, 203, 133, 134, 135, 136, 48, 204, 205, 206, 207, 208, 209, 210, 211, 212, 213, 214, 215, 705, 706, 707, 708, 709, 710, 711, 712, 713, 714, 715, 716, 717, 718, 719, 720, 721, 722, 723] (by decide +kernel) (by decide +kernel)
set_option maxRecDepth 20000 in
theorem gL_refused_X9_lanternOf : GoodIn wsL_refused (wsV RL 81 RX9 yX9_lanternOf wsX9_lanternOf) := goodIn_app (goodIn_of _ (by decide +kernel)) ggL_refused_X9_lanternOf
set_option maxRecDepth 20000 in
theorem ggL_refused_X9_wireOf : GoodIn wsL_refused wsX9_wireOf := goodIn_r _ [219, 11, 188, 24, 25, 15, 26, 17, 220, 221, 9, 222, 223, 102, 103, 104, 105, 705, 706, 707, 708, 709, 710, 711, 712, 713, 714, 715, 716, 717, 718, 719, 720, 721, 722, 723] (by decide +kernel) (by decide +kernel)
set_option maxRecDepth 20000 in
theorem gL_refused_X9_wireOf : GoodIn wsL_refused (wsV RL 84 RX9 yX9_wireOf wsX9_wireOf) := goodIn_app (goodIn_of _ (by decide +kernel)) ggL_refused_X9_wireOf
set_option maxRecDepth 20000 in
theorem ggL_refused_X9_leads : GoodIn wsL_refused wsX9_leads := goodIn_r _ [227, 11, 188, 24, 25, 15, 26, 17, 228, 112, 108, 113, 114, 115, 116, 110, 13, 14, 16, 117, 118, 119, 120, 105, 705, 706, 707, 708, 709, 710, 711, 712, 713, 714, 715, 716, 717, 718, 719, 720, 721, 722, 723] (by decide +kernel) (by decide +kernel)
set_option maxRecDepth 20000 in
theorem gL_refused_X9_leads : GoodIn wsL_refused (wsV RL 87 RX9 yX9_leads wsX9_leads) := goodIn_app (goodIn_of _ (by decide +kernel)) ggL_refused_X9_leads
set_option maxRecDepth 20000 in
theorem ggL_refused_X9_depth : GoodIn wsL_refused wsX9_depth := goodIn_r _ [232, 11, 80, 188, 24, 25, 15, 26, 17, 233, 234, 235, 150, 236, 152, 157, 158, 159, 160, 162, 163, 164, 153, 154, 155, 156, 165, 166, 102, 103, 104, 105, 167, 168, 169, 170, 19, 20, 21, 22, 23, 171, 28, 29, 30, 31, 705, 706, 707, 708, 709, 710, 711, 712, 713, 714, 715, 716, 717, 718, 719, 720, 721, 722, 723, 724] (by decide +kernel) (by decide +kernel)
set_option maxRecDepth 20000 in
theorem gL_refused_X9_depth : GoodIn wsL_refused (wsV RL 90 RX9 yX9_depth wsX9_depth) := goodIn_app (goodIn_of _ (by decide +kernel)) ggL_refused_X9_depth
set_option maxRecDepth 20000 in
theorem ggL_refused_X9_depthAgain : GoodIn wsL_refused wsX9_depthAgain := goodIn_r _ [240, 11, 80, 188, 24, 25, 15, 26, 17, 241, 242, 243, 150, 244, 152, 157, 158, 159, 160, 245, 246, 247, 248, 161, 13, 14, 16, 249, 250, 251, 252, 153, 154, 155, 156, 166, 102, 103, 104, 105, 165, 167, 168, 169, 170, 19, 20, 21, 22, 23, 171, 28, 29, 30, 31, 705, 706, 707, 708, 709, 710, 711, 712, 713, 714, 715, 716, 717, 718, 719, 720, 721, 722, 723, 724] (by decide +kernel) (by decide +kernel)
set_option maxRecDepth 20000 in
theorem gL_refused_X9_depthAgain : GoodIn wsL_refused (wsV RL 93 RX9 yX9_depthAgain wsX9_depthAgain) := goodIn_app (goodIn_of _ (by decide +kernel)) ggL_refused_X9_depthAgain
set_option maxRecDepth 20000 in
theorem ggL_refused_X9_flickers : GoodIn wsL_refused wsX9_flickers := goodIn_r _ [264, 11, 265, 188, 24, 25, 15, 26, 17, 18, 19, 20, 21, 22, 23, 266, 267, 268, 269, 270, 271, 209, 210, 211, 52, 272, 273, 274, 275, 31, 53, 54, 55, 56, 276, 213, 214, 215, 277, 205, 206, 207, 105, 705, 706, 707, 708, 709, 710, 711, 712, 713, 714, 715, 716, 717, 718, 719, 720, 721, 722, 723] (by decide +kernel) (by decide +kernel)
set_option maxRecDepth 20000 in
theorem gL_refused_X9_flickers : GoodIn wsL_refused (wsV RL 99 RX9 yX9_flickers wsX9_flickers) := goodIn_app (goodIn_of _ (by decide +kernel)) ggL_refused_X9_flickers
