set_option maxRecDepth 20000 in
theorem ggL_refused_X9_switchesOf : GoodIn wsL_refused wsX9_switchesOf := goodIn_r _ [256, 11, 188, 24, 25, 15, 26, 17, 257, 258, 108, 259, 110, 13, 14, 16, 260, 19, 20, 21, 22, 23, 111, 112, 113, 114, 115, 116, 117, 118, 119, 120, 105, 121, 9, 122, 705, 706, 707, 708, 709, 710, 711, 712, 713, 714, 715, 716, 717, 718, 719, 720, 721, 722, 723] (by decide +kernel) (by decide +kernel)
set_option maxRecDepth 20000 in
theorem gL_refused_X9_switchesOf : GoodIn wsL_refused (wsV RL 96 RX9 yX9_switchesOf wsX9_switchesOf) := goodIn_app (goodIn_of _ (by decide +kernel)) ggL_refused_X9_switchesOf
set_option maxRecDepth 20000 in
theorem ggL_refused_X9_table : GoodIn wsL_refused wsX9_table := goodIn_r _ [281, 11, 188, 24, 25, 15, 26, 17, 282, 283, 284, 9, 285, 80, 18, 19, 20, 21, 22, 23, 233, 234, 235, 150, 236, 152, 157, 158, 159, 160, 162, 163, 164, 153, 154, 155, 156, 165, 166, 102, 103, 104, 105, 167, 168, 169, 170, 171, 28, 29, 30, 31, 257, 258, 108, 259, 110, 13, 14, 16, 260, 111, 112, 113, 114, 115, 116, 117, 118, 119, 120, 121, 122, 57, 58, 59, 60, 61, 62, 63, 286, 287, 288, 289, 290, 291, 292, 293, 294, 295, 296, 297, 298, 89, 90, 91, 92, 299, 300, 301, 205, 206, 207, 705, 706, 707, 708, 709, 710, 711, 712, 713, 714, 715, 716, 717, 718, 719, 720, 721, 722, 723, 724] (by decide +kernel) (by decide +kernel)
set_option maxRecDepth 20000 in
theorem gL_refused_X9_table : GoodIn wsL_refused (wsV RL 102 RX9 yX9_table wsX9_table) := goodIn_app (goodIn_of _ (by decide +kernel)) ggL_refused_X9_table
set_option maxRecDepth 20000 in
theorem ggL_refused_X9_tableAgain : GoodIn wsL_refused wsX9_tableAgain := goodIn_r _ [305, 11, 80, 188, 24, 25, 15, 26, 17, 282, 283, 284, 9, 285, 18, 19, 20, 21, 22, 23, 233, 234, 235, 150, 236, 152, 157, 158, 159, 160, 162, 163, 164, 153, 154, 155, 156, 165, 166, 102, 103, 104, 105, 167, 168, 169, 170, 171, 28, 29, 30, 31, 257, 258, 108, 259, 110, 13, 14, 16, 260, 111, 112, 113, 114, 115, 116, 117, 118, 119, 120, 121, 122, 57, 58, 59, 60, 61, 62, 63, 306, 307, 288, 308, 309, 290, 291, 310, 209, 210, 211, 52, 292, 293, 294, 311, 273, 274, 275, 53, 54, 55, 56, 276, 213, 214, 215, 277, 205, 206, 207, 705, 706, 707, 708, 709, 710, 711, 712, 713, 714, 715, 716, 717, 718, 719, 720, 721, 722, 723, 724] (by decide +kernel) (by decide +kernel)
set_option maxRecDepth 20000 in
theorem gL_refused_X9_tableAgain : GoodIn wsL_refused (wsV RL 105 RX9 yX9_tableAgain wsX9_tableAgain) := goodIn_app (goodIn_of _ (by decide +kernel)) ggL_refused_X9_tableAgain
set_option maxRecDepth 20000 in
theorem ggL_refused_X9_append : GoodIn wsL_refused wsX9_append := goodIn_r _ [578, 81, 579, 580, 581, 175, 582, 177, 583, 705, 706, 707, 708, 709, 710, 711, 712, 713, 725, 726, 727, 728, 729, 730, 731, 732] (by decide +kernel) (by decide +kernel)
set_option maxRecDepth 20000 in
theorem gL_refused_X9_append : GoodIn wsL_refused (wsV RL 17 RX9 yX9_append wsX9_append) := goodIn_app (goodIn_of _ (by decide +kernel)) ggL_refused_X9_append
set_option maxRecDepth 20000 in
theorem ggL_refused_X9_tellLantern : GoodIn wsL_refused wsX9_tellLantern := goodIn_r _ [315, 11, 316, 188, 24, 25, 15, 26, 17, 317, 318, 319, 320, 321, 322, 323, 324, 325, 326, 327, 328, 329, 330, 331, 332, 189, 190, 191, 192, 22, 23, 333, 334, 9, 335, 336, 337, 338, 339, 340, 341, 342, 343, 344, 345, 346, 347, 348, 349, 350, 351, 352, 353, 354, 355, 356, 357, 358, 359, 360, 361, 362, 363, 364, 365, 366, 367, 368, 369, 370, 371, 372, 373, 374, 375, 376, 377, 378, 379, 380, 381, 382, 383, 384, 385, 386, 387, 388, 27, 28, 29, 30, 31, 18, 19, 20, 21, 389, 390, 391, 392, 393, 394, 395, 223, 102, 103, 104, 105, 193, 194, 195, 196, 197, 49, 50, 51, 52, 53, 54, 55, 56, 121, 122, 396, 397, 398, 399, 705, 706, 707, 708, 709, 710, 711, 712, 713, 714, 715, 716, 717, 718, 719, 720, 721, 722, 723, 736, 737, 738, 739, 740, 741] (by decide +kernel) (by decide +kernel)
set_option maxRecDepth 20000 in
theorem gL_refused_X9_tellLantern : GoodIn wsL_refused (wsV RL 108 RX9 yX9_tellLantern wsX9_tellLantern) := goodIn_app (goodIn_of _ (by decide +kernel)) ggL_refused_X9_tellLantern
set_option maxRecDepth 20000 in
theorem ggL_refused_X9_character : GoodIn wsL_refused wsX9_character := goodIn_r _ [403, 316, 404, 405, 406, 320, 407, 322, 331, 705, 706, 707, 708, 709, 710, 711, 712, 713, 736, 737] (by decide +kernel) (by decide +kernel)
set_option maxRecDepth 20000 in
theorem gL_refused_X9_character : GoodIn wsL_refused (wsV RL 30 RX9 yX9_character wsX9_character) := goodIn_app (goodIn_of _ (by decide +kernel)) ggL_refused_X9_character
set_option maxRecDepth 20000 in
theorem ggL_refused_L_reads_h : GoodIn wsL_refused [Cond.code yL_reads cL_reads 3 (some .int)] := goodIn_r _ [586] (by decide +kernel) (by decide +kernel)
set_option maxRecDepth 20000 in
theorem ggL_refused_L_reads_1 : GoodIn wsL_refused wsL_reads_r1 := goodIn_r _ [587, 341, 342, 343, 344, 345, 346, 347, 348, 349, 350, 351, 588, 353, 354, 355, 356, 357, 358, 359, 360, 361, 362, 363] (by decide +kernel) (by decide +kernel)
set_option maxRecDepth 20000 in
theorem ggL_refused_L_reads_2 : GoodIn wsL_refused wsL_reads_r2 := goodIn_r _ [364, 365, 366, 367, 368, 369, 370, 371, 372, 373, 374, 375, 376, 377, 378, 379, 380, 381, 382, 383, 384, 385, 386, 387] (by decide +kernel) (by decide +kernel)
set_option maxRecDepth 20000 in
theorem ggL_refused_L_reads_3 : GoodIn wsL_refused wsL_reads_r3 := goodIn_r _ [388, 575, 576, 577, 9, 578, 81, 579, 580, 581, 175, 582, 177, 583, 589, 590, 591, 592, 593, 594, 595, 596, 597, 598] (by decide +kernel) (by decide +kernel)
set_option maxRecDepth 20000 in
theorem ggL_refused_L_reads_4 : GoodIn wsL_refused wsL_reads_r4 := goodIn_r _ [599, 600, 601, 602, 603, 604, 605, 606, 607, 608, 609, 610, 611, 612, 613, 614, 615, 616, 617, 618, 619, 620, 621, 622] (by decide +kernel) (by decide +kernel)
set_option maxRecDepth 20000 in
theorem ggL_refused_L_reads_5 : GoodIn wsL_refused wsL_reads_r5 := goodIn_r _ [623, 624, 625, 626, 627, 628, 629, 630, 631, 632, 633, 634, 635, 636, 637, 638, 639, 640, 641, 642, 643, 644, 645, 646] (by decide +kernel) (by decide +kernel)
set_option maxRecDepth 20000 in
theorem ggL_refused_L_reads_6 : GoodIn wsL_refused wsL_reads_r6 := goodIn_r _ [647, 648, 649, 650, 651, 652, 82, 11, 473, 474, 475, 181, 476, 477, 478, 479, 480, 481, 482, 483, 484, 485, 15, 486] (by decide +kernel) (by decide +kernel)
set_option maxRecDepth 20000 in
theorem ggL_refused_L_reads_7 : GoodIn wsL_refused wsL_reads_r7 := goodIn_r _ [17, 22, 487, 488, 489, 490, 31, 105, 136, 52, 127, 87, 141, 146, 653, 654, 655, 656, 657, 658, 659, 660, 661, 662] (by decide +kernel) (by decide +kernel)
set_option maxRecDepth 20000 in
theorem ggL_refused_L_reads_8 : GoodIn wsL_refused wsL_reads_r8 := goodIn_r _ [663, 664, 665, 666, 667, 668, 669, 670, 671, 672, 673, 491, 492, 493, 494, 495, 496, 497, 498, 499, 500, 501, 502, 452] (by decide +kernel) (by decide +kernel)
set_option maxRecDepth 20000 in
theorem ggL_refused_L_reads_9 : GoodIn wsL_refused wsL_reads_r9 := goodIn_r _ [503, 504, 505, 456, 506, 468, 458, 463, 674, 675, 676, 677, 522, 523, 524, 525, 188, 24, 25, 26, 220, 221, 222, 526] (by decide +kernel) (by decide +kernel)
set_option maxRecDepth 20000 in
theorem ggL_refused_L_reads_10 : GoodIn wsL_refused wsL_reads_r10 := goodIn_r _ [527, 528, 529, 18, 19, 20, 21, 23, 189, 190, 191, 192, 393, 394, 395, 223, 102, 103, 104, 123, 124, 125, 126, 530] (by decide +kernel) (by decide +kernel)
set_option maxRecDepth 20000 in
theorem ggL_refused_L_reads_11 : GoodIn wsL_refused wsL_reads_r11 := goodIn_r _ [531, 108, 532, 121, 122, 114, 115, 116, 110, 13, 14, 16, 117, 118, 119, 120, 533, 534, 535, 536, 537, 538, 539, 540] (by decide +kernel) (by decide +kernel)
set_option maxRecDepth 20000 in
theorem ggL_refused_L_reads_12 : GoodIn wsL_refused wsL_reads_r12 := goodIn_r _ [198, 98, 99, 100, 101, 545, 546, 547, 548, 553, 554, 555, 556, 193, 194, 195, 196, 197, 49, 50, 51, 53, 54, 55] (by decide +kernel) (by decide +kernel)
set_option maxRecDepth 20000 in
theorem ggL_refused_L_reads_13 : GoodIn wsL_refused wsL_reads_r13 := goodIn_r _ [56, 557, 558, 559, 560, 48, 57, 58, 59, 60, 61, 62, 63, 565, 566, 567, 568, 569, 570, 571, 572, 573, 273, 274] (by decide +kernel) (by decide +kernel)
set_option maxRecDepth 20000 in
theorem ggL_refused_L_reads_14 : GoodIn wsL_refused wsL_reads_r14 := goodIn_r _ [275, 276, 213, 214, 215, 277, 205, 206, 207, 574, 678, 679, 680, 681, 682, 683, 684, 685, 686, 687, 688, 689, 690, 516] (by decide +kernel) (by decide +kernel)
set_option maxRecDepth 20000 in
theorem ggL_refused_L_reads_15 : GoodIn wsL_refused wsL_reads_r15 := goodIn_r _ [155, 517, 511, 512, 513, 514, 183, 515, 691, 692, 693, 694, 695, 696, 697, 698] (by decide +kernel) (by decide +kernel)
set_option maxRecDepth 20000 in
theorem ggL_refused_L_reads_16 : GoodIn wsL_refused wsJ00 := goodIn_r _ [738, 739, 740, 741] (by decide +kernel) (by decide +kernel)
set_option maxRecDepth 20000 in
theorem ggL_refused_L_reads_17 : GoodIn wsL_refused wsX90 := goodIn_r _ [705, 706, 707, 708, 709, 710, 711, 712, 713] (by decide +kernel) (by decide +kernel)
set_option maxRecDepth 20000 in
theorem ggL_refused_L_reads_18 : GoodIn wsL_refused wsX80 := goodIn_r _ [725, 726, 727, 728, 729, 730, 731, 732] (by decide +kernel) (by decide +kernel)
set_option maxRecDepth 20000 in
theorem ggL_refused_L_reads_19 : GoodIn wsL_refused wsX40 := goodIn_r _ [733, 734, 735] (by decide +kernel) (by decide +kernel)
set_option maxRecDepth 20000 in
theorem ggL_refused_L_reads_20 : GoodIn wsL_refused wsX20 := goodIn_r _ [714, 715, 716, 717, 718, 719, 720, 721, 722, 723] (by decide +kernel) (by decide +kernel)
set_option maxRecDepth 20000 in
theorem ggL_refused_L_reads_21 : GoodIn wsL_refused wsX60 := goodIn_r _ [743, 744, 745] (by decide +kernel) (by decide +kernel)
set_option maxRecDepth 20000 in
theorem ggL_refused_L_reads : GoodIn wsL_refused wsL_reads := goodIn_app (a := [Cond.code yL_reads cL_reads 3 (some .int)]) ggL_refused_L_reads_h (goodIn_app (goodIn_app (goodIn_app (goodIn_app (goodIn_app (goodIn_app (goodIn_app ggL_refused_L_reads_1 (goodIn_app ggL_refused_L_reads_2 (goodIn_app ggL_refused_L_reads_3 (goodIn_app ggL_refused_L_reads_4 (goodIn_app ggL_refused_L_reads_5 (goodIn_app ggL_refused_L_reads_6 (goodIn_app ggL_refused_L_reads_7 (goodIn_app ggL_refused_L_reads_8 (goodIn_app ggL_refused_L_reads_9 (goodIn_app ggL_refused_L_reads_10 (goodIn_app ggL_refused_L_reads_11 (goodIn_app ggL_refused_L_reads_12 (goodIn_app ggL_refused_L_reads_13 (goodIn_app ggL_refused_L_reads_14 ggL_refused_L_reads_15)))))))))))))) ggL_refused_L_reads_16) ggL_refused_L_reads_17) ggL_refused_L_reads_18) ggL_refused_L_reads_19) ggL_refused_L_reads_20) ggL_refused_L_reads_21)
set_option maxRecDepth 20000 in
theorem gL_refused_L_reads : GoodIn wsL_refused (va_wsS RL 163 yL_reads wsL_reads) := goodIn_app (goodIn_of _ (by decide +kernel)) ggL_refused_L_reads
set_option maxRecDepth 20000 in
theorem ggL_refused_L_is_ : GoodIn wsL_refused wsL_is_ := goodIn_r _ [701, 448, 449, 450, 9, 451, 452, 453, 454, 455, 456, 457, 458, 459, 460, 461, 462, 463, 464, 465, 466, 467, 468, 705, 706, 707, 708, 709, 710, 711, 712, 713, 743, 744, 745] (by decide +kernel) (by decide +kernel)
set_option maxRecDepth 20000 in
theorem gL_refused_L_is_ : GoodIn wsL_refused (va_wsS RL 175 yL_is_ wsL_is_) := goodIn_app (goodIn_of _ (by decide +kernel)) ggL_refused_L_is_
set_option maxRecDepth 20000 in
theorem ggL_refused_L_is : GoodIn wsL_refused wsL_is := goodIn_r _ [704, 448, 449, 450, 9, 451, 452, 453, 454, 455, 456, 457, 458, 459, 460, 461, 462, 463, 464, 465, 466, 467, 468, 705, 706, 707, 708, 709, 710, 711, 712, 713, 743, 744, 745] (by decide +kernel) (by decide +kernel)
set_option maxRecDepth 20000 in
theorem gL_refused_L_is : GoodIn wsL_refused (va_wsS RL 179 yL_is wsL_is) := goodIn_app (goodIn_of _ (by decide +kernel)) ggL_refused_L_is
set_option maxRecDepth 20000 in
theorem ggL_law_X9_init : GoodIn wsL_law wsX9_init := goodIn_r _ [11, 12, 13, 14, 15, 16, 17, 18, 19, 20, 21, 22, 23, 24, 25, 26, 27, 28, 29, 30, 31, 32, 33, 34, 35, 36, 37, 38, 39, 40, 41, 42, 43, 44, 45, 46, 47, 48, 49, 50, 51, 52, 53, 54, 55, 56, 57, 58, 59, 60, 61, 62, 63, 64, 65, 66, 67, 68, 69, 70, 71, 4, 72, 73, 74, 75, 76, 77, 78, 79, 80, 81, 82, 83, 84, 85, 86, 1018, 1019, 1020, 1021, 1022, 1023, 1024, 1025, 1026, 1027, 1009, 1010, 1011, 1012, 1013, 1014, 1015, 1016, 1017, 1028, 1029, 1030, 1031, 1032, 1033, 1034, 1035, 1036, 1037, 1038, 1039, 1040, 1041, 1042, 1043, 1044, 1045] (by decide +kernel) (by decide +kernel)
set_option maxRecDepth 20000 in
theorem gL_law_X9_init : GoodIn wsL_law (wsX9_init) := ggL_law_X9_init
set_option maxRecDepth 20000 in
theorem ggL_law_X9_undo : GoodIn wsL_law wsX9_undo := goodIn_r _ [90, 23, 18, 91, 92, 93, 22, 94, 95, 96, 97, 98, 99, 100, 101, 102, 103, 104, 63, 105, 106, 107, 17, 108, 109, 49, 110, 111, 112, 113, 50, 51, 52, 114, 53, 115, 116, 117, 1009, 1010, 1011, 1012, 1013, 1014, 1015, 1016, 1017, 1028, 1029, 1030, 1018, 1019, 1020, 1021, 1022, 1023, 1024, 1025, 1026, 1027] (by decide +kernel) (by decide +kernel)
