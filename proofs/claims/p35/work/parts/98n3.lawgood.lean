set_option maxRecDepth 20000 in
theorem ggL_changes_J4_append_15ec4 : GoodIn wsL_changes wsJ4_append_15ec4 := goodIn_r _ [334, 335, 336, 337, 338, 314, 339, 340, 341, 342, 343, 344, 345, 321, 346, 347, 348, 349, 350, 322, 351, 352, 353, 354, 355, 356, 357, 358, 359, 360, 361, 114, 115, 116, 362, 363, 364, 365, 366, 367, 119, 368, 369, 370, 371, 372, 373, 374, 320, 375, 204, 205, 376, 171, 172, 173, 377, 378, 379, 380, 381, 319, 382, 383, 325, 384, 385, 386, 387, 388, 389, 390, 391, 392, 393, 394, 395, 396, 397, 398, 399, 400, 401, 402, 403, 404, 405, 406, 407, 408, 409, 410, 411, 412, 413, 414, 415, 416, 417, 418, 419, 420, 421, 422, 423, 424, 425, 426, 427, 428, 429, 430, 431, 432, 323, 324, 326, 327, 328, 329, 330, 433, 434, 435, 436, 437, 438, 439, 440, 441, 442, 443, 444, 445, 446, 447, 448, 449, 450, 451, 452, 453, 454, 677, 678, 679, 680, 715, 716, 717, 718] (by decide +kernel) (by decide +kernel)
set_option maxRecDepth 20000 in
theorem gL_changes_J4_append_15ec4 : GoodIn wsL_changes (wsV RL 141 RJ4 yJ4_append_15ec4 wsJ4_append_15ec4) := goodIn_app (goodIn_of _ (by decide +kernel)) ggL_changes_J4_append_15ec4
set_option maxRecDepth 20000 in
theorem ggL_changes_J4_append_bf812 : GoodIn wsL_changes wsJ4_append_bf812 := goodIn_r _ [458, 459, 460, 337, 461, 314, 462, 340, 321, 463, 464, 39, 465, 346, 347, 348, 349, 350, 322, 351, 352, 353, 354, 355, 356, 357, 358, 359, 360, 361, 114, 115, 116, 362, 363, 364, 365, 366, 367, 119, 368, 369, 370, 371, 372, 373, 374, 320, 375, 204, 205, 376, 171, 172, 173, 377, 378, 379, 380, 381, 319, 466, 467, 468, 469, 470, 471, 472, 325, 473, 385, 386, 387, 388, 389, 390, 391, 392, 393, 394, 395, 396, 397, 398, 399, 400, 474, 475, 476, 477, 478, 401, 402, 403, 404, 405, 677, 678, 679, 680] (by decide +kernel) (by decide +kernel)
set_option maxRecDepth 20000 in
theorem gL_changes_J4_append_bf812 : GoodIn wsL_changes (wsV RL 144 RJ4 yJ4_append_bf812 wsJ4_append_bf812) := goodIn_app (goodIn_of _ (by decide +kernel)) ggL_changes_J4_append_bf812
set_option maxRecDepth 20000 in
theorem ggL_changes_J4_toString_0e30d : GoodIn wsL_changes wsJ4_toString_0e30d := goodIn_r _ [482, 483, 484, 394, 485, 486, 487, 488, 489, 490, 491, 317, 318, 416, 410, 415, 492, 493, 494, 495, 496, 314, 497, 321, 498, 499, 500, 501, 502, 3, 503, 504, 337, 505, 506, 340, 507, 378, 379, 380, 381, 319, 322, 508, 509, 119, 510, 369, 370, 371, 372, 373, 374, 511, 512, 513, 320, 375, 204, 115, 205, 376, 171, 172, 173, 514, 515, 516, 517, 518, 325, 519, 520, 521, 522, 440, 441, 442, 389, 390, 391, 443, 444, 445, 396, 446, 447, 399, 448, 523, 524, 525, 385, 404, 405, 327, 328, 329, 330, 526, 527, 528, 529, 715, 716, 717, 718, 677, 678, 679, 680] (by decide +kernel) (by decide +kernel)
set_option maxRecDepth 20000 in
theorem gL_changes_J4_toString_0e30d : GoodIn wsL_changes (wsV RL 151 RJ4 yJ4_toString_0e30d wsJ4_toString_0e30d) := goodIn_app (goodIn_of _ (by decide +kernel)) ggL_changes_J4_toString_0e30d
set_option maxRecDepth 20000 in
theorem ggL_changes_L_reads_h : GoodIn wsL_changes [Cond.code yL_reads cL_reads 3 (some .int)] := goodIn_r _ [532] (by decide +kernel) (by decide +kernel)
set_option maxRecDepth 20000 in
theorem ggL_changes_L_reads_1 : GoodIn wsL_changes wsL_reads_r1 := goodIn_r _ [533, 407, 408, 394, 409, 410, 411, 412, 413, 414, 415, 416, 534, 535, 536, 537, 538, 539, 540, 541, 542, 543, 435, 544] (by decide +kernel) (by decide +kernel)
set_option maxRecDepth 20000 in
theorem ggL_changes_L_reads_2 : GoodIn wsL_changes wsL_reads_r2 := goodIn_r _ [545, 546, 547, 396, 548, 549, 399, 550, 551, 552, 325, 553, 554, 555, 556, 389, 390, 391, 557, 523, 524, 525, 385, 404] (by decide +kernel) (by decide +kernel)
set_option maxRecDepth 20000 in
theorem ggL_changes_L_reads_3 : GoodIn wsL_changes wsL_reads_r3 := goodIn_r _ [405, 558, 559, 560, 7, 561, 11, 562, 563, 564, 139, 565, 141, 566, 567, 568, 569, 570, 571, 572, 573, 574, 575, 576] (by decide +kernel) (by decide +kernel)
set_option maxRecDepth 20000 in
theorem ggL_changes_L_reads_4 : GoodIn wsL_changes wsL_reads_r4 := goodIn_r _ [577, 578, 579, 580, 581, 582, 583, 584, 585, 586, 587, 588, 589, 590, 591, 592, 593, 594, 595, 596, 597, 598, 599, 600] (by decide +kernel) (by decide +kernel)
set_option maxRecDepth 20000 in
theorem ggL_changes_L_reads_5 : GoodIn wsL_changes wsL_reads_r5 := goodIn_r _ [601, 602, 603, 604, 605, 606, 607, 608, 609, 610, 611, 612, 613, 614, 615, 616, 617, 618, 619, 620, 621, 622, 623, 624] (by decide +kernel) (by decide +kernel)
set_option maxRecDepth 20000 in
theorem ggL_changes_L_reads_6 : GoodIn wsL_changes wsL_reads_r6 := goodIn_r _ [625, 626, 627, 628, 629, 630, 12, 9, 156, 157, 158, 145, 159, 160, 161, 162, 163, 164, 165, 166, 167, 168, 16, 169] (by decide +kernel) (by decide +kernel)
set_option maxRecDepth 20000 in
theorem ggL_changes_L_reads_7 : GoodIn wsL_changes wsL_reads_r7 := goodIn_r _ [23, 32, 170, 171, 172, 173, 135, 56, 96, 61, 87, 18, 101, 106, 631, 632, 633, 634, 635, 636, 637, 638, 639, 640] (by decide +kernel) (by decide +kernel)
set_option maxRecDepth 20000 in
theorem ggL_changes_L_reads_8 : GoodIn wsL_changes wsL_reads_r8 := goodIn_r _ [641, 642, 643, 644, 645, 646, 647, 648, 649, 650, 651, 174, 175, 176, 177, 178, 179, 180, 181, 182, 183, 184, 185, 186] (by decide +kernel) (by decide +kernel)
set_option maxRecDepth 20000 in
theorem ggL_changes_L_reads_9 : GoodIn wsL_changes wsL_reads_r9 := goodIn_r _ [187, 188, 189, 190, 191, 192, 193, 194, 652, 653, 654, 655, 210, 211, 212, 213, 214, 34, 35, 36, 215, 216, 217, 218] (by decide +kernel) (by decide +kernel)
set_option maxRecDepth 20000 in
theorem ggL_changes_L_reads_10 : GoodIn wsL_changes wsL_reads_r10 := goodIn_r _ [219, 220, 221, 222, 29, 30, 31, 33, 223, 224, 225, 226, 227, 228, 229, 230, 53, 54, 55, 83, 84, 85, 86, 231] (by decide +kernel) (by decide +kernel)
set_option maxRecDepth 20000 in
theorem ggL_changes_L_reads_11 : GoodIn wsL_changes wsL_reads_r11 := goodIn_r _ [232, 68, 233, 81, 82, 74, 75, 76, 70, 20, 21, 22, 77, 78, 79, 80, 234, 235, 236, 237, 238, 239, 240, 241] (by decide +kernel) (by decide +kernel)
set_option maxRecDepth 20000 in
theorem ggL_changes_L_reads_12 : GoodIn wsL_changes wsL_reads_r12 := goodIn_r _ [242, 49, 50, 51, 52, 247, 248, 249, 250, 255, 256, 257, 258, 259, 260, 261, 262, 263, 58, 59, 60, 62, 63, 64] (by decide +kernel) (by decide +kernel)
set_option maxRecDepth 20000 in
theorem ggL_changes_L_reads_13 : GoodIn wsL_changes wsL_reads_r13 := goodIn_r _ [65, 264, 265, 266, 267, 57, 37, 38, 39, 40, 41, 42, 43, 288, 289, 290, 291, 292, 293, 294, 295, 296, 297, 298] (by decide +kernel) (by decide +kernel)
set_option maxRecDepth 20000 in
theorem ggL_changes_L_reads_14 : GoodIn wsL_changes wsL_reads_r14 := goodIn_r _ [299, 300, 301, 302, 303, 304, 305, 306, 307, 308, 656, 657, 658, 659, 660, 661, 662, 663, 664, 665, 666, 667, 668, 204] (by decide +kernel) (by decide +kernel)
set_option maxRecDepth 20000 in
theorem ggL_changes_L_reads_15 : GoodIn wsL_changes wsL_reads_r15 := goodIn_r _ [115, 205, 199, 200, 201, 202, 147, 203, 669, 670, 671, 672, 673, 674, 675, 676] (by decide +kernel) (by decide +kernel)
set_option maxRecDepth 20000 in
theorem ggL_changes_L_reads_16 : GoodIn wsL_changes wsJ00 := goodIn_r _ [715, 716, 717, 718] (by decide +kernel) (by decide +kernel)
set_option maxRecDepth 20000 in
theorem ggL_changes_L_reads_17 : GoodIn wsL_changes wsX90 := goodIn_r _ [681, 682, 683, 684, 685, 686, 687, 688, 689] (by decide +kernel) (by decide +kernel)
set_option maxRecDepth 20000 in
theorem ggL_changes_L_reads_18 : GoodIn wsL_changes wsX80 := goodIn_r _ [701, 702, 703, 704, 705, 706, 707, 708] (by decide +kernel) (by decide +kernel)
set_option maxRecDepth 20000 in
theorem ggL_changes_L_reads_19 : GoodIn wsL_changes wsX40 := goodIn_r _ [709, 710, 711] (by decide +kernel) (by decide +kernel)
set_option maxRecDepth 20000 in
theorem ggL_changes_L_reads_20 : GoodIn wsL_changes wsX20 := goodIn_r _ [690, 691, 692, 693, 694, 695, 696, 697, 698, 699] (by decide +kernel) (by decide +kernel)
set_option maxRecDepth 20000 in
theorem ggL_changes_L_reads_21 : GoodIn wsL_changes wsX60 := goodIn_r _ [712, 713, 714] (by decide +kernel) (by decide +kernel)
set_option maxRecDepth 20000 in
theorem ggL_changes_L_reads : GoodIn wsL_changes wsL_reads := goodIn_app (a := [Cond.code yL_reads cL_reads 3 (some .int)]) ggL_changes_L_reads_h (goodIn_app (goodIn_app (goodIn_app (goodIn_app (goodIn_app (goodIn_app (goodIn_app ggL_changes_L_reads_1 (goodIn_app ggL_changes_L_reads_2 (goodIn_app ggL_changes_L_reads_3 (goodIn_app ggL_changes_L_reads_4 (goodIn_app ggL_changes_L_reads_5 (goodIn_app ggL_changes_L_reads_6 (goodIn_app ggL_changes_L_reads_7 (goodIn_app ggL_changes_L_reads_8 (goodIn_app ggL_changes_L_reads_9 (goodIn_app ggL_changes_L_reads_10 (goodIn_app ggL_changes_L_reads_11 (goodIn_app ggL_changes_L_reads_12 (goodIn_app ggL_changes_L_reads_13 (goodIn_app ggL_changes_L_reads_14 ggL_changes_L_reads_15)))))))))))))) ggL_changes_L_reads_16) ggL_changes_L_reads_17) ggL_changes_L_reads_18) ggL_changes_L_reads_19) ggL_changes_L_reads_20) ggL_changes_L_reads_21)
set_option maxRecDepth 20000 in
theorem gL_changes_L_reads : GoodIn wsL_changes (va_wsS RL 163 yL_reads wsL_reads) := goodIn_app (goodIn_of _ (by decide +kernel)) ggL_changes_L_reads
set_option maxRecDepth 20000 in
theorem ggL_refused_L_asks_h : GoodIn wsL_refused [Cond.code yL_asks cL_asks 7 (some .long)] := goodIn_r _ [4] (by decide +kernel) (by decide +kernel)
set_option maxRecDepth 20000 in
theorem ggL_refused_L_asks_1 : GoodIn wsL_refused wsL_asks_r1 := goodIn_r _ [5, 6, 7, 8, 9, 10, 11, 12, 13, 14, 15, 16, 17, 18, 19, 20, 21, 22, 23, 24, 25, 26, 27, 28] (by decide +kernel) (by decide +kernel)
set_option maxRecDepth 20000 in
theorem ggL_refused_L_asks_2 : GoodIn wsL_refused wsL_asks_r2 := goodIn_r _ [29, 30, 31, 32, 33, 34, 35, 36, 37, 38, 39, 40, 41, 42, 43, 44, 45, 46, 47, 48, 49, 50, 51, 52] (by decide +kernel) (by decide +kernel)
set_option maxRecDepth 20000 in
theorem ggL_refused_L_asks_3 : GoodIn wsL_refused wsL_asks_r3 := goodIn_r _ [53, 54, 55, 56, 57, 58, 59, 60, 61, 62, 63, 64, 65, 66, 67, 68, 69, 70, 71, 72, 73, 74, 75, 76] (by decide +kernel) (by decide +kernel)
set_option maxRecDepth 20000 in
theorem ggL_refused_L_asks_4 : GoodIn wsL_refused wsL_asks_r4 := goodIn_r _ [77, 78, 79, 80, 81, 82, 83, 84, 85, 86, 87, 88, 89, 90, 91, 92, 93, 94, 95, 96, 97, 98, 99, 100] (by decide +kernel) (by decide +kernel)
set_option maxRecDepth 20000 in
theorem ggL_refused_L_asks_5 : GoodIn wsL_refused wsL_asks_r5 := goodIn_r _ [101, 102, 103, 104, 105, 106, 107, 108, 109, 110, 111, 112, 113, 114, 115, 116, 117, 118, 119, 120, 121, 122, 123, 124] (by decide +kernel) (by decide +kernel)
set_option maxRecDepth 20000 in
theorem ggL_refused_L_asks_6 : GoodIn wsL_refused wsL_asks_r6 := goodIn_r _ [125, 126, 127, 128, 129, 130, 131, 132, 133, 134, 135, 136, 137, 138, 139, 140, 141, 142, 143, 144, 145, 146, 147, 148] (by decide +kernel) (by decide +kernel)
set_option maxRecDepth 20000 in
theorem ggL_refused_L_asks_7 : GoodIn wsL_refused wsL_asks_r7 := goodIn_r _ [149, 150, 151, 152, 153, 154, 155, 156, 157, 158, 159, 160, 161, 162, 163, 164, 165, 166, 167, 168, 169, 170, 171, 172] (by decide +kernel) (by decide +kernel)
set_option maxRecDepth 20000 in
theorem ggL_refused_L_asks_8 : GoodIn wsL_refused wsL_asks_r8 := goodIn_r _ [173, 174, 175, 176, 177, 178, 179, 180, 181, 182, 183, 184, 185, 186, 187, 188, 189, 190, 191, 192, 193, 194, 195, 196] (by decide +kernel) (by decide +kernel)
set_option maxRecDepth 20000 in
theorem ggL_refused_L_asks_9 : GoodIn wsL_refused wsL_asks_r9 := goodIn_r _ [197, 198, 199, 200, 201, 202, 203, 204, 205, 206, 207, 208, 209, 210, 211, 212, 213, 214, 215, 216, 217, 218, 219, 220] (by decide +kernel) (by decide +kernel)
set_option maxRecDepth 20000 in
theorem ggL_refused_L_asks_10 : GoodIn wsL_refused wsL_asks_r10 := goodIn_r _ [221, 222, 223, 224, 225, 226, 227, 228, 229, 230, 231, 232, 233, 234, 235, 236, 237, 238, 239, 240, 241, 242, 243, 244] (by decide +kernel) (by decide +kernel)
set_option maxRecDepth 20000 in
theorem ggL_refused_L_asks_11 : GoodIn wsL_refused wsL_asks_r11 := goodIn_r _ [245, 246, 247, 248, 249, 250, 251, 252, 253, 254, 255, 256, 257, 258, 259, 260, 261, 262, 263, 264, 265, 266, 267, 268] (by decide +kernel) (by decide +kernel)
set_option maxRecDepth 20000 in
theorem ggL_refused_L_asks_12 : GoodIn wsL_refused wsL_asks_r12 := goodIn_r _ [269, 270, 271, 272, 273, 274, 275, 276, 277, 278, 279, 280, 281, 282, 283, 284, 285, 286, 287, 288, 289, 290, 291, 292] (by decide +kernel) (by decide +kernel)
