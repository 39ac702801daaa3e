set_option maxRecDepth 20000 in
theorem wsL_law_r1_in : ∀ w ∈ wsL_law_r1, w ∈ lw_tb2 := fun w h => (goodIn_r wsL_law_r1 [59, 60, 35, 1170, 147, 1169, 281, 47, 282, 61, 62, 63, 64, 65, 66, 67, 68, 36, 209, 210, 108, 109, 38, 212] (by decide +kernel) (by decide +kernel) w h).1
set_option maxRecDepth 20000 in
theorem wsL_law_r2_in : ∀ w ∈ wsL_law_r2, w ∈ lw_tb2 := fun w h => (goodIn_r wsL_law_r2 [127, 128, 39, 213, 137, 138, 40, 214, 148, 149, 41, 215, 180, 181, 42, 216, 193, 194, 43, 217, 69, 70, 71, 72] (by decide +kernel) (by decide +kernel) w h).1
set_option maxRecDepth 20000 in
theorem wsL_law_r3_in : ∀ w ∈ wsL_law_r3, w ∈ lw_tb2 := fun w h => (goodIn_r wsL_law_r3 [107, 77, 78, 79, 80, 82, 73, 74, 37, 75, 110, 111, 112, 113, 114, 117, 116, 130, 131, 132, 133, 140, 141, 142] (by decide +kernel) (by decide +kernel) w h).1
set_option maxRecDepth 20000 in
theorem wsL_law_r4_in : ∀ w ∈ wsL_law_r4, w ∈ lw_tb2 := fun w h => (goodIn_r wsL_law_r4 [143, 151, 152, 153, 179, 154, 183, 184, 185, 186, 196, 197, 198, 199, 200, 718, 719, 720, 721, 709, 710, 711, 712, 119] (by decide +kernel) (by decide +kernel) w h).1
set_option maxRecDepth 20000 in
theorem wsL_law_r5_in : ∀ w ∈ wsL_law_r5, w ∈ lw_tb2 := fun w h => (goodIn_r wsL_law_r5 [722, 723, 724, 725, 118, 245, 247, 0, 248, 249, 250, 251, 252, 76, 253, 255, 254, 44, 81, 83, 84, 85, 731, 732] (by decide +kernel) (by decide +kernel) w h).1
set_option maxRecDepth 20000 in
theorem wsL_law_r6_in : ∀ w ∈ wsL_law_r6, w ∈ lw_tb2 := fun w h => (goodIn_r wsL_law_r6 [733, 734, 211, 730, 735, 736, 737, 738, 673, 332, 333, 334, 726, 727, 728, 729, 389, 390, 391, 392, 241, 242, 243, 244] (by decide +kernel) (by decide +kernel) w h).1
set_option maxRecDepth 20000 in
theorem wsL_law_r7_in : ∀ w ∈ wsL_law_r7, w ∈ lw_tb2 := fun w h => (goodIn_r wsL_law_r7 [393, 395, 8, 396, 397, 398, 399, 400, 401, 402, 403, 404, 405, 406, 407, 408, 409, 410, 411, 412, 413, 414, 415, 416] (by decide +kernel) (by decide +kernel) w h).1
set_option maxRecDepth 20000 in
theorem wsL_law_r8_in : ∀ w ∈ wsL_law_r8, w ∈ lw_tb2 := fun w h => (goodIn_r wsL_law_r8 [417, 380, 46, 381, 382, 383, 384, 272, 274, 3, 275, 276, 277, 278, 279, 280, 665, 666, 667, 668, 669, 670, 671, 672] (by decide +kernel) (by decide +kernel) w h).1
set_option maxRecDepth 20000 in
theorem wsL_law_r9_in : ∀ w ∈ wsL_law_r9, w ∈ lw_tb2 := fun w h => (goodIn_r wsL_law_r9 [674, 675, 676, 677, 678, 303, 304, 305, 306, 292, 293, 294, 379, 679, 680, 681, 682, 683, 349, 350, 351, 352, 315, 316] (by decide +kernel) (by decide +kernel) w h).1
set_option maxRecDepth 20000 in
theorem wsL_law_r10_in : ∀ w ∈ wsL_law_r10, w ∈ lw_tb2 := fun w h => (goodIn_r wsL_law_r10 [317, 642, 634, 635, 636, 369, 370, 48, 371, 331, 372, 373, 374, 328, 329, 330, 335, 336, 337, 338, 326, 327, 318, 319] (by decide +kernel) (by decide +kernel) w h).1
set_option maxRecDepth 20000 in
theorem wsL_law_r11_in : ∀ w ∈ wsL_law_r11, w ∈ lw_tb2 := fun w h => (goodIn_r wsL_law_r11 [320, 321, 684, 685, 686, 687, 688, 689, 690, 691, 692, 693, 694, 695, 696, 697, 698, 699, 700, 701, 702, 703, 440, 441] (by decide +kernel) (by decide +kernel) w h).1
set_option maxRecDepth 20000 in
theorem wsL_law_r12_in : ∀ w ∈ wsL_law_r12, w ∈ lw_tb2 := fun w h => (goodIn_r wsL_law_r12 [442, 434, 704, 435, 436, 437, 438, 439, 443, 444, 445, 446, 447, 448, 449, 450, 705, 706, 707, 708, 155, 483, 484, 485] (by decide +kernel) (by decide +kernel) w h).1
set_option maxRecDepth 20000 in
theorem wsL_law_r13_in : ∀ w ∈ wsL_law_r13, w ∈ lw_tb2 := fun w h => (goodIn_r wsL_law_r13 [486, 487, 488, 489, 490, 491, 492, 493, 494, 495, 496, 497, 498, 156, 499, 500, 501, 502, 503, 505, 9, 506, 157, 507] (by decide +kernel) (by decide +kernel) w h).1
set_option maxRecDepth 20000 in
theorem wsL_law_r14_in : ∀ w ∈ wsL_law_r14, w ∈ lw_tb2 := fun w h => (goodIn_r wsL_law_r14 [509, 10, 510, 512, 514, 11, 515, 516, 517, 518, 49, 519, 1144, 520, 521, 522, 523, 524, 1145, 526, 527, 528, 529, 530] (by decide +kernel) (by decide +kernel) w h).1
set_option maxRecDepth 20000 in
theorem wsL_law_r15_in : ∀ w ∈ wsL_law_r15, w ∈ lw_tb2 := fun w h => (goodIn_r wsL_law_r15 [531, 532, 533, 534, 535, 50, 536, 537, 538, 539, 540, 542, 543, 51, 544, 545, 546, 52, 547, 548, 549, 550, 551, 552] (by decide +kernel) (by decide +kernel) w h).1
set_option maxRecDepth 20000 in
theorem wsL_law_r16_in : ∀ w ∈ wsL_law_r16, w ∈ lw_tb2 := fun w h => (goodIn_r wsL_law_r16 [553, 554, 555, 556, 557, 558, 560, 562, 564, 566, 12, 567, 161, 158, 159, 568, 570, 13, 571, 573, 575, 14, 576, 577] (by decide +kernel) (by decide +kernel) w h).1
set_option maxRecDepth 20000 in
theorem wsL_law_r17_in : ∀ w ∈ wsL_law_r17, w ∈ lw_tb2 := fun w h => (goodIn_r wsL_law_r17 [579, 15, 580, 581, 583, 16, 584, 160, 587, 589, 17, 590, 592, 594, 18, 595, 596, 598, 19, 599, 600, 601, 602, 603] (by decide +kernel) (by decide +kernel) w h).1
set_option maxRecDepth 20000 in
theorem wsL_law_r18_in : ∀ w ∈ wsL_law_r18, w ∈ lw_tb2 := fun w h => (goodIn_r wsL_law_r18 [604, 605, 607, 20, 608, 609, 610, 611, 612, 613, 614, 615, 616, 617, 618, 619, 620, 256, 258, 1, 259, 260, 261, 262] (by decide +kernel) (by decide +kernel) w h).1
set_option maxRecDepth 20000 in
theorem wsL_law_r19_in : ∀ w ∈ wsL_law_r19, w ∈ lw_tb2 := fun w h => (goodIn_r wsL_law_r19 [263, 264, 266, 2, 267, 268, 269, 270, 271, 201, 621, 622, 623, 624, 287, 289, 4, 290, 291, 295, 296, 297, 298, 300] (by decide +kernel) (by decide +kernel) w h).1
set_option maxRecDepth 20000 in
theorem wsL_law_r20_in : ∀ w ∈ wsL_law_r20, w ∈ lw_tb2 := fun w h => (goodIn_r wsL_law_r20 [5, 301, 302, 307, 308, 309, 310, 311, 312, 313, 314, 322, 323, 324, 339, 340, 341, 342, 343, 344, 345, 346, 348, 357] (by decide +kernel) (by decide +kernel) w h).1
set_option maxRecDepth 20000 in
theorem wsL_law_r21_in : ∀ w ∈ wsL_law_r21, w ∈ lw_tb2 := fun w h => (goodIn_r wsL_law_r21 [359, 6, 360, 625, 627, 21, 628, 629, 630, 631, 632, 633, 638, 639, 640, 641, 643, 644, 645, 646, 647, 649, 22, 650] (by decide +kernel) (by decide +kernel) w h).1
