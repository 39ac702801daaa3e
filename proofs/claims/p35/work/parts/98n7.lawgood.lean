set_option maxRecDepth 20000 in
theorem ggL_law_L_makes_4 : GoodIn wsL_law wsL_makes_r4 := goodIn_r _ [625, 527, 626, 627, 628, 629, 521, 522, 523, 524, 446, 447, 448, 449, 450, 201, 202, 203, 451, 452, 453, 454, 455, 456] (by decide +kernel) (by decide +kernel)
set_option maxRecDepth 20000 in
theorem ggL_law_L_makes_5 : GoodIn wsL_law wsL_makes_r5 := goodIn_r _ [457, 458, 197, 198, 199, 200, 459, 460, 461, 462, 463, 464, 465, 466, 214, 215, 216, 238, 239, 240, 241, 467, 468, 223] (by decide +kernel) (by decide +kernel)
set_option maxRecDepth 20000 in
theorem ggL_law_L_makes_6 : GoodIn wsL_law wsL_makes_r6 := goodIn_r _ [469, 236, 237, 229, 230, 231, 225, 129, 130, 131, 232, 233, 234, 235, 470, 471, 472, 473, 474, 475, 476, 477, 478, 210] (by decide +kernel) (by decide +kernel)
set_option maxRecDepth 20000 in
theorem ggL_law_L_makes_7 : GoodIn wsL_law wsL_makes_r7 := goodIn_r _ [211, 212, 213, 630, 631, 632, 633, 483, 484, 485, 486, 487, 488, 489, 490, 491, 218, 219, 220, 156, 157, 158, 159, 492] (by decide +kernel) (by decide +kernel)
set_option maxRecDepth 20000 in
theorem ggL_law_L_makes_8 : GoodIn wsL_law wsL_makes_r8 := goodIn_r _ [493, 494, 495, 217, 204, 169, 170, 171, 172, 173, 174, 136, 137, 138, 139, 144, 145, 146, 147, 148, 149, 150, 151, 152] (by decide +kernel) (by decide +kernel)
set_option maxRecDepth 20000 in
theorem ggL_law_L_makes_9 : GoodIn wsL_law wsL_makes_r9 := goodIn_r _ [153, 154, 155, 160, 161, 162, 163, 164, 165, 166, 167, 168] (by decide +kernel) (by decide +kernel)
set_option maxRecDepth 20000 in
theorem ggL_law_L_makes_10 : GoodIn wsL_law wsX90 := goodIn_r _ [1009, 1010, 1011, 1012, 1013, 1014, 1015, 1016, 1017] (by decide +kernel) (by decide +kernel)
set_option maxRecDepth 20000 in
theorem ggL_law_L_makes_11 : GoodIn wsL_law wsX40 := goodIn_r _ [1028, 1029, 1030] (by decide +kernel) (by decide +kernel)
set_option maxRecDepth 20000 in
theorem ggL_law_L_makes_12 : GoodIn wsL_law wsX20 := goodIn_r _ [1018, 1019, 1020, 1021, 1022, 1023, 1024, 1025, 1026, 1027] (by decide +kernel) (by decide +kernel)
set_option maxRecDepth 20000 in
theorem ggL_law_L_makes_13 : GoodIn wsL_law wsX60 := goodIn_r _ [1043, 1044, 1045] (by decide +kernel) (by decide +kernel)
set_option maxRecDepth 20000 in
theorem ggL_law_L_makes : GoodIn wsL_law wsL_makes := goodIn_app (a := [Cond.code yL_makes cL_makes 6 (some .boolean)]) ggL_law_L_makes_h (goodIn_app (goodIn_app (goodIn_app (goodIn_app (goodIn_app ggL_law_L_makes_1 (goodIn_app ggL_law_L_makes_2 (goodIn_app ggL_law_L_makes_3 (goodIn_app ggL_law_L_makes_4 (goodIn_app ggL_law_L_makes_5 (goodIn_app ggL_law_L_makes_6 (goodIn_app ggL_law_L_makes_7 (goodIn_app ggL_law_L_makes_8 ggL_law_L_makes_9)))))))) ggL_law_L_makes_10) ggL_law_L_makes_11) ggL_law_L_makes_12) ggL_law_L_makes_13)
set_option maxRecDepth 20000 in
theorem gL_law_L_makes : GoodIn wsL_law (va_wsS RL 193 yL_makes wsL_makes) := goodIn_app (goodIn_of _ (by decide +kernel)) ggL_law_L_makes
set_option maxRecDepth 20000 in
theorem ggL_law_L_asks_h : GoodIn wsL_law [Cond.code yL_asks cL_asks 7 (some .long)] := goodIn_r _ [636] (by decide +kernel) (by decide +kernel)
set_option maxRecDepth 20000 in
theorem ggL_law_L_asks_1 : GoodIn wsL_law wsL_asks_r1 := goodIn_r _ [637, 638, 639, 640, 2, 641, 18, 128, 129, 130, 17, 131, 109, 458, 197, 198, 199, 49, 200, 201, 202, 203, 642, 277] (by decide +kernel) (by decide +kernel)
set_option maxRecDepth 20000 in
theorem ggL_law_L_asks_2 : GoodIn wsL_law wsL_asks_r2 := goodIn_r _ [278, 279, 50, 643, 644, 645, 646, 647, 648, 649, 650, 651, 652, 653, 654, 655, 656, 657, 658, 217, 218, 219, 220, 114] (by decide +kernel) (by decide +kernel)
set_option maxRecDepth 20000 in
theorem ggL_law_L_asks_3 : GoodIn wsL_law wsL_asks_r3 := goodIn_r _ [156, 157, 158, 159, 204, 169, 170, 171, 172, 173, 174, 659, 660, 661, 662, 663, 664, 665, 666, 667, 668, 669, 670, 184] (by decide +kernel) (by decide +kernel)
set_option maxRecDepth 20000 in
theorem ggL_law_L_asks_4 : GoodIn wsL_law wsL_asks_r4 := goodIn_r _ [185, 186, 187, 27, 35, 23, 188, 189, 190, 191, 115, 192, 193, 194, 195, 196, 205, 206, 207, 208, 209, 210, 211, 212] (by decide +kernel) (by decide +kernel)
set_option maxRecDepth 20000 in
theorem ggL_law_L_asks_5 : GoodIn wsL_law wsL_asks_r5 := goodIn_r _ [213, 214, 215, 216, 51, 221, 222, 223, 224, 225, 226, 227, 228, 229, 230, 231, 232, 233, 234, 235, 236, 237, 238, 239] (by decide +kernel) (by decide +kernel)
set_option maxRecDepth 20000 in
theorem ggL_law_L_asks_6 : GoodIn wsL_law wsL_asks_r6 := goodIn_r _ [240, 241, 53, 242, 243, 244, 245, 246, 247, 248, 249, 52, 250, 251, 252, 253, 116, 254, 255, 256, 257, 117, 258, 259] (by decide +kernel) (by decide +kernel)
set_option maxRecDepth 20000 in
theorem ggL_law_L_asks_7 : GoodIn wsL_law wsL_asks_r7 := goodIn_r _ [260, 26, 261, 68, 262, 263, 7, 264, 265, 55, 56, 57, 266, 267, 268, 269, 270, 271, 272, 273, 274, 275, 276, 280] (by decide +kernel) (by decide +kernel)
set_option maxRecDepth 20000 in
theorem ggL_law_L_asks_8 : GoodIn wsL_law wsL_asks_r8 := goodIn_r _ [281, 282, 34, 283, 284, 91, 92, 93, 22, 94, 95, 671, 672, 673, 674, 450, 459, 460, 461, 462, 487, 488, 489, 490] (by decide +kernel) (by decide +kernel)
set_option maxRecDepth 20000 in
theorem ggL_law_L_asks_9 : GoodIn wsL_law wsL_asks_r9 := goodIn_r _ [491, 478, 675, 676, 677, 678, 593, 679, 165, 166, 167, 680, 562, 563, 564, 681, 161, 162, 163, 617, 618, 619, 620, 451] (by decide +kernel) (by decide +kernel)
set_option maxRecDepth 20000 in
theorem ggL_law_L_asks_10 : GoodIn wsL_law wsL_asks_r10 := goodIn_r _ [452, 453, 466, 682, 683, 684, 685, 686, 545, 546, 547, 548, 549, 550, 551, 552, 687, 688, 689, 690, 691, 692, 693, 694] (by decide +kernel) (by decide +kernel)
set_option maxRecDepth 20000 in
theorem ggL_law_L_asks_11 : GoodIn wsL_law wsL_asks_r11 := goodIn_r _ [695, 696, 697, 698, 699, 700, 701, 702, 703, 704, 705, 706, 707, 708, 709, 710, 711, 712, 713, 714, 31, 715, 716, 717] (by decide +kernel) (by decide +kernel)
set_option maxRecDepth 20000 in
theorem ggL_law_L_asks_12 : GoodIn wsL_law wsL_asks_r12 := goodIn_r _ [30, 718, 561, 565, 153, 154, 155, 160, 164, 719, 720, 721, 722, 723, 724, 725, 726, 727, 728, 729, 730, 731, 732, 733] (by decide +kernel) (by decide +kernel)
set_option maxRecDepth 20000 in
theorem ggL_law_L_asks_13 : GoodIn wsL_law wsL_asks_r13 := goodIn_r _ [734, 735, 736, 737, 738, 739, 740, 741, 742, 743, 744, 745, 746, 747, 748, 749, 750, 751, 752, 753, 754, 755, 756, 39] (by decide +kernel) (by decide +kernel)
set_option maxRecDepth 20000 in
theorem ggL_law_L_asks_14 : GoodIn wsL_law wsL_asks_r14 := goodIn_r _ [757, 758, 759, 38, 760, 761, 762, 763, 764, 765, 766, 767, 768, 769, 81, 770, 771, 772, 773, 774, 775, 776, 777, 778] (by decide +kernel) (by decide +kernel)
set_option maxRecDepth 20000 in
theorem ggL_law_L_asks_15 : GoodIn wsL_law wsL_asks_r15 := goodIn_r _ [320, 321, 322, 323, 324, 325, 326, 327, 328, 329, 330, 779, 332, 333, 334, 335, 336, 337, 338, 339, 340, 341, 342, 343] (by decide +kernel) (by decide +kernel)
set_option maxRecDepth 20000 in
theorem ggL_law_L_asks_16 : GoodIn wsL_law wsL_asks_r16 := goodIn_r _ [344, 345, 346, 347, 348, 349, 350, 351, 352, 353, 354, 355, 356, 357, 358, 359, 360, 361, 362, 363, 364, 365, 366, 367] (by decide +kernel) (by decide +kernel)
set_option maxRecDepth 20000 in
theorem ggL_law_L_asks_17 : GoodIn wsL_law wsL_asks_r17 := goodIn_r _ [780, 781, 782, 783, 463, 464, 465, 784, 785, 786, 787, 788, 789, 790, 791, 792, 793, 794, 795, 796, 797, 798, 799, 566] (by decide +kernel) (by decide +kernel)
set_option maxRecDepth 20000 in
theorem ggL_law_L_asks_18 : GoodIn wsL_law wsL_asks_r18 := goodIn_r _ [567, 568, 569, 553, 554, 555, 556, 557, 558, 559, 560, 570, 571, 572, 573, 574, 575, 576, 577, 72, 578, 579, 580, 581] (by decide +kernel) (by decide +kernel)
set_option maxRecDepth 20000 in
theorem ggL_law_L_asks_19 : GoodIn wsL_law wsL_asks_r19 := goodIn_r _ [582, 583, 584, 585, 586, 587, 588, 589, 590, 591, 592] (by decide +kernel) (by decide +kernel)
set_option maxRecDepth 20000 in
theorem ggL_law_L_asks_20 : GoodIn wsL_law wsX90 := goodIn_r _ [1009, 1010, 1011, 1012, 1013, 1014, 1015, 1016, 1017] (by decide +kernel) (by decide +kernel)
set_option maxRecDepth 20000 in
theorem ggL_law_L_asks_21 : GoodIn wsL_law wsX20 := goodIn_r _ [1018, 1019, 1020, 1021, 1022, 1023, 1024, 1025, 1026, 1027] (by decide +kernel) (by decide +kernel)
set_option maxRecDepth 20000 in
theorem ggL_law_L_asks_22 : GoodIn wsL_law wsX00 := goodIn_r _ [1031] (by decide +kernel) (by decide +kernel)
set_option maxRecDepth 20000 in
theorem ggL_law_L_asks_23 : GoodIn wsL_law wsX80 := goodIn_r _ [1033, 1034, 1035, 1036, 1037, 1038, 1039, 1040] (by decide +kernel) (by decide +kernel)
set_option maxRecDepth 20000 in
theorem ggL_law_L_asks_24 : GoodIn wsL_law wsX40 := goodIn_r _ [1028, 1029, 1030] (by decide +kernel) (by decide +kernel)
set_option maxRecDepth 20000 in
theorem ggL_law_L_asks_25 : GoodIn wsL_law wsX30 := goodIn_r _ [1041, 1042] (by decide +kernel) (by decide +kernel)
set_option maxRecDepth 20000 in
theorem ggL_law_L_asks_26 : GoodIn wsL_law wsJ00 := goodIn_r _ [1046, 1047, 1048, 1049] (by decide +kernel) (by decide +kernel)
set_option maxRecDepth 20000 in
theorem ggL_law_L_asks_27 : GoodIn wsL_law wsX10 := goodIn_r _ [1032] (by decide +kernel) (by decide +kernel)
set_option maxRecDepth 20000 in
theorem ggL_law_L_asks : GoodIn wsL_law wsL_asks := goodIn_app (a := [Cond.code yL_asks cL_asks 7 (some .long)]) ggL_law_L_asks_h (goodIn_app (goodIn_app (goodIn_app (goodIn_app (goodIn_app (goodIn_app (goodIn_app (goodIn_app (goodIn_app ggL_law_L_asks_1 (goodIn_app ggL_law_L_asks_2 (goodIn_app ggL_law_L_asks_3 (goodIn_app ggL_law_L_asks_4 (goodIn_app ggL_law_L_asks_5 (goodIn_app ggL_law_L_asks_6 (goodIn_app ggL_law_L_asks_7 (goodIn_app ggL_law_L_asks_8 (goodIn_app ggL_law_L_asks_9 (goodIn_app ggL_law_L_asks_10 (goodIn_app ggL_law_L_asks_11 (goodIn_app ggL_law_L_asks_12 (goodIn_app ggL_law_L_asks_13 (goodIn_app ggL_law_L_asks_14 (goodIn_app ggL_law_L_asks_15 (goodIn_app ggL_law_L_asks_16 (goodIn_app ggL_law_L_asks_17 (goodIn_app ggL_law_L_asks_18 ggL_law_L_asks_19)))))))))))))))))) ggL_law_L_asks_20) ggL_law_L_asks_21) ggL_law_L_asks_22) ggL_law_L_asks_23) ggL_law_L_asks_24) ggL_law_L_asks_25) ggL_law_L_asks_26) ggL_law_L_asks_27)
set_option maxRecDepth 20000 in
theorem gL_law_L_asks : GoodIn wsL_law (va_wsS RL 167 yL_asks wsL_asks) := goodIn_app (goodIn_of _ (by decide +kernel)) ggL_law_L_asks
set_option maxRecDepth 20000 in
theorem ggL_law_L_refused_h : GoodIn wsL_law [Cond.code yL_refused cL_refused 7 (some .boolean)] := fun w hw => by
  rw [List.mem_singleton.mp hw]
  exact ⟨List.mem_append_left _ (List.mem_append_left _ (List.mem_append_left _ (List.mem_append_left _ (List.mem_append_left _ (List.mem_append_left _ (List.mem_append_left _ (List.mem_append_left _ (List.mem_append_left _ (List.mem_append_left _ (List.mem_append_left _ (List.mem_append_right _ (List.mem_append_right _ (List.mem_append_right _ (List.mem_append_right _ (List.mem_append_right _ (List.mem_append_right _ (List.mem_append_right _ (List.mem_append_right _ (List.mem_append_right _ (List.mem_append_right _ (List.mem_append_right _ (List.mem_append_right _ (List.mem_append_right _ (List.mem_append_right _ (List.mem_append_right _ (List.mem_append_right _ (List.mem_append_right _ (List.mem_append_right _ (List.mem_append_right _ (List.mem_append_right _ (List.mem_append_right _ (List.mem_append_right _ (List.mem_append_right _ (List.mem_append_right _ (List.mem_append_right _ (List.mem_append_right _ (List.mem_append_right _ (List.mem_append_right _ (List.mem_append_right _ (List.mem_append_right _ (List.mem_append_right _ (List.mem_append_right _ (List.mem_append_right _ (List.mem_append_left _ (List.mem_of_getElem? (i := 10) rfl))))))))))))))))))))))))))))))))))))))))))))), Or.inl rfl⟩
