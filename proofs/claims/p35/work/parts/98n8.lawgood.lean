set_option maxRecDepth 20000 in
theorem ggL_law_L_refused_1 : GoodIn wsL_law wsL_refused_r1 := goodIn_r _ [634, 635, 527, 636, 637, 638, 639, 640, 2, 641, 18, 128, 129, 130, 17, 131, 109, 458, 197, 198, 199, 49, 200, 201] (by decide +kernel) (by decide +kernel)
set_option maxRecDepth 20000 in
theorem ggL_law_L_refused_2 : GoodIn wsL_law wsL_refused_r2 := goodIn_r _ [202, 203, 642, 277, 278, 279, 50, 643, 644, 645, 646, 647, 648, 649, 650, 651, 652, 653, 654, 655, 656, 657, 658, 217] (by decide +kernel) (by decide +kernel)
set_option maxRecDepth 20000 in
theorem ggL_law_L_refused_3 : GoodIn wsL_law wsL_refused_r3 := goodIn_r _ [218, 219, 220, 114, 156, 157, 158, 159, 204, 169, 170, 171, 172, 173, 174, 659, 660, 661, 662, 663, 664, 665, 666, 667] (by decide +kernel) (by decide +kernel)
set_option maxRecDepth 20000 in
theorem ggL_law_L_refused_4 : GoodIn wsL_law wsL_refused_r4 := goodIn_r _ [668, 669, 670, 184, 185, 186, 187, 27, 35, 23, 188, 189, 190, 191, 115, 192, 193, 194, 195, 196, 205, 206, 207, 208] (by decide +kernel) (by decide +kernel)
set_option maxRecDepth 20000 in
theorem ggL_law_L_refused_5 : GoodIn wsL_law wsL_refused_r5 := goodIn_r _ [209, 210, 211, 212, 213, 214, 215, 216, 51, 221, 222, 223, 224, 225, 226, 227, 228, 229, 230, 231, 232, 233, 234, 235] (by decide +kernel) (by decide +kernel)
set_option maxRecDepth 20000 in
theorem ggL_law_L_refused_6 : GoodIn wsL_law wsL_refused_r6 := goodIn_r _ [236, 237, 238, 239, 240, 241, 53, 242, 243, 244, 245, 246, 247, 248, 249, 52, 250, 251, 252, 253, 116, 254, 255, 256] (by decide +kernel) (by decide +kernel)
set_option maxRecDepth 20000 in
theorem ggL_law_L_refused_7 : GoodIn wsL_law wsL_refused_r7 := goodIn_r _ [257, 117, 258, 259, 260, 26, 261, 68, 262, 263, 7, 264, 265, 55, 56, 57, 266, 267, 268, 269, 270, 271, 272, 273] (by decide +kernel) (by decide +kernel)
set_option maxRecDepth 20000 in
theorem ggL_law_L_refused_8 : GoodIn wsL_law wsL_refused_r8 := goodIn_r _ [274, 275, 276, 280, 281, 282, 34, 283, 284, 91, 92, 93, 22, 94, 95, 671, 672, 673, 674, 450, 459, 460, 461, 462] (by decide +kernel) (by decide +kernel)
set_option maxRecDepth 20000 in
theorem ggL_law_L_refused_9 : GoodIn wsL_law wsL_refused_r9 := goodIn_r _ [487, 488, 489, 490, 491, 478, 675, 676, 677, 678, 593, 679, 165, 166, 167, 680, 562, 563, 564, 681, 161, 162, 163, 617] (by decide +kernel) (by decide +kernel)
set_option maxRecDepth 20000 in
theorem ggL_law_L_refused_10 : GoodIn wsL_law wsL_refused_r10 := goodIn_r _ [618, 619, 620, 451, 452, 453, 466, 682, 683, 684, 685, 686, 545, 546, 547, 548, 549, 550, 551, 552, 687, 688, 689, 690] (by decide +kernel) (by decide +kernel)
set_option maxRecDepth 20000 in
theorem ggL_law_L_refused_11 : GoodIn wsL_law wsL_refused_r11 := goodIn_r _ [691, 692, 693, 694, 695, 696, 697, 698, 699, 700, 701, 702, 703, 704, 705, 706, 707, 708, 709, 710, 711, 712, 713, 714] (by decide +kernel) (by decide +kernel)
set_option maxRecDepth 20000 in
theorem ggL_law_L_refused_12 : GoodIn wsL_law wsL_refused_r12 := goodIn_r _ [31, 715, 716, 717, 30, 718, 561, 565, 153, 154, 155, 160, 164, 719, 720, 721, 722, 723, 724, 725, 726, 727, 728, 729] (by decide +kernel) (by decide +kernel)
set_option maxRecDepth 20000 in
theorem ggL_law_L_refused_13 : GoodIn wsL_law wsL_refused_r13 := goodIn_r _ [730, 731, 732, 733, 734, 735, 736, 737, 738, 739, 740, 741, 742, 743, 744, 745, 746, 747, 748, 749, 750, 751, 752, 753] (by decide +kernel) (by decide +kernel)
set_option maxRecDepth 20000 in
theorem ggL_law_L_refused_14 : GoodIn wsL_law wsL_refused_r14 := goodIn_r _ [754, 755, 756, 39, 757, 758, 759, 38, 760, 761, 762, 763, 764, 765, 766, 767, 768, 769, 81, 770, 771, 772, 773, 774] (by decide +kernel) (by decide +kernel)
set_option maxRecDepth 20000 in
theorem ggL_law_L_refused_15 : GoodIn wsL_law wsL_refused_r15 := goodIn_r _ [775, 776, 777, 778, 320, 321, 322, 323, 324, 325, 326, 327, 328, 329, 330, 779, 332, 333, 334, 335, 336, 337, 338, 339] (by decide +kernel) (by decide +kernel)
set_option maxRecDepth 20000 in
theorem ggL_law_L_refused_16 : GoodIn wsL_law wsL_refused_r16 := goodIn_r _ [340, 341, 342, 343, 344, 345, 346, 347, 348, 349, 350, 351, 352, 353, 354, 355, 356, 357, 358, 359, 360, 361, 362, 363] (by decide +kernel) (by decide +kernel)
set_option maxRecDepth 20000 in
theorem ggL_law_L_refused_17 : GoodIn wsL_law wsL_refused_r17 := goodIn_r _ [364, 365, 366, 367, 780, 781, 782, 783, 463, 464, 465, 784, 785, 786, 787, 788, 789, 790, 791, 792, 793, 794, 795, 796] (by decide +kernel) (by decide +kernel)
set_option maxRecDepth 20000 in
theorem ggL_law_L_refused_18 : GoodIn wsL_law wsL_refused_r18 := goodIn_r _ [797, 798, 799, 566, 567, 568, 569, 553, 554, 555, 556, 557, 558, 559, 560, 570, 571, 572, 573, 574, 575, 576, 577, 72] (by decide +kernel) (by decide +kernel)
set_option maxRecDepth 20000 in
theorem ggL_law_L_refused_19 : GoodIn wsL_law wsL_refused_r19 := goodIn_r _ [578, 579, 580, 581, 582, 583, 584, 585, 586, 587, 588, 589, 590, 591, 592, 529, 530, 531, 532, 43, 533, 534, 535, 42] (by decide +kernel) (by decide +kernel)
set_option maxRecDepth 20000 in
theorem ggL_law_L_refused_20 : GoodIn wsL_law wsL_refused_r20 := goodIn_r _ [536, 86, 537, 538, 539, 540, 441, 541, 542, 543, 544, 85, 517, 518, 519, 520, 140, 141, 142, 143, 101, 102, 103, 104] (by decide +kernel) (by decide +kernel)
set_option maxRecDepth 20000 in
theorem ggL_law_L_refused_21 : GoodIn wsL_law wsL_refused_r21 := goodIn_r _ [100, 63, 105, 106, 107, 108, 110, 111, 112, 113, 425, 426, 427, 428, 429, 430, 431, 432, 433, 434, 435, 436, 437, 438] (by decide +kernel) (by decide +kernel)
set_option maxRecDepth 20000 in
theorem ggL_law_L_refused_22 : GoodIn wsL_law wsL_refused_r22 := goodIn_r _ [439, 440, 175, 176, 177, 178, 179, 180, 181, 182, 183, 6, 8, 521, 522, 523, 524, 446, 447, 448, 449, 454, 455, 456] (by decide +kernel) (by decide +kernel)
set_option maxRecDepth 20000 in
theorem ggL_law_L_refused_23 : GoodIn wsL_law wsL_refused_r23 := goodIn_r _ [457, 467, 468, 469, 470, 471, 472, 473, 474, 475, 476, 477, 613, 614, 615, 616, 479, 480, 481, 482, 630, 631, 632, 633] (by decide +kernel) (by decide +kernel)
set_option maxRecDepth 20000 in
theorem ggL_law_L_refused_24 : GoodIn wsL_law wsL_refused_r24 := goodIn_r _ [483, 484, 485, 486, 492, 493, 494, 495, 136, 137, 138, 139, 144, 145, 146, 147, 148, 149, 150, 151, 152, 168, 285, 286] (by decide +kernel) (by decide +kernel)
set_option maxRecDepth 20000 in
theorem ggL_law_L_refused_25 : GoodIn wsL_law wsL_refused_r25 := goodIn_r _ [287, 288, 289, 290, 291, 292, 77, 803, 804, 805, 806, 807, 293, 294, 295, 296, 297, 298, 299, 300, 301, 302, 303, 304] (by decide +kernel) (by decide +kernel)
set_option maxRecDepth 20000 in
theorem ggL_law_L_refused_26 : GoodIn wsL_law wsL_refused_r26 := goodIn_r _ [305, 306, 307, 308, 309, 310, 311, 312, 313, 314, 315, 316, 317, 318, 319, 331, 368, 369, 370, 371, 372, 373, 374, 375] (by decide +kernel) (by decide +kernel)
set_option maxRecDepth 20000 in
theorem ggL_law_L_refused_27 : GoodIn wsL_law wsL_refused_r27 := goodIn_r _ [376, 377, 378, 379, 380, 381, 382, 383, 384, 385, 386, 387, 388, 389, 390, 391, 392, 393, 394, 395, 396, 397, 398, 399] (by decide +kernel) (by decide +kernel)
set_option maxRecDepth 20000 in
theorem ggL_law_L_refused_28 : GoodIn wsL_law wsL_refused_r28 := goodIn_r _ [400, 401, 402, 403, 404, 405, 406, 407, 408, 409, 410, 411, 412, 413, 414, 415, 416, 417, 418, 419, 420, 421, 422, 423] (by decide +kernel) (by decide +kernel)
set_option maxRecDepth 20000 in
theorem ggL_law_L_refused_29 : GoodIn wsL_law wsL_refused_r29 := goodIn_r _ [424, 442, 443, 444, 445, 496, 497, 498, 499, 500, 501, 502, 503, 504, 505, 506, 507, 508, 509, 510, 511, 512, 513, 514] (by decide +kernel) (by decide +kernel)
set_option maxRecDepth 20000 in
theorem ggL_law_L_refused_30 : GoodIn wsL_law wsL_refused_r30 := goodIn_r _ [515, 516, 610, 611, 612, 525, 526, 528] (by decide +kernel) (by decide +kernel)
set_option maxRecDepth 20000 in
theorem ggL_law_L_refused_31 : GoodIn wsL_law wsX90 := goodIn_r _ [1009, 1010, 1011, 1012, 1013, 1014, 1015, 1016, 1017] (by decide +kernel) (by decide +kernel)
set_option maxRecDepth 20000 in
theorem ggL_law_L_refused_32 : GoodIn wsL_law wsX20 := goodIn_r _ [1018, 1019, 1020, 1021, 1022, 1023, 1024, 1025, 1026, 1027] (by decide +kernel) (by decide +kernel)
set_option maxRecDepth 20000 in
theorem ggL_law_L_refused_33 : GoodIn wsL_law wsX00 := goodIn_r _ [1031] (by decide +kernel) (by decide +kernel)
set_option maxRecDepth 20000 in
theorem ggL_law_L_refused_34 : GoodIn wsL_law wsX80 := goodIn_r _ [1033, 1034, 1035, 1036, 1037, 1038, 1039, 1040] (by decide +kernel) (by decide +kernel)
set_option maxRecDepth 20000 in
theorem ggL_law_L_refused_35 : GoodIn wsL_law wsX40 := goodIn_r _ [1028, 1029, 1030] (by decide +kernel) (by decide +kernel)
set_option maxRecDepth 20000 in
theorem ggL_law_L_refused_36 : GoodIn wsL_law wsX30 := goodIn_r _ [1041, 1042] (by decide +kernel) (by decide +kernel)
set_option maxRecDepth 20000 in
theorem ggL_law_L_refused_37 : GoodIn wsL_law wsJ00 := goodIn_r _ [1046, 1047, 1048, 1049] (by decide +kernel) (by decide +kernel)
set_option maxRecDepth 20000 in
theorem ggL_law_L_refused_38 : GoodIn wsL_law wsX10 := goodIn_r _ [1032] (by decide +kernel) (by decide +kernel)
set_option maxRecDepth 20000 in
theorem ggL_law_L_refused_39 : GoodIn wsL_law wsX60 := goodIn_r _ [1043, 1044, 1045] (by decide +kernel) (by decide +kernel)
set_option maxRecDepth 20000 in
theorem ggL_law_L_refused : GoodIn wsL_law wsL_refused := goodIn_app (a := [Cond.code yL_refused cL_refused 7 (some .boolean)]) ggL_law_L_refused_h (goodIn_app (goodIn_app (goodIn_app (goodIn_app (goodIn_app (goodIn_app (goodIn_app (goodIn_app (goodIn_app (goodIn_app ggL_law_L_refused_1 (goodIn_app ggL_law_L_refused_2 (goodIn_app ggL_law_L_refused_3 (goodIn_app ggL_law_L_refused_4 (goodIn_app ggL_law_L_refused_5 (goodIn_app ggL_law_L_refused_6 (goodIn_app ggL_law_L_refused_7 (goodIn_app ggL_law_L_refused_8 (goodIn_app ggL_law_L_refused_9 (goodIn_app ggL_law_L_refused_10 (goodIn_app ggL_law_L_refused_11 (goodIn_app ggL_law_L_refused_12 (goodIn_app ggL_law_L_refused_13 (goodIn_app ggL_law_L_refused_14 (goodIn_app ggL_law_L_refused_15 (goodIn_app ggL_law_L_refused_16 (goodIn_app ggL_law_L_refused_17 (goodIn_app ggL_law_L_refused_18 (goodIn_app ggL_law_L_refused_19 (goodIn_app ggL_law_L_refused_20 (goodIn_app ggL_law_L_refused_21 (goodIn_app ggL_law_L_refused_22 (goodIn_app ggL_law_L_refused_23 (goodIn_app ggL_law_L_refused_24 (goodIn_app ggL_law_L_refused_25 (goodIn_app ggL_law_L_refused_26 (goodIn_app ggL_law_L_refused_27 (goodIn_app ggL_law_L_refused_28 (goodIn_app ggL_law_L_refused_29 ggL_law_L_refused_30))))))))))))))))))))))))))))) ggL_law_L_refused_31) ggL_law_L_refused_32) ggL_law_L_refused_33) ggL_law_L_refused_34) ggL_law_L_refused_35) ggL_law_L_refused_36) ggL_law_L_refused_37) ggL_law_L_refused_38) ggL_law_L_refused_39)
set_option maxRecDepth 20000 in
theorem gL_law_L_refused : GoodIn wsL_law (va_wsS RL 197 yL_refused wsL_refused) := goodIn_app (goodIn_of _ (by decide +kernel)) ggL_law_L_refused
set_option maxRecDepth 20000 in
theorem ggL_law_L_at : GoodIn wsL_law wsL_at := goodIn_r _ [626] (by decide +kernel) (by decide +kernel)
set_option maxRecDepth 20000 in
theorem gL_law_L_at : GoodIn wsL_law (va_wsS RL 37 yL_at wsL_at) := goodIn_app (goodIn_of _ (by decide +kernel)) ggL_law_L_at
