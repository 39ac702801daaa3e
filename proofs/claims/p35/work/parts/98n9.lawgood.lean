set_option maxRecDepth 20000 in
theorem ggL_law_L_changes_h : GoodIn wsL_law [Cond.code yL_changes cL_changes 4 (some .boolean)] := goodIn_r _ [810] (by decide +kernel) (by decide +kernel)
set_option maxRecDepth 20000 in
theorem ggL_law_L_changes_1 : GoodIn wsL_law wsL_changes_r1 := goodIn_r _ [811, 812, 813, 184, 185, 186, 2, 187, 18, 27, 35, 23, 188, 189, 190, 17, 191, 115, 128, 129, 130, 131, 109, 192] (by decide +kernel) (by decide +kernel)
set_option maxRecDepth 20000 in
theorem ggL_law_L_changes_2 : GoodIn wsL_law wsL_changes_r2 := goodIn_r _ [193, 194, 195, 196, 197, 198, 199, 49, 200, 201, 202, 203, 204, 169, 170, 171, 172, 173, 174, 205, 206, 207, 208, 209] (by decide +kernel) (by decide +kernel)
set_option maxRecDepth 20000 in
theorem ggL_law_L_changes_3 : GoodIn wsL_law wsL_changes_r3 := goodIn_r _ [210, 211, 212, 213, 214, 215, 216, 51, 217, 218, 219, 220, 114, 156, 157, 158, 159, 221, 222, 223, 224, 225, 226, 227] (by decide +kernel) (by decide +kernel)
set_option maxRecDepth 20000 in
theorem ggL_law_L_changes_4 : GoodIn wsL_law wsL_changes_r4 := goodIn_r _ [228, 229, 230, 231, 232, 233, 234, 235, 236, 237, 238, 239, 240, 241, 53, 242, 243, 244, 245, 246, 247, 248, 249, 52] (by decide +kernel) (by decide +kernel)
set_option maxRecDepth 20000 in
theorem ggL_law_L_changes_5 : GoodIn wsL_law wsL_changes_r5 := goodIn_r _ [250, 251, 252, 253, 116, 254, 255, 256, 257, 117, 258, 259, 260, 26, 261, 68, 262, 263, 7, 264, 265, 55, 56, 57] (by decide +kernel) (by decide +kernel)
set_option maxRecDepth 20000 in
theorem ggL_law_L_changes_6 : GoodIn wsL_law wsL_changes_r6 := goodIn_r _ [266, 267, 268, 269, 270, 271, 272, 273, 274, 275, 276, 277, 278, 279, 50, 280, 281, 282, 34, 283, 284, 91, 92, 93] (by decide +kernel) (by decide +kernel)
set_option maxRecDepth 20000 in
theorem ggL_law_L_changes_7 : GoodIn wsL_law wsL_changes_r7 := goodIn_r _ [22, 94, 95, 627, 628, 527, 629, 517, 518, 519, 520, 140, 141, 142, 143, 101, 102, 103, 104, 100, 63, 105, 106, 107] (by decide +kernel) (by decide +kernel)
set_option maxRecDepth 20000 in
theorem ggL_law_L_changes_8 : GoodIn wsL_law wsL_changes_r8 := goodIn_r _ [108, 110, 111, 112, 113, 425, 426, 427, 428, 429, 430, 431, 432, 433, 434, 435, 436, 43, 437, 438, 439, 42, 440, 85] (by decide +kernel) (by decide +kernel)
set_option maxRecDepth 20000 in
theorem ggL_law_L_changes_9 : GoodIn wsL_law wsL_changes_r9 := goodIn_r _ [86, 441, 175, 176, 177, 178, 179, 180, 181, 182, 183, 6, 8, 521, 522, 523, 524, 446, 447, 448, 449, 450, 451, 452] (by decide +kernel) (by decide +kernel)
set_option maxRecDepth 20000 in
theorem ggL_law_L_changes_10 : GoodIn wsL_law wsL_changes_r10 := goodIn_r _ [453, 454, 455, 456, 457, 458, 459, 460, 461, 462, 463, 464, 465, 466, 467, 468, 469, 470, 471, 472, 473, 474, 475, 476] (by decide +kernel) (by decide +kernel)
set_option maxRecDepth 20000 in
theorem ggL_law_L_changes_11 : GoodIn wsL_law wsL_changes_r11 := goodIn_r _ [477, 478, 613, 614, 615, 616, 479, 480, 481, 482, 630, 631, 632, 633, 483, 484, 485, 486, 487, 488, 489, 490, 491, 492] (by decide +kernel) (by decide +kernel)
set_option maxRecDepth 20000 in
theorem ggL_law_L_changes_12 : GoodIn wsL_law wsL_changes_r12 := goodIn_r _ [493, 494, 495, 594, 595, 596, 597, 598, 599, 600, 601, 602, 603, 604, 605, 606, 607, 608, 609, 136, 137, 138, 139, 144] (by decide +kernel) (by decide +kernel)
set_option maxRecDepth 20000 in
theorem ggL_law_L_changes_13 : GoodIn wsL_law wsL_changes_r13 := goodIn_r _ [145, 146, 147, 148, 149, 150, 151, 152, 153, 154, 155, 160, 161, 162, 163, 164, 165, 166, 167, 168, 814, 815, 816, 817] (by decide +kernel) (by decide +kernel)
set_option maxRecDepth 20000 in
theorem ggL_law_L_changes_14 : GoodIn wsL_law wsL_changes_r14 := goodIn_r _ [818, 819, 820, 821, 13, 14, 822, 823, 824, 825, 826, 827, 353, 828, 829, 830, 831, 832, 833, 834, 835, 836, 837, 838] (by decide +kernel) (by decide +kernel)
set_option maxRecDepth 20000 in
theorem ggL_law_L_changes_15 : GoodIn wsL_law wsL_changes_r15 := goodIn_r _ [839, 840, 841, 842, 843, 844, 845, 846, 847, 848, 849, 850, 851, 852, 853, 854, 855, 856, 857, 858, 859, 860, 861, 862] (by decide +kernel) (by decide +kernel)
set_option maxRecDepth 20000 in
theorem ggL_law_L_changes_16 : GoodIn wsL_law wsL_changes_r16 := goodIn_r _ [863, 864, 865, 866, 867, 868, 869, 870, 871, 872, 873, 874, 875, 876, 877, 878, 879, 880, 881, 882, 883, 884, 885, 886] (by decide +kernel) (by decide +kernel)
set_option maxRecDepth 20000 in
theorem ggL_law_L_changes_17 : GoodIn wsL_law wsL_changes_r17 := goodIn_r _ [365, 887, 888, 889, 358, 359, 360, 890, 891, 322, 892, 346, 893, 894, 349, 895, 896, 897, 898, 366, 367, 899, 320, 321] (by decide +kernel) (by decide +kernel)
set_option maxRecDepth 20000 in
theorem ggL_law_L_changes_18 : GoodIn wsL_law wsL_changes_r18 := goodIn_r _ [323, 324, 325, 326, 327, 328, 329, 330, 900, 901, 902, 903, 904, 905, 906, 907, 908, 909, 910, 911, 912, 913, 914, 915] (by decide +kernel) (by decide +kernel)
set_option maxRecDepth 20000 in
theorem ggL_law_L_changes_19 : GoodIn wsL_law wsL_changes_r19 := goodIn_r _ [916, 917, 341, 918, 919, 920, 921, 922, 923, 924, 925, 926, 927, 928, 929, 930, 931, 932, 933, 934, 935, 936, 937, 938] (by decide +kernel) (by decide +kernel)
set_option maxRecDepth 20000 in
theorem ggL_law_L_changes_20 : GoodIn wsL_law wsL_changes_r20 := goodIn_r _ [939, 940, 941, 942, 943, 944, 945, 946, 947, 948, 949, 950, 951, 952, 953, 954, 955, 956, 957, 958, 959, 960, 961, 962] (by decide +kernel) (by decide +kernel)
set_option maxRecDepth 20000 in
theorem ggL_law_L_changes_21 : GoodIn wsL_law wsL_changes_r21 := goodIn_r _ [963, 964, 965, 966, 967, 968, 969, 970, 971, 972, 973, 974, 975, 976, 977, 978, 979, 980, 981, 982, 983, 984, 985, 986] (by decide +kernel) (by decide +kernel)
set_option maxRecDepth 20000 in
theorem ggL_law_L_changes_22 : GoodIn wsL_law wsL_changes_r22 := goodIn_r _ [987, 988, 989, 990, 991, 992, 993, 994, 995, 996, 997, 998, 999, 1000, 1001, 1002, 1003, 1004, 362, 363, 364, 1005, 1006, 1007] (by decide +kernel) (by decide +kernel)
set_option maxRecDepth 20000 in
theorem ggL_law_L_changes_23 : GoodIn wsL_law wsL_changes_r23 := goodIn_r _ [1008, 803, 804, 805, 806, 807, 332, 333, 334, 335, 336, 337, 338, 339, 340, 342, 343, 344, 345, 347, 348, 350, 351, 352] (by decide +kernel) (by decide +kernel)
set_option maxRecDepth 20000 in
theorem ggL_law_L_changes_24 : GoodIn wsL_law wsL_changes_r24 := goodIn_r _ [354, 355, 356, 357, 361, 285, 286, 287, 288, 289, 290, 291, 292, 77, 293, 294, 295, 296, 297, 298, 299, 300, 301, 302] (by decide +kernel) (by decide +kernel)
set_option maxRecDepth 20000 in
theorem ggL_law_L_changes_25 : GoodIn wsL_law wsL_changes_r25 := goodIn_r _ [303, 304, 305, 306, 307, 308, 309, 310, 311, 312, 313, 314, 315, 316, 317, 318, 319, 331, 368, 369, 370, 371, 372, 373] (by decide +kernel) (by decide +kernel)
set_option maxRecDepth 20000 in
theorem ggL_law_L_changes_26 : GoodIn wsL_law wsL_changes_r26 := goodIn_r _ [374, 375, 376, 377, 378, 379, 380, 381, 382, 383, 384, 385, 386, 387, 388, 389, 390, 391, 392, 393, 394, 395, 396, 397] (by decide +kernel) (by decide +kernel)
set_option maxRecDepth 20000 in
theorem ggL_law_L_changes_27 : GoodIn wsL_law wsL_changes_r27 := goodIn_r _ [398, 399, 400, 401, 402, 403, 404, 405, 406, 407, 408, 409, 410, 411, 412, 413, 414, 415, 416, 417, 418, 419, 420, 421] (by decide +kernel) (by decide +kernel)
set_option maxRecDepth 20000 in
theorem ggL_law_L_changes_28 : GoodIn wsL_law wsL_changes_r28 := goodIn_r _ [422, 423, 424, 442, 443, 444, 445, 496, 497, 498, 499, 500, 501, 502, 503, 504, 505, 506, 507, 508, 509, 510, 511, 512] (by decide +kernel) (by decide +kernel)
set_option maxRecDepth 20000 in
theorem ggL_law_L_changes_29 : GoodIn wsL_law wsL_changes_r29 := goodIn_r _ [513, 514, 515, 516] (by decide +kernel) (by decide +kernel)
set_option maxRecDepth 20000 in
theorem ggL_law_L_changes_30 : GoodIn wsL_law wsJ40 := goodIn_r _ [1050, 1051, 1052, 1053] (by decide +kernel) (by decide +kernel)
set_option maxRecDepth 20000 in
theorem ggL_law_L_changes_31 : GoodIn wsL_law wsX90 := goodIn_r _ [1009, 1010, 1011, 1012, 1013, 1014, 1015, 1016, 1017] (by decide +kernel) (by decide +kernel)
set_option maxRecDepth 20000 in
theorem ggL_law_L_changes_32 : GoodIn wsL_law wsX20 := goodIn_r _ [1018, 1019, 1020, 1021, 1022, 1023, 1024, 1025, 1026, 1027] (by decide +kernel) (by decide +kernel)
set_option maxRecDepth 20000 in
theorem ggL_law_L_changes_33 : GoodIn wsL_law wsX00 := goodIn_r _ [1031] (by decide +kernel) (by decide +kernel)
set_option maxRecDepth 20000 in
theorem ggL_law_L_changes_34 : GoodIn wsL_law wsX80 := goodIn_r _ [1033, 1034, 1035, 1036, 1037, 1038, 1039, 1040] (by decide +kernel) (by decide +kernel)
set_option maxRecDepth 20000 in
theorem ggL_law_L_changes_35 : GoodIn wsL_law wsX40 := goodIn_r _ [1028, 1029, 1030] (by decide +kernel) (by decide +kernel)
set_option maxRecDepth 20000 in
theorem ggL_law_L_changes_36 : GoodIn wsL_law wsX60 := goodIn_r _ [1043, 1044, 1045] (by decide +kernel) (by decide +kernel)
set_option maxRecDepth 20000 in
theorem ggL_law_L_changes_37 : GoodIn wsL_law wsJ00 := goodIn_r _ [1046, 1047, 1048, 1049] (by decide +kernel) (by decide +kernel)
set_option maxRecDepth 20000 in
theorem ggL_law_L_changes : GoodIn wsL_law wsL_changes := goodIn_app (a := [Cond.code yL_changes cL_changes 4 (some .boolean)]) ggL_law_L_changes_h (goodIn_app (goodIn_app (goodIn_app (goodIn_app (goodIn_app (goodIn_app (goodIn_app (goodIn_app (goodIn_app ggL_law_L_changes_1 (goodIn_app ggL_law_L_changes_2 (goodIn_app ggL_law_L_changes_3 (goodIn_app ggL_law_L_changes_4 (goodIn_app ggL_law_L_changes_5 (goodIn_app ggL_law_L_changes_6 (goodIn_app ggL_law_L_changes_7 (goodIn_app ggL_law_L_changes_8 (goodIn_app ggL_law_L_changes_9 (goodIn_app ggL_law_L_changes_10 (goodIn_app ggL_law_L_changes_11 (goodIn_app ggL_law_L_changes_12 (goodIn_app ggL_law_L_changes_13 (goodIn_app ggL_law_L_changes_14 (goodIn_app ggL_law_L_changes_15 (goodIn_app ggL_law_L_changes_16 (goodIn_app ggL_law_L_changes_17 (goodIn_app ggL_law_L_changes_18 (goodIn_app ggL_law_L_changes_19 (goodIn_app ggL_law_L_changes_20 (goodIn_app ggL_law_L_changes_21 (goodIn_app ggL_law_L_changes_22 (goodIn_app ggL_law_L_changes_23 (goodIn_app ggL_law_L_changes_24 (goodIn_app ggL_law_L_changes_25 (goodIn_app ggL_law_L_changes_26 (goodIn_app ggL_law_L_changes_27 (goodIn_app ggL_law_L_changes_28 ggL_law_L_changes_29)))))))))))))))))))))))))))) ggL_law_L_changes_30) ggL_law_L_changes_31) ggL_law_L_changes_32) ggL_law_L_changes_33) ggL_law_L_changes_34) ggL_law_L_changes_35) ggL_law_L_changes_36) ggL_law_L_changes_37)
set_option maxRecDepth 20000 in
theorem gL_law_L_changes : GoodIn wsL_law (va_wsS RL 201 yL_changes wsL_changes) := goodIn_app (goodIn_of _ (by decide +kernel)) ggL_law_L_changes
