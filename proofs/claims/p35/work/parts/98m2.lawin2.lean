set_option maxRecDepth 20000 in
theorem wsL_law_r22_in : ∀ w ∈ wsL_law_r22, w ∈ lw_tb2 := fun w h => (goodIn_r wsL_law_r22 [651, 652, 653, 654, 655, 656, 657, 658, 659, 660, 661, 662, 663, 237, 238, 239, 240, 283, 284, 285, 286, 742, 743, 34] (by decide +kernel) (by decide +kernel) w h).1
set_option maxRecDepth 20000 in
theorem wsL_law_r23_in : ∀ w ∈ wsL_law_r23, w ∈ lw_tb2 := fun w h => (goodIn_r wsL_law_r23 [744, 745, 746, 747, 748, 749, 750, 751, 752, 753, 755, 23, 756, 757, 758, 759, 760, 426, 427, 428, 429, 430, 431, 432] (by decide +kernel) (by decide +kernel) w h).1
set_option maxRecDepth 20000 in
theorem wsL_law_r24_in : ∀ w ∈ wsL_law_r24, w ∈ lw_tb2 := fun w h => (goodIn_r wsL_law_r24 [433, 451, 452, 453, 454, 455, 456, 457, 458, 459, 460, 461, 462, 463, 422, 423, 424, 425, 464, 465, 466, 467, 468, 469] (by decide +kernel) (by decide +kernel) w h).1
set_option maxRecDepth 20000 in
theorem wsL_law_r25_in : ∀ w ∈ wsL_law_r25, w ∈ lw_tb2 := fun w h => (goodIn_r wsL_law_r25 [470, 471, 472, 473, 474, 475, 476, 477, 478, 479, 480, 481, 482, 713, 714, 715, 716, 717, 361, 362, 363, 364, 365, 367] (by decide +kernel) (by decide +kernel) w h).1
set_option maxRecDepth 20000 in
theorem wsL_law_r26_in : ∀ w ∈ wsL_law_r26, w ∈ lw_tb2 := fun w h => (goodIn_r wsL_law_r26 [7, 368, 375, 376, 377, 378, 385, 386, 387, 388, 761, 762, 763, 353, 354, 355, 356, 418, 419, 420, 421, 764, 765, 766] (by decide +kernel) (by decide +kernel) w h).1
set_option maxRecDepth 20000 in
theorem wsL_law_r27_in : ∀ w ∈ wsL_law_r27, w ∈ lw_tb2 := fun w h => (goodIn_r wsL_law_r27 [739, 740, 741, 767, 768, 769, 770, 771, 772, 773, 774, 775, 776, 777, 778, 779, 780, 781, 782, 783, 784, 53, 785, 789] (by decide +kernel) (by decide +kernel) w h).1
set_option maxRecDepth 20000 in
theorem wsL_law_r28_in : ∀ w ∈ wsL_law_r28, w ∈ lw_tb2 := fun w h => (goodIn_r wsL_law_r28 [791, 790, 53, 792, 786, 787, 788, 793, 794, 795, 796, 797, 798, 54, 799, 803, 805, 804, 54, 806, 800, 801, 802, 807] (by decide +kernel) (by decide +kernel) w h).1
set_option maxRecDepth 20000 in
theorem wsL_law_r29_in : ∀ w ∈ wsL_law_r29, w ∈ lw_tb2 := fun w h => (goodIn_r wsL_law_r29 [808, 809, 810, 811, 812, 813, 814, 815, 816, 817, 818, 819, 820, 821, 822, 823, 824, 825, 826, 827, 828, 829, 830, 831] (by decide +kernel) (by decide +kernel) w h).1
set_option maxRecDepth 20000 in
theorem wsL_law_r30_in : ∀ w ∈ wsL_law_r30, w ∈ lw_tb2 := fun w h => (goodIn_r wsL_law_r30 [833, 24, 834, 835, 837, 25, 838, 839, 840, 841, 842, 843, 844, 845, 846, 847, 848, 849, 850, 851, 852, 853, 854, 855] (by decide +kernel) (by decide +kernel) w h).1
set_option maxRecDepth 20000 in
theorem wsL_law_r31_in : ∀ w ∈ wsL_law_r31, w ∈ lw_tb2 := fun w h => (goodIn_r wsL_law_r31 [856, 857, 858, 859, 861, 26, 862, 863, 864, 55, 865, 866, 867, 868, 869, 870, 872, 873, 874, 875, 876, 877, 878, 879] (by decide +kernel) (by decide +kernel) w h).1
set_option maxRecDepth 20000 in
theorem wsL_law_r32_in : ∀ w ∈ wsL_law_r32, w ∈ lw_tb2 := fun w h => (goodIn_r wsL_law_r32 [880, 881, 882, 883, 884, 885, 887, 886, 888, 889, 890, 891, 892, 893, 894, 895, 896, 187, 897, 898, 899, 900, 901, 902] (by decide +kernel) (by decide +kernel) w h).1
set_option maxRecDepth 20000 in
theorem wsL_law_r33_in : ∀ w ∈ wsL_law_r33, w ∈ lw_tb2 := fun w h => (goodIn_r wsL_law_r33 [903, 904, 905, 906, 907, 908, 916, 917, 918, 919, 920, 921, 922, 924, 27, 925, 926, 927, 928, 929, 930, 931, 932, 933] (by decide +kernel) (by decide +kernel) w h).1
theorem refused_code : Cond.code yL_refused cL_refused 7 (some .boolean) ∈ tables_1_5 := List.mem_of_getElem? (i := 172) rfl
theorem refused_tb2 : Cond.code yL_refused cL_refused 7 (some .boolean) ∈ lw_tb2 := List.mem_append_right _ (List.mem_append_right _ (List.mem_append_right _ (List.mem_append_right _ (List.mem_append_right _ (List.mem_append_right _ refused_code)))))
set_option maxRecDepth 20000 in
theorem wsL_law_r34_in : ∀ w ∈ wsL_law_r34, w ∈ lw_tb2 := ap_in (a := [Cond.methodLink RX9 222 yX3_codeAt, Cond.instanceMethod yX3_codeAt, Cond.selects RX3 yX3_codeAt yX3_codeAt, Cond.code yX3_codeAt cX3_codeAt 2 (some .int), Cond.methodLink RL 111 yX9_tell, Cond.instanceMethod yX9_tell, Cond.selects RX9 yX9_tell yX9_tell, Cond.code yX9_tell cX9_tell 2 (some .int), Cond.methodLink RL 197 yL_refused, Cond.static yL_refused]) (b := [Cond.code yL_refused cL_refused 7 (some .boolean)] ++ [Cond.methodLink RL 163 yL_reads, Cond.static yL_reads, Cond.code yL_reads cL_reads 3 (some .int), Cond.methodLink RL 7 yJ0_length_8abf5, Cond.methodLink RL 13 yJ0_charAt_5068e, Cond.methodLink RL 201 yL_changes, Cond.static yL_changes, Cond.code yL_changes cL_changes 4 (some .boolean), Cond.classLink RL 136 RJ4, Cond.instantiable RJ4 4, Cond.initialized RJ4, Cond.methodLink RL 138 yJ4_init_da8c8, Cond.instanceMethod yJ4_init_da8c8]) (fun w h => (goodIn_r [Cond.methodLink RX9 222 yX3_codeAt, Cond.instanceMethod yX3_codeAt, Cond.selects RX3 yX3_codeAt yX3_codeAt, Cond.code yX3_codeAt cX3_codeAt 2 (some .int), Cond.methodLink RL 111 yX9_tell, Cond.instanceMethod yX9_tell, Cond.selects RX9 yX9_tell yX9_tell, Cond.code yX9_tell cX9_tell 2 (some .int), Cond.methodLink RL 197 yL_refused, Cond.static yL_refused] [934, 935, 936, 937, 938, 939, 940, 941, 1164, 1165] (by decide +kernel) (by decide +kernel) w h).1) (ap_in (one_in refused_tb2) (fun w h => (goodIn_r [Cond.methodLink RL 163 yL_reads, Cond.static yL_reads, Cond.code yL_reads cL_reads 3 (some .int), Cond.methodLink RL 7 yJ0_length_8abf5, Cond.methodLink RL 13 yJ0_charAt_5068e, Cond.methodLink RL 201 yL_changes, Cond.static yL_changes, Cond.code yL_changes cL_changes 4 (some .boolean), Cond.classLink RL 136 RJ4, Cond.instantiable RJ4 4, Cond.initialized RJ4, Cond.methodLink RL 138 yJ4_init_da8c8, Cond.instanceMethod yJ4_init_da8c8] [1159, 1160, 1161, 1162, 1163, 942, 943, 944, 945, 946, 57, 947, 948] (by decide +kernel) (by decide +kernel) w h).1))
set_option maxRecDepth 20000 in
theorem wsL_law_r35_in : ∀ w ∈ wsL_law_r35, w ∈ lw_tb2 := fun w h => (goodIn_r wsL_law_r35 [949, 950, 951, 56, 952, 953, 954, 664, 962, 963, 955, 956, 957, 958, 959, 960, 961, 976, 977, 978, 979, 980, 1171, 974] (by decide +kernel) (by decide +kernel) w h).1
set_option maxRecDepth 20000 in
theorem wsL_law_r36_in : ∀ w ∈ wsL_law_r36, w ∈ lw_tb2 := fun w h => (goodIn_r wsL_law_r36 [981, 982, 965, 983, 1172, 31, 985, 986, 987, 1173, 29, 989, 990, 991, 1174, 28, 993, 994, 1003, 995, 996, 58, 997, 998] (by decide +kernel) (by decide +kernel) w h).1
set_option maxRecDepth 20000 in
theorem wsL_law_r37_in : ∀ w ∈ wsL_law_r37, w ∈ lw_tb2 := fun w h => (goodIn_r wsL_law_r37 [999, 1000, 1001, 1002, 1004, 1005, 1006, 1007, 1008, 1009, 1010, 1011, 1013, 1014, 1015, 1016, 1018, 1019, 1017, 1020, 1021, 1022, 1023, 1024] (by decide +kernel) (by decide +kernel) w h).1
set_option maxRecDepth 20000 in
theorem wsL_law_r38_in : ∀ w ∈ wsL_law_r38, w ∈ lw_tb2 := fun w h => (goodIn_r wsL_law_r38 [1025, 1026, 1027, 1028, 1029, 1030, 1031, 1032, 1033, 1034, 1035, 1036, 1037, 1175, 33, 1039, 1040, 1041, 1176, 32, 1043, 1044, 1045, 1046] (by decide +kernel) (by decide +kernel) w h).1
set_option maxRecDepth 20000 in
theorem wsL_law_r39_in : ∀ w ∈ wsL_law_r39, w ∈ lw_tb2 := fun w h => (goodIn_r wsL_law_r39 [1177, 30, 1048, 1049, 1050, 1051, 1052, 1053, 1054, 1055, 1056, 1057, 1058, 1059, 1060, 1061, 1062, 1063, 1064, 1065, 1066, 1067, 1068, 1069] (by decide +kernel) (by decide +kernel) w h).1
set_option maxRecDepth 20000 in
theorem wsL_law_r40_in : ∀ w ∈ wsL_law_r40, w ∈ lw_tb2 := fun w h => (goodIn_r wsL_law_r40 [1070, 1071, 1072, 1073, 1074, 1075, 1178, 1076, 1077, 1078, 1079, 1080, 1081, 1082, 1083, 1084, 1086, 1088, 1089, 1090, 1091, 1092, 1093, 1094] (by decide +kernel) (by decide +kernel) w h).1
set_option maxRecDepth 20000 in
theorem wsL_law_r41_in : ∀ w ∈ wsL_law_r41, w ∈ lw_tb2 := fun w h => (goodIn_r wsL_law_r41 [1095, 1098, 1099, 1100, 1101, 1102, 1103, 1104, 1105, 1106, 1107, 1108, 1109, 1110, 964, 1111, 1113, 1114, 1112, 1115, 1116, 1118, 1117, 1119] (by decide +kernel) (by decide +kernel) w h).1
set_option maxRecDepth 20000 in
theorem wsL_law_r42_in : ∀ w ∈ wsL_law_r42, w ∈ lw_tb2 := fun w h => (goodIn_r wsL_law_r42 [1120, 1121, 1122, 1117, 1123, 1124, 1125, 1126, 1127, 1128, 1129, 1130, 1131, 1132, 1133, 1134, 1135, 1136, 1137, 1138, 1139, 1140, 1141, 1142] (by decide +kernel) (by decide +kernel) w h).1
set_option maxRecDepth 20000 in
theorem wsL_law_r43_in : ∀ w ∈ wsL_law_r43, w ∈ lw_tb2 := fun w h => (goodIn_r wsL_law_r43 [1143] (by decide +kernel) (by decide +kernel) w h).1
