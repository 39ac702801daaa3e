set_option maxRecDepth 20000 in
theorem ggL_law_X10_flickers : GoodIn wsL_law wsX10_flickers := goodIn_r _ [644, 272, 273, 274, 5, 275, 89, 169, 170, 171, 276, 277, 278, 279, 280, 281, 282, 283, 593, 594, 595, 596, 440, 441, 442, 443, 94, 444, 445, 446, 447, 288, 289, 290, 291, 300, 301, 302, 303, 448, 449, 450, 451, 452, 453, 454, 455, 456, 457, 458, 585, 586, 587, 588, 91, 177, 178, 179, 180, 589, 590, 591, 592, 436, 437, 438, 439, 597, 598, 599, 600, 1122, 1123, 1124, 1125, 1126, 1127, 1128, 1129, 1130, 1131, 1132, 1133, 1134, 1135, 1136, 1137, 1138, 1139, 1140, 1141, 1142, 1143, 1144, 1145] (by decide +kernel) (by decide +kernel)
set_option maxRecDepth 20000 in
theorem gL_law_X10_flickers : GoodIn wsL_law (wsV RL 82 RX10 yX10_flickers wsX10_flickers) := goodIn_app (goodIn_of _ (by decide +kernel)) ggL_law_X10_flickers
set_option maxRecDepth 20000 in
theorem ggL_law_X9_switchesOf : GoodIn wsL_law wsX9_switchesOf := goodIn_r _ [648, 15, 203, 204, 205, 14, 206, 118, 649, 650, 236, 651, 243, 244, 245, 246, 652, 215, 216, 217, 46, 218, 375, 376, 377, 240, 241, 242, 247, 248, 249, 250, 48, 238, 2, 239, 1113, 1114, 1115, 1116, 1117, 1118, 1119, 1120, 1121, 1146, 1147, 1148, 1149, 1150, 1151, 1152, 1153, 1154, 1155] (by decide +kernel) (by decide +kernel)
set_option maxRecDepth 20000 in
theorem gL_law_X9_switchesOf : GoodIn wsL_law (wsV RL 83 RX9 yX9_switchesOf wsX9_switchesOf) := goodIn_app (goodIn_of _ (by decide +kernel)) ggL_law_X9_switchesOf
set_option maxRecDepth 20000 in
theorem ggL_law_X10_switchesOf : GoodIn wsL_law wsX10_switchesOf := goodIn_r _ [656, 272, 273, 274, 5, 275, 89, 169, 170, 171, 657, 658, 659, 660, 95, 394, 395, 396, 397, 288, 289, 290, 291, 280, 281, 282, 283, 276, 277, 278, 279, 1122, 1123, 1124, 1125, 1126, 1127, 1128, 1129, 1130, 1131, 1132, 1133, 1134, 1135, 1136, 1137, 1138, 1139, 1140, 1141, 1142, 1143, 1144, 1145] (by decide +kernel) (by decide +kernel)
set_option maxRecDepth 20000 in
theorem gL_law_X10_switchesOf : GoodIn wsL_law (wsV RL 86 RX10 yX10_switchesOf wsX10_switchesOf) := goodIn_app (goodIn_of _ (by decide +kernel)) ggL_law_X10_switchesOf
set_option maxRecDepth 20000 in
theorem ggL_law_X9_table : GoodIn wsL_law wsX9_table := goodIn_r _ [664, 15, 203, 204, 205, 14, 206, 118, 665, 666, 667, 2, 668, 24, 214, 215, 216, 217, 46, 218, 518, 519, 520, 23, 521, 65, 522, 52, 53, 54, 523, 524, 525, 526, 527, 155, 528, 529, 530, 227, 228, 229, 48, 531, 532, 533, 534, 535, 464, 465, 466, 47, 649, 650, 236, 651, 243, 244, 245, 246, 652, 375, 376, 377, 240, 241, 242, 247, 248, 249, 250, 238, 239, 345, 346, 347, 348, 349, 350, 351, 669, 670, 671, 672, 673, 674, 675, 676, 677, 678, 679, 680, 681, 682, 683, 684, 685, 686, 687, 688, 424, 425, 426, 1113, 1114, 1115, 1116, 1117, 1118, 1119, 1120, 1121, 1146, 1147, 1148, 1149, 1150, 1151, 1152, 1153, 1154, 1155, 1159] (by decide +kernel) (by decide +kernel)
set_option maxRecDepth 20000 in
theorem gL_law_X9_table : GoodIn wsL_law (wsV RL 87 RX9 yX9_table wsX9_table) := goodIn_app (goodIn_of _ (by decide +kernel)) ggL_law_X9_table
set_option maxRecDepth 20000 in
theorem ggL_law_X10_table : GoodIn wsL_law wsX10_table := goodIn_r _ [692, 272, 273, 274, 5, 275, 89, 169, 170, 171, 276, 277, 278, 279, 280, 281, 282, 283, 540, 541, 542, 543, 95, 390, 391, 392, 393, 394, 395, 396, 397, 288, 289, 290, 291, 544, 545, 546, 547, 548, 527, 155, 528, 657, 658, 659, 660, 402, 346, 347, 348, 349, 350, 351, 693, 694, 695, 696, 448, 449, 450, 1122, 1123, 1124, 1125, 1126, 1127, 1128, 1129, 1130, 1131, 1132, 1133, 1134, 1135, 1136, 1137, 1138, 1139, 1140, 1141, 1142, 1143, 1144, 1145] (by decide +kernel) (by decide +kernel)
set_option maxRecDepth 20000 in
theorem gL_law_X10_table : GoodIn wsL_law (wsV RL 90 RX10 yX10_table wsX10_table) := goodIn_app (goodIn_of _ (by decide +kernel)) ggL_law_X10_table
set_option maxRecDepth 20000 in
theorem ggL_law_X9_tableAgain : GoodIn wsL_law wsX9_tableAgain := goodIn_r _ [700, 15, 24, 203, 204, 205, 14, 206, 118, 665, 666, 667, 2, 668, 214, 215, 216, 217, 46, 218, 518, 519, 520, 23, 521, 65, 522, 52, 53, 54, 523, 524, 525, 526, 527, 155, 528, 529, 530, 227, 228, 229, 48, 531, 532, 533, 534, 535, 464, 465, 466, 47, 649, 650, 236, 651, 243, 244, 245, 246, 652, 375, 376, 377, 240, 241, 242, 247, 248, 249, 250, 238, 239, 345, 346, 347, 348, 349, 350, 351, 701, 702, 671, 703, 704, 673, 674, 705, 477, 478, 479, 123, 675, 676, 677, 706, 416, 417, 418, 336, 337, 338, 339, 419, 420, 421, 422, 423, 424, 425, 426, 1113, 1114, 1115, 1116, 1117, 1118, 1119, 1120, 1121, 1146, 1147, 1148, 1149, 1150, 1151, 1152, 1153, 1154, 1155, 1159] (by decide +kernel) (by decide +kernel)
set_option maxRecDepth 20000 in
theorem gL_law_X9_tableAgain : GoodIn wsL_law (wsV RL 91 RX9 yX9_tableAgain wsX9_tableAgain) := goodIn_app (goodIn_of _ (by decide +kernel)) ggL_law_X9_tableAgain
set_option maxRecDepth 20000 in
theorem ggL_law_X10_tableAgain : GoodIn wsL_law wsX10_tableAgain := goodIn_r _ [710, 711, 690, 691, 5, 692, 272, 273, 274, 275, 89, 169, 170, 171, 276, 277, 278, 279, 280, 281, 282, 283, 540, 541, 542, 543, 95, 390, 391, 392, 393, 394, 395, 396, 397, 288, 289, 290, 291, 544, 545, 546, 547, 548, 527, 155, 528, 657, 658, 659, 660, 402, 346, 347, 348, 349, 350, 351, 693, 694, 695, 696, 448, 449, 450, 1122, 1123, 1124, 1125, 1126, 1127, 1128, 1129, 1130, 1131, 1132, 1133, 1134, 1135, 1136, 1137, 1138, 1139, 1140, 1141, 1142, 1143, 1144, 1145] (by decide +kernel) (by decide +kernel)
set_option maxRecDepth 20000 in
theorem gL_law_X10_tableAgain : GoodIn wsL_law (wsV RL 94 RX10 yX10_tableAgain wsX10_tableAgain) := goodIn_app (goodIn_of _ (by decide +kernel)) ggL_law_X10_tableAgain
set_option maxRecDepth 20000 in
theorem ggL_law_X9_append : GoodIn wsL_law wsX9_append := goodIn_r _ [715, 32, 716, 717, 718, 31, 719, 720, 75, 1113, 1114, 1115, 1116, 1117, 1118, 1119, 1120, 1121, 1161, 1162, 1163, 1164, 1165, 1166, 1167, 1168] (by decide +kernel) (by decide +kernel)
set_option maxRecDepth 20000 in
theorem gL_law_X9_append : GoodIn wsL_law (wsV RL 95 RX9 yX9_append wsX9_append) := goodIn_app (goodIn_of _ (by decide +kernel)) ggL_law_X9_append
set_option maxRecDepth 20000 in
theorem ggL_law_X10_append : GoodIn wsL_law wsX10_append := goodIn_r _ [724, 725, 101, 169, 170, 5, 171, 1122, 1123, 1124, 1125, 1126, 1127, 1128, 1129, 1130, 1131, 1132, 1133, 1134, 1135, 1136, 1137, 1138, 1139, 1140, 1141, 1142, 1143, 1144, 1145] (by decide +kernel) (by decide +kernel)
set_option maxRecDepth 20000 in
theorem gL_law_X10_append : GoodIn wsL_law (wsV RL 98 RX10 yX10_append wsX10_append) := goodIn_app (goodIn_of _ (by decide +kernel)) ggL_law_X10_append
set_option maxRecDepth 20000 in
theorem ggL_law_X9_run : GoodIn wsL_law wsX9_run := goodIn_r _ [729, 32, 730, 731, 732, 31, 733, 734, 720, 735, 736, 737, 738, 739, 740, 741, 742, 743, 744, 745, 746, 747, 75, 748, 749, 750, 751, 752, 753, 754, 755, 756, 757, 758, 759, 760, 761, 762, 763, 764, 765, 766, 767, 768, 769, 770, 771, 772, 773, 774, 775, 776, 777, 778, 779, 780, 781, 782, 783, 784, 785, 786, 787, 788, 789, 790, 791, 792, 793, 794, 795, 796, 797, 798, 799, 800, 801, 802, 803, 804, 805, 806, 807, 808, 809, 810, 811, 812, 813, 814, 815, 816, 817, 818, 819, 820, 821, 822, 823, 824, 825, 826, 827, 828, 829, 830, 831, 832, 833, 834, 835, 2, 836, 20, 15, 109, 110, 111, 19, 112, 60, 113, 114, 115, 116, 14, 117, 118, 46, 119, 120, 121, 122, 47, 48, 49, 123, 50, 124, 125, 126, 837, 838, 839, 840, 841, 842, 843, 844, 845, 846, 847, 848, 849, 850, 851, 852, 853, 854, 855, 856, 857, 127, 128, 129, 130, 131, 132, 133, 134, 135, 136, 137, 138, 40, 139, 140, 141, 39, 142, 83, 84, 143, 858, 859, 860, 861, 199, 200, 201, 202, 203, 204, 205, 206, 207, 208, 209, 210, 211, 212, 213, 214, 215, 216, 217, 218, 219, 220, 221, 222, 223, 224, 225, 226, 227, 228, 229, 230, 231, 232, 233, 234, 235, 236, 237, 238, 239, 240, 241, 242, 243, 244, 245, 246, 247, 248, 249, 250, 251, 252, 253, 254, 255, 256, 257, 258, 259, 260, 261, 262, 263, 308, 309, 310, 311, 324, 325, 326, 327, 328, 329, 330, 331, 332, 333, 334, 335, 336, 337, 338, 339, 340, 341, 342, 343, 344, 345, 346, 347, 348, 349, 350, 351, 407, 408, 409, 410, 411, 412, 413, 414, 415, 416, 417, 418, 419, 420, 421, 422, 423, 424, 425, 426, 427, 862, 863, 864, 865, 866, 867, 868, 869, 870, 871, 872, 873, 874, 154, 155, 156, 148, 149, 150, 151, 152, 153, 875, 876, 877, 878, 879, 880, 881, 882, 1113, 1114, 1115, 1116, 1117, 1118, 1119, 1120, 1121, 1161, 1162, 1163, 1164, 1165, 1166, 1167, 1168, 1156, 1157, 1158, 1146, 1147, 1148, 1149, 1150, 1151, 1152, 1153, 1154, 1155, 1171, 1172, 1173] (by decide +kernel) (by decide +kernel)
set_option maxRecDepth 20000 in
theorem gL_law_X9_run : GoodIn wsL_law (wsV RL 99 RX9 yX9_run wsX9_run) := goodIn_app (goodIn_of _ (by decide +kernel)) ggL_law_X9_run
set_option maxRecDepth 20000 in
theorem ggL_law_X10_run : GoodIn wsL_law wsX10_run := goodIn_r _ [886, 887, 725, 161, 162, 163, 5, 164, 90, 89, 888, 889, 890, 891, 101, 892, 893, 894, 895, 896, 897, 753, 754, 755, 756, 757, 758, 759, 760, 761, 762, 763, 898, 765, 766, 767, 768, 769, 770, 771, 772, 773, 774, 775, 776, 777, 778, 779, 780, 781, 782, 783, 784, 785, 786, 787, 788, 789, 790, 791, 792, 793, 794, 795, 796, 797, 798, 799, 800, 899, 900, 901, 902, 102, 169, 170, 171, 903, 904, 905, 906, 907, 908, 909, 910, 165, 166, 167, 168, 172, 173, 174, 175, 103, 104, 176, 177, 178, 179, 180, 181, 182, 183, 184, 185, 268, 269, 270, 271, 272, 273, 274, 275, 276, 277, 278, 279, 280, 281, 282, 283, 284, 285, 286, 287, 288, 289, 290, 291, 292, 293, 294, 295, 96, 296, 297, 298, 299, 300, 301, 302, 303, 316, 317, 318, 319, 356, 357, 358, 359, 360, 361, 362, 363, 432, 433, 434, 435, 436, 437, 438, 439, 440, 441, 442, 443, 94, 444, 445, 446, 447, 448, 449, 450, 451, 452, 453, 454, 455, 456, 457, 458, 190, 191, 192, 193, 194, 92, 911, 912, 913, 914, 915, 916, 917, 918, 1122, 1123, 1124, 1125, 1126, 1127, 1128, 1129, 1130, 1131, 1132, 1133, 1134, 1135, 1136, 1137, 1138, 1139, 1140, 1141, 1142, 1143, 1144, 1145] (by decide +kernel) (by decide +kernel)
set_option maxRecDepth 20000 in
theorem gL_law_X10_run : GoodIn wsL_law (wsV RL 102 RX10 yX10_run wsX10_run) := goodIn_app (goodIn_of _ (by decide +kernel)) ggL_law_X10_run
set_option maxRecDepth 20000 in
theorem ggL_law_X9_tell : GoodIn wsL_law wsX9_tell := goodIn_r _ [922, 36, 15, 923, 924, 925, 35, 926, 927, 928, 244, 245, 14, 246, 118, 328, 329, 330, 331, 332, 333, 334, 335, 123, 336, 337, 338, 339, 238, 2, 239, 929, 930, 931, 932, 79, 933, 934, 935, 936, 1113, 1114, 1115, 1116, 1117, 1118, 1119, 1120, 1121, 1169, 1170, 1146, 1147, 1148, 1149, 1150, 1151, 1152, 1153, 1154, 1155] (by decide +kernel) (by decide +kernel)
set_option maxRecDepth 20000 in
theorem gL_law_X9_tell : GoodIn wsL_law (wsV RL 103 RX9 yX9_tell wsX9_tell) := goodIn_app (goodIn_of _ (by decide +kernel)) ggL_law_X9_tell
set_option maxRecDepth 20000 in
theorem ggL_law_X10_tell : GoodIn wsL_law wsX10_tell := goodIn_r _ [940, 941, 89, 100, 280, 281, 282, 5, 283, 1122, 1123, 1124, 1125, 1126, 1127, 1128, 1129, 1130, 1131, 1132, 1133, 1134, 1135, 1136, 1137, 1138, 1139, 1140, 1141, 1142, 1143, 1144, 1145] (by decide +kernel) (by decide +kernel)
set_option maxRecDepth 20000 in
theorem gL_law_X10_tell : GoodIn wsL_law (wsV RL 106 RX10 yX10_tell wsX10_tell) := goodIn_app (goodIn_of _ (by decide +kernel)) ggL_law_X10_tell
set_option maxRecDepth 20000 in
theorem ggL_law_X9_tellLantern : GoodIn wsL_law wsX9_tellLantern := goodIn_r _ [945, 15, 36, 203, 204, 205, 14, 206, 118, 923, 924, 925, 35, 926, 927, 946, 947, 948, 949, 950, 930, 931, 932, 79, 929, 219, 220, 221, 222, 46, 218, 951, 952, 2, 953, 954, 955, 956, 957, 958, 753, 754, 755, 756, 757, 758, 759, 760, 761, 762, 763, 959, 765, 766, 767, 768, 769, 770, 771, 772, 773, 774, 775, 776, 777, 778, 779, 780, 781, 782, 783, 784, 785, 786, 787, 788, 789, 790, 791, 792, 793, 794, 795, 796, 797, 798, 799, 800, 463, 464, 465, 466, 47, 214, 215, 216, 217, 960, 961, 962, 963, 223, 224, 225, 226, 227, 228, 229, 48, 328, 329, 330, 331, 332, 333, 334, 335, 123, 336, 337, 338, 339, 238, 239, 933, 934, 935, 936, 1113, 1114, 1115, 1116, 1117, 1118, 1119, 1120, 1121, 1146, 1147, 1148, 1149, 1150, 1151, 1152, 1153, 1154, 1155, 1169, 1170] (by decide +kernel) (by decide +kernel)
set_option maxRecDepth 20000 in
theorem gL_law_X9_tellLantern : GoodIn wsL_law (wsV RL 107 RX9 yX9_tellLantern wsX9_tellLantern) := goodIn_app (goodIn_of _ (by decide +kernel)) ggL_law_X9_tellLantern
set_option maxRecDepth 20000 in
theorem ggL_law_X10_tellLantern : GoodIn wsL_law wsX10_tellLantern := goodIn_r _ [967, 941, 272, 273, 274, 5, 275, 89, 169, 170, 171, 968, 969, 970, 971, 100, 972, 973, 974, 975, 897, 753, 754, 755, 756, 757, 758, 759, 760, 761, 762, 763, 898, 765, 766, 767, 768, 769, 770, 771, 772, 773, 774, 775, 776, 777, 778, 779, 780, 781, 782, 783, 784, 785, 786, 787, 788, 789, 790, 791, 792, 793, 794, 795, 796, 797, 798, 799, 800, 280, 281, 282, 283, 976, 977, 978, 284, 285, 286, 287, 288, 289, 290, 291, 276, 277, 278, 279, 1122, 1123, 1124, 1125, 1126, 1127, 1128, 1129, 1130, 1131, 1132, 1133, 1134, 1135, 1136, 1137, 1138, 1139, 1140, 1141, 1142, 1143, 1144, 1145] (by decide +kernel) (by decide +kernel)
set_option maxRecDepth 20000 in
theorem gL_law_X10_tellLantern : GoodIn wsL_law (wsV RL 110 RX10 yX10_tellLantern wsX10_tellLantern) := goodIn_app (goodIn_of _ (by decide +kernel)) ggL_law_X10_tellLantern
set_option maxRecDepth 20000 in
theorem ggL_law_X9_character : GoodIn wsL_law wsX9_character := goodIn_r _ [982, 36, 983, 984, 985, 35, 986, 927, 79, 1113, 1114, 1115, 1116, 1117, 1118, 1119, 1120, 1121, 1169, 1170] (by decide +kernel) (by decide +kernel)
set_option maxRecDepth 20000 in
theorem gL_law_X9_character : GoodIn wsL_law (wsV RL 111 RX9 yX9_character wsX9_character) := goodIn_app (goodIn_of _ (by decide +kernel)) ggL_law_X9_character
set_option maxRecDepth 20000 in
theorem ggL_law_X10_character : GoodIn wsL_law wsX10_character := goodIn_r _ [990, 941, 100, 169, 170, 5, 171, 1122, 1123, 1124, 1125, 1126, 1127, 1128, 1129, 1130, 1131, 1132, 1133, 1134, 1135, 1136, 1137, 1138, 1139, 1140, 1141, 1142, 1143, 1144, 1145] (by decide +kernel) (by decide +kernel)
set_option maxRecDepth 20000 in
theorem gL_law_X10_character : GoodIn wsL_law (wsV RL 114 RX10 yX10_character wsX10_character) := goodIn_app (goodIn_of _ (by decide +kernel)) ggL_law_X10_character
set_option maxRecDepth 20000 in
theorem ggL_law_X9_reason : GoodIn wsL_law wsX9_reason := goodIn_r _ [994, 40, 995, 996, 997, 39, 998, 84, 999, 1000, 1001, 1002, 143, 1003, 1004, 1005, 1006, 83, 1113, 1114, 1115, 1116, 1117, 1118, 1119, 1120, 1121, 1171, 1172, 1173] (by decide +kernel) (by decide +kernel)
set_option maxRecDepth 20000 in
theorem gL_law_X9_reason : GoodIn wsL_law (wsV RL 115 RX9 yX9_reason wsX9_reason) := goodIn_app (goodIn_of _ (by decide +kernel)) ggL_law_X9_reason
set_option maxRecDepth 20000 in
theorem ggL_law_X10_reason : GoodIn wsL_law wsX10_reason := goodIn_r _ [1010, 176, 104, 103, 169, 170, 5, 171, 1122, 1123, 1124, 1125, 1126, 1127, 1128, 1129, 1130, 1131, 1132, 1133, 1134, 1135, 1136, 1137, 1138, 1139, 1140, 1141, 1142, 1143, 1144, 1145] (by decide +kernel) (by decide +kernel)
set_option maxRecDepth 20000 in
theorem gL_law_X10_reason : GoodIn wsL_law (wsV RL 118 RX10 yX10_reason wsX10_reason) := goodIn_app (goodIn_of _ (by decide +kernel)) ggL_law_X10_reason
set_option maxRecDepth 20000 in
theorem ggL_law_X9_account : GoodIn wsL_law wsX9_account := goodIn_r _ [1014, 15, 24, 32, 20, 1015, 1016, 1017, 14, 1018, 124, 928, 244, 245, 246, 118, 1019, 682, 683, 684, 685, 215, 216, 217, 46, 218, 204, 205, 206, 345, 346, 347, 348, 349, 350, 351, 1020, 1021, 1022, 1023, 1024, 260, 261, 262, 263, 227, 228, 229, 48, 344, 333, 334, 335, 123, 336, 337, 338, 339, 372, 373, 236, 374, 243, 375, 376, 377, 240, 241, 242, 247, 248, 249, 250, 238, 2, 239, 230, 231, 232, 233, 50, 1025, 1026, 1027, 1028, 1029, 472, 473, 474, 49, 1030, 1031, 1032, 1033, 125, 1034, 1035, 1036, 1037, 126, 1038, 1039, 1040, 23, 1041, 65, 526, 527, 155, 528, 522, 52, 53, 54, 561, 523, 524, 525, 529, 530, 531, 532, 533, 534, 535, 464, 465, 466, 47, 1042, 1043, 1044, 31, 1045, 720, 1046, 1047, 1048, 19, 1049, 152, 1113, 1114, 1115, 1116, 1117, 1118, 1119, 1120, 1121, 1146, 1147, 1148, 1149, 1150, 1151, 1152, 1153, 1154, 1155, 1159, 1161, 1162, 1163, 1164, 1165, 1166, 1167, 1168, 1156, 1157, 1158] (by decide +kernel) (by decide +kernel)
set_option maxRecDepth 20000 in
theorem gL_law_X9_account : GoodIn wsL_law (wsV RL 119 RX9 yX9_account wsX9_account) := goodIn_app (goodIn_of _ (by decide +kernel)) ggL_law_X9_account
set_option maxRecDepth 20000 in
theorem ggL_law_X10_account : GoodIn wsL_law wsX10_account := goodIn_r _ [1053, 89, 548, 527, 155, 528, 725, 194, 276, 277, 278, 5, 279, 280, 281, 282, 283, 300, 301, 302, 303, 288, 289, 290, 291, 360, 361, 362, 363, 390, 391, 392, 393, 95, 394, 395, 396, 397, 402, 346, 347, 348, 349, 350, 351, 540, 541, 542, 543, 544, 545, 546, 547, 1122, 1123, 1124, 1125, 1126, 1127, 1128, 1129, 1130, 1131, 1132, 1133, 1134, 1135, 1136, 1137, 1138, 1139, 1140, 1141, 1142, 1143, 1144, 1145] (by decide +kernel) (by decide +kernel)
set_option maxRecDepth 20000 in
theorem gL_law_X10_account : GoodIn wsL_law (wsV RL 122 RX10 yX10_account wsX10_account) := goodIn_app (goodIn_of _ (by decide +kernel)) ggL_law_X10_account
set_option maxRecDepth 20000 in
theorem ggL_law_X9_isBalanced : GoodIn wsL_law wsX9_isBalanced := goodIn_r _ [1057, 15, 928, 244, 245, 14, 246, 118, 471, 472, 473, 474, 49, 218, 204, 205, 206, 328, 329, 330, 331, 332, 333, 334, 335, 123, 336, 337, 338, 339, 238, 2, 239, 1025, 1026, 1027, 1028, 1029, 1030, 1031, 1032, 1033, 125, 1034, 1035, 1036, 1037, 126, 1113, 1114, 1115, 1116, 1117, 1118, 1119, 1120, 1121, 1146, 1147, 1148, 1149, 1150, 1151, 1152, 1153, 1154, 1155] (by decide +kernel) (by decide +kernel)
set_option maxRecDepth 20000 in
theorem gL_law_X9_isBalanced : GoodIn wsL_law (wsV RL 123 RX9 yX9_isBalanced wsX9_isBalanced) := goodIn_app (goodIn_of _ (by decide +kernel)) ggL_law_X9_isBalanced
set_option maxRecDepth 20000 in
theorem ggL_law_X10_isBalanced : GoodIn wsL_law wsX10_isBalanced := goodIn_r _ [1061, 89, 280, 281, 282, 5, 283, 1122, 1123, 1124, 1125, 1126, 1127, 1128, 1129, 1130, 1131, 1132, 1133, 1134, 1135, 1136, 1137, 1138, 1139, 1140, 1141, 1142, 1143, 1144, 1145] (by decide +kernel) (by decide +kernel)
set_option maxRecDepth 20000 in
theorem gL_law_X10_isBalanced : GoodIn wsL_law (wsV RL 126 RX10 yX10_isBalanced wsX10_isBalanced) := goodIn_app (goodIn_of _ (by decide +kernel)) ggL_law_X10_isBalanced
set_option maxRecDepth 20000 in
theorem ggL_law_X9_meanWick : GoodIn wsL_law wsX9_meanWick := goodIn_r _ [1065, 15, 928, 244, 245, 14, 246, 118, 214, 215, 216, 217, 46, 218, 204, 205, 206, 463, 464, 465, 466, 47, 1113, 1114, 1115, 1116, 1117, 1118, 1119, 1120, 1121, 1146, 1147, 1148, 1149, 1150, 1151, 1152, 1153, 1154, 1155] (by decide +kernel) (by decide +kernel)
set_option maxRecDepth 20000 in
theorem gL_law_X9_meanWick : GoodIn wsL_law (wsV RL 127 RX9 yX9_meanWick wsX9_meanWick) := goodIn_app (goodIn_of _ (by decide +kernel)) ggL_law_X9_meanWick
set_option maxRecDepth 20000 in
theorem ggL_law_X10_meanWick : GoodIn wsL_law wsX10_meanWick := goodIn_r _ [1069, 89, 276, 277, 278, 5, 279, 280, 281, 282, 283, 1122, 1123, 1124, 1125, 1126, 1127, 1128, 1129, 1130, 1131, 1132, 1133, 1134, 1135, 1136, 1137, 1138, 1139, 1140, 1141, 1142, 1143, 1144, 1145] (by decide +kernel) (by decide +kernel)
set_option maxRecDepth 20000 in
theorem gL_law_X10_meanWick : GoodIn wsL_law (wsV RL 131 RX10 yX10_meanWick wsX10_meanWick) := goodIn_app (goodIn_of _ (by decide +kernel)) ggL_law_X10_meanWick
set_option maxRecDepth 20000 in
theorem ggL_law_X9_glowShare : GoodIn wsL_law wsX9_glowShare := goodIn_r _ [1073, 15, 928, 244, 245, 14, 246, 118, 344, 333, 334, 335, 123, 336, 337, 338, 339, 345, 346, 347, 348, 349, 350, 351, 1113, 1114, 1115, 1116, 1117, 1118, 1119, 1120, 1121, 1146, 1147, 1148, 1149, 1150, 1151, 1152, 1153, 1154, 1155] (by decide +kernel) (by decide +kernel)
set_option maxRecDepth 20000 in
theorem gL_law_X9_glowShare : GoodIn wsL_law (wsV RL 132 RX9 yX9_glowShare wsX9_glowShare) := goodIn_app (goodIn_of _ (by decide +kernel)) ggL_law_X9_glowShare
set_option maxRecDepth 20000 in
theorem ggL_law_X10_glowShare : GoodIn wsL_law wsX10_glowShare := goodIn_r _ [1077, 89, 360, 361, 362, 5, 363, 280, 281, 282, 283, 1122, 1123, 1124, 1125, 1126, 1127, 1128, 1129, 1130, 1131, 1132, 1133, 1134, 1135, 1136, 1137, 1138, 1139, 1140, 1141, 1142, 1143, 1144, 1145] (by decide +kernel) (by decide +kernel)
set_option maxRecDepth 20000 in
theorem gL_law_X10_glowShare : GoodIn wsL_law (wsV RL 136 RX10 yX10_glowShare wsX10_glowShare) := goodIn_app (goodIn_of _ (by decide +kernel)) ggL_law_X10_glowShare
set_option maxRecDepth 20000 in
theorem ggL_law_X9_undo : GoodIn wsL_law wsX9_undo := goodIn_r _ [1081, 20, 15, 1046, 1047, 1048, 19, 1049, 152, 1082, 1083, 1084, 1085, 113, 60, 114, 115, 116, 14, 117, 118, 46, 119, 120, 121, 122, 47, 48, 49, 123, 50, 124, 125, 126, 1113, 1114, 1115, 1116, 1117, 1118, 1119, 1120, 1121, 1156, 1157, 1158, 1146, 1147, 1148, 1149, 1150, 1151, 1152, 1153, 1154, 1155] (by decide +kernel) (by decide +kernel)
set_option maxRecDepth 20000 in
theorem gL_law_X9_undo : GoodIn wsL_law (wsV RL 137 RX9 yX9_undo wsX9_undo) := goodIn_app (goodIn_of _ (by decide +kernel)) ggL_law_X9_undo
set_option maxRecDepth 20000 in
theorem ggL_law_X10_undo : GoodIn wsL_law wsX10_undo := goodIn_r _ [1089, 194, 89, 92, 1122, 1123, 1124, 1125, 1126, 1127, 1128, 1129, 1130, 1131, 1132, 1133, 1134, 1135, 1136, 1137, 1138, 1139, 1140, 1141, 1142, 1143, 1144, 1145] (by decide +kernel) (by decide +kernel)
set_option maxRecDepth 20000 in
theorem gL_law_X10_undo : GoodIn wsL_law (wsV RL 140 RX10 yX10_undo wsX10_undo) := goodIn_app (goodIn_of _ (by decide +kernel)) ggL_law_X10_undo
set_option maxRecDepth 20000 in
theorem ggL_law_X9_save : GoodIn wsL_law wsX9_save := goodIn_r _ [1093, 16, 15, 1094, 1095, 115, 116, 14, 117, 118, 46, 119, 120, 121, 122, 47, 48, 49, 123, 50, 124, 125, 126, 928, 244, 245, 246, 1113, 1114, 1115, 1116, 1117, 1118, 1119, 1120, 1121, 1146, 1147, 1148, 1149, 1150, 1151, 1152, 1153, 1154, 1155] (by decide +kernel) (by decide +kernel)
set_option maxRecDepth 20000 in
theorem gL_law_X9_save : GoodIn wsL_law (wsV RL 141 RX9 yX9_save wsX9_save) := goodIn_app (goodIn_of _ (by decide +kernel)) ggL_law_X9_save
set_option maxRecDepth 20000 in
theorem ggL_law_X10_save : GoodIn wsL_law wsX10_save := goodIn_r _ [1099, 1100, 93, 89, 1122, 1123, 1124, 1125, 1126, 1127, 1128, 1129, 1130, 1131, 1132, 1133, 1134, 1135, 1136, 1137, 1138, 1139, 1140, 1141, 1142, 1143, 1144, 1145] (by decide +kernel) (by decide +kernel)
set_option maxRecDepth 20000 in
theorem gL_law_X10_save : GoodIn wsL_law (wsV RL 144 RX10 yX10_save wsX10_save) := goodIn_app (goodIn_of _ (by decide +kernel)) ggL_law_X10_save
set_option maxRecDepth 20000 in
theorem ggL_law_X9_restore : GoodIn wsL_law wsX9_restore := goodIn_r _ [1104, 1094, 15, 16, 20, 1095, 115, 116, 14, 117, 118, 46, 119, 120, 121, 122, 47, 48, 49, 123, 50, 124, 125, 126, 1105, 1106, 1107, 19, 1108, 152, 928, 244, 245, 246, 1113, 1114, 1115, 1116, 1117, 1118, 1119, 1120, 1121, 1146, 1147, 1148, 1149, 1150, 1151, 1152, 1153, 1154, 1155, 1156, 1157, 1158] (by decide +kernel) (by decide +kernel)
set_option maxRecDepth 20000 in
theorem gL_law_X9_restore : GoodIn wsL_law (wsV RL 145 RX9 yX9_restore wsX9_restore) := goodIn_app (goodIn_of _ (by decide +kernel)) ggL_law_X9_restore
set_option maxRecDepth 20000 in
theorem ggL_law_X10_restore : GoodIn wsL_law wsX10_restore := goodIn_r _ [1112, 1100, 89, 93, 194, 1122, 1123, 1124, 1125, 1126, 1127, 1128, 1129, 1130, 1131, 1132, 1133, 1134, 1135, 1136, 1137, 1138, 1139, 1140, 1141, 1142, 1143, 1144, 1145] (by decide +kernel) (by decide +kernel)
set_option maxRecDepth 20000 in
theorem gL_law_X10_restore : GoodIn wsL_law (wsV RL 148 RX10 yX10_restore wsX10_restore) := goodIn_app (goodIn_of _ (by decide +kernel)) ggL_law_X10_restore
