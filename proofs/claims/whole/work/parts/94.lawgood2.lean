set_option maxRecDepth 20000 in
theorem ggL_law_X10_flickers : GoodIn wsL_law wsX10_flickers := goodIn_r _ [648, 276, 277, 278, 5, 279, 89, 173, 174, 175, 280, 281, 282, 283, 284, 285, 286, 287, 597, 598, 599, 600, 444, 445, 446, 447, 94, 448, 449, 450, 451, 292, 293, 294, 295, 304, 305, 306, 307, 452, 453, 454, 455, 456, 457, 458, 459, 460, 461, 462, 589, 590, 591, 592, 91, 181, 182, 183, 184, 593, 594, 595, 596, 440, 441, 442, 443, 601, 602, 603, 604, 1126, 1127, 1128, 1129, 1130, 1131, 1132, 1133, 1134, 1135, 1136, 1137, 1138, 1139, 1140, 1141, 1142, 1143, 1144, 1145, 1146, 1147, 1148, 1149] (by decide +kernel) (by decide +kernel)
set_option maxRecDepth 20000 in
theorem gL_law_X10_flickers : GoodIn wsL_law (wsV RL 82 RX10 yX10_flickers wsX10_flickers) := goodIn_app (goodIn_of _ (by decide +kernel)) ggL_law_X10_flickers
set_option maxRecDepth 20000 in
theorem ggL_law_X9_switchesOf : GoodIn wsL_law wsX9_switchesOf := goodIn_r _ [652, 15, 207, 208, 209, 14, 210, 122, 653, 654, 240, 655, 247, 248, 249, 250, 656, 219, 220, 221, 46, 222, 379, 380, 381, 244, 245, 246, 251, 252, 253, 254, 48, 242, 2, 243, 1117, 1118, 1119, 1120, 1121, 1122, 1123, 1124, 1125, 1150, 1151, 1152, 1153, 1154, 1155, 1156, 1157, 1158, 1159] (by decide +kernel) (by decide +kernel)
set_option maxRecDepth 20000 in
theorem gL_law_X9_switchesOf : GoodIn wsL_law (wsV RL 83 RX9 yX9_switchesOf wsX9_switchesOf) := goodIn_app (goodIn_of _ (by decide +kernel)) ggL_law_X9_switchesOf
set_option maxRecDepth 20000 in
theorem ggL_law_X10_switchesOf : GoodIn wsL_law wsX10_switchesOf := goodIn_r _ [660, 276, 277, 278, 5, 279, 89, 173, 174, 175, 661, 662, 663, 664, 95, 398, 399, 400, 401, 292, 293, 294, 295, 284, 285, 286, 287, 280, 281, 282, 283, 1126, 1127, 1128, 1129, 1130, 1131, 1132, 1133, 1134, 1135, 1136, 1137, 1138, 1139, 1140, 1141, 1142, 1143, 1144, 1145, 1146, 1147, 1148, 1149] (by decide +kernel) (by decide +kernel)
set_option maxRecDepth 20000 in
theorem gL_law_X10_switchesOf : GoodIn wsL_law (wsV RL 86 RX10 yX10_switchesOf wsX10_switchesOf) := goodIn_app (goodIn_of _ (by decide +kernel)) ggL_law_X10_switchesOf
set_option maxRecDepth 20000 in
theorem ggL_law_X9_table : GoodIn wsL_law wsX9_table := goodIn_r _ [668, 15, 207, 208, 209, 14, 210, 122, 669, 670, 671, 2, 672, 24, 218, 219, 220, 221, 46, 222, 522, 523, 524, 23, 525, 65, 526, 52, 53, 54, 527, 528, 529, 530, 531, 159, 532, 533, 534, 231, 232, 233, 48, 535, 536, 537, 538, 539, 468, 469, 470, 47, 653, 654, 240, 655, 247, 248, 249, 250, 656, 379, 380, 381, 244, 245, 246, 251, 252, 253, 254, 242, 243, 349, 350, 351, 352, 353, 354, 355, 673, 674, 675, 676, 677, 678, 679, 680, 681, 682, 683, 684, 685, 686, 687, 688, 689, 690, 691, 692, 428, 429, 430, 1117, 1118, 1119, 1120, 1121, 1122, 1123, 1124, 1125, 1150, 1151, 1152, 1153, 1154, 1155, 1156, 1157, 1158, 1159, 1163] (by decide +kernel) (by decide +kernel)
set_option maxRecDepth 20000 in
theorem gL_law_X9_table : GoodIn wsL_law (wsV RL 87 RX9 yX9_table wsX9_table) := goodIn_app (goodIn_of _ (by decide +kernel)) ggL_law_X9_table
set_option maxRecDepth 20000 in
theorem ggL_law_X10_table : GoodIn wsL_law wsX10_table := goodIn_r _ [696, 276, 277, 278, 5, 279, 89, 173, 174, 175, 280, 281, 282, 283, 284, 285, 286, 287, 544, 545, 546, 547, 95, 394, 395, 396, 397, 398, 399, 400, 401, 292, 293, 294, 295, 548, 549, 550, 551, 552, 531, 159, 532, 661, 662, 663, 664, 406, 350, 351, 352, 353, 354, 355, 697, 698, 699, 700, 452, 453, 454, 1126, 1127, 1128, 1129, 1130, 1131, 1132, 1133, 1134, 1135, 1136, 1137, 1138, 1139, 1140, 1141, 1142, 1143, 1144, 1145, 1146, 1147, 1148, 1149] (by decide +kernel) (by decide +kernel)
set_option maxRecDepth 20000 in
theorem gL_law_X10_table : GoodIn wsL_law (wsV RL 90 RX10 yX10_table wsX10_table) := goodIn_app (goodIn_of _ (by decide +kernel)) ggL_law_X10_table
set_option maxRecDepth 20000 in
theorem ggL_law_X9_tableAgain : GoodIn wsL_law wsX9_tableAgain := goodIn_r _ [704, 15, 24, 207, 208, 209, 14, 210, 122, 669, 670, 671, 2, 672, 218, 219, 220, 221, 46, 222, 522, 523, 524, 23, 525, 65, 526, 52, 53, 54, 527, 528, 529, 530, 531, 159, 532, 533, 534, 231, 232, 233, 48, 535, 536, 537, 538, 539, 468, 469, 470, 47, 653, 654, 240, 655, 247, 248, 249, 250, 656, 379, 380, 381, 244, 245, 246, 251, 252, 253, 254, 242, 243, 349, 350, 351, 352, 353, 354, 355, 705, 706, 675, 707, 708, 677, 678, 709, 481, 482, 483, 127, 679, 680, 681, 710, 420, 421, 422, 340, 341, 342, 343, 423, 424, 425, 426, 427, 428, 429, 430, 1117, 1118, 1119, 1120, 1121, 1122, 1123, 1124, 1125, 1150, 1151, 1152, 1153, 1154, 1155, 1156, 1157, 1158, 1159, 1163] (by decide +kernel) (by decide +kernel)
set_option maxRecDepth 20000 in
theorem gL_law_X9_tableAgain : GoodIn wsL_law (wsV RL 91 RX9 yX9_tableAgain wsX9_tableAgain) := goodIn_app (goodIn_of _ (by decide +kernel)) ggL_law_X9_tableAgain
set_option maxRecDepth 20000 in
theorem ggL_law_X10_tableAgain : GoodIn wsL_law wsX10_tableAgain := goodIn_r _ [714, 715, 694, 695, 5, 696, 276, 277, 278, 279, 89, 173, 174, 175, 280, 281, 282, 283, 284, 285, 286, 287, 544, 545, 546, 547, 95, 394, 395, 396, 397, 398, 399, 400, 401, 292, 293, 294, 295, 548, 549, 550, 551, 552, 531, 159, 532, 661, 662, 663, 664, 406, 350, 351, 352, 353, 354, 355, 697, 698, 699, 700, 452, 453, 454, 1126, 1127, 1128, 1129, 1130, 1131, 1132, 1133, 1134, 1135, 1136, 1137, 1138, 1139, 1140, 1141, 1142, 1143, 1144, 1145, 1146, 1147, 1148, 1149] (by decide +kernel) (by decide +kernel)
set_option maxRecDepth 20000 in
theorem gL_law_X10_tableAgain : GoodIn wsL_law (wsV RL 94 RX10 yX10_tableAgain wsX10_tableAgain) := goodIn_app (goodIn_of _ (by decide +kernel)) ggL_law_X10_tableAgain
set_option maxRecDepth 20000 in
theorem ggL_law_X9_append : GoodIn wsL_law wsX9_append := goodIn_r _ [719, 32, 720, 721, 722, 31, 723, 724, 75, 1117, 1118, 1119, 1120, 1121, 1122, 1123, 1124, 1125, 1165, 1166, 1167, 1168, 1169, 1170, 1171, 1172] (by decide +kernel) (by decide +kernel)
set_option maxRecDepth 20000 in
theorem gL_law_X9_append : GoodIn wsL_law (wsV RL 95 RX9 yX9_append wsX9_append) := goodIn_app (goodIn_of _ (by decide +kernel)) ggL_law_X9_append
set_option maxRecDepth 20000 in
theorem ggL_law_X10_append : GoodIn wsL_law wsX10_append := goodIn_r _ [728, 729, 101, 173, 174, 5, 175, 1126, 1127, 1128, 1129, 1130, 1131, 1132, 1133, 1134, 1135, 1136, 1137, 1138, 1139, 1140, 1141, 1142, 1143, 1144, 1145, 1146, 1147, 1148, 1149] (by decide +kernel) (by decide +kernel)
set_option maxRecDepth 20000 in
theorem gL_law_X10_append : GoodIn wsL_law (wsV RL 98 RX10 yX10_append wsX10_append) := goodIn_app (goodIn_of _ (by decide +kernel)) ggL_law_X10_append
set_option maxRecDepth 20000 in
theorem ggL_law_X9_run : GoodIn wsL_law wsX9_run := goodIn_r _ [733, 32, 734, 735, 736, 31, 737, 738, 724, 739, 740, 741, 742, 743, 744, 745, 746, 747, 748, 749, 750, 751, 75, 752, 753, 754, 755, 756, 757, 758, 759, 760, 761, 762, 763, 764, 765, 766, 767, 768, 769, 770, 771, 772, 773, 774, 775, 776, 777, 778, 779, 780, 781, 782, 783, 784, 785, 786, 787, 788, 789, 790, 791, 792, 793, 794, 795, 796, 797, 798, 799, 800, 801, 802, 803, 804, 805, 806, 807, 808, 809, 810, 811, 812, 813, 814, 815, 816, 817, 818, 819, 820, 821, 822, 823, 824, 825, 826, 827, 828, 829, 830, 831, 832, 833, 834, 835, 836, 837, 838, 839, 2, 840, 20, 15, 109, 110, 111, 19, 112, 113, 114, 115, 116, 117, 60, 118, 119, 120, 14, 121, 122, 46, 123, 124, 125, 126, 47, 48, 49, 127, 50, 128, 129, 130, 841, 842, 843, 844, 845, 846, 847, 848, 849, 850, 851, 852, 853, 854, 855, 856, 857, 858, 859, 860, 861, 131, 132, 133, 134, 135, 136, 137, 138, 139, 140, 141, 142, 40, 143, 144, 145, 39, 146, 83, 84, 147, 862, 863, 864, 865, 203, 204, 205, 206, 207, 208, 209, 210, 211, 212, 213, 214, 215, 216, 217, 218, 219, 220, 221, 222, 223, 224, 225, 226, 227, 228, 229, 230, 231, 232, 233, 234, 235, 236, 237, 238, 239, 240, 241, 242, 243, 244, 245, 246, 247, 248, 249, 250, 251, 252, 253, 254, 255, 256, 257, 258, 259, 260, 261, 262, 263, 264, 265, 266, 267, 312, 313, 314, 315, 328, 329, 330, 331, 332, 333, 334, 335, 336, 337, 338, 339, 340, 341, 342, 343, 344, 345, 346, 347, 348, 349, 350, 351, 352, 353, 354, 355, 411, 412, 413, 414, 415, 416, 417, 418, 419, 420, 421, 422, 423, 424, 425, 426, 427, 428, 429, 430, 431, 866, 867, 868, 869, 870, 871, 872, 873, 874, 875, 876, 877, 878, 158, 159, 160, 152, 153, 154, 155, 156, 157, 879, 880, 881, 882, 883, 884, 885, 886, 1117, 1118, 1119, 1120, 1121, 1122, 1123, 1124, 1125, 1165, 1166, 1167, 1168, 1169, 1170, 1171, 1172, 1160, 1161, 1162, 1150, 1151, 1152, 1153, 1154, 1155, 1156, 1157, 1158, 1159, 1175, 1176, 1177] (by decide +kernel) (by decide +kernel)
set_option maxRecDepth 20000 in
theorem gL_law_X9_run : GoodIn wsL_law (wsV RL 99 RX9 yX9_run wsX9_run) := goodIn_app (goodIn_of _ (by decide +kernel)) ggL_law_X9_run
set_option maxRecDepth 20000 in
theorem ggL_law_X10_run : GoodIn wsL_law wsX10_run := goodIn_r _ [890, 891, 729, 165, 166, 167, 5, 168, 90, 89, 892, 893, 894, 895, 101, 896, 897, 898, 899, 900, 901, 757, 758, 759, 760, 761, 762, 763, 764, 765, 766, 767, 902, 769, 770, 771, 772, 773, 774, 775, 776, 777, 778, 779, 780, 781, 782, 783, 784, 785, 786, 787, 788, 789, 790, 791, 792, 793, 794, 795, 796, 797, 798, 799, 800, 801, 802, 803, 804, 903, 904, 905, 906, 102, 173, 174, 175, 907, 908, 909, 910, 911, 912, 913, 914, 169, 170, 171, 172, 176, 177, 178, 179, 103, 104, 180, 181, 182, 183, 184, 185, 186, 187, 188, 189, 272, 273, 274, 275, 276, 277, 278, 279, 280, 281, 282, 283, 284, 285, 286, 287, 288, 289, 290, 291, 292, 293, 294, 295, 296, 297, 298, 299, 96, 300, 301, 302, 303, 304, 305, 306, 307, 320, 321, 322, 323, 360, 361, 362, 363, 364, 365, 366, 367, 436, 437, 438, 439, 440, 441, 442, 443, 444, 445, 446, 447, 94, 448, 449, 450, 451, 452, 453, 454, 455, 456, 457, 458, 459, 460, 461, 462, 194, 195, 196, 197, 198, 92, 915, 916, 917, 918, 919, 920, 921, 922, 1126, 1127, 1128, 1129, 1130, 1131, 1132, 1133, 1134, 1135, 1136, 1137, 1138, 1139, 1140, 1141, 1142, 1143, 1144, 1145, 1146, 1147, 1148, 1149] (by decide +kernel) (by decide +kernel)
set_option maxRecDepth 20000 in
theorem gL_law_X10_run : GoodIn wsL_law (wsV RL 102 RX10 yX10_run wsX10_run) := goodIn_app (goodIn_of _ (by decide +kernel)) ggL_law_X10_run
set_option maxRecDepth 20000 in
theorem ggL_law_X9_tell : GoodIn wsL_law wsX9_tell := goodIn_r _ [926, 36, 15, 927, 928, 929, 35, 930, 931, 932, 248, 249, 14, 250, 122, 332, 333, 334, 335, 336, 337, 338, 339, 127, 340, 341, 342, 343, 242, 2, 243, 933, 934, 935, 936, 79, 937, 938, 939, 940, 1117, 1118, 1119, 1120, 1121, 1122, 1123, 1124, 1125, 1173, 1174, 1150, 1151, 1152, 1153, 1154, 1155, 1156, 1157, 1158, 1159] (by decide +kernel) (by decide +kernel)
set_option maxRecDepth 20000 in
theorem gL_law_X9_tell : GoodIn wsL_law (wsV RL 103 RX9 yX9_tell wsX9_tell) := goodIn_app (goodIn_of _ (by decide +kernel)) ggL_law_X9_tell
set_option maxRecDepth 20000 in
theorem ggL_law_X10_tell : GoodIn wsL_law wsX10_tell := goodIn_r _ [944, 945, 89, 100, 284, 285, 286, 5, 287, 1126, 1127, 1128, 1129, 1130, 1131, 1132, 1133, 1134, 1135, 1136, 1137, 1138, 1139, 1140, 1141, 1142, 1143, 1144, 1145, 1146, 1147, 1148, 1149] (by decide +kernel) (by decide +kernel)
set_option maxRecDepth 20000 in
theorem gL_law_X10_tell : GoodIn wsL_law (wsV RL 106 RX10 yX10_tell wsX10_tell) := goodIn_app (goodIn_of _ (by decide +kernel)) ggL_law_X10_tell
set_option maxRecDepth 20000 in
theorem ggL_law_X9_tellLantern : GoodIn wsL_law wsX9_tellLantern := goodIn_r _ [949, 15, 36, 207, 208, 209, 14, 210, 122, 927, 928, 929, 35, 930, 931, 950, 951, 952, 953, 954, 934, 935, 936, 79, 933, 223, 224, 225, 226, 46, 222, 955, 956, 2, 957, 958, 959, 960, 961, 962, 757, 758, 759, 760, 761, 762, 763, 764, 765, 766, 767, 963, 769, 770, 771, 772, 773, 774, 775, 776, 777, 778, 779, 780, 781, 782, 783, 784, 785, 786, 787, 788, 789, 790, 791, 792, 793, 794, 795, 796, 797, 798, 799, 800, 801, 802, 803, 804, 467, 468, 469, 470, 47, 218, 219, 220, 221, 964, 965, 966, 967, 227, 228, 229, 230, 231, 232, 233, 48, 332, 333, 334, 335, 336, 337, 338, 339, 127, 340, 341, 342, 343, 242, 243, 937, 938, 939, 940, 1117, 1118, 1119, 1120, 1121, 1122, 1123, 1124, 1125, 1150, 1151, 1152, 1153, 1154, 1155, 1156, 1157, 1158, 1159, 1173, 1174] (by decide +kernel) (by decide +kernel)
set_option maxRecDepth 20000 in
theorem gL_law_X9_tellLantern : GoodIn wsL_law (wsV RL 107 RX9 yX9_tellLantern wsX9_tellLantern) := goodIn_app (goodIn_of _ (by decide +kernel)) ggL_law_X9_tellLantern
set_option maxRecDepth 20000 in
theorem ggL_law_X10_tellLantern : GoodIn wsL_law wsX10_tellLantern := goodIn_r _ [971, 945, 276, 277, 278, 5, 279, 89, 173, 174, 175, 972, 973, 974, 975, 100, 976, 977, 978, 979, 901, 757, 758, 759, 760, 761, 762, 763, 764, 765, 766, 767, 902, 769, 770, 771, 772, 773, 774, 775, 776, 777, 778, 779, 780, 781, 782, 783, 784, 785, 786, 787, 788, 789, 790, 791, 792, 793, 794, 795, 796, 797, 798, 799, 800, 801, 802, 803, 804, 284, 285, 286, 287, 980, 981, 982, 288, 289, 290, 291, 292, 293, 294, 295, 280, 281, 282, 283, 1126, 1127, 1128, 1129, 1130, 1131, 1132, 1133, 1134, 1135, 1136, 1137, 1138, 1139, 1140, 1141, 1142, 1143, 1144, 1145, 1146, 1147, 1148, 1149] (by decide +kernel) (by decide +kernel)
set_option maxRecDepth 20000 in
theorem gL_law_X10_tellLantern : GoodIn wsL_law (wsV RL 110 RX10 yX10_tellLantern wsX10_tellLantern) := goodIn_app (goodIn_of _ (by decide +kernel)) ggL_law_X10_tellLantern
set_option maxRecDepth 20000 in
theorem ggL_law_X9_character : GoodIn wsL_law wsX9_character := goodIn_r _ [986, 36, 987, 988, 989, 35, 990, 931, 79, 1117, 1118, 1119, 1120, 1121, 1122, 1123, 1124, 1125, 1173, 1174] (by decide +kernel) (by decide +kernel)
set_option maxRecDepth 20000 in
theorem gL_law_X9_character : GoodIn wsL_law (wsV RL 111 RX9 yX9_character wsX9_character) := goodIn_app (goodIn_of _ (by decide +kernel)) ggL_law_X9_character
set_option maxRecDepth 20000 in
theorem ggL_law_X10_character : GoodIn wsL_law wsX10_character := goodIn_r _ [994, 945, 100, 173, 174, 5, 175, 1126, 1127, 1128, 1129, 1130, 1131, 1132, 1133, 1134, 1135, 1136, 1137, 1138, 1139, 1140, 1141, 1142, 1143, 1144, 1145, 1146, 1147, 1148, 1149] (by decide +kernel) (by decide +kernel)
set_option maxRecDepth 20000 in
theorem gL_law_X10_character : GoodIn wsL_law (wsV RL 114 RX10 yX10_character wsX10_character) := goodIn_app (goodIn_of _ (by decide +kernel)) ggL_law_X10_character
set_option maxRecDepth 20000 in
theorem ggL_law_X9_reason : GoodIn wsL_law wsX9_reason := goodIn_r _ [998, 40, 999, 1000, 1001, 39, 1002, 84, 1003, 1004, 1005, 1006, 147, 1007, 1008, 1009, 1010, 83, 1117, 1118, 1119, 1120, 1121, 1122, 1123, 1124, 1125, 1175, 1176, 1177] (by decide +kernel) (by decide +kernel)
set_option maxRecDepth 20000 in
theorem gL_law_X9_reason : GoodIn wsL_law (wsV RL 115 RX9 yX9_reason wsX9_reason) := goodIn_app (goodIn_of _ (by decide +kernel)) ggL_law_X9_reason
set_option maxRecDepth 20000 in
theorem ggL_law_X10_reason : GoodIn wsL_law wsX10_reason := goodIn_r _ [1014, 180, 104, 103, 173, 174, 5, 175, 1126, 1127, 1128, 1129, 1130, 1131, 1132, 1133, 1134, 1135, 1136, 1137, 1138, 1139, 1140, 1141, 1142, 1143, 1144, 1145, 1146, 1147, 1148, 1149] (by decide +kernel) (by decide +kernel)
set_option maxRecDepth 20000 in
theorem gL_law_X10_reason : GoodIn wsL_law (wsV RL 118 RX10 yX10_reason wsX10_reason) := goodIn_app (goodIn_of _ (by decide +kernel)) ggL_law_X10_reason
set_option maxRecDepth 20000 in
theorem ggL_law_X9_account : GoodIn wsL_law wsX9_account := goodIn_r _ [1018, 15, 24, 32, 20, 1019, 1020, 1021, 14, 1022, 128, 932, 248, 249, 250, 122, 1023, 686, 687, 688, 689, 219, 220, 221, 46, 222, 208, 209, 210, 349, 350, 351, 352, 353, 354, 355, 1024, 1025, 1026, 1027, 1028, 264, 265, 266, 267, 231, 232, 233, 48, 348, 337, 338, 339, 127, 340, 341, 342, 343, 376, 377, 240, 378, 247, 379, 380, 381, 244, 245, 246, 251, 252, 253, 254, 242, 2, 243, 234, 235, 236, 237, 50, 1029, 1030, 1031, 1032, 1033, 476, 477, 478, 49, 1034, 1035, 1036, 1037, 129, 1038, 1039, 1040, 1041, 130, 1042, 1043, 1044, 23, 1045, 65, 530, 531, 159, 532, 526, 52, 53, 54, 565, 527, 528, 529, 533, 534, 535, 536, 537, 538, 539, 468, 469, 470, 47, 1046, 1047, 1048, 31, 1049, 724, 1050, 1051, 1052, 19, 1053, 156, 1117, 1118, 1119, 1120, 1121, 1122, 1123, 1124, 1125, 1150, 1151, 1152, 1153, 1154, 1155, 1156, 1157, 1158, 1159, 1163, 1165, 1166, 1167, 1168, 1169, 1170, 1171, 1172, 1160, 1161, 1162] (by decide +kernel) (by decide +kernel)
set_option maxRecDepth 20000 in
theorem gL_law_X9_account : GoodIn wsL_law (wsV RL 119 RX9 yX9_account wsX9_account) := goodIn_app (goodIn_of _ (by decide +kernel)) ggL_law_X9_account
set_option maxRecDepth 20000 in
theorem ggL_law_X10_account : GoodIn wsL_law wsX10_account := goodIn_r _ [1057, 89, 552, 531, 159, 532, 729, 198, 280, 281, 282, 5, 283, 284, 285, 286, 287, 304, 305, 306, 307, 292, 293, 294, 295, 364, 365, 366, 367, 394, 395, 396, 397, 95, 398, 399, 400, 401, 406, 350, 351, 352, 353, 354, 355, 544, 545, 546, 547, 548, 549, 550, 551, 1126, 1127, 1128, 1129, 1130, 1131, 1132, 1133, 1134, 1135, 1136, 1137, 1138, 1139, 1140, 1141, 1142, 1143, 1144, 1145, 1146, 1147, 1148, 1149] (by decide +kernel) (by decide +kernel)
set_option maxRecDepth 20000 in
theorem gL_law_X10_account : GoodIn wsL_law (wsV RL 122 RX10 yX10_account wsX10_account) := goodIn_app (goodIn_of _ (by decide +kernel)) ggL_law_X10_account
set_option maxRecDepth 20000 in
theorem ggL_law_X9_isBalanced : GoodIn wsL_law wsX9_isBalanced := goodIn_r _ [1061, 15, 932, 248, 249, 14, 250, 122, 475, 476, 477, 478, 49, 222, 208, 209, 210, 332, 333, 334, 335, 336, 337, 338, 339, 127, 340, 341, 342, 343, 242, 2, 243, 1029, 1030, 1031, 1032, 1033, 1034, 1035, 1036, 1037, 129, 1038, 1039, 1040, 1041, 130, 1117, 1118, 1119, 1120, 1121, 1122, 1123, 1124, 1125, 1150, 1151, 1152, 1153, 1154, 1155, 1156, 1157, 1158, 1159] (by decide +kernel) (by decide +kernel)
set_option maxRecDepth 20000 in
theorem gL_law_X9_isBalanced : GoodIn wsL_law (wsV RL 123 RX9 yX9_isBalanced wsX9_isBalanced) := goodIn_app (goodIn_of _ (by decide +kernel)) ggL_law_X9_isBalanced
set_option maxRecDepth 20000 in
theorem ggL_law_X10_isBalanced : GoodIn wsL_law wsX10_isBalanced := goodIn_r _ [1065, 89, 284, 285, 286, 5, 287, 1126, 1127, 1128, 1129, 1130, 1131, 1132, 1133, 1134, 1135, 1136, 1137, 1138, 1139, 1140, 1141, 1142, 1143, 1144, 1145, 1146, 1147, 1148, 1149] (by decide +kernel) (by decide +kernel)
set_option maxRecDepth 20000 in
theorem gL_law_X10_isBalanced : GoodIn wsL_law (wsV RL 126 RX10 yX10_isBalanced wsX10_isBalanced) := goodIn_app (goodIn_of _ (by decide +kernel)) ggL_law_X10_isBalanced
set_option maxRecDepth 20000 in
theorem ggL_law_X9_meanWick : GoodIn wsL_law wsX9_meanWick := goodIn_r _ [1069, 15, 932, 248, 249, 14, 250, 122, 218, 219, 220, 221, 46, 222, 208, 209, 210, 467, 468, 469, 470, 47, 1117, 1118, 1119, 1120, 1121, 1122, 1123, 1124, 1125, 1150, 1151, 1152, 1153, 1154, 1155, 1156, 1157, 1158, 1159] (by decide +kernel) (by decide +kernel)
set_option maxRecDepth 20000 in
theorem gL_law_X9_meanWick : GoodIn wsL_law (wsV RL 127 RX9 yX9_meanWick wsX9_meanWick) := goodIn_app (goodIn_of _ (by decide +kernel)) ggL_law_X9_meanWick
set_option maxRecDepth 20000 in
theorem ggL_law_X10_meanWick : GoodIn wsL_law wsX10_meanWick := goodIn_r _ [1073, 89, 280, 281, 282, 5, 283, 284, 285, 286, 287, 1126, 1127, 1128, 1129, 1130, 1131, 1132, 1133, 1134, 1135, 1136, 1137, 1138, 1139, 1140, 1141, 1142, 1143, 1144, 1145, 1146, 1147, 1148, 1149] (by decide +kernel) (by decide +kernel)
set_option maxRecDepth 20000 in
theorem gL_law_X10_meanWick : GoodIn wsL_law (wsV RL 131 RX10 yX10_meanWick wsX10_meanWick) := goodIn_app (goodIn_of _ (by decide +kernel)) ggL_law_X10_meanWick
set_option maxRecDepth 20000 in
theorem ggL_law_X9_glowShare : GoodIn wsL_law wsX9_glowShare := goodIn_r _ [1077, 15, 932, 248, 249, 14, 250, 122, 348, 337, 338, 339, 127, 340, 341, 342, 343, 349, 350, 351, 352, 353, 354, 355, 1117, 1118, 1119, 1120, 1121, 1122, 1123, 1124, 1125, 1150, 1151, 1152, 1153, 1154, 1155, 1156, 1157, 1158, 1159] (by decide +kernel) (by decide +kernel)
set_option maxRecDepth 20000 in
theorem gL_law_X9_glowShare : GoodIn wsL_law (wsV RL 132 RX9 yX9_glowShare wsX9_glowShare) := goodIn_app (goodIn_of _ (by decide +kernel)) ggL_law_X9_glowShare
set_option maxRecDepth 20000 in
theorem ggL_law_X10_glowShare : GoodIn wsL_law wsX10_glowShare := goodIn_r _ [1081, 89, 364, 365, 366, 5, 367, 284, 285, 286, 287, 1126, 1127, 1128, 1129, 1130, 1131, 1132, 1133, 1134, 1135, 1136, 1137, 1138, 1139, 1140, 1141, 1142, 1143, 1144, 1145, 1146, 1147, 1148, 1149] (by decide +kernel) (by decide +kernel)
set_option maxRecDepth 20000 in
theorem gL_law_X10_glowShare : GoodIn wsL_law (wsV RL 136 RX10 yX10_glowShare wsX10_glowShare) := goodIn_app (goodIn_of _ (by decide +kernel)) ggL_law_X10_glowShare
set_option maxRecDepth 20000 in
theorem ggL_law_X9_undo : GoodIn wsL_law wsX9_undo := goodIn_r _ [1085, 20, 15, 1050, 1051, 1052, 19, 1053, 156, 1086, 1087, 1088, 1089, 117, 113, 114, 115, 116, 60, 118, 119, 120, 14, 121, 122, 46, 123, 124, 125, 126, 47, 48, 49, 127, 50, 128, 129, 130, 1117, 1118, 1119, 1120, 1121, 1122, 1123, 1124, 1125, 1160, 1161, 1162, 1150, 1151, 1152, 1153, 1154, 1155, 1156, 1157, 1158, 1159] (by decide +kernel) (by decide +kernel)
set_option maxRecDepth 20000 in
theorem gL_law_X9_undo : GoodIn wsL_law (wsV RL 137 RX9 yX9_undo wsX9_undo) := goodIn_app (goodIn_of _ (by decide +kernel)) ggL_law_X9_undo
set_option maxRecDepth 20000 in
theorem ggL_law_X10_undo : GoodIn wsL_law wsX10_undo := goodIn_r _ [1093, 198, 89, 92, 1126, 1127, 1128, 1129, 1130, 1131, 1132, 1133, 1134, 1135, 1136, 1137, 1138, 1139, 1140, 1141, 1142, 1143, 1144, 1145, 1146, 1147, 1148, 1149] (by decide +kernel) (by decide +kernel)
set_option maxRecDepth 20000 in
theorem gL_law_X10_undo : GoodIn wsL_law (wsV RL 140 RX10 yX10_undo wsX10_undo) := goodIn_app (goodIn_of _ (by decide +kernel)) ggL_law_X10_undo
set_option maxRecDepth 20000 in
theorem ggL_law_X9_save : GoodIn wsL_law wsX9_save := goodIn_r _ [1097, 16, 15, 1098, 1099, 119, 120, 14, 121, 122, 46, 123, 124, 125, 126, 47, 48, 49, 127, 50, 128, 129, 130, 932, 248, 249, 250, 1117, 1118, 1119, 1120, 1121, 1122, 1123, 1124, 1125, 1150, 1151, 1152, 1153, 1154, 1155, 1156, 1157, 1158, 1159] (by decide +kernel) (by decide +kernel)
set_option maxRecDepth 20000 in
theorem gL_law_X9_save : GoodIn wsL_law (wsV RL 141 RX9 yX9_save wsX9_save) := goodIn_app (goodIn_of _ (by decide +kernel)) ggL_law_X9_save
set_option maxRecDepth 20000 in
theorem ggL_law_X10_save : GoodIn wsL_law wsX10_save := goodIn_r _ [1103, 1104, 93, 89, 1126, 1127, 1128, 1129, 1130, 1131, 1132, 1133, 1134, 1135, 1136, 1137, 1138, 1139, 1140, 1141, 1142, 1143, 1144, 1145, 1146, 1147, 1148, 1149] (by decide +kernel) (by decide +kernel)
set_option maxRecDepth 20000 in
theorem gL_law_X10_save : GoodIn wsL_law (wsV RL 144 RX10 yX10_save wsX10_save) := goodIn_app (goodIn_of _ (by decide +kernel)) ggL_law_X10_save
set_option maxRecDepth 20000 in
theorem ggL_law_X9_restore : GoodIn wsL_law wsX9_restore := goodIn_r _ [1108, 1098, 15, 16, 20, 1099, 119, 120, 14, 121, 122, 46, 123, 124, 125, 126, 47, 48, 49, 127, 50, 128, 129, 130, 1109, 1110, 1111, 19, 1112, 156, 932, 248, 249, 250, 1117, 1118, 1119, 1120, 1121, 1122, 1123, 1124, 1125, 1150, 1151, 1152, 1153, 1154, 1155, 1156, 1157, 1158, 1159, 1160, 1161, 1162] (by decide +kernel) (by decide +kernel)
set_option maxRecDepth 20000 in
theorem gL_law_X9_restore : GoodIn wsL_law (wsV RL 145 RX9 yX9_restore wsX9_restore) := goodIn_app (goodIn_of _ (by decide +kernel)) ggL_law_X9_restore
set_option maxRecDepth 20000 in
theorem ggL_law_X10_restore : GoodIn wsL_law wsX10_restore := goodIn_r _ [1116, 1104, 89, 93, 198, 1126, 1127, 1128, 1129, 1130, 1131, 1132, 1133, 1134, 1135, 1136, 1137, 1138, 1139, 1140, 1141, 1142, 1143, 1144, 1145, 1146, 1147, 1148, 1149] (by decide +kernel) (by decide +kernel)
set_option maxRecDepth 20000 in
theorem gL_law_X10_restore : GoodIn wsL_law (wsV RL 148 RX10 yX10_restore wsX10_restore) := goodIn_app (goodIn_of _ (by decide +kernel)) ggL_law_X10_restore
