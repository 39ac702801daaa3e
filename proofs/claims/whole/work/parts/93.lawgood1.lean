set_option maxRecDepth 20000 in
theorem ggL_law_X9_init : GoodIn wsL_law wsX9_init := goodIn_r _ [8, 9, 10, 11, 12, 13, 14, 15, 16, 17, 18, 19, 20, 21, 22, 23, 24, 25, 26, 27, 28, 29, 30, 31, 32, 33, 34, 35, 36, 37, 38, 39, 40, 41, 42, 43, 44, 45, 46, 47, 48, 49, 50, 51, 52, 53, 54, 55, 56, 57, 58, 59, 60, 61, 62, 63, 64, 65, 66, 67, 68, 69, 70, 71, 72, 73, 74, 75, 76, 77, 78, 79, 80, 81, 82, 83, 84, 1150, 1151, 1152, 1153, 1154, 1155, 1156, 1157, 1158, 1159, 1117, 1118, 1119, 1120, 1121, 1122, 1123, 1124, 1125, 1160, 1161, 1162, 1163, 1164, 1165, 1166, 1167, 1168, 1169, 1170, 1171, 1172, 1173, 1174, 1175, 1176, 1177] (by decide +kernel) (by decide +kernel)
set_option maxRecDepth 20000 in
theorem gL_law_X9_init : GoodIn wsL_law (wsX9_init) := ggL_law_X9_init
set_option maxRecDepth 20000 in
theorem ggL_law_X10_init : GoodIn wsL_law wsX10_init := goodIn_r _ [87, 88, 10, 11, 45, 89, 90, 91, 92, 93, 94, 95, 96, 97, 98, 99, 100, 74, 101, 102, 103, 104, 1126, 1127, 1128, 1129, 1130, 1131, 1132, 1133, 1134, 1135, 1136, 1137, 1138, 1139, 1140, 1141, 1142, 1143, 1144, 1145, 1146, 1147, 1148, 1149] (by decide +kernel) (by decide +kernel)
set_option maxRecDepth 20000 in
theorem gL_law_X10_init : GoodIn wsL_law (wsX10_init) := ggL_law_X10_init
set_option maxRecDepth 20000 in
theorem ggL_law_X9_hang : GoodIn wsL_law wsX9_hang := goodIn_r _ [108, 20, 15, 109, 110, 111, 19, 112, 113, 114, 115, 116, 117, 60, 118, 119, 120, 14, 121, 122, 46, 123, 124, 125, 126, 47, 48, 49, 127, 50, 128, 129, 130, 131, 132, 133, 2, 134, 135, 136, 137, 138, 139, 140, 141, 142, 40, 143, 144, 145, 39, 146, 83, 84, 147, 148, 149, 150, 151, 152, 153, 154, 155, 156, 157, 158, 159, 160, 1117, 1118, 1119, 1120, 1121, 1122, 1123, 1124, 1125, 1160, 1161, 1162, 1150, 1151, 1152, 1153, 1154, 1155, 1156, 1157, 1158, 1159, 1175, 1176, 1177] (by decide +kernel) (by decide +kernel)
set_option maxRecDepth 20000 in
theorem gL_law_X9_hang : GoodIn wsL_law (wsV RL 13 RX9 yX9_hang wsX9_hang) := goodIn_app (goodIn_of _ (by decide +kernel)) ggL_law_X9_hang
set_option maxRecDepth 20000 in
theorem ggL_law_X10_hang : GoodIn wsL_law wsX10_hang := goodIn_r _ [164, 165, 166, 167, 5, 168, 90, 89, 169, 170, 171, 172, 173, 174, 175, 176, 177, 178, 179, 103, 104, 180, 181, 182, 183, 184, 185, 186, 187, 188, 189, 190, 191, 192, 193, 194, 195, 196, 197, 198, 92, 1126, 1127, 1128, 1129, 1130, 1131, 1132, 1133, 1134, 1135, 1136, 1137, 1138, 1139, 1140, 1141, 1142, 1143, 1144, 1145, 1146, 1147, 1148, 1149] (by decide +kernel) (by decide +kernel)
set_option maxRecDepth 20000 in
theorem gL_law_X10_hang : GoodIn wsL_law (wsV RL 17 RX10 yX10_hang wsX10_hang) := goodIn_app (goodIn_of _ (by decide +kernel)) ggL_law_X10_hang
set_option maxRecDepth 20000 in
theorem ggL_law_X9_wire : GoodIn wsL_law wsX9_wire := goodIn_r _ [202, 20, 15, 109, 110, 111, 19, 112, 113, 114, 115, 116, 117, 60, 118, 119, 120, 14, 121, 122, 46, 123, 124, 125, 126, 47, 48, 49, 127, 50, 128, 129, 130, 203, 204, 205, 2, 206, 40, 207, 208, 209, 210, 211, 212, 213, 214, 215, 216, 217, 218, 219, 220, 221, 222, 139, 140, 141, 142, 143, 144, 145, 39, 146, 83, 84, 147, 223, 224, 225, 226, 227, 228, 229, 230, 231, 232, 233, 234, 235, 236, 237, 238, 239, 240, 241, 242, 243, 244, 245, 246, 247, 248, 249, 250, 251, 252, 253, 254, 255, 256, 257, 258, 259, 260, 261, 262, 263, 264, 265, 266, 267, 148, 149, 150, 151, 152, 153, 154, 155, 156, 157, 158, 159, 160, 1117, 1118, 1119, 1120, 1121, 1122, 1123, 1124, 1125, 1160, 1161, 1162, 1150, 1151, 1152, 1153, 1154, 1155, 1156, 1157, 1158, 1159, 1175, 1176, 1177] (by decide +kernel) (by decide +kernel)
set_option maxRecDepth 20000 in
theorem gL_law_X9_wire : GoodIn wsL_law (wsV RL 18 RX9 yX9_wire wsX9_wire) := goodIn_app (goodIn_of _ (by decide +kernel)) ggL_law_X9_wire
set_option maxRecDepth 20000 in
theorem ggL_law_X10_wire : GoodIn wsL_law wsX10_wire := goodIn_r _ [271, 165, 166, 167, 5, 168, 90, 89, 272, 273, 274, 275, 276, 277, 278, 279, 173, 174, 175, 280, 281, 282, 283, 284, 285, 286, 287, 176, 177, 178, 179, 103, 104, 180, 288, 289, 290, 291, 292, 293, 294, 295, 296, 297, 298, 299, 96, 300, 301, 302, 303, 181, 182, 183, 184, 304, 305, 306, 307, 185, 186, 187, 188, 189, 190, 191, 192, 193, 194, 195, 196, 197, 198, 92, 1126, 1127, 1128, 1129, 1130, 1131, 1132, 1133, 1134, 1135, 1136, 1137, 1138, 1139, 1140, 1141, 1142, 1143, 1144, 1145, 1146, 1147, 1148, 1149] (by decide +kernel) (by decide +kernel)
set_option maxRecDepth 20000 in
theorem gL_law_X10_wire : GoodIn wsL_law (wsV RL 22 RX10 yX10_wire wsX10_wire) := goodIn_app (goodIn_of _ (by decide +kernel)) ggL_law_X10_wire
set_option maxRecDepth 20000 in
theorem ggL_law_X9_cut : GoodIn wsL_law wsX9_cut := goodIn_r _ [311, 20, 15, 109, 110, 111, 19, 112, 113, 114, 115, 116, 117, 60, 118, 119, 120, 14, 121, 122, 46, 123, 124, 125, 126, 47, 48, 49, 127, 50, 128, 129, 130, 312, 313, 314, 2, 315, 207, 208, 209, 210, 211, 212, 213, 214, 215, 216, 217, 218, 219, 220, 221, 222, 139, 140, 141, 142, 40, 143, 144, 145, 39, 146, 83, 84, 147, 223, 224, 225, 226, 227, 228, 229, 230, 231, 232, 233, 259, 260, 261, 262, 148, 149, 150, 151, 152, 153, 154, 155, 156, 157, 158, 159, 160, 1117, 1118, 1119, 1120, 1121, 1122, 1123, 1124, 1125, 1160, 1161, 1162, 1150, 1151, 1152, 1153, 1154, 1155, 1156, 1157, 1158, 1159, 1175, 1176, 1177] (by decide +kernel) (by decide +kernel)
set_option maxRecDepth 20000 in
theorem gL_law_X9_cut : GoodIn wsL_law (wsV RL 23 RX9 yX9_cut wsX9_cut) := goodIn_app (goodIn_of _ (by decide +kernel)) ggL_law_X9_cut
set_option maxRecDepth 20000 in
theorem ggL_law_X10_cut : GoodIn wsL_law wsX10_cut := goodIn_r _ [319, 165, 166, 167, 5, 168, 90, 89, 320, 321, 322, 323, 276, 277, 278, 279, 173, 174, 175, 280, 281, 282, 283, 284, 285, 286, 287, 176, 177, 178, 179, 103, 104, 180, 288, 289, 290, 291, 292, 293, 294, 295, 181, 182, 183, 184, 185, 186, 187, 188, 189, 190, 191, 192, 193, 194, 195, 196, 197, 198, 92, 1126, 1127, 1128, 1129, 1130, 1131, 1132, 1133, 1134, 1135, 1136, 1137, 1138, 1139, 1140, 1141, 1142, 1143, 1144, 1145, 1146, 1147, 1148, 1149] (by decide +kernel) (by decide +kernel)
set_option maxRecDepth 20000 in
theorem gL_law_X10_cut : GoodIn wsL_law (wsV RL 26 RX10 yX10_cut wsX10_cut) := goodIn_app (goodIn_of _ (by decide +kernel)) ggL_law_X10_cut
set_option maxRecDepth 20000 in
theorem ggL_law_X9_set : GoodIn wsL_law wsX9_set := goodIn_r _ [327, 20, 15, 109, 110, 111, 19, 112, 113, 114, 115, 116, 117, 60, 118, 119, 120, 14, 121, 122, 46, 123, 124, 125, 126, 47, 48, 49, 127, 50, 128, 129, 130, 328, 329, 330, 2, 331, 207, 208, 209, 210, 218, 219, 220, 221, 222, 223, 224, 225, 226, 139, 140, 141, 142, 40, 143, 144, 145, 39, 146, 83, 84, 147, 332, 333, 334, 335, 336, 337, 338, 339, 340, 341, 342, 343, 242, 243, 344, 345, 346, 347, 348, 349, 350, 351, 352, 353, 354, 355, 148, 149, 150, 151, 152, 153, 154, 155, 156, 157, 158, 159, 160, 1117, 1118, 1119, 1120, 1121, 1122, 1123, 1124, 1125, 1160, 1161, 1162, 1150, 1151, 1152, 1153, 1154, 1155, 1156, 1157, 1158, 1159, 1175, 1176, 1177] (by decide +kernel) (by decide +kernel)
set_option maxRecDepth 20000 in
theorem gL_law_X9_set : GoodIn wsL_law (wsV RL 27 RX9 yX9_set wsX9_set) := goodIn_app (goodIn_of _ (by decide +kernel)) ggL_law_X9_set
set_option maxRecDepth 20000 in
theorem ggL_law_X10_set : GoodIn wsL_law wsX10_set := goodIn_r _ [359, 165, 166, 167, 5, 168, 90, 89, 360, 361, 362, 363, 276, 277, 278, 279, 173, 174, 175, 280, 281, 282, 283, 284, 285, 286, 287, 176, 177, 178, 179, 103, 104, 180, 181, 182, 183, 184, 364, 365, 366, 367, 185, 186, 187, 188, 189, 190, 191, 192, 193, 194, 195, 196, 197, 198, 92, 1126, 1127, 1128, 1129, 1130, 1131, 1132, 1133, 1134, 1135, 1136, 1137, 1138, 1139, 1140, 1141, 1142, 1143, 1144, 1145, 1146, 1147, 1148, 1149] (by decide +kernel) (by decide +kernel)
set_option maxRecDepth 20000 in
theorem gL_law_X10_set : GoodIn wsL_law (wsV RL 31 RX10 yX10_set wsX10_set) := goodIn_app (goodIn_of _ (by decide +kernel)) ggL_law_X10_set
set_option maxRecDepth 20000 in
theorem ggL_law_X9_loops : GoodIn wsL_law wsX9_loops := goodIn_r _ [371, 20, 15, 109, 110, 111, 19, 112, 113, 114, 115, 116, 117, 60, 118, 119, 120, 14, 121, 122, 46, 123, 124, 125, 126, 47, 48, 49, 127, 50, 128, 129, 130, 372, 373, 374, 2, 375, 40, 376, 377, 240, 378, 247, 248, 249, 250, 379, 380, 381, 244, 245, 246, 251, 252, 253, 254, 242, 243, 382, 383, 384, 385, 139, 140, 141, 142, 143, 144, 145, 39, 146, 83, 84, 147, 349, 350, 351, 352, 353, 354, 355, 255, 256, 257, 258, 234, 235, 236, 237, 386, 387, 388, 389, 148, 149, 150, 151, 152, 153, 154, 155, 156, 157, 158, 159, 160, 1117, 1118, 1119, 1120, 1121, 1122, 1123, 1124, 1125, 1160, 1161, 1162, 1150, 1151, 1152, 1153, 1154, 1155, 1156, 1157, 1158, 1159, 1175, 1176, 1177] (by decide +kernel) (by decide +kernel)
set_option maxRecDepth 20000 in
theorem gL_law_X9_loops : GoodIn wsL_law (wsV RL 32 RX9 yX9_loops wsX9_loops) := goodIn_app (goodIn_of _ (by decide +kernel)) ggL_law_X9_loops
set_option maxRecDepth 20000 in
theorem ggL_law_X10_loops : GoodIn wsL_law wsX10_loops := goodIn_r _ [393, 89, 165, 166, 167, 5, 168, 90, 394, 395, 396, 397, 95, 398, 399, 400, 401, 292, 293, 294, 295, 284, 285, 286, 287, 402, 403, 351, 404, 405, 176, 177, 178, 179, 103, 104, 180, 406, 350, 352, 353, 354, 355, 300, 301, 302, 303, 194, 195, 196, 197, 198, 92, 1126, 1127, 1128, 1129, 1130, 1131, 1132, 1133, 1134, 1135, 1136, 1137, 1138, 1139, 1140, 1141, 1142, 1143, 1144, 1145, 1146, 1147, 1148, 1149] (by decide +kernel) (by decide +kernel)
set_option maxRecDepth 20000 in
theorem gL_law_X10_loops : GoodIn wsL_law (wsV RL 36 RX10 yX10_loops wsX10_loops) := goodIn_app (goodIn_of _ (by decide +kernel)) ggL_law_X10_loops
set_option maxRecDepth 20000 in
theorem ggL_law_X9_tick : GoodIn wsL_law wsX9_tick := goodIn_r _ [410, 20, 15, 109, 110, 111, 19, 112, 113, 114, 115, 116, 117, 60, 118, 119, 120, 14, 121, 122, 46, 123, 124, 125, 126, 47, 48, 49, 127, 50, 128, 129, 130, 411, 412, 413, 2, 414, 415, 416, 417, 418, 419, 420, 421, 422, 340, 341, 342, 343, 423, 424, 425, 426, 427, 428, 429, 430, 431, 350, 351, 352, 353, 354, 355, 148, 149, 150, 151, 152, 153, 154, 155, 156, 157, 158, 159, 160, 1117, 1118, 1119, 1120, 1121, 1122, 1123, 1124, 1125, 1160, 1161, 1162, 1150, 1151, 1152, 1153, 1154, 1155, 1156, 1157, 1158, 1159] (by decide +kernel) (by decide +kernel)
set_option maxRecDepth 20000 in
theorem gL_law_X9_tick : GoodIn wsL_law (wsV RL 37 RX9 yX9_tick wsX9_tick) := goodIn_app (goodIn_of _ (by decide +kernel)) ggL_law_X9_tick
set_option maxRecDepth 20000 in
theorem ggL_law_X10_tick : GoodIn wsL_law wsX10_tick := goodIn_r _ [435, 165, 166, 167, 5, 168, 90, 89, 436, 437, 438, 439, 173, 174, 175, 440, 441, 442, 443, 444, 445, 446, 447, 94, 448, 449, 450, 451, 280, 281, 282, 283, 284, 285, 286, 287, 292, 293, 294, 295, 304, 305, 306, 307, 452, 453, 454, 455, 456, 457, 458, 459, 460, 461, 462, 181, 182, 183, 184, 185, 186, 187, 188, 189, 190, 191, 192, 193, 194, 195, 196, 197, 198, 92, 1126, 1127, 1128, 1129, 1130, 1131, 1132, 1133, 1134, 1135, 1136, 1137, 1138, 1139, 1140, 1141, 1142, 1143, 1144, 1145, 1146, 1147, 1148, 1149] (by decide +kernel) (by decide +kernel)
set_option maxRecDepth 20000 in
theorem gL_law_X10_tick : GoodIn wsL_law (wsV RL 41 RX10 yX10_tick wsX10_tick) := goodIn_app (goodIn_of _ (by decide +kernel)) ggL_law_X10_tick
set_option maxRecDepth 20000 in
theorem ggL_law_X9_lanternOf : GoodIn wsL_law wsX9_lanternOf := goodIn_r _ [466, 15, 207, 208, 209, 14, 210, 122, 223, 224, 225, 226, 46, 222, 467, 468, 469, 470, 47, 332, 333, 334, 335, 336, 337, 338, 339, 127, 340, 341, 342, 343, 242, 2, 243, 263, 264, 265, 266, 267, 231, 232, 233, 48, 471, 472, 473, 474, 475, 476, 477, 478, 49, 348, 479, 428, 429, 430, 480, 481, 482, 483, 484, 424, 425, 426, 1117, 1118, 1119, 1120, 1121, 1122, 1123, 1124, 1125, 1150, 1151, 1152, 1153, 1154, 1155, 1156, 1157, 1158, 1159] (by decide +kernel) (by decide +kernel)
set_option maxRecDepth 20000 in
theorem gL_law_X9_lanternOf : GoodIn wsL_law (wsV RL 42 RX9 yX9_lanternOf wsX9_lanternOf) := goodIn_app (goodIn_of _ (by decide +kernel)) ggL_law_X9_lanternOf
set_option maxRecDepth 20000 in
theorem ggL_law_X10_lanternOf : GoodIn wsL_law wsX10_lanternOf := goodIn_r _ [488, 276, 277, 278, 5, 279, 89, 173, 174, 175, 284, 285, 286, 287, 304, 305, 306, 307, 292, 293, 294, 295, 489, 490, 491, 492, 448, 449, 450, 451, 280, 281, 282, 283, 452, 453, 454, 1126, 1127, 1128, 1129, 1130, 1131, 1132, 1133, 1134, 1135, 1136, 1137, 1138, 1139, 1140, 1141, 1142, 1143, 1144, 1145, 1146, 1147, 1148, 1149] (by decide +kernel) (by decide +kernel)
set_option maxRecDepth 20000 in
theorem gL_law_X10_lanternOf : GoodIn wsL_law (wsV RL 45 RX10 yX10_lanternOf wsX10_lanternOf) := goodIn_app (goodIn_of _ (by decide +kernel)) ggL_law_X10_lanternOf
set_option maxRecDepth 20000 in
theorem ggL_law_X9_wireOf : GoodIn wsL_law wsX9_wireOf := goodIn_r _ [496, 15, 207, 208, 209, 14, 210, 122, 211, 212, 2, 213, 230, 231, 232, 233, 48, 1117, 1118, 1119, 1120, 1121, 1122, 1123, 1124, 1125, 1150, 1151, 1152, 1153, 1154, 1155, 1156, 1157, 1158, 1159] (by decide +kernel) (by decide +kernel)
set_option maxRecDepth 20000 in
theorem gL_law_X9_wireOf : GoodIn wsL_law (wsV RL 46 RX9 yX9_wireOf wsX9_wireOf) := goodIn_app (goodIn_of _ (by decide +kernel)) ggL_law_X9_wireOf
set_option maxRecDepth 20000 in
theorem ggL_law_X10_wireOf : GoodIn wsL_law wsX10_wireOf := goodIn_r _ [500, 276, 277, 278, 5, 279, 89, 173, 174, 175, 292, 293, 294, 295, 284, 285, 286, 287, 1126, 1127, 1128, 1129, 1130, 1131, 1132, 1133, 1134, 1135, 1136, 1137, 1138, 1139, 1140, 1141, 1142, 1143, 1144, 1145, 1146, 1147, 1148, 1149] (by decide +kernel) (by decide +kernel)
set_option maxRecDepth 20000 in
theorem gL_law_X10_wireOf : GoodIn wsL_law (wsV RL 49 RX10 yX10_wireOf wsX10_wireOf) := goodIn_app (goodIn_of _ (by decide +kernel)) ggL_law_X10_wireOf
set_option maxRecDepth 20000 in
theorem ggL_law_X9_leads : GoodIn wsL_law wsX9_leads := goodIn_r _ [504, 15, 207, 208, 209, 14, 210, 122, 505, 380, 240, 381, 244, 245, 246, 247, 248, 249, 250, 251, 252, 253, 254, 48, 1117, 1118, 1119, 1120, 1121, 1122, 1123, 1124, 1125, 1150, 1151, 1152, 1153, 1154, 1155, 1156, 1157, 1158, 1159] (by decide +kernel) (by decide +kernel)
set_option maxRecDepth 20000 in
theorem gL_law_X9_leads : GoodIn wsL_law (wsV RL 50 RX9 yX9_leads wsX9_leads) := goodIn_app (goodIn_of _ (by decide +kernel)) ggL_law_X9_leads
set_option maxRecDepth 20000 in
theorem ggL_law_X10_leads : GoodIn wsL_law wsX10_leads := goodIn_r _ [509, 95, 276, 277, 278, 5, 279, 89, 173, 174, 175, 398, 399, 400, 401, 292, 293, 294, 295, 284, 285, 286, 287, 1126, 1127, 1128, 1129, 1130, 1131, 1132, 1133, 1134, 1135, 1136, 1137, 1138, 1139, 1140, 1141, 1142, 1143, 1144, 1145, 1146, 1147, 1148, 1149] (by decide +kernel) (by decide +kernel)
set_option maxRecDepth 20000 in
theorem gL_law_X10_leads : GoodIn wsL_law (wsV RL 53 RX10 yX10_leads wsX10_leads) := goodIn_app (goodIn_of _ (by decide +kernel)) ggL_law_X10_leads
set_option maxRecDepth 20000 in
theorem ggL_law_X9_looped : GoodIn wsL_law wsX9_looped := goodIn_r _ [513, 15, 376, 377, 240, 378, 247, 248, 249, 14, 250, 122, 379, 380, 381, 244, 245, 246, 251, 252, 253, 254, 48, 242, 2, 243, 1117, 1118, 1119, 1120, 1121, 1122, 1123, 1124, 1125, 1150, 1151, 1152, 1153, 1154, 1155, 1156, 1157, 1158, 1159] (by decide +kernel) (by decide +kernel)
set_option maxRecDepth 20000 in
theorem gL_law_X9_looped : GoodIn wsL_law (wsV RL 54 RX9 yX9_looped wsX9_looped) := goodIn_app (goodIn_of _ (by decide +kernel)) ggL_law_X9_looped
set_option maxRecDepth 20000 in
theorem ggL_law_X10_looped : GoodIn wsL_law wsX10_looped := goodIn_r _ [517, 394, 395, 396, 5, 397, 89, 95, 398, 399, 400, 401, 292, 293, 294, 295, 284, 285, 286, 287, 1126, 1127, 1128, 1129, 1130, 1131, 1132, 1133, 1134, 1135, 1136, 1137, 1138, 1139, 1140, 1141, 1142, 1143, 1144, 1145, 1146, 1147, 1148, 1149] (by decide +kernel) (by decide +kernel)
set_option maxRecDepth 20000 in
theorem gL_law_X10_looped : GoodIn wsL_law (wsV RL 58 RX10 yX10_looped wsX10_looped) := goodIn_app (goodIn_of _ (by decide +kernel)) ggL_law_X10_looped
set_option maxRecDepth 20000 in
theorem ggL_law_X9_depth : GoodIn wsL_law wsX9_depth := goodIn_r _ [521, 15, 24, 207, 208, 209, 14, 210, 122, 522, 523, 524, 23, 525, 65, 526, 52, 53, 54, 527, 528, 529, 530, 531, 159, 532, 533, 534, 231, 232, 233, 48, 535, 536, 537, 538, 219, 220, 221, 46, 222, 539, 468, 469, 470, 47, 1117, 1118, 1119, 1120, 1121, 1122, 1123, 1124, 1125, 1150, 1151, 1152, 1153, 1154, 1155, 1156, 1157, 1158, 1159, 1163] (by decide +kernel) (by decide +kernel)
set_option maxRecDepth 20000 in
theorem gL_law_X9_depth : GoodIn wsL_law (wsV RL 59 RX9 yX9_depth wsX9_depth) := goodIn_app (goodIn_of _ (by decide +kernel)) ggL_law_X9_depth
set_option maxRecDepth 20000 in
theorem ggL_law_X10_depth : GoodIn wsL_law wsX10_depth := goodIn_r _ [543, 276, 277, 278, 5, 279, 89, 173, 174, 175, 544, 545, 546, 547, 95, 280, 281, 282, 283, 284, 285, 286, 287, 394, 395, 396, 397, 398, 399, 400, 401, 292, 293, 294, 295, 548, 549, 550, 551, 552, 531, 159, 532, 1126, 1127, 1128, 1129, 1130, 1131, 1132, 1133, 1134, 1135, 1136, 1137, 1138, 1139, 1140, 1141, 1142, 1143, 1144, 1145, 1146, 1147, 1148, 1149] (by decide +kernel) (by decide +kernel)
set_option maxRecDepth 20000 in
theorem gL_law_X10_depth : GoodIn wsL_law (wsV RL 62 RX10 yX10_depth wsX10_depth) := goodIn_app (goodIn_of _ (by decide +kernel)) ggL_law_X10_depth
set_option maxRecDepth 20000 in
theorem ggL_law_X9_depthAgain : GoodIn wsL_law wsX9_depthAgain := goodIn_r _ [556, 15, 24, 207, 208, 209, 14, 210, 122, 557, 558, 559, 23, 560, 65, 526, 52, 53, 54, 561, 562, 563, 564, 565, 248, 249, 250, 566, 567, 568, 569, 530, 531, 159, 532, 534, 231, 232, 233, 48, 533, 535, 536, 537, 538, 219, 220, 221, 46, 222, 539, 468, 469, 470, 47, 1117, 1118, 1119, 1120, 1121, 1122, 1123, 1124, 1125, 1150, 1151, 1152, 1153, 1154, 1155, 1156, 1157, 1158, 1159, 1163] (by decide +kernel) (by decide +kernel)
set_option maxRecDepth 20000 in
theorem gL_law_X9_depthAgain : GoodIn wsL_law (wsV RL 63 RX9 yX9_depthAgain wsX9_depthAgain) := goodIn_app (goodIn_of _ (by decide +kernel)) ggL_law_X9_depthAgain
set_option maxRecDepth 20000 in
theorem ggL_law_X10_depthAgain : GoodIn wsL_law wsX10_depthAgain := goodIn_r _ [573, 574, 541, 542, 5, 543, 276, 277, 278, 279, 89, 173, 174, 175, 544, 545, 546, 547, 95, 280, 281, 282, 283, 284, 285, 286, 287, 394, 395, 396, 397, 398, 399, 400, 401, 292, 293, 294, 295, 548, 549, 550, 551, 552, 531, 159, 532, 1126, 1127, 1128, 1129, 1130, 1131, 1132, 1133, 1134, 1135, 1136, 1137, 1138, 1139, 1140, 1141, 1142, 1143, 1144, 1145, 1146, 1147, 1148, 1149] (by decide +kernel) (by decide +kernel)
set_option maxRecDepth 20000 in
theorem gL_law_X10_depthAgain : GoodIn wsL_law (wsV RL 66 RX10 yX10_depthAgain wsX10_depthAgain) := goodIn_app (goodIn_of _ (by decide +kernel)) ggL_law_X10_depthAgain
set_option maxRecDepth 20000 in
theorem ggL_law_X9_settlesIn : GoodIn wsL_law wsX9_settlesIn := goodIn_r _ [578, 28, 15, 579, 580, 581, 27, 582, 583, 481, 482, 14, 483, 127, 584, 420, 421, 422, 122, 46, 47, 340, 341, 342, 343, 423, 424, 425, 426, 427, 428, 429, 430, 48, 1117, 1118, 1119, 1120, 1121, 1122, 1123, 1124, 1125, 1150, 1151, 1152, 1153, 1154, 1155, 1156, 1157, 1158, 1159] (by decide +kernel) (by decide +kernel)
set_option maxRecDepth 20000 in
theorem gL_law_X9_settlesIn : GoodIn wsL_law (wsV RL 67 RX9 yX9_settlesIn wsX9_settlesIn) := goodIn_app (goodIn_of _ (by decide +kernel)) ggL_law_X9_settlesIn
set_option maxRecDepth 20000 in
theorem ggL_law_X10_settlesIn : GoodIn wsL_law wsX10_settlesIn := goodIn_r _ [588, 589, 590, 591, 5, 592, 91, 89, 593, 594, 595, 596, 597, 598, 599, 600, 444, 445, 446, 447, 94, 448, 449, 450, 451, 280, 281, 282, 283, 284, 285, 286, 287, 292, 293, 294, 295, 304, 305, 306, 307, 452, 453, 454, 455, 456, 457, 458, 459, 460, 461, 462, 440, 441, 442, 443, 181, 182, 183, 184, 601, 602, 603, 604, 1126, 1127, 1128, 1129, 1130, 1131, 1132, 1133, 1134, 1135, 1136, 1137, 1138, 1139, 1140, 1141, 1142, 1143, 1144, 1145, 1146, 1147, 1148, 1149] (by decide +kernel) (by decide +kernel)
set_option maxRecDepth 20000 in
theorem gL_law_X10_settlesIn : GoodIn wsL_law (wsV RL 70 RX10 yX10_settlesIn wsX10_settlesIn) := goodIn_app (goodIn_of _ (by decide +kernel)) ggL_law_X10_settlesIn
set_option maxRecDepth 20000 in
theorem ggL_law_X9_period : GoodIn wsL_law wsX9_period := goodIn_r _ [608, 28, 15, 609, 610, 611, 27, 612, 70, 583, 481, 482, 14, 483, 127, 584, 420, 421, 422, 122, 46, 47, 340, 341, 342, 343, 423, 424, 425, 426, 427, 428, 429, 430, 48, 1117, 1118, 1119, 1120, 1121, 1122, 1123, 1124, 1125, 1164, 1150, 1151, 1152, 1153, 1154, 1155, 1156, 1157, 1158, 1159] (by decide +kernel) (by decide +kernel)
set_option maxRecDepth 20000 in
theorem gL_law_X9_period : GoodIn wsL_law (wsV RL 71 RX9 yX9_period wsX9_period) := goodIn_app (goodIn_of _ (by decide +kernel)) ggL_law_X9_period
set_option maxRecDepth 20000 in
theorem ggL_law_X10_period : GoodIn wsL_law wsX10_period := goodIn_r _ [616, 97, 98, 99, 589, 590, 591, 5, 592, 91, 89, 617, 618, 619, 620, 284, 285, 286, 287, 440, 441, 442, 443, 444, 445, 446, 447, 94, 448, 449, 450, 451, 280, 281, 282, 283, 292, 293, 294, 295, 304, 305, 306, 307, 452, 453, 454, 455, 456, 457, 458, 459, 460, 461, 462, 181, 182, 183, 184, 601, 602, 603, 604, 1126, 1127, 1128, 1129, 1130, 1131, 1132, 1133, 1134, 1135, 1136, 1137, 1138, 1139, 1140, 1141, 1142, 1143, 1144, 1145, 1146, 1147, 1148, 1149] (by decide +kernel) (by decide +kernel)
set_option maxRecDepth 20000 in
theorem gL_law_X10_period : GoodIn wsL_law (wsV RL 74 RX10 yX10_period wsX10_period) := goodIn_app (goodIn_of _ (by decide +kernel)) ggL_law_X10_period
set_option maxRecDepth 20000 in
theorem ggL_law_X9_periodAgain : GoodIn wsL_law wsX9_periodAgain := goodIn_r _ [624, 28, 15, 625, 626, 627, 27, 628, 583, 481, 482, 14, 483, 127, 584, 420, 421, 422, 122, 46, 47, 340, 341, 342, 343, 423, 424, 425, 426, 427, 428, 429, 430, 48, 629, 630, 631, 1117, 1118, 1119, 1120, 1121, 1122, 1123, 1124, 1125, 1150, 1151, 1152, 1153, 1154, 1155, 1156, 1157, 1158, 1159] (by decide +kernel) (by decide +kernel)
set_option maxRecDepth 20000 in
theorem gL_law_X9_periodAgain : GoodIn wsL_law (wsV RL 75 RX9 yX9_periodAgain wsX9_periodAgain) := goodIn_app (goodIn_of _ (by decide +kernel)) ggL_law_X9_periodAgain
set_option maxRecDepth 20000 in
theorem ggL_law_X10_periodAgain : GoodIn wsL_law wsX10_periodAgain := goodIn_r _ [635, 636, 614, 615, 5, 616, 97, 98, 99, 589, 590, 591, 592, 91, 89, 617, 618, 619, 620, 284, 285, 286, 287, 440, 441, 442, 443, 444, 445, 446, 447, 94, 448, 449, 450, 451, 280, 281, 282, 283, 292, 293, 294, 295, 304, 305, 306, 307, 452, 453, 454, 455, 456, 457, 458, 459, 460, 461, 462, 181, 182, 183, 184, 601, 602, 603, 604, 1126, 1127, 1128, 1129, 1130, 1131, 1132, 1133, 1134, 1135, 1136, 1137, 1138, 1139, 1140, 1141, 1142, 1143, 1144, 1145, 1146, 1147, 1148, 1149] (by decide +kernel) (by decide +kernel)
set_option maxRecDepth 20000 in
theorem gL_law_X10_periodAgain : GoodIn wsL_law (wsV RL 78 RX10 yX10_periodAgain wsX10_periodAgain) := goodIn_app (goodIn_of _ (by decide +kernel)) ggL_law_X10_periodAgain
set_option maxRecDepth 20000 in
theorem ggL_law_X9_flickers : GoodIn wsL_law wsX9_flickers := goodIn_r _ [640, 15, 28, 207, 208, 209, 14, 210, 122, 218, 219, 220, 221, 46, 222, 641, 642, 643, 27, 644, 583, 481, 482, 483, 127, 584, 420, 421, 422, 47, 340, 341, 342, 343, 423, 424, 425, 426, 427, 428, 429, 430, 48, 1117, 1118, 1119, 1120, 1121, 1122, 1123, 1124, 1125, 1150, 1151, 1152, 1153, 1154, 1155, 1156, 1157, 1158, 1159] (by decide +kernel) (by decide +kernel)
set_option maxRecDepth 20000 in
theorem gL_law_X9_flickers : GoodIn wsL_law (wsV RL 79 RX9 yX9_flickers wsX9_flickers) := goodIn_app (goodIn_of _ (by decide +kernel)) ggL_law_X9_flickers
