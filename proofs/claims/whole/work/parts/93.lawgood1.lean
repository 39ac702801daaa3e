set_option maxRecDepth 20000 in
theorem ggL_law_X9_init : GoodIn wsL_law wsX9_init := goodIn_r _ [8, 9, 10, 11, 12, 13, 14, 15, 16, 17, 18, 19, 20, 21, 22, 23, 24, 25, 26, 27, 28, 29, 30, 31, 32, 33, 34, 35, 36, 37, 38, 39, 40, 41, 42, 43, 44, 45, 46, 47, 48, 49, 50, 51, 52, 53, 54, 55, 56, 57, 58, 59, 60, 61, 62, 63, 64, 65, 66, 67, 68, 69, 70, 71, 72, 73, 74, 75, 76, 77, 78, 79, 80, 81, 82, 83, 84, 1146, 1147, 1148, 1149, 1150, 1151, 1152, 1153, 1154, 1155, 1113, 1114, 1115, 1116, 1117, 1118, 1119, 1120, 1121, 1156, 1157, 1158, 1159, 1160, 1161, 1162, 1163, 1164, 1165, 1166, 1167, 1168, 1169, 1170, 1171, 1172, 1173] (by decide +kernel) (by decide +kernel)
set_option maxRecDepth 20000 in
theorem gL_law_X9_init : GoodIn wsL_law (wsX9_init) := ggL_law_X9_init
set_option maxRecDepth 20000 in
theorem ggL_law_X10_init : GoodIn wsL_law wsX10_init := goodIn_r _ [87, 88, 10, 11, 45, 89, 90, 91, 92, 93, 94, 95, 96, 97, 98, 99, 100, 74, 101, 102, 103, 104, 1122, 1123, 1124, 1125, 1126, 1127, 1128, 1129, 1130, 1131, 1132, 1133, 1134, 1135, 1136, 1137, 1138, 1139, 1140, 1141, 1142, 1143, 1144, 1145] (by decide +kernel) (by decide +kernel)
set_option maxRecDepth 20000 in
theorem gL_law_X10_init : GoodIn wsL_law (wsX10_init) := ggL_law_X10_init
set_option maxRecDepth 20000 in
theorem ggL_law_X9_hang : GoodIn wsL_law wsX9_hang := goodIn_r _ [108, 20, 15, 109, 110, 111, 19, 112, 60, 113, 114, 115, 116, 14, 117, 118, 46, 119, 120, 121, 122, 47, 48, 49, 123, 50, 124, 125, 126, 127, 128, 129, 2, 130, 131, 132, 133, 134, 135, 136, 137, 138, 40, 139, 140, 141, 39, 142, 83, 84, 143, 144, 145, 146, 147, 148, 149, 150, 151, 152, 153, 154, 155, 156, 1113, 1114, 1115, 1116, 1117, 1118, 1119, 1120, 1121, 1156, 1157, 1158, 1146, 1147, 1148, 1149, 1150, 1151, 1152, 1153, 1154, 1155, 1171, 1172, 1173] (by decide +kernel) (by decide +kernel)
set_option maxRecDepth 20000 in
theorem gL_law_X9_hang : GoodIn wsL_law (wsV RL 13 RX9 yX9_hang wsX9_hang) := goodIn_app (goodIn_of _ (by decide +kernel)) ggL_law_X9_hang
set_option maxRecDepth 20000 in
theorem ggL_law_X10_hang : GoodIn wsL_law wsX10_hang := goodIn_r _ [160, 161, 162, 163, 5, 164, 90, 89, 165, 166, 167, 168, 169, 170, 171, 172, 173, 174, 175, 103, 104, 176, 177, 178, 179, 180, 181, 182, 183, 184, 185, 186, 187, 188, 189, 190, 191, 192, 193, 194, 92, 1122, 1123, 1124, 1125, 1126, 1127, 1128, 1129, 1130, 1131, 1132, 1133, 1134, 1135, 1136, 1137, 1138, 1139, 1140, 1141, 1142, 1143, 1144, 1145] (by decide +kernel) (by decide +kernel)
set_option maxRecDepth 20000 in
theorem gL_law_X10_hang : GoodIn wsL_law (wsV RL 17 RX10 yX10_hang wsX10_hang) := goodIn_app (goodIn_of _ (by decide +kernel)) ggL_law_X10_hang
set_option maxRecDepth 20000 in
theorem ggL_law_X9_wire : GoodIn wsL_law wsX9_wire := goodIn_r _ [198, 20, 15, 109, 110, 111, 19, 112, 60, 113, 114, 115, 116, 14, 117, 118, 46, 119, 120, 121, 122, 47, 48, 49, 123, 50, 124, 125, 126, 199, 200, 201, 2, 202, 40, 203, 204, 205, 206, 207, 208, 209, 210, 211, 212, 213, 214, 215, 216, 217, 218, 135, 136, 137, 138, 139, 140, 141, 39, 142, 83, 84, 143, 219, 220, 221, 222, 223, 224, 225, 226, 227, 228, 229, 230, 231, 232, 233, 234, 235, 236, 237, 238, 239, 240, 241, 242, 243, 244, 245, 246, 247, 248, 249, 250, 251, 252, 253, 254, 255, 256, 257, 258, 259, 260, 261, 262, 263, 144, 145, 146, 147, 148, 149, 150, 151, 152, 153, 154, 155, 156, 1113, 1114, 1115, 1116, 1117, 1118, 1119, 1120, 1121, 1156, 1157, 1158, 1146, 1147, 1148, 1149, 1150, 1151, 1152, 1153, 1154, 1155, 1171, 1172, 1173] (by decide +kernel) (by decide +kernel)
set_option maxRecDepth 20000 in
theorem gL_law_X9_wire : GoodIn wsL_law (wsV RL 18 RX9 yX9_wire wsX9_wire) := goodIn_app (goodIn_of _ (by decide +kernel)) ggL_law_X9_wire
set_option maxRecDepth 20000 in
theorem ggL_law_X10_wire : GoodIn wsL_law wsX10_wire := goodIn_r _ [267, 161, 162, 163, 5, 164, 90, 89, 268, 269, 270, 271, 272, 273, 274, 275, 169, 170, 171, 276, 277, 278, 279, 280, 281, 282, 283, 172, 173, 174, 175, 103, 104, 176, 284, 285, 286, 287, 288, 289, 290, 291, 292, 293, 294, 295, 96, 296, 297, 298, 299, 177, 178, 179, 180, 300, 301, 302, 303, 181, 182, 183, 184, 185, 186, 187, 188, 189, 190, 191, 192, 193, 194, 92, 1122, 1123, 1124, 1125, 1126, 1127, 1128, 1129, 1130, 1131, 1132, 1133, 1134, 1135, 1136, 1137, 1138, 1139, 1140, 1141, 1142, 1143, 1144, 1145] (by decide +kernel) (by decide +kernel)
set_option maxRecDepth 20000 in
theorem gL_law_X10_wire : GoodIn wsL_law (wsV RL 22 RX10 yX10_wire wsX10_wire) := goodIn_app (goodIn_of _ (by decide +kernel)) ggL_law_X10_wire
set_option maxRecDepth 20000 in
theorem ggL_law_X9_cut : GoodIn wsL_law wsX9_cut := goodIn_r _ [307, 20, 15, 109, 110, 111, 19, 112, 60, 113, 114, 115, 116, 14, 117, 118, 46, 119, 120, 121, 122, 47, 48, 49, 123, 50, 124, 125, 126, 308, 309, 310, 2, 311, 203, 204, 205, 206, 207, 208, 209, 210, 211, 212, 213, 214, 215, 216, 217, 218, 135, 136, 137, 138, 40, 139, 140, 141, 39, 142, 83, 84, 143, 219, 220, 221, 222, 223, 224, 225, 226, 227, 228, 229, 255, 256, 257, 258, 144, 145, 146, 147, 148, 149, 150, 151, 152, 153, 154, 155, 156, 1113, 1114, 1115, 1116, 1117, 1118, 1119, 1120, 1121, 1156, 1157, 1158, 1146, 1147, 1148, 1149, 1150, 1151, 1152, 1153, 1154, 1155, 1171, 1172, 1173] (by decide +kernel) (by decide +kernel)
set_option maxRecDepth 20000 in
theorem gL_law_X9_cut : GoodIn wsL_law (wsV RL 23 RX9 yX9_cut wsX9_cut) := goodIn_app (goodIn_of _ (by decide +kernel)) ggL_law_X9_cut
set_option maxRecDepth 20000 in
theorem ggL_law_X10_cut : GoodIn wsL_law wsX10_cut := goodIn_r _ [315, 161, 162, 163, 5, 164, 90, 89, 316, 317, 318, 319, 272, 273, 274, 275, 169, 170, 171, 276, 277, 278, 279, 280, 281, 282, 283, 172, 173, 174, 175, 103, 104, 176, 284, 285, 286, 287, 288, 289, 290, 291, 177, 178, 179, 180, 181, 182, 183, 184, 185, 186, 187, 188, 189, 190, 191, 192, 193, 194, 92, 1122, 1123, 1124, 1125, 1126, 1127, 1128, 1129, 1130, 1131, 1132, 1133, 1134, 1135, 1136, 1137, 1138, 1139, 1140, 1141, 1142, 1143, 1144, 1145] (by decide +kernel) (by decide +kernel)
set_option maxRecDepth 20000 in
theorem gL_law_X10_cut : GoodIn wsL_law (wsV RL 26 RX10 yX10_cut wsX10_cut) := goodIn_app (goodIn_of _ (by decide +kernel)) ggL_law_X10_cut
set_option maxRecDepth 20000 in
theorem ggL_law_X9_set : GoodIn wsL_law wsX9_set := goodIn_r _ [323, 20, 15, 109, 110, 111, 19, 112, 60, 113, 114, 115, 116, 14, 117, 118, 46, 119, 120, 121, 122, 47, 48, 49, 123, 50, 124, 125, 126, 324, 325, 326, 2, 327, 203, 204, 205, 206, 214, 215, 216, 217, 218, 219, 220, 221, 222, 135, 136, 137, 138, 40, 139, 140, 141, 39, 142, 83, 84, 143, 328, 329, 330, 331, 332, 333, 334, 335, 336, 337, 338, 339, 238, 239, 340, 341, 342, 343, 344, 345, 346, 347, 348, 349, 350, 351, 144, 145, 146, 147, 148, 149, 150, 151, 152, 153, 154, 155, 156, 1113, 1114, 1115, 1116, 1117, 1118, 1119, 1120, 1121, 1156, 1157, 1158, 1146, 1147, 1148, 1149, 1150, 1151, 1152, 1153, 1154, 1155, 1171, 1172, 1173] (by decide +kernel) (by decide +kernel)
set_option maxRecDepth 20000 in
theorem gL_law_X9_set : GoodIn wsL_law (wsV RL 27 RX9 yX9_set wsX9_set) := goodIn_app (goodIn_of _ (by decide +kernel)) ggL_law_X9_set
set_option maxRecDepth 20000 in
theorem ggL_law_X10_set : GoodIn wsL_law wsX10_set := goodIn_r _ [355, 161, 162, 163, 5, 164, 90, 89, 356, 357, 358, 359, 272, 273, 274, 275, 169, 170, 171, 276, 277, 278, 279, 280, 281, 282, 283, 172, 173, 174, 175, 103, 104, 176, 177, 178, 179, 180, 360, 361, 362, 363, 181, 182, 183, 184, 185, 186, 187, 188, 189, 190, 191, 192, 193, 194, 92, 1122, 1123, 1124, 1125, 1126, 1127, 1128, 1129, 1130, 1131, 1132, 1133, 1134, 1135, 1136, 1137, 1138, 1139, 1140, 1141, 1142, 1143, 1144, 1145] (by decide +kernel) (by decide +kernel)
set_option maxRecDepth 20000 in
theorem gL_law_X10_set : GoodIn wsL_law (wsV RL 31 RX10 yX10_set wsX10_set) := goodIn_app (goodIn_of _ (by decide +kernel)) ggL_law_X10_set
set_option maxRecDepth 20000 in
theorem ggL_law_X9_loops : GoodIn wsL_law wsX9_loops := goodIn_r _ [367, 20, 15, 109, 110, 111, 19, 112, 60, 113, 114, 115, 116, 14, 117, 118, 46, 119, 120, 121, 122, 47, 48, 49, 123, 50, 124, 125, 126, 368, 369, 370, 2, 371, 40, 372, 373, 236, 374, 243, 244, 245, 246, 375, 376, 377, 240, 241, 242, 247, 248, 249, 250, 238, 239, 378, 379, 380, 381, 135, 136, 137, 138, 139, 140, 141, 39, 142, 83, 84, 143, 345, 346, 347, 348, 349, 350, 351, 251, 252, 253, 254, 230, 231, 232, 233, 382, 383, 384, 385, 144, 145, 146, 147, 148, 149, 150, 151, 152, 153, 154, 155, 156, 1113, 1114, 1115, 1116, 1117, 1118, 1119, 1120, 1121, 1156, 1157, 1158, 1146, 1147, 1148, 1149, 1150, 1151, 1152, 1153, 1154, 1155, 1171, 1172, 1173] (by decide +kernel) (by decide +kernel)
set_option maxRecDepth 20000 in
theorem gL_law_X9_loops : GoodIn wsL_law (wsV RL 32 RX9 yX9_loops wsX9_loops) := goodIn_app (goodIn_of _ (by decide +kernel)) ggL_law_X9_loops
set_option maxRecDepth 20000 in
theorem ggL_law_X10_loops : GoodIn wsL_law wsX10_loops := goodIn_r _ [389, 89, 161, 162, 163, 5, 164, 90, 390, 391, 392, 393, 95, 394, 395, 396, 397, 288, 289, 290, 291, 280, 281, 282, 283, 398, 399, 347, 400, 401, 172, 173, 174, 175, 103, 104, 176, 402, 346, 348, 349, 350, 351, 296, 297, 298, 299, 190, 191, 192, 193, 194, 92, 1122, 1123, 1124, 1125, 1126, 1127, 1128, 1129, 1130, 1131, 1132, 1133, 1134, 1135, 1136, 1137, 1138, 1139, 1140, 1141, 1142, 1143, 1144, 1145] (by decide +kernel) (by decide +kernel)
set_option maxRecDepth 20000 in
theorem gL_law_X10_loops : GoodIn wsL_law (wsV RL 36 RX10 yX10_loops wsX10_loops) := goodIn_app (goodIn_of _ (by decide +kernel)) ggL_law_X10_loops
set_option maxRecDepth 20000 in
theorem ggL_law_X9_tick : GoodIn wsL_law wsX9_tick := goodIn_r _ [406, 20, 15, 109, 110, 111, 19, 112, 60, 113, 114, 115, 116, 14, 117, 118, 46, 119, 120, 121, 122, 47, 48, 49, 123, 50, 124, 125, 126, 407, 408, 409, 2, 410, 411, 412, 413, 414, 415, 416, 417, 418, 336, 337, 338, 339, 419, 420, 421, 422, 423, 424, 425, 426, 427, 346, 347, 348, 349, 350, 351, 144, 145, 146, 147, 148, 149, 150, 151, 152, 153, 154, 155, 156, 1113, 1114, 1115, 1116, 1117, 1118, 1119, 1120, 1121, 1156, 1157, 1158, 1146, 1147, 1148, 1149, 1150, 1151, 1152, 1153, 1154, 1155] (by decide +kernel) (by decide +kernel)
set_option maxRecDepth 20000 in
theorem gL_law_X9_tick : GoodIn wsL_law (wsV RL 37 RX9 yX9_tick wsX9_tick) := goodIn_app (goodIn_of _ (by decide +kernel)) ggL_law_X9_tick
set_option maxRecDepth 20000 in
theorem ggL_law_X10_tick : GoodIn wsL_law wsX10_tick := goodIn_r _ [431, 161, 162, 163, 5, 164, 90, 89, 432, 433, 434, 435, 169, 170, 171, 436, 437, 438, 439, 440, 441, 442, 443, 94, 444, 445, 446, 447, 276, 277, 278, 279, 280, 281, 282, 283, 288, 289, 290, 291, 300, 301, 302, 303, 448, 449, 450, 451, 452, 453, 454, 455, 456, 457, 458, 177, 178, 179, 180, 181, 182, 183, 184, 185, 186, 187, 188, 189, 190, 191, 192, 193, 194, 92, 1122, 1123, 1124, 1125, 1126, 1127, 1128, 1129, 1130, 1131, 1132, 1133, 1134, 1135, 1136, 1137, 1138, 1139, 1140, 1141, 1142, 1143, 1144, 1145] (by decide +kernel) (by decide +kernel)
set_option maxRecDepth 20000 in
theorem gL_law_X10_tick : GoodIn wsL_law (wsV RL 41 RX10 yX10_tick wsX10_tick) := goodIn_app (goodIn_of _ (by decide +kernel)) ggL_law_X10_tick
set_option maxRecDepth 20000 in
theorem ggL_law_X9_lanternOf : GoodIn wsL_law wsX9_lanternOf := goodIn_r _ [462, 15, 203, 204, 205, 14, 206, 118, 219, 220, 221, 222, 46, 218, 463, 464, 465, 466, 47, 328, 329, 330, 331, 332, 333, 334, 335, 123, 336, 337, 338, 339, 238, 2, 239, 259, 260, 261, 262, 263, 227, 228, 229, 48, 467, 468, 469, 470, 471, 472, 473, 474, 49, 344, 475, 424, 425, 426, 476, 477, 478, 479, 480, 420, 421, 422, 1113, 1114, 1115, 1116, 1117, 1118, 1119, 1120, 1121, 1146, 1147, 1148, 1149, 1150, 1151, 1152, 1153, 1154, 1155] (by decide +kernel) (by decide +kernel)
set_option maxRecDepth 20000 in
theorem gL_law_X9_lanternOf : GoodIn wsL_law (wsV RL 42 RX9 yX9_lanternOf wsX9_lanternOf) := goodIn_app (goodIn_of _ (by decide +kernel)) ggL_law_X9_lanternOf
set_option maxRecDepth 20000 in
theorem ggL_law_X10_lanternOf : GoodIn wsL_law wsX10_lanternOf := goodIn_r _ [484, 272, 273, 274, 5, 275, 89, 169, 170, 171, 280, 281, 282, 283, 300, 301, 302, 303, 288, 289, 290, 291, 485, 486, 487, 488, 444, 445, 446, 447, 276, 277, 278, 279, 448, 449, 450, 1122, 1123, 1124, 1125, 1126, 1127, 1128, 1129, 1130, 1131, 1132, 1133, 1134, 1135, 1136, 1137, 1138, 1139, 1140, 1141, 1142, 1143, 1144, 1145] (by decide +kernel) (by decide +kernel)
set_option maxRecDepth 20000 in
theorem gL_law_X10_lanternOf : GoodIn wsL_law (wsV RL 45 RX10 yX10_lanternOf wsX10_lanternOf) := goodIn_app (goodIn_of _ (by decide +kernel)) ggL_law_X10_lanternOf
set_option maxRecDepth 20000 in
theorem ggL_law_X9_wireOf : GoodIn wsL_law wsX9_wireOf := goodIn_r _ [492, 15, 203, 204, 205, 14, 206, 118, 207, 208, 2, 209, 226, 227, 228, 229, 48, 1113, 1114, 1115, 1116, 1117, 1118, 1119, 1120, 1121, 1146, 1147, 1148, 1149, 1150, 1151, 1152, 1153, 1154, 1155] (by decide +kernel) (by decide +kernel)
set_option maxRecDepth 20000 in
theorem gL_law_X9_wireOf : GoodIn wsL_law (wsV RL 46 RX9 yX9_wireOf wsX9_wireOf) := goodIn_app (goodIn_of _ (by decide +kernel)) ggL_law_X9_wireOf
set_option maxRecDepth 20000 in
theorem ggL_law_X10_wireOf : GoodIn wsL_law wsX10_wireOf := goodIn_r _ [496, 272, 273, 274, 5, 275, 89, 169, 170, 171, 288, 289, 290, 291, 280, 281, 282, 283, 1122, 1123, 1124, 1125, 1126, 1127, 1128, 1129, 1130, 1131, 1132, 1133, 1134, 1135, 1136, 1137, 1138, 1139, 1140, 1141, 1142, 1143, 1144, 1145] (by decide +kernel) (by decide +kernel)
set_option maxRecDepth 20000 in
theorem gL_law_X10_wireOf : GoodIn wsL_law (wsV RL 49 RX10 yX10_wireOf wsX10_wireOf) := goodIn_app (goodIn_of _ (by decide +kernel)) ggL_law_X10_wireOf
set_option maxRecDepth 20000 in
theorem ggL_law_X9_leads : GoodIn wsL_law wsX9_leads := goodIn_r _ [500, 15, 203, 204, 205, 14, 206, 118, 501, 376, 236, 377, 240, 241, 242, 243, 244, 245, 246, 247, 248, 249, 250, 48, 1113, 1114, 1115, 1116, 1117, 1118, 1119, 1120, 1121, 1146, 1147, 1148, 1149, 1150, 1151, 1152, 1153, 1154, 1155] (by decide +kernel) (by decide +kernel)
set_option maxRecDepth 20000 in
theorem gL_law_X9_leads : GoodIn wsL_law (wsV RL 50 RX9 yX9_leads wsX9_leads) := goodIn_app (goodIn_of _ (by decide +kernel)) ggL_law_X9_leads
set_option maxRecDepth 20000 in
theorem ggL_law_X10_leads : GoodIn wsL_law wsX10_leads := goodIn_r _ [505, 95, 272, 273, 274, 5, 275, 89, 169, 170, 171, 394, 395, 396, 397, 288, 289, 290, 291, 280, 281, 282, 283, 1122, 1123, 1124, 1125, 1126, 1127, 1128, 1129, 1130, 1131, 1132, 1133, 1134, 1135, 1136, 1137, 1138, 1139, 1140, 1141, 1142, 1143, 1144, 1145] (by decide +kernel) (by decide +kernel)
set_option maxRecDepth 20000 in
theorem gL_law_X10_leads : GoodIn wsL_law (wsV RL 53 RX10 yX10_leads wsX10_leads) := goodIn_app (goodIn_of _ (by decide +kernel)) ggL_law_X10_leads
set_option maxRecDepth 20000 in
theorem ggL_law_X9_looped : GoodIn wsL_law wsX9_looped := goodIn_r _ [509, 15, 372, 373, 236, 374, 243, 244, 245, 14, 246, 118, 375, 376, 377, 240, 241, 242, 247, 248, 249, 250, 48, 238, 2, 239, 1113, 1114, 1115, 1116, 1117, 1118, 1119, 1120, 1121, 1146, 1147, 1148, 1149, 1150, 1151, 1152, 1153, 1154, 1155] (by decide +kernel) (by decide +kernel)
set_option maxRecDepth 20000 in
theorem gL_law_X9_looped : GoodIn wsL_law (wsV RL 54 RX9 yX9_looped wsX9_looped) := goodIn_app (goodIn_of _ (by decide +kernel)) ggL_law_X9_looped
set_option maxRecDepth 20000 in
theorem ggL_law_X10_looped : GoodIn wsL_law wsX10_looped := goodIn_r _ [513, 390, 391, 392, 5, 393, 89, 95, 394, 395, 396, 397, 288, 289, 290, 291, 280, 281, 282, 283, 1122, 1123, 1124, 1125, 1126, 1127, 1128, 1129, 1130, 1131, 1132, 1133, 1134, 1135, 1136, 1137, 1138, 1139, 1140, 1141, 1142, 1143, 1144, 1145] (by decide +kernel) (by decide +kernel)
set_option maxRecDepth 20000 in
theorem gL_law_X10_looped : GoodIn wsL_law (wsV RL 58 RX10 yX10_looped wsX10_looped) := goodIn_app (goodIn_of _ (by decide +kernel)) ggL_law_X10_looped
set_option maxRecDepth 20000 in
theorem ggL_law_X9_depth : GoodIn wsL_law wsX9_depth := goodIn_r _ [517, 15, 24, 203, 204, 205, 14, 206, 118, 518, 519, 520, 23, 521, 65, 522, 52, 53, 54, 523, 524, 525, 526, 527, 155, 528, 529, 530, 227, 228, 229, 48, 531, 532, 533, 534, 215, 216, 217, 46, 218, 535, 464, 465, 466, 47, 1113, 1114, 1115, 1116, 1117, 1118, 1119, 1120, 1121, 1146, 1147, 1148, 1149, 1150, 1151, 1152, 1153, 1154, 1155, 1159] (by decide +kernel) (by decide +kernel)
set_option maxRecDepth 20000 in
theorem gL_law_X9_depth : GoodIn wsL_law (wsV RL 59 RX9 yX9_depth wsX9_depth) := goodIn_app (goodIn_of _ (by decide +kernel)) ggL_law_X9_depth
set_option maxRecDepth 20000 in
theorem ggL_law_X10_depth : GoodIn wsL_law wsX10_depth := goodIn_r _ [539, 272, 273, 274, 5, 275, 89, 169, 170, 171, 540, 541, 542, 543, 95, 276, 277, 278, 279, 280, 281, 282, 283, 390, 391, 392, 393, 394, 395, 396, 397, 288, 289, 290, 291, 544, 545, 546, 547, 548, 527, 155, 528, 1122, 1123, 1124, 1125, 1126, 1127, 1128, 1129, 1130, 1131, 1132, 1133, 1134, 1135, 1136, 1137, 1138, 1139, 1140, 1141, 1142, 1143, 1144, 1145] (by decide +kernel) (by decide +kernel)
set_option maxRecDepth 20000 in
theorem gL_law_X10_depth : GoodIn wsL_law (wsV RL 62 RX10 yX10_depth wsX10_depth) := goodIn_app (goodIn_of _ (by decide +kernel)) ggL_law_X10_depth
set_option maxRecDepth 20000 in
theorem ggL_law_X9_depthAgain : GoodIn wsL_law wsX9_depthAgain := goodIn_r _ [552, 15, 24, 203, 204, 205, 14, 206, 118, 553, 554, 555, 23, 556, 65, 522, 52, 53, 54, 557, 558, 559, 560, 561, 244, 245, 246, 562, 563, 564, 565, 526, 527, 155, 528, 530, 227, 228, 229, 48, 529, 531, 532, 533, 534, 215, 216, 217, 46, 218, 535, 464, 465, 466, 47, 1113, 1114, 1115, 1116, 1117, 1118, 1119, 1120, 1121, 1146, 1147, 1148, 1149, 1150, 1151, 1152, 1153, 1154, 1155, 1159] (by decide +kernel) (by decide +kernel)
set_option maxRecDepth 20000 in
theorem gL_law_X9_depthAgain : GoodIn wsL_law (wsV RL 63 RX9 yX9_depthAgain wsX9_depthAgain) := goodIn_app (goodIn_of _ (by decide +kernel)) ggL_law_X9_depthAgain
set_option maxRecDepth 20000 in
theorem ggL_law_X10_depthAgain : GoodIn wsL_law wsX10_depthAgain := goodIn_r _ [569, 570, 537, 538, 5, 539, 272, 273, 274, 275, 89, 169, 170, 171, 540, 541, 542, 543, 95, 276, 277, 278, 279, 280, 281, 282, 283, 390, 391, 392, 393, 394, 395, 396, 397, 288, 289, 290, 291, 544, 545, 546, 547, 548, 527, 155, 528, 1122, 1123, 1124, 1125, 1126, 1127, 1128, 1129, 1130, 1131, 1132, 1133, 1134, 1135, 1136, 1137, 1138, 1139, 1140, 1141, 1142, 1143, 1144, 1145] (by decide +kernel) (by decide +kernel)
set_option maxRecDepth 20000 in
theorem gL_law_X10_depthAgain : GoodIn wsL_law (wsV RL 66 RX10 yX10_depthAgain wsX10_depthAgain) := goodIn_app (goodIn_of _ (by decide +kernel)) ggL_law_X10_depthAgain
set_option maxRecDepth 20000 in
theorem ggL_law_X9_settlesIn : GoodIn wsL_law wsX9_settlesIn := goodIn_r _ [574, 28, 15, 575, 576, 577, 27, 578, 579, 477, 478, 14, 479, 123, 580, 416, 417, 418, 118, 46, 47, 336, 337, 338, 339, 419, 420, 421, 422, 423, 424, 425, 426, 48, 1113, 1114, 1115, 1116, 1117, 1118, 1119, 1120, 1121, 1146, 1147, 1148, 1149, 1150, 1151, 1152, 1153, 1154, 1155] (by decide +kernel) (by decide +kernel)
set_option maxRecDepth 20000 in
theorem gL_law_X9_settlesIn : GoodIn wsL_law (wsV RL 67 RX9 yX9_settlesIn wsX9_settlesIn) := goodIn_app (goodIn_of _ (by decide +kernel)) ggL_law_X9_settlesIn
set_option maxRecDepth 20000 in
theorem ggL_law_X10_settlesIn : GoodIn wsL_law wsX10_settlesIn := goodIn_r _ [584, 585, 586, 587, 5, 588, 91, 89, 589, 590, 591, 592, 593, 594, 595, 596, 440, 441, 442, 443, 94, 444, 445, 446, 447, 276, 277, 278, 279, 280, 281, 282, 283, 288, 289, 290, 291, 300, 301, 302, 303, 448, 449, 450, 451, 452, 453, 454, 455, 456, 457, 458, 436, 437, 438, 439, 177, 178, 179, 180, 597, 598, 599, 600, 1122, 1123, 1124, 1125, 1126, 1127, 1128, 1129, 1130, 1131, 1132, 1133, 1134, 1135, 1136, 1137, 1138, 1139, 1140, 1141, 1142, 1143, 1144, 1145] (by decide +kernel) (by decide +kernel)
set_option maxRecDepth 20000 in
theorem gL_law_X10_settlesIn : GoodIn wsL_law (wsV RL 70 RX10 yX10_settlesIn wsX10_settlesIn) := goodIn_app (goodIn_of _ (by decide +kernel)) ggL_law_X10_settlesIn
set_option maxRecDepth 20000 in
theorem ggL_law_X9_period : GoodIn wsL_law wsX9_period := goodIn_r _ [604, 28, 15, 605, 606, 607, 27, 608, 70, 579, 477, 478, 14, 479, 123, 580, 416, 417, 418, 118, 46, 47, 336, 337, 338, 339, 419, 420, 421, 422, 423, 424, 425, 426, 48, 1113, 1114, 1115, 1116, 1117, 1118, 1119, 1120, 1121, 1160, 1146, 1147, 1148, 1149, 1150, 1151, 1152, 1153, 1154, 1155] (by decide +kernel) (by decide +kernel)
set_option maxRecDepth 20000 in
theorem gL_law_X9_period : GoodIn wsL_law (wsV RL 71 RX9 yX9_period wsX9_period) := goodIn_app (goodIn_of _ (by decide +kernel)) ggL_law_X9_period
set_option maxRecDepth 20000 in
theorem ggL_law_X10_period : GoodIn wsL_law wsX10_period := goodIn_r _ [612, 97, 98, 99, 585, 586, 587, 5, 588, 91, 89, 613, 614, 615, 616, 280, 281, 282, 283, 436, 437, 438, 439, 440, 441, 442, 443, 94, 444, 445, 446, 447, 276, 277, 278, 279, 288, 289, 290, 291, 300, 301, 302, 303, 448, 449, 450, 451, 452, 453, 454, 455, 456, 457, 458, 177, 178, 179, 180, 597, 598, 599, 600, 1122, 1123, 1124, 1125, 1126, 1127, 1128, 1129, 1130, 1131, 1132, 1133, 1134, 1135, 1136, 1137, 1138, 1139, 1140, 1141, 1142, 1143, 1144, 1145] (by decide +kernel) (by decide +kernel)
set_option maxRecDepth 20000 in
theorem gL_law_X10_period : GoodIn wsL_law (wsV RL 74 RX10 yX10_period wsX10_period) := goodIn_app (goodIn_of _ (by decide +kernel)) ggL_law_X10_period
set_option maxRecDepth 20000 in
theorem ggL_law_X9_periodAgain : GoodIn wsL_law wsX9_periodAgain := goodIn_r _ [620, 28, 15, 621, 622, 623, 27, 624, 579, 477, 478, 14, 479, 123, 580, 416, 417, 418, 118, 46, 47, 336, 337, 338, 339, 419, 420, 421, 422, 423, 424, 425, 426, 48, 625, 626, 627, 1113, 1114, 1115, 1116, 1117, 1118, 1119, 1120, 1121, 1146, 1147, 1148, 1149, 1150, 1151, 1152, 1153, 1154, 1155] (by decide +kernel) (by decide +kernel)
set_option maxRecDepth 20000 in
theorem gL_law_X9_periodAgain : GoodIn wsL_law (wsV RL 75 RX9 yX9_periodAgain wsX9_periodAgain) := goodIn_app (goodIn_of _ (by decide +kernel)) ggL_law_X9_periodAgain
set_option maxRecDepth 20000 in
theorem ggL_law_X10_periodAgain : GoodIn wsL_law wsX10_periodAgain := goodIn_r _ [631, 632, 610, 611, 5, 612, 97, 98, 99, 585, 586, 587, 588, 91, 89, 613, 614, 615, 616, 280, 281, 282, 283, 436, 437, 438, 439, 440, 441, 442, 443, 94, 444, 445, 446, 447, 276, 277, 278, 279, 288, 289, 290, 291, 300, 301, 302, 303, 448, 449, 450, 451, 452, 453, 454, 455, 456, 457, 458, 177, 178, 179, 180, 597, 598, 599, 600, 1122, 1123, 1124, 1125, 1126, 1127, 1128, 1129, 1130, 1131, 1132, 1133, 1134, 1135, 1136, 1137, 1138, 1139, 1140, 1141, 1142, 1143, 1144, 1145] (by decide +kernel) (by decide +kernel)
set_option maxRecDepth 20000 in
theorem gL_law_X10_periodAgain : GoodIn wsL_law (wsV RL 78 RX10 yX10_periodAgain wsX10_periodAgain) := goodIn_app (goodIn_of _ (by decide +kernel)) ggL_law_X10_periodAgain
set_option maxRecDepth 20000 in
theorem ggL_law_X9_flickers : GoodIn wsL_law wsX9_flickers := goodIn_r _ [636, 15, 28, 203, 204, 205, 14, 206, 118, 214, 215, 216, 217, 46, 218, 637, 638, 639, 27, 640, 579, 477, 478, 479, 123, 580, 416, 417, 418, 47, 336, 337, 338, 339, 419, 420, 421, 422, 423, 424, 425, 426, 48, 1113, 1114, 1115, 1116, 1117, 1118, 1119, 1120, 1121, 1146, 1147, 1148, 1149, 1150, 1151, 1152, 1153, 1154, 1155] (by decide +kernel) (by decide +kernel)
set_option maxRecDepth 20000 in
theorem gL_law_X9_flickers : GoodIn wsL_law (wsV RL 79 RX9 yX9_flickers wsX9_flickers) := goodIn_app (goodIn_of _ (by decide +kernel)) ggL_law_X9_flickers
