theorem dX12_mixed_512 : decode cX12_mixed 512 = .ok (.aload_n 0, 1) := by decide +kernel
theorem dX12_mixed_513 : decode cX12_mixed 513 = .ok (.getfield 149, 3) := by decide +kernel
theorem dX12_mixed_516 : decode cX12_mixed 516 = .ok (.iload 8, 2) := by decide +kernel
theorem dX12_mixed_518 : decode cX12_mixed 518 = .ok (.iload 10, 2) := by decide +kernel
theorem dX12_mixed_520 : decode cX12_mixed 520 = .ok (.iastore, 1) := by decide +kernel
theorem dX12_mixed_521 : decode cX12_mixed 521 = .ok (.iload 10, 2) := by decide +kernel
theorem dX12_mixed_523 : decode cX12_mixed 523 = .ok (.istore 7, 2) := by decide +kernel
theorem dX12_mixed_525 : decode cX12_mixed 525 = .ok (.iinc 8 1, 3) := by decide +kernel
theorem dX12_mixed_528 : decode cX12_mixed 528 = .ok (.goto (-79), 3) := by decide +kernel
theorem dX12_mixed_531 : decode cX12_mixed 531 = .ok (.iload 6, 2) := by decide +kernel
theorem dX12_mixed_533 : decode cX12_mixed 533 = .ok (.ireturn, 1) := by decide +kernel
theorem dX12_onward_0 : decode cX12_onward 0 = .ok (.ldc_w 379, 3) := by decide +kernel
theorem dX12_onward_3 : decode cX12_onward 3 = .ok (.istore 4, 2) := by decide +kernel
theorem dX12_onward_5 : decode cX12_onward 5 = .ok (.iconst 0, 1) := by decide +kernel
theorem dX12_onward_6 : decode cX12_onward 6 = .ok (.istore 5, 2) := by decide +kernel
theorem dX12_onward_8 : decode cX12_onward 8 = .ok (.iload 5, 2) := by decide +kernel
theorem dX12_onward_10 : decode cX12_onward 10 = .ok (.aload_n 0, 1) := by decide +kernel
theorem dX12_onward_11 : decode cX12_onward 11 = .ok (.getfield 222, 3) := by decide +kernel
theorem dX12_onward_14 : decode cX12_onward 14 = .ok (.if_icmp .gt 56, 3) := by decide +kernel
theorem dX12_onward_17 : decode cX12_onward 17 = .ok (.aload_n 0, 1) := by decide +kernel
theorem dX12_onward_18 : decode cX12_onward 18 = .ok (.getfield 146, 3) := by decide +kernel
theorem dX12_onward_21 : decode cX12_onward 21 = .ok (.bipush 7, 2) := by decide +kernel
theorem dX12_onward_23 : decode cX12_onward 23 = .ok (.iload_n 1, 1) := by decide +kernel
theorem dX12_onward_24 : decode cX12_onward 24 = .ok (.imul, 1) := by decide +kernel
theorem dX12_onward_25 : decode cX12_onward 25 = .ok (.iload 5, 2) := by decide +kernel
theorem dX12_onward_27 : decode cX12_onward 27 = .ok (.iadd, 1) := by decide +kernel
theorem dX12_onward_28 : decode cX12_onward 28 = .ok (.iaload, 1) := by decide +kernel
theorem dX12_onward_29 : decode cX12_onward 29 = .ok (.iload_n 2, 1) := by decide +kernel
theorem dX12_onward_30 : decode cX12_onward 30 = .ok (.iconst (-1), 1) := by decide +kernel
theorem dX12_onward_31 : decode cX12_onward 31 = .ok (.if_icmp .eq 9, 3) := by decide +kernel
theorem dX12_onward_40 : decode cX12_onward 40 = .ok (.iconst 0, 1) := by decide +kernel
theorem dX12_onward_41 : decode cX12_onward 41 = .ok (.goto 4, 3) := by decide +kernel
theorem dX12_onward_45 : decode cX12_onward 45 = .ok (.iadd, 1) := by decide +kernel
theorem dX12_onward_46 : decode cX12_onward 46 = .ok (.istore 6, 2) := by decide +kernel
theorem dX12_onward_48 : decode cX12_onward 48 = .ok (.iload 6, 2) := by decide +kernel
theorem dX12_onward_50 : decode cX12_onward 50 = .ok (.iload 4, 2) := by decide +kernel
theorem dX12_onward_52 : decode cX12_onward 52 = .ok (.if_icmp .ge 8, 3) := by decide +kernel
theorem dX12_onward_55 : decode cX12_onward 55 = .ok (.iload 6, 2) := by decide +kernel
theorem dX12_onward_57 : decode cX12_onward 57 = .ok (.goto 5, 3) := by decide +kernel
theorem dX12_onward_62 : decode cX12_onward 62 = .ok (.istore 4, 2) := by decide +kernel
theorem dX12_onward_64 : decode cX12_onward 64 = .ok (.iinc 5 1, 3) := by decide +kernel
theorem dX12_onward_67 : decode cX12_onward 67 = .ok (.goto (-59), 3) := by decide +kernel
theorem dX12_onward_70 : decode cX12_onward 70 = .ok (.iload 4, 2) := by decide +kernel
theorem dX12_onward_72 : decode cX12_onward 72 = .ok (.ireturn, 1) := by decide +kernel
set_option maxRecDepth 20000 in
theorem ggX12_line_X12_in : GoodIn wsX12_line wsX12_in := goodIn_r _ [6] (by decide +kernel) (by decide +kernel)
set_option maxRecDepth 20000 in
theorem gX12_line_X12_in : GoodIn wsX12_line (va_wsS RX12 226 yX12_in wsX12_in) := goodIn_app (goodIn_of _ (by decide +kernel)) ggX12_line_X12_in
theorem dX12_line_0 : decode cX12_line 0 = .ok (.iload_n 1, 1) := by decide +kernel
theorem dX12_line_1 : decode cX12_line 1 = .ok (.iconst 0, 1) := by decide +kernel
theorem dX12_line_2 : decode cX12_line 2 = .ok (.aload_n 0, 1) := by decide +kernel
theorem dX12_line_3 : decode cX12_line 3 = .ok (.getfield 374, 3) := by decide +kernel
theorem dX12_line_6 : decode cX12_line 6 = .ok (.iconst 1, 1) := by decide +kernel
theorem dX12_line_7 : decode cX12_line 7 = .ok (.isub, 1) := by decide +kernel
theorem dX12_line_8 : decode cX12_line 8 = .ok (.invokestatic 226, 3) := by decide +kernel
theorem dX12_line_11 : decode cX12_line 11 = .ok (.ifCond .eq 12, 3) := by decide +kernel
theorem dX12_line_23 : decode cX12_line 23 = .ok (.iconst (-1), 1) := by decide +kernel
theorem dX12_line_24 : decode cX12_line 24 = .ok (.ireturn, 1) := by decide +kernel
theorem dX12_count_0 : decode cX12_count 0 = .ok (.iload_n 1, 1) := by decide +kernel
theorem dX12_count_1 : decode cX12_count 1 = .ok (.ifCond .ne 10, 3) := by decide +kernel
theorem dX12_count_4 : decode cX12_count 4 = .ok (.aload_n 0, 1) := by decide +kernel
theorem dX12_count_5 : decode cX12_count 5 = .ok (.getfield 222, 3) := by decide +kernel
theorem dX12_count_8 : decode cX12_count 8 = .ok (.goto 28, 3) := by decide +kernel
theorem dX12_count_11 : decode cX12_count 11 = .ok (.iload_n 1, 1) := by decide +kernel
theorem dX12_count_12 : decode cX12_count 12 = .ok (.iconst 1, 1) := by decide +kernel
theorem dX12_count_13 : decode cX12_count 13 = .ok (.if_icmp .ne 10, 3) := by decide +kernel
theorem dX12_count_16 : decode cX12_count 16 = .ok (.aload_n 0, 1) := by decide +kernel
theorem dX12_count_17 : decode cX12_count 17 = .ok (.getfield 312, 3) := by decide +kernel
theorem dX12_count_20 : decode cX12_count 20 = .ok (.goto 16, 3) := by decide +kernel
theorem dX12_count_23 : decode cX12_count 23 = .ok (.iload_n 1, 1) := by decide +kernel
theorem dX12_count_24 : decode cX12_count 24 = .ok (.iconst 2, 1) := by decide +kernel
theorem dX12_count_25 : decode cX12_count 25 = .ok (.if_icmp .ne 10, 3) := by decide +kernel
theorem dX12_count_28 : decode cX12_count 28 = .ok (.aload_n 0, 1) := by decide +kernel
theorem dX12_count_29 : decode cX12_count 29 = .ok (.getfield 152, 3) := by decide +kernel
theorem dX12_count_32 : decode cX12_count 32 = .ok (.goto 4, 3) := by decide +kernel
theorem dX12_count_35 : decode cX12_count 35 = .ok (.iconst (-1), 1) := by decide +kernel
theorem dX12_count_36 : decode cX12_count 36 = .ok (.ireturn, 1) := by decide +kernel
set_option maxRecDepth 20000 in
theorem ggL_law_X11_init : GoodIn wsL_law wsX11_init := goodIn_r _ [8, 9, 10, 11, 12, 13, 14, 15, 16, 17, 18, 19, 20, 21, 22, 23, 24, 25, 26, 27, 28, 29, 30, 31, 32, 33, 34, 35, 36, 37, 38, 39, 40, 41, 42, 43, 44, 45, 46, 47, 48, 49, 50, 51, 52, 53, 54, 55, 56, 57, 58, 59, 60, 61, 62, 63, 64, 65, 66, 67, 68, 69, 70, 71, 72, 73, 74, 75, 76, 77, 78, 79, 80, 81, 82, 83, 84, 85, 86, 87, 88, 89, 90, 91, 92, 93, 94, 95, 96, 97, 98, 99, 100, 101, 102, 103, 104, 105, 106, 107, 108, 109, 110, 111, 112, 113, 114, 115, 116, 117, 118, 119, 120, 121, 122, 123, 124, 125, 126, 127, 128, 129, 130, 131, 132, 133, 134, 135, 136, 137, 138, 139, 140, 141, 142, 143, 144, 145, 146, 147, 148, 149, 150, 151, 152, 153, 154, 155, 156, 157, 158, 159, 160, 161, 162, 163, 164, 165, 166, 167, 168, 169, 170, 171, 172, 173, 1213, 1214, 1125, 1126, 1127, 1128, 1129, 1130, 1131, 1132, 1133, 1134, 1135, 1136, 1137, 1138, 1139, 1140, 1141, 1215, 1216, 1217, 1218, 1219, 1220, 1221, 1222, 1223, 1224, 1225, 1226, 1227, 1228, 1229, 1230, 1231, 1232, 1233, 1234, 1235, 1236, 1237, 1238, 1239, 1240, 1241, 1242, 1243, 1244, 1245, 1246, 1247, 1248, 1249, 1250, 1251, 1252, 1253, 1254, 1255, 1256, 1257, 1258, 1259, 1260, 1261, 1262, 1263, 1264, 1265, 1266, 1267, 1268, 1269, 1270, 1271, 1272, 1273, 1274, 1275, 1276, 1277, 1278, 1279, 1280, 1281, 1282] (by decide +kernel) (by decide +kernel)
set_option maxRecDepth 20000 in
theorem gL_law_X11_init : GoodIn wsL_law (wsX11_init) := ggL_law_X11_init
set_option maxRecDepth 20000 in
theorem ggL_law_X12_init : GoodIn wsL_law wsX12_init := goodIn_r _ [176, 177, 10, 11, 63, 178, 179, 43, 180, 181, 182, 183, 184, 185, 77, 186, 187, 188, 189, 190, 191, 192, 193, 194, 195, 196, 197, 198, 199, 200, 201, 202, 203, 204, 205, 206, 207, 208, 209, 210, 211, 212, 213, 214, 215, 216, 217, 218, 219, 220, 221, 222, 223, 224, 1142, 1143, 1144, 1145, 1146, 1147, 1148, 1149, 1150, 1151, 1152, 1153, 1154, 1155, 1156, 1157, 1158, 1159, 1160, 1161, 1162, 1163, 1164, 1165, 1166, 1167, 1168, 1169, 1170, 1171, 1172, 1173, 1174, 1175, 1176, 1177, 1178, 1179, 1180, 1181, 1182, 1183, 1184, 1185, 1186, 1187, 1188, 1189, 1190, 1191, 1192, 1193, 1194, 1195, 1196, 1197, 1198, 1199, 1200, 1201, 1202, 1203, 1204, 1205, 1206, 1207, 1208, 1209, 1210, 1211, 1212] (by decide +kernel) (by decide +kernel)
set_option maxRecDepth 20000 in
theorem gL_law_X12_init : GoodIn wsL_law (wsX12_init) := ggL_law_X12_init
set_option maxRecDepth 20000 in
theorem ggL_law_X11_feed : GoodIn wsL_law wsX11_feed := goodIn_r _ [228, 15, 229, 230, 231, 232, 14, 233, 65, 64, 1125, 1126, 1127, 1128, 1129, 1130, 1131, 1132, 1133, 1134, 1135, 1136, 1137, 1138, 1139, 1140, 1141, 1213, 1214] (by decide +kernel) (by decide +kernel)
set_option maxRecDepth 20000 in
theorem gL_law_X11_feed : GoodIn wsL_law (wsV RL 13 RX11 yX11_feed wsX11_feed) := goodIn_app (goodIn_of _ (by decide +kernel)) ggL_law_X11_feed
set_option maxRecDepth 20000 in
theorem ggL_law_X12_feed : GoodIn wsL_law wsX12_feed := goodIn_r _ [237, 238, 178, 1142, 1143, 1144, 1145, 1146, 1147, 1148, 1149, 1150, 1151, 1152, 1153, 1154, 1155, 1156, 1157, 1158, 1159, 1160, 1161, 1162, 1163, 1164, 1165, 1166, 1167, 1168, 1169, 1170, 1171, 1172, 1173, 1174, 1175, 1176, 1177, 1178, 1179, 1180, 1181, 1182, 1183, 1184, 1185, 1186, 1187, 1188, 1189, 1190, 1191, 1192, 1193, 1194, 1195, 1196, 1197, 1198, 1199, 1200, 1201, 1202, 1203, 1204, 1205, 1206, 1207, 1208, 1209, 1210, 1211, 1212] (by decide +kernel) (by decide +kernel)
set_option maxRecDepth 20000 in
theorem gL_law_X12_feed : GoodIn wsL_law (wsV RL 17 RX12 yX12_feed wsX12_feed) := goodIn_app (goodIn_of _ (by decide +kernel)) ggL_law_X12_feed
set_option maxRecDepth 20000 in
theorem ggL_law_X11_end : GoodIn wsL_law wsX11_end := goodIn_r _ [242, 15, 229, 1125, 1126, 1127, 1128, 1129, 1130, 1131, 1132, 1133, 1134, 1135, 1136, 1137, 1138, 1139, 1140, 1141, 1213, 1214] (by decide +kernel) (by decide +kernel)
set_option maxRecDepth 20000 in
theorem gL_law_X11_end : GoodIn wsL_law (wsV RL 18 RX11 yX11_end wsX11_end) := goodIn_app (goodIn_of _ (by decide +kernel)) ggL_law_X11_end
set_option maxRecDepth 20000 in
theorem ggL_law_X12_end : GoodIn wsL_law wsX12_end := goodIn_r _ [246, 238, 1142, 1143, 1144, 1145, 1146, 1147, 1148, 1149, 1150, 1151, 1152, 1153, 1154, 1155, 1156, 1157, 1158, 1159, 1160, 1161, 1162, 1163, 1164, 1165, 1166, 1167, 1168, 1169, 1170, 1171, 1172, 1173, 1174, 1175, 1176, 1177, 1178, 1179, 1180, 1181, 1182, 1183, 1184, 1185, 1186, 1187, 1188, 1189, 1190, 1191, 1192, 1193, 1194, 1195, 1196, 1197, 1198, 1199, 1200, 1201, 1202, 1203, 1204, 1205, 1206, 1207, 1208, 1209, 1210, 1211, 1212] (by decide +kernel) (by decide +kernel)
set_option maxRecDepth 20000 in
theorem gL_law_X12_end : GoodIn wsL_law (wsV RL 22 RX12 yX12_end wsX12_end) := goodIn_app (goodIn_of _ (by decide +kernel)) ggL_law_X12_end
set_option maxRecDepth 20000 in
theorem ggL_law_X11_reform : GoodIn wsL_law wsX11_reform := goodIn_r _ [250, 15, 19, 251, 22, 26, 252, 253, 18, 30, 17, 16, 20, 21, 254, 255, 256, 14, 257, 65, 258, 259, 260, 261, 69, 72, 74, 262, 75, 76, 79, 80, 263, 264, 265, 25, 266, 97, 267, 268, 269, 270, 98, 99, 95, 96, 100, 271, 272, 273, 274, 101, 103, 275, 276, 277, 278, 102, 279, 280, 33, 281, 282, 283, 284, 285, 286, 287, 288, 289, 290, 291, 292, 293, 294, 295, 296, 297, 298, 299, 300, 301, 302, 303, 304, 305, 306, 307, 308, 309, 310, 311, 312, 313, 314, 315, 316, 317, 318, 319, 320, 321, 322, 323, 324, 325, 326, 327, 328, 329, 330, 331, 332, 333, 334, 335, 336, 337, 338, 339, 340, 341, 342, 343, 88, 91, 344, 345, 346, 347, 348, 349, 350, 351, 352, 353, 354, 355, 356, 357, 358, 359, 360, 361, 362, 363, 90, 89, 364, 365, 366, 367, 368, 369, 370, 371, 372, 373, 374, 375, 376, 377, 378, 78, 379, 380, 381, 382, 383, 384, 385, 386, 387, 388, 389, 390, 391, 392, 393, 394, 395, 396, 397, 398, 399, 400, 401, 402, 403, 404, 405, 406, 407, 408, 409, 410, 411, 412, 413, 414, 415, 416, 417, 418, 419, 420, 421, 422, 423, 424, 425, 426, 427, 428, 429, 430, 431, 432, 433, 434, 435, 436, 63, 437, 438, 439, 440, 441, 442, 443, 444, 445, 10, 11, 446, 447, 448, 449, 450, 451, 452, 453, 454, 455, 71, 456, 457, 458, 459, 460, 461, 462, 463, 464, 465, 466, 29, 467, 468, 469, 470, 471, 472, 473, 474, 112, 475, 109, 111, 476, 477, 478, 479, 480, 481, 482, 483, 484, 485, 486, 487, 110, 488, 489, 490, 491, 492, 493, 494, 495, 496, 497, 498, 66, 67, 68, 70, 73, 32, 77, 81, 82, 83, 84, 85, 86, 87, 43, 1125, 1126, 1127, 1128, 1129, 1130, 1131, 1132, 1133, 1134, 1135, 1136, 1137, 1138, 1139, 1140, 1141, 1213, 1214, 1226, 1227, 1228, 1229, 1230, 1231, 1232, 1233, 1234, 1215, 1216, 1217, 1218, 1219, 1220, 1221, 1222, 1223, 1224, 1225, 1243, 1244, 1245, 1246, 1283, 1284, 1285, 1286, 1287, 1288, 1235, 1236, 1237, 1238, 1239, 1240, 1241, 1242] (by decide +kernel) (by decide +kernel)
set_option maxRecDepth 20000 in
theorem gL_law_X11_reform : GoodIn wsL_law (wsV RL 23 RX11 yX11_reform wsX11_reform) := goodIn_app (goodIn_of _ (by decide +kernel)) ggL_law_X11_reform
set_option maxRecDepth 20000 in
theorem ggL_law_X12_reform : GoodIn wsL_law wsX12_reform := goodIn_r _ [502, 238, 503, 504, 180, 505, 506, 179, 181, 182, 183, 507, 508, 184, 185, 186, 187, 188, 189, 190, 191, 509, 510, 511, 5, 512, 513, 514, 515, 516, 517, 518, 519, 520, 521, 522, 178, 523, 524, 525, 526, 527, 528, 529, 530, 287, 288, 289, 290, 291, 292, 293, 294, 295, 296, 297, 531, 299, 300, 301, 302, 303, 304, 305, 306, 307, 308, 309, 310, 311, 312, 313, 314, 315, 316, 317, 318, 319, 320, 321, 322, 323, 324, 325, 326, 327, 328, 329, 330, 331, 332, 333, 334, 532, 533, 534, 535, 536, 537, 538, 539, 540, 541, 542, 543, 544, 545, 546, 547, 548, 549, 550, 551, 552, 553, 554, 555, 556, 557, 558, 559, 560, 561, 1142, 1143, 1144, 1145, 1146, 1147, 1148, 1149, 1150, 1151, 1152, 1153, 1154, 1155, 1156, 1157, 1158, 1159, 1160, 1161, 1162, 1163, 1164, 1165, 1166, 1167, 1168, 1169, 1170, 1171, 1172, 1173, 1174, 1175, 1176, 1177, 1178, 1179, 1180, 1181, 1182, 1183, 1184, 1185, 1186, 1187, 1188, 1189, 1190, 1191, 1192, 1193, 1194, 1195, 1196, 1197, 1198, 1199, 1200, 1201, 1202, 1203, 1204, 1205, 1206, 1207, 1208, 1209, 1210, 1211, 1212] (by decide +kernel) (by decide +kernel)
set_option maxRecDepth 20000 in
theorem gL_law_X12_reform : GoodIn wsL_law (wsV RL 26 RX12 yX12_reform wsX12_reform) := goodIn_app (goodIn_of _ (by decide +kernel)) ggL_law_X12_reform
set_option maxRecDepth 20000 in
theorem ggL_law_X11_fault : GoodIn wsL_law wsX11_fault := goodIn_r _ [565, 26, 253, 566, 1125, 1126, 1127, 1128, 1129, 1130, 1131, 1132, 1133, 1134, 1135, 1136, 1137, 1138, 1139, 1140, 1141, 1226, 1227, 1228, 1229, 1230, 1231, 1232, 1233, 1234] (by decide +kernel) (by decide +kernel)
set_option maxRecDepth 20000 in
theorem gL_law_X11_fault : GoodIn wsL_law (wsV RL 27 RX11 yX11_fault wsX11_fault) := goodIn_app (goodIn_of _ (by decide +kernel)) ggL_law_X11_fault
set_option maxRecDepth 20000 in
theorem ggL_law_X12_fault : GoodIn wsL_law wsX12_fault := goodIn_r _ [570, 506, 179, 1142, 1143, 1144, 1145, 1146, 1147, 1148, 1149, 1150, 1151, 1152, 1153, 1154, 1155, 1156, 1157, 1158, 1159, 1160, 1161, 1162, 1163, 1164, 1165, 1166, 1167, 1168, 1169, 1170, 1171, 1172, 1173, 1174, 1175, 1176, 1177, 1178, 1179, 1180, 1181, 1182, 1183, 1184, 1185, 1186, 1187, 1188, 1189, 1190, 1191, 1192, 1193, 1194, 1195, 1196, 1197, 1198, 1199, 1200, 1201, 1202, 1203, 1204, 1205, 1206, 1207, 1208, 1209, 1210, 1211, 1212] (by decide +kernel) (by decide +kernel)
set_option maxRecDepth 20000 in
theorem gL_law_X12_fault : GoodIn wsL_law (wsV RL 30 RX12 yX12_fault wsX12_fault) := goodIn_app (goodIn_of _ (by decide +kernel)) ggL_law_X12_fault
set_option maxRecDepth 20000 in
theorem ggL_law_X11_about : GoodIn wsL_law wsX11_about := goodIn_r _ [574, 575, 576, 577, 578, 579, 580, 581, 582, 583, 2, 584, 18, 17, 1215, 1216, 1217, 1218, 1219, 1220, 1221, 1222, 1223, 1224, 1225, 1243, 1244, 1245, 1246, 1125, 1126, 1127, 1128, 1129, 1130, 1131, 1132, 1133, 1134, 1135, 1136, 1137, 1138, 1139, 1140, 1141] (by decide +kernel) (by decide +kernel)
set_option maxRecDepth 20000 in
theorem gL_law_X11_about : GoodIn wsL_law (wsV RL 31 RX11 yX11_about wsX11_about) := goodIn_app (goodIn_of _ (by decide +kernel)) ggL_law_X11_about
set_option maxRecDepth 20000 in
theorem ggL_law_X12_about : GoodIn wsL_law wsX12_about := goodIn_r _ [588, 504, 183, 191, 180, 181, 182, 510, 511, 5, 512, 1142, 1143, 1144, 1145, 1146, 1147, 1148, 1149, 1150, 1151, 1152, 1153, 1154, 1155, 1156, 1157, 1158, 1159, 1160, 1161, 1162, 1163, 1164, 1165, 1166, 1167, 1168, 1169, 1170, 1171, 1172, 1173, 1174, 1175, 1176, 1177, 1178, 1179, 1180, 1181, 1182, 1183, 1184, 1185, 1186, 1187, 1188, 1189, 1190, 1191, 1192, 1193, 1194, 1195, 1196, 1197, 1198, 1199, 1200, 1201, 1202, 1203, 1204, 1205, 1206, 1207, 1208, 1209, 1210, 1211, 1212] (by decide +kernel) (by decide +kernel)
set_option maxRecDepth 20000 in
theorem gL_law_X12_about : GoodIn wsL_law (wsV RL 35 RX12 yX12_about wsX12_about) := goodIn_app (goodIn_of _ (by decide +kernel)) ggL_law_X12_about
set_option maxRecDepth 20000 in
theorem ggL_law_X11_stage : GoodIn wsL_law wsX11_stage := goodIn_r _ [592, 251, 18, 17, 575, 1125, 1126, 1127, 1128, 1129, 1130, 1131, 1132, 1133, 1134, 1135, 1136, 1137, 1138, 1139, 1140, 1141, 1215, 1216, 1217, 1218, 1219, 1220, 1221, 1222, 1223, 1224, 1225] (by decide +kernel) (by decide +kernel)
set_option maxRecDepth 20000 in
theorem gL_law_X11_stage : GoodIn wsL_law (wsV RL 36 RX11 yX11_stage wsX11_stage) := goodIn_app (goodIn_of _ (by decide +kernel)) ggL_law_X11_stage
set_option maxRecDepth 20000 in
theorem ggL_law_X12_stage : GoodIn wsL_law wsX12_stage := goodIn_r _ [596, 505, 504, 180, 510, 511, 5, 512, 1142, 1143, 1144, 1145, 1146, 1147, 1148, 1149, 1150, 1151, 1152, 1153, 1154, 1155, 1156, 1157, 1158, 1159, 1160, 1161, 1162, 1163, 1164, 1165, 1166, 1167, 1168, 1169, 1170, 1171, 1172, 1173, 1174, 1175, 1176, 1177, 1178, 1179, 1180, 1181, 1182, 1183, 1184, 1185, 1186, 1187, 1188, 1189, 1190, 1191, 1192, 1193, 1194, 1195, 1196, 1197, 1198, 1199, 1200, 1201, 1202, 1203, 1204, 1205, 1206, 1207, 1208, 1209, 1210, 1211, 1212] (by decide +kernel) (by decide +kernel)
set_option maxRecDepth 20000 in
theorem gL_law_X12_stage : GoodIn wsL_law (wsV RL 39 RX12 yX12_stage wsX12_stage) := goodIn_app (goodIn_of _ (by decide +kernel)) ggL_law_X12_stage
set_option maxRecDepth 20000 in
theorem ggL_law_X11_turn : GoodIn wsL_law wsX11_turn := goodIn_r _ [600, 15, 34, 30, 17, 252, 578, 254, 255, 256, 14, 257, 65, 601, 602, 603, 2, 604, 605, 606, 607, 608, 18, 609, 610, 611, 612, 64, 613, 280, 33, 281, 614, 615, 616, 29, 617, 116, 469, 490, 491, 269, 492, 115, 618, 619, 620, 621, 622, 361, 362, 363, 88, 91, 90, 89, 364, 365, 366, 623, 381, 382, 383, 384, 385, 386, 387, 388, 341, 342, 343, 624, 625, 626, 627, 628, 629, 630, 631, 471, 472, 632, 470, 108, 468, 633, 109, 111, 112, 634, 635, 636, 637, 638, 639, 640, 641, 642, 21, 643, 78, 644, 645, 646, 37, 647, 120, 127, 648, 124, 649, 650, 651, 652, 123, 653, 654, 655, 426, 656, 657, 658, 659, 660, 661, 662, 663, 664, 665, 666, 667, 125, 668, 669, 670, 671, 122, 672, 121, 476, 477, 478, 479, 480, 268, 270, 481, 482, 483, 484, 485, 486, 487, 110, 488, 489, 493, 494, 495, 419, 496, 450, 448, 449, 446, 447, 497, 673, 674, 675, 676, 475, 677, 474, 473, 113, 678, 679, 680, 681, 682, 683, 684, 685, 1125, 1126, 1127, 1128, 1129, 1130, 1131, 1132, 1133, 1134, 1135, 1136, 1137, 1138, 1139, 1140, 1141, 1213, 1214, 1243, 1244, 1245, 1246, 1235, 1236, 1237, 1238, 1239, 1240, 1241, 1242, 1215, 1216, 1217, 1218, 1219, 1220, 1221, 1222, 1223, 1224, 1225, 1247, 1248, 1249, 1250, 1251, 1252, 1253, 1283, 1284, 1285, 1286, 1287, 1288] (by decide +kernel) (by decide +kernel)
set_option maxRecDepth 20000 in
theorem gL_law_X11_turn : GoodIn wsL_law (wsV RL 40 RX11 yX11_turn wsX11_turn) := goodIn_app (goodIn_of _ (by decide +kernel)) ggL_law_X11_turn
set_option maxRecDepth 20000 in
theorem ggL_law_X12_turn : GoodIn wsL_law wsX12_turn := goodIn_r _ [689, 690, 691, 206, 202, 205, 201, 692, 693, 694, 5, 695, 238, 178, 510, 511, 512, 523, 524, 525, 696, 697, 698, 699, 192, 700, 701, 702, 703, 704, 504, 705, 706, 707, 708, 709, 203, 204, 199, 200, 710, 711, 712, 713, 714, 191, 190, 715, 716, 717, 718, 183, 719, 720, 721, 722, 723, 724, 725, 196, 726, 727, 728, 729, 182, 189, 188, 730, 731, 732, 733, 194, 193, 195, 734, 735, 736, 737, 197, 738, 181, 739, 740, 741, 742, 185, 186, 187, 198, 184, 743, 744, 745, 746, 747, 748, 1142, 1143, 1144, 1145, 1146, 1147, 1148, 1149, 1150, 1151, 1152, 1153, 1154, 1155, 1156, 1157, 1158, 1159, 1160, 1161, 1162, 1163, 1164, 1165, 1166, 1167, 1168, 1169, 1170, 1171, 1172, 1173, 1174, 1175, 1176, 1177, 1178, 1179, 1180, 1181, 1182, 1183, 1184, 1185, 1186, 1187, 1188, 1189, 1190, 1191, 1192, 1193, 1194, 1195, 1196, 1197, 1198, 1199, 1200, 1201, 1202, 1203, 1204, 1205, 1206, 1207, 1208, 1209, 1210, 1211, 1212] (by decide +kernel) (by decide +kernel)
set_option maxRecDepth 20000 in
theorem gL_law_X12_turn : GoodIn wsL_law (wsV RL 43 RX12 yX12_turn wsX12_turn) := goodIn_app (goodIn_of _ (by decide +kernel)) ggL_law_X12_turn
set_option maxRecDepth 20000 in
theorem ggL_law_X11_form : GoodIn wsL_law wsX11_form := goodIn_r _ [752, 34, 753, 754, 755, 33, 756, 88, 91, 90, 89, 1125, 1126, 1127, 1128, 1129, 1130, 1131, 1132, 1133, 1134, 1135, 1136, 1137, 1138, 1139, 1140, 1141, 1243, 1244, 1245, 1246] (by decide +kernel) (by decide +kernel)
set_option maxRecDepth 20000 in
theorem gL_law_X11_form : GoodIn wsL_law (wsV RL 44 RX11 yX11_form wsX11_form) := goodIn_app (goodIn_of _ (by decide +kernel)) ggL_law_X11_form
set_option maxRecDepth 20000 in
theorem ggL_law_X12_form : GoodIn wsL_law wsX12_form := goodIn_r _ [760, 691, 206, 205, 510, 511, 5, 512, 1142, 1143, 1144, 1145, 1146, 1147, 1148, 1149, 1150, 1151, 1152, 1153, 1154, 1155, 1156, 1157, 1158, 1159, 1160, 1161, 1162, 1163, 1164, 1165, 1166, 1167, 1168, 1169, 1170, 1171, 1172, 1173, 1174, 1175, 1176, 1177, 1178, 1179, 1180, 1181, 1182, 1183, 1184, 1185, 1186, 1187, 1188, 1189, 1190, 1191, 1192, 1193, 1194, 1195, 1196, 1197, 1198, 1199, 1200, 1201, 1202, 1203, 1204, 1205, 1206, 1207, 1208, 1209, 1210, 1211, 1212] (by decide +kernel) (by decide +kernel)
set_option maxRecDepth 20000 in
theorem gL_law_X12_form : GoodIn wsL_law (wsV RL 47 RX12 yX12_form wsX12_form) := goodIn_app (goodIn_of _ (by decide +kernel)) ggL_law_X12_form
set_option maxRecDepth 20000 in
theorem ggL_law_X11_partings : GoodIn wsL_law wsX11_partings := goodIn_r _ [764, 15, 580, 252, 38, 577, 765, 254, 255, 256, 14, 257, 65, 581, 582, 583, 2, 584, 18, 17, 609, 610, 611, 612, 64, 613, 280, 33, 281, 766, 361, 362, 363, 88, 91, 90, 89, 364, 365, 366, 767, 641, 642, 21, 643, 78, 768, 645, 646, 37, 647, 120, 127, 648, 124, 649, 650, 651, 652, 123, 653, 654, 655, 426, 656, 657, 658, 659, 660, 661, 662, 663, 664, 665, 666, 667, 125, 668, 669, 670, 671, 122, 672, 385, 386, 387, 121, 1125, 1126, 1127, 1128, 1129, 1130, 1131, 1132, 1133, 1134, 1135, 1136, 1137, 1138, 1139, 1140, 1141, 1215, 1216, 1217, 1218, 1219, 1220, 1221, 1222, 1223, 1224, 1225, 1213, 1214, 1247, 1248, 1249, 1250, 1251, 1252, 1253, 1243, 1244, 1245, 1246] (by decide +kernel) (by decide +kernel)
set_option maxRecDepth 20000 in
theorem gL_law_X11_partings : GoodIn wsL_law (wsV RL 48 RX11 yX11_partings wsX11_partings) := goodIn_app (goodIn_of _ (by decide +kernel)) ggL_law_X11_partings
set_option maxRecDepth 20000 in
theorem ggL_law_X12_partings : GoodIn wsL_law wsX12_partings := goodIn_r _ [772, 504, 191, 714, 773, 208, 195, 207, 194, 692, 693, 694, 5, 695, 238, 178, 510, 511, 512, 523, 524, 525, 696, 697, 698, 699, 192, 700, 715, 716, 717, 718, 183, 190, 719, 720, 721, 722, 723, 724, 725, 196, 726, 727, 728, 729, 182, 189, 188, 730, 731, 732, 733, 193, 1142, 1143, 1144, 1145, 1146, 1147, 1148, 1149, 1150, 1151, 1152, 1153, 1154, 1155, 1156, 1157, 1158, 1159, 1160, 1161, 1162, 1163, 1164, 1165, 1166, 1167, 1168, 1169, 1170, 1171, 1172, 1173, 1174, 1175, 1176, 1177, 1178, 1179, 1180, 1181, 1182, 1183, 1184, 1185, 1186, 1187, 1188, 1189, 1190, 1191, 1192, 1193, 1194, 1195, 1196, 1197, 1198, 1199, 1200, 1201, 1202, 1203, 1204, 1205, 1206, 1207, 1208, 1209, 1210, 1211, 1212] (by decide +kernel) (by decide +kernel)
set_option maxRecDepth 20000 in
theorem gL_law_X12_partings : GoodIn wsL_law (wsV RL 51 RX12 yX12_partings wsX12_partings) := goodIn_app (goodIn_of _ (by decide +kernel)) ggL_law_X12_partings
set_option maxRecDepth 20000 in
theorem ggL_law_X11_parting : GoodIn wsL_law wsX11_parting := goodIn_r _ [777, 38, 765, 778, 779, 780, 781, 37, 782, 127, 648, 653, 783, 679, 680, 681, 120, 121, 122, 1125, 1126, 1127, 1128, 1129, 1130, 1131, 1132, 1133, 1134, 1135, 1136, 1137, 1138, 1139, 1140, 1141, 1247, 1248, 1249, 1250, 1251, 1252, 1253, 1243, 1244, 1245, 1246] (by decide +kernel) (by decide +kernel)
set_option maxRecDepth 20000 in
theorem gL_law_X11_parting : GoodIn wsL_law (wsV RL 52 RX11 yX11_parting wsX11_parting) := goodIn_app (goodIn_of _ (by decide +kernel)) ggL_law_X11_parting
set_option maxRecDepth 20000 in
theorem ggL_law_X12_parting : GoodIn wsL_law wsX12_parting := goodIn_r _ [787, 773, 208, 207, 510, 511, 5, 512, 1142, 1143, 1144, 1145, 1146, 1147, 1148, 1149, 1150, 1151, 1152, 1153, 1154, 1155, 1156, 1157, 1158, 1159, 1160, 1161, 1162, 1163, 1164, 1165, 1166, 1167, 1168, 1169, 1170, 1171, 1172, 1173, 1174, 1175, 1176, 1177, 1178, 1179, 1180, 1181, 1182, 1183, 1184, 1185, 1186, 1187, 1188, 1189, 1190, 1191, 1192, 1193, 1194, 1195, 1196, 1197, 1198, 1199, 1200, 1201, 1202, 1203, 1204, 1205, 1206, 1207, 1208, 1209, 1210, 1211, 1212] (by decide +kernel) (by decide +kernel)
set_option maxRecDepth 20000 in
theorem gL_law_X12_parting : GoodIn wsL_law (wsV RL 55 RX12 yX12_parting wsX12_parting) := goodIn_app (goodIn_of _ (by decide +kernel)) ggL_law_X12_parting
set_option maxRecDepth 20000 in
theorem ggL_law_X11_learn : GoodIn wsL_law wsX11_learn := goodIn_r _ [791, 15, 42, 792, 252, 578, 254, 255, 256, 14, 257, 65, 609, 610, 611, 612, 64, 613, 280, 33, 281, 766, 361, 362, 363, 88, 91, 90, 89, 364, 365, 366, 793, 341, 342, 343, 794, 381, 382, 383, 384, 385, 386, 387, 388, 1125, 1126, 1127, 1128, 1129, 1130, 1131, 1132, 1133, 1134, 1135, 1136, 1137, 1138, 1139, 1140, 1141, 1254, 1255, 1256, 1257, 1258, 1259, 1213, 1214, 1243, 1244, 1245, 1246] (by decide +kernel) (by decide +kernel)
set_option maxRecDepth 20000 in
theorem gL_law_X11_learn : GoodIn wsL_law (wsV RL 56 RX11 yX11_learn wsX11_learn) := goodIn_app (goodIn_of _ (by decide +kernel)) ggL_law_X11_learn
set_option maxRecDepth 20000 in
theorem ggL_law_X12_learn : GoodIn wsL_law wsX12_learn := goodIn_r _ [798, 799, 209, 210, 192, 700, 509, 692, 693, 694, 5, 695, 238, 178, 510, 511, 512, 523, 524, 525, 696, 697, 698, 699, 719, 720, 721, 1142, 1143, 1144, 1145, 1146, 1147, 1148, 1149, 1150, 1151, 1152, 1153, 1154, 1155, 1156, 1157, 1158, 1159, 1160, 1161, 1162, 1163, 1164, 1165, 1166, 1167, 1168, 1169, 1170, 1171, 1172, 1173, 1174, 1175, 1176, 1177, 1178, 1179, 1180, 1181, 1182, 1183, 1184, 1185, 1186, 1187, 1188, 1189, 1190, 1191, 1192, 1193, 1194, 1195, 1196, 1197, 1198, 1199, 1200, 1201, 1202, 1203, 1204, 1205, 1206, 1207, 1208, 1209, 1210, 1211, 1212] (by decide +kernel) (by decide +kernel)
set_option maxRecDepth 20000 in
theorem gL_law_X12_learn : GoodIn wsL_law (wsV RL 60 RX12 yX12_learn wsX12_learn) := goodIn_app (goodIn_of _ (by decide +kernel)) ggL_law_X12_learn
set_option maxRecDepth 20000 in
theorem ggL_law_X11_word : GoodIn wsL_law wsX11_word := goodIn_r _ [803, 42, 792, 753, 754, 755, 33, 756, 88, 91, 90, 89, 1125, 1126, 1127, 1128, 1129, 1130, 1131, 1132, 1133, 1134, 1135, 1136, 1137, 1138, 1139, 1140, 1141, 1254, 1255, 1256, 1257, 1258, 1259, 1243, 1244, 1245, 1246] (by decide +kernel) (by decide +kernel)
set_option maxRecDepth 20000 in
theorem gL_law_X11_word : GoodIn wsL_law (wsV RL 61 RX11 yX11_word wsX11_word) := goodIn_app (goodIn_of _ (by decide +kernel)) ggL_law_X11_word
set_option maxRecDepth 20000 in
theorem ggL_law_X12_word : GoodIn wsL_law wsX12_word := goodIn_r _ [807, 799, 210, 209, 510, 511, 5, 512, 1142, 1143, 1144, 1145, 1146, 1147, 1148, 1149, 1150, 1151, 1152, 1153, 1154, 1155, 1156, 1157, 1158, 1159, 1160, 1161, 1162, 1163, 1164, 1165, 1166, 1167, 1168, 1169, 1170, 1171, 1172, 1173, 1174, 1175, 1176, 1177, 1178, 1179, 1180, 1181, 1182, 1183, 1184, 1185, 1186, 1187, 1188, 1189, 1190, 1191, 1192, 1193, 1194, 1195, 1196, 1197, 1198, 1199, 1200, 1201, 1202, 1203, 1204, 1205, 1206, 1207, 1208, 1209, 1210, 1211, 1212] (by decide +kernel) (by decide +kernel)
set_option maxRecDepth 20000 in
theorem gL_law_X12_word : GoodIn wsL_law (wsV RL 64 RX12 yX12_word wsX12_word) := goodIn_app (goodIn_of _ (by decide +kernel)) ggL_law_X12_word
set_option maxRecDepth 20000 in
theorem ggL_law_X11_back : GoodIn wsL_law wsX11_back := goodIn_r _ [811, 15, 42, 17, 30, 45, 792, 578, 252, 44, 254, 255, 256, 14, 257, 65, 605, 606, 607, 2, 608, 18, 609, 610, 611, 612, 64, 613, 280, 33, 281, 812, 813, 814, 41, 815, 138, 135, 816, 139, 817, 818, 819, 137, 134, 32, 136, 820, 381, 382, 383, 89, 90, 88, 384, 385, 386, 387, 91, 388, 341, 342, 343, 821, 822, 823, 824, 140, 825, 625, 626, 29, 627, 469, 628, 629, 630, 631, 471, 472, 632, 470, 108, 468, 633, 109, 111, 112, 634, 361, 362, 363, 364, 365, 366, 635, 636, 637, 638, 639, 640, 641, 642, 21, 643, 78, 618, 619, 620, 621, 622, 623, 644, 645, 646, 37, 647, 120, 127, 648, 124, 649, 650, 651, 652, 123, 653, 654, 655, 426, 656, 657, 658, 659, 660, 661, 662, 663, 664, 665, 666, 667, 125, 668, 669, 670, 671, 122, 672, 121, 476, 477, 478, 479, 480, 268, 269, 270, 481, 482, 483, 484, 485, 486, 487, 110, 488, 489, 490, 491, 492, 493, 494, 495, 419, 496, 450, 448, 449, 446, 447, 497, 673, 674, 675, 676, 475, 677, 474, 473, 113, 678, 679, 680, 681, 141, 85, 86, 87, 10, 11, 63, 43, 826, 683, 684, 685, 827, 766, 1125, 1126, 1127, 1128, 1129, 1130, 1131, 1132, 1133, 1134, 1135, 1136, 1137, 1138, 1139, 1140, 1141, 1254, 1255, 1256, 1257, 1258, 1259, 1243, 1244, 1245, 1246, 1213, 1214, 1215, 1216, 1217, 1218, 1219, 1220, 1221, 1222, 1223, 1224, 1225, 1235, 1236, 1237, 1238, 1239, 1240, 1241, 1242, 1247, 1248, 1249, 1250, 1251, 1252, 1253, 1283, 1284, 1285, 1286, 1287, 1288] (by decide +kernel) (by decide +kernel)
set_option maxRecDepth 20000 in
theorem gL_law_X11_back : GoodIn wsL_law (wsV RL 65 RX11 yX11_back wsX11_back) := goodIn_app (goodIn_of _ (by decide +kernel)) ggL_law_X11_back
set_option maxRecDepth 20000 in
theorem ggL_law_X12_back : GoodIn wsL_law wsX12_back := goodIn_r _ [831, 700, 216, 192, 832, 799, 215, 692, 693, 694, 5, 695, 238, 178, 510, 511, 512, 523, 524, 525, 696, 697, 698, 699, 701, 702, 703, 704, 504, 833, 834, 835, 836, 509, 209, 210, 214, 690, 213, 202, 212, 201, 705, 706, 707, 708, 709, 203, 204, 199, 200, 710, 711, 712, 713, 714, 191, 190, 715, 716, 717, 718, 183, 719, 720, 721, 722, 723, 724, 725, 196, 726, 727, 728, 729, 182, 189, 188, 730, 731, 732, 733, 194, 193, 195, 734, 735, 736, 737, 197, 738, 181, 739, 740, 741, 742, 185, 186, 187, 198, 184, 743, 744, 745, 746, 747, 748, 837, 838, 839, 840, 1142, 1143, 1144, 1145, 1146, 1147, 1148, 1149, 1150, 1151, 1152, 1153, 1154, 1155, 1156, 1157, 1158, 1159, 1160, 1161, 1162, 1163, 1164, 1165, 1166, 1167, 1168, 1169, 1170, 1171, 1172, 1173, 1174, 1175, 1176, 1177, 1178, 1179, 1180, 1181, 1182, 1183, 1184, 1185, 1186, 1187, 1188, 1189, 1190, 1191, 1192, 1193, 1194, 1195, 1196, 1197, 1198, 1199, 1200, 1201, 1202, 1203, 1204, 1205, 1206, 1207, 1208, 1209, 1210, 1211, 1212] (by decide +kernel) (by decide +kernel)
set_option maxRecDepth 20000 in
theorem gL_law_X12_back : GoodIn wsL_law (wsV RL 68 RX12 yX12_back wsX12_back) := goodIn_app (goodIn_of _ (by decide +kernel)) ggL_law_X12_back
set_option maxRecDepth 20000 in
theorem ggL_law_X11_old : GoodIn wsL_law wsX11_old := goodIn_r _ [844, 45, 44, 1125, 1126, 1127, 1128, 1129, 1130, 1131, 1132, 1133, 1134, 1135, 1136, 1137, 1138, 1139, 1140, 1141] (by decide +kernel) (by decide +kernel)
set_option maxRecDepth 20000 in
theorem gL_law_X11_old : GoodIn wsL_law (wsV RL 69 RX11 yX11_old wsX11_old) := goodIn_app (goodIn_of _ (by decide +kernel)) ggL_law_X11_old
set_option maxRecDepth 20000 in
theorem ggL_law_X12_old : GoodIn wsL_law wsX12_old := goodIn_r _ [848, 832, 215, 510, 511, 5, 512, 1142, 1143, 1144, 1145, 1146, 1147, 1148, 1149, 1150, 1151, 1152, 1153, 1154, 1155, 1156, 1157, 1158, 1159, 1160, 1161, 1162, 1163, 1164, 1165, 1166, 1167, 1168, 1169, 1170, 1171, 1172, 1173, 1174, 1175, 1176, 1177, 1178, 1179, 1180, 1181, 1182, 1183, 1184, 1185, 1186, 1187, 1188, 1189, 1190, 1191, 1192, 1193, 1194, 1195, 1196, 1197, 1198, 1199, 1200, 1201, 1202, 1203, 1204, 1205, 1206, 1207, 1208, 1209, 1210, 1211, 1212] (by decide +kernel) (by decide +kernel)
set_option maxRecDepth 20000 in
theorem gL_law_X12_old : GoodIn wsL_law (wsV RL 72 RX12 yX12_old wsX12_old) := goodIn_app (goodIn_of _ (by decide +kernel)) ggL_law_X12_old
set_option maxRecDepth 20000 in
theorem ggL_law_X11_collisions : GoodIn wsL_law wsX11_collisions := goodIn_r _ [852, 47, 42, 17, 30, 792, 578, 605, 606, 607, 2, 608, 18, 812, 813, 814, 41, 815, 138, 135, 816, 139, 817, 818, 819, 137, 134, 32, 33, 136, 820, 381, 382, 383, 89, 90, 88, 384, 385, 386, 387, 91, 388, 341, 342, 343, 821, 822, 823, 824, 140, 825, 625, 626, 29, 627, 469, 628, 629, 630, 631, 471, 472, 632, 470, 108, 468, 633, 109, 111, 112, 634, 361, 362, 363, 364, 365, 366, 635, 636, 637, 638, 639, 640, 641, 642, 21, 643, 78, 618, 619, 620, 621, 622, 623, 644, 645, 646, 37, 647, 120, 127, 648, 124, 649, 650, 651, 652, 123, 653, 654, 655, 426, 656, 657, 658, 659, 660, 661, 662, 663, 664, 665, 666, 667, 125, 668, 669, 670, 671, 122, 672, 121, 476, 477, 478, 479, 480, 268, 269, 270, 481, 482, 483, 484, 485, 486, 487, 110, 488, 489, 490, 491, 492, 493, 494, 495, 419, 496, 450, 448, 449, 446, 447, 497, 673, 674, 675, 676, 475, 677, 474, 473, 113, 678, 679, 680, 681, 141, 85, 86, 87, 10, 11, 63, 43, 826, 683, 684, 685, 853, 854, 855, 856, 857, 858, 859, 860, 861, 46, 1125, 1126, 1127, 1128, 1129, 1130, 1131, 1132, 1133, 1134, 1135, 1136, 1137, 1138, 1139, 1140, 1141, 1254, 1255, 1256, 1257, 1258, 1259, 1243, 1244, 1245, 1246, 1215, 1216, 1217, 1218, 1219, 1220, 1221, 1222, 1223, 1224, 1225, 1235, 1236, 1237, 1238, 1239, 1240, 1241, 1242, 1247, 1248, 1249, 1250, 1251, 1252, 1253, 1283, 1284, 1285, 1286, 1287, 1288] (by decide +kernel) (by decide +kernel)
set_option maxRecDepth 20000 in
theorem gL_law_X11_collisions : GoodIn wsL_law (wsV RL 73 RX11 yX11_collisions wsX11_collisions) := goodIn_app (goodIn_of _ (by decide +kernel)) ggL_law_X11_collisions
set_option maxRecDepth 20000 in
theorem ggL_law_X12_collisions : GoodIn wsL_law wsX12_collisions := goodIn_r _ [865, 866, 799, 217, 701, 702, 703, 5, 704, 504, 510, 511, 512, 833, 834, 835, 836, 509, 209, 210, 214, 690, 213, 202, 212, 201, 696, 697, 698, 699, 192, 700, 705, 706, 707, 708, 709, 203, 204, 199, 200, 710, 711, 712, 713, 714, 191, 190, 715, 716, 717, 718, 183, 719, 720, 721, 722, 723, 724, 725, 196, 726, 727, 728, 729, 182, 189, 188, 730, 731, 732, 733, 194, 193, 195, 734, 735, 736, 737, 197, 738, 181, 739, 740, 741, 742, 185, 186, 187, 198, 184, 743, 744, 745, 746, 747, 748, 867, 868, 869, 870, 837, 838, 839, 840, 1142, 1143, 1144, 1145, 1146, 1147, 1148, 1149, 1150, 1151, 1152, 1153, 1154, 1155, 1156, 1157, 1158, 1159, 1160, 1161, 1162, 1163, 1164, 1165, 1166, 1167, 1168, 1169, 1170, 1171, 1172, 1173, 1174, 1175, 1176, 1177, 1178, 1179, 1180, 1181, 1182, 1183, 1184, 1185, 1186, 1187, 1188, 1189, 1190, 1191, 1192, 1193, 1194, 1195, 1196, 1197, 1198, 1199, 1200, 1201, 1202, 1203, 1204, 1205, 1206, 1207, 1208, 1209, 1210, 1211, 1212] (by decide +kernel) (by decide +kernel)
set_option maxRecDepth 20000 in
theorem gL_law_X12_collisions : GoodIn wsL_law (wsV RL 76 RX12 yX12_collisions wsX12_collisions) := goodIn_app (goodIn_of _ (by decide +kernel)) ggL_law_X12_collisions
set_option maxRecDepth 20000 in
theorem ggL_law_X11_collision : GoodIn wsL_law wsX11_collision := goodIn_r _ [874, 47, 46, 1125, 1126, 1127, 1128, 1129, 1130, 1131, 1132, 1133, 1134, 1135, 1136, 1137, 1138, 1139, 1140, 1141] (by decide +kernel) (by decide +kernel)
set_option maxRecDepth 20000 in
theorem gL_law_X11_collision : GoodIn wsL_law (wsV RL 77 RX11 yX11_collision wsX11_collision) := goodIn_app (goodIn_of _ (by decide +kernel)) ggL_law_X11_collision
set_option maxRecDepth 20000 in
theorem ggL_law_X12_collision : GoodIn wsL_law wsX12_collision := goodIn_r _ [878, 866, 217, 510, 511, 5, 512, 1142, 1143, 1144, 1145, 1146, 1147, 1148, 1149, 1150, 1151, 1152, 1153, 1154, 1155, 1156, 1157, 1158, 1159, 1160, 1161, 1162, 1163, 1164, 1165, 1166, 1167, 1168, 1169, 1170, 1171, 1172, 1173, 1174, 1175, 1176, 1177, 1178, 1179, 1180, 1181, 1182, 1183, 1184, 1185, 1186, 1187, 1188, 1189, 1190, 1191, 1192, 1193, 1194, 1195, 1196, 1197, 1198, 1199, 1200, 1201, 1202, 1203, 1204, 1205, 1206, 1207, 1208, 1209, 1210, 1211, 1212] (by decide +kernel) (by decide +kernel)
set_option maxRecDepth 20000 in
theorem gL_law_X12_collision : GoodIn wsL_law (wsV RL 80 RX12 yX12_collision wsX12_collision) := goodIn_app (goodIn_of _ (by decide +kernel)) ggL_law_X12_collision
set_option maxRecDepth 20000 in
theorem ggL_law_X11_rhymes : GoodIn wsL_law wsX11_rhymes := goodIn_r _ [882, 42, 17, 30, 792, 578, 605, 606, 607, 2, 608, 18, 812, 813, 814, 41, 815, 138, 135, 816, 139, 817, 818, 819, 137, 134, 32, 33, 136, 820, 381, 382, 383, 89, 90, 88, 384, 385, 386, 387, 91, 388, 341, 342, 343, 821, 822, 823, 824, 140, 825, 625, 626, 29, 627, 469, 628, 629, 630, 631, 471, 472, 632, 470, 108, 468, 633, 109, 111, 112, 634, 361, 362, 363, 364, 365, 366, 635, 636, 637, 638, 639, 640, 641, 642, 21, 643, 78, 618, 619, 620, 621, 622, 623, 644, 645, 646, 37, 647, 120, 127, 648, 124, 649, 650, 651, 652, 123, 653, 654, 655, 426, 656, 657, 658, 659, 660, 661, 662, 663, 664, 665, 666, 667, 125, 668, 669, 670, 671, 122, 672, 121, 476, 477, 478, 479, 480, 268, 269, 270, 481, 482, 483, 484, 485, 486, 487, 110, 488, 489, 490, 491, 492, 493, 494, 495, 419, 496, 450, 448, 449, 446, 447, 497, 673, 674, 675, 676, 475, 677, 474, 473, 113, 678, 679, 680, 681, 141, 85, 86, 87, 10, 11, 63, 43, 826, 683, 684, 685, 883, 884, 885, 886, 887, 888, 889, 890, 891, 1125, 1126, 1127, 1128, 1129, 1130, 1131, 1132, 1133, 1134, 1135, 1136, 1137, 1138, 1139, 1140, 1141, 1254, 1255, 1256, 1257, 1258, 1259, 1243, 1244, 1245, 1246, 1215, 1216, 1217, 1218, 1219, 1220, 1221, 1222, 1223, 1224, 1225, 1235, 1236, 1237, 1238, 1239, 1240, 1241, 1242, 1247, 1248, 1249, 1250, 1251, 1252, 1253, 1283, 1284, 1285, 1286, 1287, 1288] (by decide +kernel) (by decide +kernel)
set_option maxRecDepth 20000 in
theorem gL_law_X11_rhymes : GoodIn wsL_law (wsV RL 81 RX11 yX11_rhymes wsX11_rhymes) := goodIn_app (goodIn_of _ (by decide +kernel)) ggL_law_X11_rhymes
set_option maxRecDepth 20000 in
theorem ggL_law_X12_rhymes : GoodIn wsL_law wsX12_rhymes := goodIn_r _ [895, 799, 209, 210, 701, 702, 703, 5, 704, 504, 510, 511, 512, 833, 834, 835, 836, 509, 214, 690, 213, 202, 212, 201, 696, 697, 698, 699, 192, 700, 705, 706, 707, 708, 709, 203, 204, 199, 200, 710, 711, 712, 713, 714, 191, 190, 715, 716, 717, 718, 183, 719, 720, 721, 722, 723, 724, 725, 196, 726, 727, 728, 729, 182, 189, 188, 730, 731, 732, 733, 194, 193, 195, 734, 735, 736, 737, 197, 738, 181, 739, 740, 741, 742, 185, 186, 187, 198, 184, 743, 744, 745, 746, 747, 748, 896, 897, 898, 899, 900, 901, 902, 1142, 1143, 1144, 1145, 1146, 1147, 1148, 1149, 1150, 1151, 1152, 1153, 1154, 1155, 1156, 1157, 1158, 1159, 1160, 1161, 1162, 1163, 1164, 1165, 1166, 1167, 1168, 1169, 1170, 1171, 1172, 1173, 1174, 1175, 1176, 1177, 1178, 1179, 1180, 1181, 1182, 1183, 1184, 1185, 1186, 1187, 1188, 1189, 1190, 1191, 1192, 1193, 1194, 1195, 1196, 1197, 1198, 1199, 1200, 1201, 1202, 1203, 1204, 1205, 1206, 1207, 1208, 1209, 1210, 1211, 1212] (by decide +kernel) (by decide +kernel)
set_option maxRecDepth 20000 in
theorem gL_law_X12_rhymes : GoodIn wsL_law (wsV RL 84 RX12 yX12_rhymes wsX12_rhymes) := goodIn_app (goodIn_of _ (by decide +kernel)) ggL_law_X12_rhymes
set_option maxRecDepth 20000 in
theorem ggL_law_X11_tell : GoodIn wsL_law wsX11_tell := goodIn_r _ [906, 42, 17, 30, 792, 578, 605, 606, 607, 2, 608, 18, 812, 813, 814, 41, 815, 138, 135, 816, 139, 817, 818, 819, 137, 134, 32, 33, 136, 820, 381, 382, 383, 89, 90, 88, 384, 385, 386, 387, 91, 388, 341, 342, 343, 821, 822, 823, 824, 140, 825, 625, 626, 29, 627, 469, 628, 629, 630, 631, 471, 472, 632, 470, 108, 468, 633, 109, 111, 112, 634, 361, 362, 363, 364, 365, 366, 635, 636, 637, 638, 639, 640, 641, 642, 21, 643, 78, 618, 619, 620, 621, 622, 623, 644, 645, 646, 37, 647, 120, 127, 648, 124, 649, 650, 651, 652, 123, 653, 654, 655, 426, 656, 657, 658, 659, 660, 661, 662, 663, 664, 665, 666, 667, 125, 668, 669, 670, 671, 122, 672, 121, 476, 477, 478, 479, 480, 268, 269, 270, 481, 482, 483, 484, 485, 486, 487, 110, 488, 489, 490, 491, 492, 493, 494, 495, 419, 496, 450, 448, 449, 446, 447, 497, 673, 674, 675, 676, 475, 677, 474, 473, 113, 678, 679, 680, 681, 141, 85, 86, 87, 10, 11, 63, 43, 826, 683, 684, 685, 907, 908, 909, 910, 857, 1125, 1126, 1127, 1128, 1129, 1130, 1131, 1132, 1133, 1134, 1135, 1136, 1137, 1138, 1139, 1140, 1141, 1254, 1255, 1256, 1257, 1258, 1259, 1243, 1244, 1245, 1246, 1215, 1216, 1217, 1218, 1219, 1220, 1221, 1222, 1223, 1224, 1225, 1235, 1236, 1237, 1238, 1239, 1240, 1241, 1242, 1247, 1248, 1249, 1250, 1251, 1252, 1253, 1283, 1284, 1285, 1286, 1287, 1288] (by decide +kernel) (by decide +kernel)
set_option maxRecDepth 20000 in
theorem gL_law_X11_tell : GoodIn wsL_law (wsV RL 85 RX11 yX11_tell wsX11_tell) := goodIn_app (goodIn_of _ (by decide +kernel)) ggL_law_X11_tell
set_option maxRecDepth 20000 in
theorem ggL_law_X12_tell : GoodIn wsL_law wsX12_tell := goodIn_r _ [914, 799, 214, 209, 210, 701, 702, 703, 5, 704, 504, 510, 511, 512, 833, 834, 835, 836, 509, 690, 213, 202, 212, 201, 696, 697, 698, 699, 192, 700, 705, 706, 707, 708, 709, 203, 204, 199, 200, 710, 711, 712, 713, 714, 191, 190, 715, 716, 717, 718, 183, 719, 720, 721, 722, 723, 724, 725, 196, 726, 727, 728, 729, 182, 189, 188, 730, 731, 732, 733, 194, 193, 195, 734, 735, 736, 737, 197, 738, 181, 739, 740, 741, 742, 185, 186, 187, 198, 184, 743, 744, 745, 746, 747, 748, 837, 838, 839, 840, 1142, 1143, 1144, 1145, 1146, 1147, 1148, 1149, 1150, 1151, 1152, 1153, 1154, 1155, 1156, 1157, 1158, 1159, 1160, 1161, 1162, 1163, 1164, 1165, 1166, 1167, 1168, 1169, 1170, 1171, 1172, 1173, 1174, 1175, 1176, 1177, 1178, 1179, 1180, 1181, 1182, 1183, 1184, 1185, 1186, 1187, 1188, 1189, 1190, 1191, 1192, 1193, 1194, 1195, 1196, 1197, 1198, 1199, 1200, 1201, 1202, 1203, 1204, 1205, 1206, 1207, 1208, 1209, 1210, 1211, 1212] (by decide +kernel) (by decide +kernel)
set_option maxRecDepth 20000 in
theorem gL_law_X12_tell : GoodIn wsL_law (wsV RL 88 RX12 yX12_tell wsX12_tell) := goodIn_app (goodIn_of _ (by decide +kernel)) ggL_law_X12_tell
set_option maxRecDepth 20000 in
theorem ggL_law_X11_uses : GoodIn wsL_law wsX11_uses := goodIn_r _ [918, 576, 42, 17, 30, 792, 578, 581, 582, 583, 2, 584, 18, 812, 813, 814, 41, 815, 138, 135, 816, 139, 817, 818, 819, 137, 134, 32, 33, 136, 820, 381, 382, 383, 89, 90, 88, 384, 385, 386, 387, 91, 388, 341, 342, 343, 821, 822, 823, 824, 140, 825, 625, 626, 29, 627, 469, 628, 629, 630, 631, 471, 472, 632, 470, 108, 468, 633, 109, 111, 112, 634, 361, 362, 363, 364, 365, 366, 635, 636, 637, 638, 639, 640, 641, 642, 21, 643, 78, 618, 619, 620, 621, 622, 623, 644, 645, 646, 37, 647, 120, 127, 648, 124, 649, 650, 651, 652, 123, 653, 654, 655, 426, 656, 657, 658, 659, 660, 661, 662, 663, 664, 665, 666, 667, 125, 668, 669, 670, 671, 122, 672, 121, 476, 477, 478, 479, 480, 268, 269, 270, 481, 482, 483, 484, 485, 486, 487, 110, 488, 489, 490, 491, 492, 493, 494, 495, 419, 496, 450, 448, 449, 446, 447, 497, 673, 674, 675, 676, 475, 677, 474, 473, 113, 678, 679, 680, 681, 141, 85, 86, 87, 10, 11, 63, 43, 826, 683, 684, 685, 919, 920, 921, 922, 1215, 1216, 1217, 1218, 1219, 1220, 1221, 1222, 1223, 1224, 1225, 1125, 1126, 1127, 1128, 1129, 1130, 1131, 1132, 1133, 1134, 1135, 1136, 1137, 1138, 1139, 1140, 1141, 1254, 1255, 1256, 1257, 1258, 1259, 1243, 1244, 1245, 1246, 1235, 1236, 1237, 1238, 1239, 1240, 1241, 1242, 1247, 1248, 1249, 1250, 1251, 1252, 1253, 1283, 1284, 1285, 1286, 1287, 1288] (by decide +kernel) (by decide +kernel)
set_option maxRecDepth 20000 in
theorem gL_law_X11_uses : GoodIn wsL_law (wsV RL 89 RX11 yX11_uses wsX11_uses) := goodIn_app (goodIn_of _ (by decide +kernel)) ggL_law_X11_uses
set_option maxRecDepth 20000 in
theorem ggL_law_X12_uses : GoodIn wsL_law wsX12_uses := goodIn_r _ [926, 504, 181, 744, 799, 743, 214, 212, 213, 510, 511, 5, 512, 833, 834, 835, 836, 509, 209, 210, 690, 202, 201, 696, 697, 698, 699, 192, 700, 705, 706, 707, 708, 709, 203, 204, 199, 200, 710, 711, 712, 713, 714, 191, 190, 715, 716, 717, 718, 183, 719, 720, 721, 722, 723, 724, 725, 196, 726, 727, 728, 729, 182, 189, 188, 730, 731, 732, 733, 194, 193, 195, 734, 735, 736, 737, 197, 738, 739, 740, 741, 742, 185, 186, 187, 198, 184, 745, 746, 747, 748, 1142, 1143, 1144, 1145, 1146, 1147, 1148, 1149, 1150, 1151, 1152, 1153, 1154, 1155, 1156, 1157, 1158, 1159, 1160, 1161, 1162, 1163, 1164, 1165, 1166, 1167, 1168, 1169, 1170, 1171, 1172, 1173, 1174, 1175, 1176, 1177, 1178, 1179, 1180, 1181, 1182, 1183, 1184, 1185, 1186, 1187, 1188, 1189, 1190, 1191, 1192, 1193, 1194, 1195, 1196, 1197, 1198, 1199, 1200, 1201, 1202, 1203, 1204, 1205, 1206, 1207, 1208, 1209, 1210, 1211, 1212] (by decide +kernel) (by decide +kernel)
set_option maxRecDepth 20000 in
theorem gL_law_X12_uses : GoodIn wsL_law (wsV RL 92 RX12 yX12_uses wsX12_uses) := goodIn_app (goodIn_of _ (by decide +kernel)) ggL_law_X12_uses
set_option maxRecDepth 20000 in
theorem ggL_law_X11_write : GoodIn wsL_law wsX11_write := goodIn_r _ [930, 15, 51, 252, 55, 931, 932, 30, 17, 933, 254, 255, 256, 14, 257, 65, 601, 602, 603, 2, 604, 605, 606, 607, 608, 18, 934, 935, 936, 937, 938, 939, 940, 941, 64, 942, 943, 944, 50, 945, 149, 946, 268, 269, 270, 150, 151, 147, 152, 947, 948, 949, 54, 950, 159, 162, 163, 164, 951, 952, 426, 953, 954, 955, 956, 957, 958, 959, 960, 961, 280, 33, 281, 962, 963, 964, 965, 966, 967, 968, 145, 148, 146, 969, 970, 971, 972, 973, 974, 975, 976, 614, 615, 616, 29, 617, 116, 469, 490, 491, 492, 115, 618, 619, 620, 621, 622, 361, 362, 363, 88, 91, 90, 89, 364, 365, 366, 623, 381, 382, 383, 384, 385, 386, 387, 388, 341, 342, 343, 624, 625, 626, 627, 628, 629, 630, 631, 471, 472, 632, 470, 108, 468, 633, 109, 111, 112, 634, 635, 636, 637, 638, 639, 640, 641, 642, 21, 643, 78, 644, 645, 646, 37, 647, 120, 127, 648, 124, 649, 650, 651, 652, 123, 653, 654, 655, 656, 657, 658, 659, 660, 661, 662, 663, 664, 665, 666, 667, 125, 668, 669, 670, 671, 122, 672, 121, 476, 477, 478, 479, 480, 481, 482, 483, 484, 485, 486, 487, 110, 488, 489, 493, 494, 495, 419, 496, 450, 448, 449, 446, 447, 497, 673, 674, 675, 676, 475, 677, 474, 473, 113, 678, 679, 680, 681, 977, 978, 979, 980, 981, 982, 983, 984, 985, 986, 987, 988, 989, 990, 991, 992, 157, 993, 994, 995, 996, 997, 156, 158, 160, 161, 1125, 1126, 1127, 1128, 1129, 1130, 1131, 1132, 1133, 1134, 1135, 1136, 1137, 1138, 1139, 1140, 1141, 1213, 1214, 1260, 1261, 1262, 1263, 1264, 1265, 1266, 1267, 1268, 1269, 1270, 1271, 1272, 1273, 1274, 1275, 1276, 1235, 1236, 1237, 1238, 1239, 1240, 1241, 1242, 1243, 1244, 1245, 1246, 1215, 1216, 1217, 1218, 1219, 1220, 1221, 1222, 1223, 1224, 1225, 1247, 1248, 1249, 1250, 1251, 1252, 1253, 1283, 1284, 1285, 1286, 1287, 1288] (by decide +kernel) (by decide +kernel)
set_option maxRecDepth 20000 in
theorem gL_law_X11_write : GoodIn wsL_law (wsV RL 93 RX11 yX11_write wsX11_write) := goodIn_app (goodIn_of _ (by decide +kernel)) ggL_law_X11_write
set_option maxRecDepth 20000 in
theorem ggL_law_X12_write : GoodIn wsL_law wsX12_write := goodIn_r _ [1001, 238, 1002, 221, 178, 1003, 1004, 218, 219, 220, 701, 702, 703, 5, 704, 504, 510, 511, 512, 1005, 1006, 1007, 1008, 1009, 1010, 1011, 1012, 1013, 1014, 1015, 1016, 1017, 1018, 1019, 523, 524, 525, 1020, 1021, 1022, 1023, 690, 201, 202, 1024, 1025, 1026, 1027, 696, 697, 698, 699, 192, 700, 705, 706, 707, 708, 709, 203, 204, 199, 200, 710, 711, 712, 713, 714, 191, 190, 715, 716, 717, 718, 183, 719, 720, 721, 722, 723, 724, 725, 196, 726, 727, 728, 729, 182, 189, 188, 730, 731, 732, 733, 194, 193, 195, 734, 735, 736, 737, 197, 738, 181, 739, 740, 741, 742, 185, 186, 187, 198, 184, 743, 744, 745, 746, 747, 748, 1142, 1143, 1144, 1145, 1146, 1147, 1148, 1149, 1150, 1151, 1152, 1153, 1154, 1155, 1156, 1157, 1158, 1159, 1160, 1161, 1162, 1163, 1164, 1165, 1166, 1167, 1168, 1169, 1170, 1171, 1172, 1173, 1174, 1175, 1176, 1177, 1178, 1179, 1180, 1181, 1182, 1183, 1184, 1185, 1186, 1187, 1188, 1189, 1190, 1191, 1192, 1193, 1194, 1195, 1196, 1197, 1198, 1199, 1200, 1201, 1202, 1203, 1204, 1205, 1206, 1207, 1208, 1209, 1210, 1211, 1212] (by decide +kernel) (by decide +kernel)
set_option maxRecDepth 20000 in
theorem gL_law_X12_write : GoodIn wsL_law (wsV RL 96 RX12 yX12_write wsX12_write) := goodIn_app (goodIn_of _ (by decide +kernel)) ggL_law_X12_write
set_option maxRecDepth 20000 in
theorem ggL_law_X11_written : GoodIn wsL_law wsX11_written := goodIn_r _ [1031, 55, 1032, 1033, 1034, 54, 1035, 161, 156, 1125, 1126, 1127, 1128, 1129, 1130, 1131, 1132, 1133, 1134, 1135, 1136, 1137, 1138, 1139, 1140, 1141, 1268, 1269, 1270, 1271, 1272, 1273, 1274, 1275, 1276] (by decide +kernel) (by decide +kernel)
set_option maxRecDepth 20000 in
theorem gL_law_X11_written : GoodIn wsL_law (wsV RL 97 RX11 yX11_written wsX11_written) := goodIn_app (goodIn_of _ (by decide +kernel)) ggL_law_X11_written
set_option maxRecDepth 20000 in
theorem ggL_law_X12_written : GoodIn wsL_law wsX12_written := goodIn_r _ [1039, 1003, 218, 510, 511, 5, 512, 1142, 1143, 1144, 1145, 1146, 1147, 1148, 1149, 1150, 1151, 1152, 1153, 1154, 1155, 1156, 1157, 1158, 1159, 1160, 1161, 1162, 1163, 1164, 1165, 1166, 1167, 1168, 1169, 1170, 1171, 1172, 1173, 1174, 1175, 1176, 1177, 1178, 1179, 1180, 1181, 1182, 1183, 1184, 1185, 1186, 1187, 1188, 1189, 1190, 1191, 1192, 1193, 1194, 1195, 1196, 1197, 1198, 1199, 1200, 1201, 1202, 1203, 1204, 1205, 1206, 1207, 1208, 1209, 1210, 1211, 1212] (by decide +kernel) (by decide +kernel)
set_option maxRecDepth 20000 in
theorem gL_law_X12_written : GoodIn wsL_law (wsV RL 100 RX12 yX12_written wsX12_written) := goodIn_app (goodIn_of _ (by decide +kernel)) ggL_law_X12_written
set_option maxRecDepth 20000 in
theorem ggL_law_X11_counted : GoodIn wsL_law wsX11_counted := goodIn_r _ [1043, 55, 1044, 1045, 1046, 54, 1047, 160, 158, 1125, 1126, 1127, 1128, 1129, 1130, 1131, 1132, 1133, 1134, 1135, 1136, 1137, 1138, 1139, 1140, 1141, 1268, 1269, 1270, 1271, 1272, 1273, 1274, 1275, 1276] (by decide +kernel) (by decide +kernel)
set_option maxRecDepth 20000 in
theorem gL_law_X11_counted : GoodIn wsL_law (wsV RL 101 RX11 yX11_counted wsX11_counted) := goodIn_app (goodIn_of _ (by decide +kernel)) ggL_law_X11_counted
set_option maxRecDepth 20000 in
theorem ggL_law_X12_counted : GoodIn wsL_law wsX12_counted := goodIn_r _ [1051, 1004, 220, 510, 511, 5, 512, 1142, 1143, 1144, 1145, 1146, 1147, 1148, 1149, 1150, 1151, 1152, 1153, 1154, 1155, 1156, 1157, 1158, 1159, 1160, 1161, 1162, 1163, 1164, 1165, 1166, 1167, 1168, 1169, 1170, 1171, 1172, 1173, 1174, 1175, 1176, 1177, 1178, 1179, 1180, 1181, 1182, 1183, 1184, 1185, 1186, 1187, 1188, 1189, 1190, 1191, 1192, 1193, 1194, 1195, 1196, 1197, 1198, 1199, 1200, 1201, 1202, 1203, 1204, 1205, 1206, 1207, 1208, 1209, 1210, 1211, 1212] (by decide +kernel) (by decide +kernel)
set_option maxRecDepth 20000 in
theorem gL_law_X12_counted : GoodIn wsL_law (wsV RL 104 RX12 yX12_counted wsX12_counted) := goodIn_app (goodIn_of _ (by decide +kernel)) ggL_law_X12_counted
set_option maxRecDepth 20000 in
theorem ggL_law_X11_mixed : GoodIn wsL_law wsX11_mixed := goodIn_r _ [1055, 15, 42, 18, 17, 30, 59, 51, 252, 931, 254, 255, 256, 14, 257, 65, 1056, 1057, 1058, 1059, 938, 939, 940, 941, 64, 934, 935, 936, 937, 812, 813, 814, 41, 815, 138, 135, 816, 139, 817, 818, 819, 137, 134, 32, 33, 136, 820, 381, 382, 383, 89, 90, 88, 384, 385, 386, 387, 91, 388, 341, 342, 343, 821, 822, 823, 824, 140, 825, 625, 626, 29, 627, 469, 628, 629, 630, 631, 471, 472, 632, 470, 108, 468, 633, 109, 111, 112, 634, 361, 362, 363, 364, 365, 366, 635, 636, 637, 638, 639, 640, 641, 642, 21, 643, 78, 618, 619, 620, 621, 622, 623, 644, 645, 646, 37, 647, 120, 127, 648, 124, 649, 650, 651, 652, 123, 653, 654, 655, 426, 656, 657, 658, 659, 660, 661, 662, 663, 664, 665, 666, 667, 125, 668, 669, 670, 671, 122, 672, 121, 476, 477, 478, 479, 480, 268, 269, 270, 481, 482, 483, 484, 485, 486, 487, 110, 488, 489, 490, 491, 492, 493, 494, 495, 419, 496, 450, 448, 449, 446, 447, 497, 673, 674, 675, 676, 475, 677, 474, 473, 113, 678, 679, 680, 681, 141, 85, 86, 87, 10, 11, 63, 43, 826, 683, 684, 685, 1060, 1061, 1062, 58, 1063, 1064, 172, 173, 168, 1065, 952, 953, 942, 943, 944, 50, 945, 149, 946, 150, 151, 147, 152, 954, 955, 956, 957, 958, 959, 960, 961, 280, 281, 962, 963, 964, 965, 966, 967, 968, 145, 148, 146, 1066, 1067, 1068, 2, 1069, 933, 932, 1070, 1071, 1072, 1073, 1074, 857, 1075, 1076, 1077, 1078, 1079, 1080, 1081, 1082, 169, 170, 171, 1083, 1084, 1085, 1086, 1087, 1088, 1089, 1090, 1125, 1126, 1127, 1128, 1129, 1130, 1131, 1132, 1133, 1134, 1135, 1136, 1137, 1138, 1139, 1140, 1141, 1213, 1214, 1260, 1261, 1262, 1263, 1264, 1265, 1266, 1267, 1254, 1255, 1256, 1257, 1258, 1259, 1243, 1244, 1245, 1246, 1215, 1216, 1217, 1218, 1219, 1220, 1221, 1222, 1223, 1224, 1225, 1235, 1236, 1237, 1238, 1239, 1240, 1241, 1242, 1247, 1248, 1249, 1250, 1251, 1252, 1253, 1283, 1284, 1285, 1286, 1287, 1288, 1277, 1278, 1279, 1280, 1281, 1282] (by decide +kernel) (by decide +kernel)
set_option maxRecDepth 20000 in
theorem gL_law_X11_mixed : GoodIn wsL_law (wsV RL 105 RX11 yX11_mixed wsX11_mixed) := goodIn_app (goodIn_of _ (by decide +kernel)) ggL_law_X11_mixed
set_option maxRecDepth 20000 in
theorem ggL_law_X12_mixed : GoodIn wsL_law wsX12_mixed := goodIn_r _ [1094, 238, 178, 222, 504, 223, 1095, 224, 510, 511, 5, 512, 1005, 1006, 1007, 1008, 833, 834, 835, 836, 509, 799, 209, 210, 214, 690, 213, 202, 212, 201, 696, 697, 698, 699, 192, 700, 705, 706, 707, 708, 709, 203, 204, 199, 200, 710, 711, 712, 713, 714, 191, 190, 715, 716, 717, 718, 183, 719, 720, 721, 722, 723, 724, 725, 196, 726, 727, 728, 729, 182, 189, 188, 730, 731, 732, 733, 194, 193, 195, 734, 735, 736, 737, 197, 738, 181, 739, 740, 741, 742, 185, 186, 187, 198, 184, 743, 744, 745, 746, 747, 748, 1009, 1010, 1011, 1012, 1017, 1018, 1019, 523, 524, 525, 1024, 1025, 1026, 1027, 1096, 1097, 1098, 1099, 837, 838, 839, 840, 1100, 1101, 1102, 1103, 1104, 1142, 1143, 1144, 1145, 1146, 1147, 1148, 1149, 1150, 1151, 1152, 1153, 1154, 1155, 1156, 1157, 1158, 1159, 1160, 1161, 1162, 1163, 1164, 1165, 1166, 1167, 1168, 1169, 1170, 1171, 1172, 1173, 1174, 1175, 1176, 1177, 1178, 1179, 1180, 1181, 1182, 1183, 1184, 1185, 1186, 1187, 1188, 1189, 1190, 1191, 1192, 1193, 1194, 1195, 1196, 1197, 1198, 1199, 1200, 1201, 1202, 1203, 1204, 1205, 1206, 1207, 1208, 1209, 1210, 1211, 1212] (by decide +kernel) (by decide +kernel)
set_option maxRecDepth 20000 in
theorem gL_law_X12_mixed : GoodIn wsL_law (wsV RL 108 RX12 yX12_mixed wsX12_mixed) := goodIn_app (goodIn_of _ (by decide +kernel)) ggL_law_X12_mixed
set_option maxRecDepth 20000 in
theorem ggL_law_X11_line : GoodIn wsL_law wsX11_line := goodIn_r _ [1108, 59, 1109, 1110, 1111, 58, 1112, 171, 170, 1125, 1126, 1127, 1128, 1129, 1130, 1131, 1132, 1133, 1134, 1135, 1136, 1137, 1138, 1139, 1140, 1141, 1277, 1278, 1279, 1280, 1281, 1282] (by decide +kernel) (by decide +kernel)
set_option maxRecDepth 20000 in
theorem gL_law_X11_line : GoodIn wsL_law (wsV RL 109 RX11 yX11_line wsX11_line) := goodIn_app (goodIn_of _ (by decide +kernel)) ggL_law_X11_line
set_option maxRecDepth 20000 in
theorem ggL_law_X12_line : GoodIn wsL_law wsX12_line := goodIn_r _ [1116, 1095, 224, 510, 511, 5, 512, 1142, 1143, 1144, 1145, 1146, 1147, 1148, 1149, 1150, 1151, 1152, 1153, 1154, 1155, 1156, 1157, 1158, 1159, 1160, 1161, 1162, 1163, 1164, 1165, 1166, 1167, 1168, 1169, 1170, 1171, 1172, 1173, 1174, 1175, 1176, 1177, 1178, 1179, 1180, 1181, 1182, 1183, 1184, 1185, 1186, 1187, 1188, 1189, 1190, 1191, 1192, 1193, 1194, 1195, 1196, 1197, 1198, 1199, 1200, 1201, 1202, 1203, 1204, 1205, 1206, 1207, 1208, 1209, 1210, 1211, 1212] (by decide +kernel) (by decide +kernel)
set_option maxRecDepth 20000 in
theorem gL_law_X12_line : GoodIn wsL_law (wsV RL 112 RX12 yX12_line wsX12_line) := goodIn_app (goodIn_of _ (by decide +kernel)) ggL_law_X12_line
set_option maxRecDepth 20000 in
theorem ggL_law_X11_count : GoodIn wsL_law wsX11_count := goodIn_r _ [1120, 18, 42, 792, 578, 15, 229, 1125, 1126, 1127, 1128, 1129, 1130, 1131, 1132, 1133, 1134, 1135, 1136, 1137, 1138, 1139, 1140, 1141, 1254, 1255, 1256, 1257, 1258, 1259, 1243, 1244, 1245, 1246, 1213, 1214] (by decide +kernel) (by decide +kernel)
set_option maxRecDepth 20000 in
theorem gL_law_X11_count : GoodIn wsL_law (wsV RL 113 RX11 yX11_count wsX11_count) := goodIn_app (goodIn_of _ (by decide +kernel)) ggL_law_X11_count
set_option maxRecDepth 20000 in
theorem ggL_law_X12_count : GoodIn wsL_law wsX12_count := goodIn_r _ [1124, 504, 799, 238, 1142, 1143, 1144, 1145, 1146, 1147, 1148, 1149, 1150, 1151, 1152, 1153, 1154, 1155, 1156, 1157, 1158, 1159, 1160, 1161, 1162, 1163, 1164, 1165, 1166, 1167, 1168, 1169, 1170, 1171, 1172, 1173, 1174, 1175, 1176, 1177, 1178, 1179, 1180, 1181, 1182, 1183, 1184, 1185, 1186, 1187, 1188, 1189, 1190, 1191, 1192, 1193, 1194, 1195, 1196, 1197, 1198, 1199, 1200, 1201, 1202, 1203, 1204, 1205, 1206, 1207, 1208, 1209, 1210, 1211, 1212] (by decide +kernel) (by decide +kernel)
set_option maxRecDepth 20000 in
theorem gL_law_X12_count : GoodIn wsL_law (wsV RL 116 RX12 yX12_count wsX12_count) := goodIn_app (goodIn_of _ (by decide +kernel)) ggL_law_X12_count
theorem dL_law_0 : decode cL_law 0 = .ok (.new 7, 3) := by decide +kernel
theorem dL_law_3 : decode cL_law 3 = .ok (.dup, 1) := by decide +kernel
theorem dL_law_4 : decode cL_law 4 = .ok (.invokespecial 9, 3) := by decide +kernel
theorem dL_law_7 : decode cL_law 7 = .ok (.astore_n 1, 1) := by decide +kernel
theorem dL_law_8 : decode cL_law 8 = .ok (.new 10, 3) := by decide +kernel
theorem dL_law_11 : decode cL_law 11 = .ok (.dup, 1) := by decide +kernel
theorem dL_law_12 : decode cL_law 12 = .ok (.invokespecial 12, 3) := by decide +kernel
theorem dL_law_15 : decode cL_law 15 = .ok (.astore_n 2, 1) := by decide +kernel
theorem dL_law_16 : decode cL_law 16 = .ok (.iconst 0, 1) := by decide +kernel
theorem dL_law_17 : decode cL_law 17 = .ok (.istore_n 3, 1) := by decide +kernel
theorem dL_law_18 : decode cL_law 18 = .ok (.iload_n 3, 1) := by decide +kernel
theorem dL_law_19 : decode cL_law 19 = .ok (.aload_n 0, 1) := by decide +kernel
theorem dL_law_20 : decode cL_law 20 = .ok (.arraylength, 1) := by decide +kernel
theorem dL_law_21 : decode cL_law 21 = .ok (.bipush 6, 2) := by decide +kernel
theorem dL_law_23 : decode cL_law 23 = .ok (.isub, 1) := by decide +kernel
theorem dL_law_24 : decode cL_law 24 = .ok (.if_icmp .gt 815, 3) := by decide +kernel
theorem dL_law_27 : decode cL_law 27 = .ok (.aload_n 0, 1) := by decide +kernel
theorem dL_law_28 : decode cL_law 28 = .ok (.iload_n 3, 1) := by decide +kernel
theorem dL_law_29 : decode cL_law 29 = .ok (.iaload, 1) := by decide +kernel
theorem dL_law_30 : decode cL_law 30 = .ok (.bipush 31, 2) := by decide +kernel
theorem dL_law_32 : decode cL_law 32 = .ok (.iand, 1) := by decide +kernel
theorem dL_law_33 : decode cL_law 33 = .ok (.tableswitch 800 0 24 #[115, 178, 201, 224, 247, 280, 303, 336, 369, 392, 425, 438, 471, 494, 517, 540, 563, 586, 619, 652, 685, 708, 731, 754, 777], 115) := by decide +kernel
theorem dL_law_148 : decode cL_law 148 = .ok (.aload_n 1, 1) := by decide +kernel
theorem dL_law_149 : decode cL_law 149 = .ok (.aload_n 0, 1) := by decide +kernel
theorem dL_law_150 : decode cL_law 150 = .ok (.iload_n 3, 1) := by decide +kernel
theorem dL_law_151 : decode cL_law 151 = .ok (.iconst 1, 1) := by decide +kernel
theorem dL_law_152 : decode cL_law 152 = .ok (.iadd, 1) := by decide +kernel
theorem dL_law_153 : decode cL_law 153 = .ok (.iaload, 1) := by decide +kernel
theorem dL_law_154 : decode cL_law 154 = .ok (.aload_n 0, 1) := by decide +kernel
theorem dL_law_155 : decode cL_law 155 = .ok (.iload_n 3, 1) := by decide +kernel
theorem dL_law_156 : decode cL_law 156 = .ok (.iconst 2, 1) := by decide +kernel
theorem dL_law_157 : decode cL_law 157 = .ok (.iadd, 1) := by decide +kernel
theorem dL_law_158 : decode cL_law 158 = .ok (.iaload, 1) := by decide +kernel
theorem dL_law_159 : decode cL_law 159 = .ok (.aload_n 0, 1) := by decide +kernel
theorem dL_law_160 : decode cL_law 160 = .ok (.iload_n 3, 1) := by decide +kernel
theorem dL_law_161 : decode cL_law 161 = .ok (.iconst 3, 1) := by decide +kernel
theorem dL_law_162 : decode cL_law 162 = .ok (.iadd, 1) := by decide +kernel
theorem dL_law_163 : decode cL_law 163 = .ok (.iaload, 1) := by decide +kernel
theorem dL_law_164 : decode cL_law 164 = .ok (.aload_n 0, 1) := by decide +kernel
theorem dL_law_165 : decode cL_law 165 = .ok (.iload_n 3, 1) := by decide +kernel
theorem dL_law_166 : decode cL_law 166 = .ok (.iconst 4, 1) := by decide +kernel
theorem dL_law_167 : decode cL_law 167 = .ok (.iadd, 1) := by decide +kernel
theorem dL_law_168 : decode cL_law 168 = .ok (.iaload, 1) := by decide +kernel
theorem dL_law_169 : decode cL_law 169 = .ok (.aload_n 0, 1) := by decide +kernel
theorem dL_law_170 : decode cL_law 170 = .ok (.iload_n 3, 1) := by decide +kernel
theorem dL_law_171 : decode cL_law 171 = .ok (.iconst 5, 1) := by decide +kernel
theorem dL_law_172 : decode cL_law 172 = .ok (.iadd, 1) := by decide +kernel
theorem dL_law_173 : decode cL_law 173 = .ok (.iaload, 1) := by decide +kernel
theorem dL_law_174 : decode cL_law 174 = .ok (.invokevirtual 13, 3) := by decide +kernel
theorem dL_law_177 : decode cL_law 177 = .ok (.aload_n 2, 1) := by decide +kernel
theorem dL_law_178 : decode cL_law 178 = .ok (.aload_n 0, 1) := by decide +kernel
theorem dL_law_179 : decode cL_law 179 = .ok (.iload_n 3, 1) := by decide +kernel
theorem dL_law_180 : decode cL_law 180 = .ok (.iconst 1, 1) := by decide +kernel
theorem dL_law_181 : decode cL_law 181 = .ok (.iadd, 1) := by decide +kernel
theorem dL_law_182 : decode cL_law 182 = .ok (.iaload, 1) := by decide +kernel
theorem dL_law_183 : decode cL_law 183 = .ok (.aload_n 0, 1) := by decide +kernel
theorem dL_law_184 : decode cL_law 184 = .ok (.iload_n 3, 1) := by decide +kernel
theorem dL_law_185 : decode cL_law 185 = .ok (.iconst 2, 1) := by decide +kernel
theorem dL_law_186 : decode cL_law 186 = .ok (.iadd, 1) := by decide +kernel
theorem dL_law_187 : decode cL_law 187 = .ok (.iaload, 1) := by decide +kernel
theorem dL_law_188 : decode cL_law 188 = .ok (.aload_n 0, 1) := by decide +kernel
theorem dL_law_189 : decode cL_law 189 = .ok (.iload_n 3, 1) := by decide +kernel
theorem dL_law_190 : decode cL_law 190 = .ok (.iconst 3, 1) := by decide +kernel
theorem dL_law_191 : decode cL_law 191 = .ok (.iadd, 1) := by decide +kernel
theorem dL_law_192 : decode cL_law 192 = .ok (.iaload, 1) := by decide +kernel
theorem dL_law_193 : decode cL_law 193 = .ok (.aload_n 0, 1) := by decide +kernel
theorem dL_law_194 : decode cL_law 194 = .ok (.iload_n 3, 1) := by decide +kernel
theorem dL_law_195 : decode cL_law 195 = .ok (.iconst 4, 1) := by decide +kernel
theorem dL_law_196 : decode cL_law 196 = .ok (.iadd, 1) := by decide +kernel
theorem dL_law_197 : decode cL_law 197 = .ok (.iaload, 1) := by decide +kernel
theorem dL_law_198 : decode cL_law 198 = .ok (.aload_n 0, 1) := by decide +kernel
theorem dL_law_199 : decode cL_law 199 = .ok (.iload_n 3, 1) := by decide +kernel
theorem dL_law_200 : decode cL_law 200 = .ok (.iconst 5, 1) := by decide +kernel
theorem dL_law_201 : decode cL_law 201 = .ok (.iadd, 1) := by decide +kernel
theorem dL_law_202 : decode cL_law 202 = .ok (.iaload, 1) := by decide +kernel
theorem dL_law_203 : decode cL_law 203 = .ok (.invokevirtual 17, 3) := by decide +kernel
theorem dL_law_206 : decode cL_law 206 = .ok (.if_icmp .eq 627, 3) := by decide +kernel
theorem dL_law_209 : decode cL_law 209 = .ok (.iconst 0, 1) := by decide +kernel
theorem dL_law_210 : decode cL_law 210 = .ok (.ireturn, 1) := by decide +kernel
theorem dL_law_211 : decode cL_law 211 = .ok (.aload_n 1, 1) := by decide +kernel
theorem dL_law_212 : decode cL_law 212 = .ok (.aload_n 0, 1) := by decide +kernel
theorem dL_law_213 : decode cL_law 213 = .ok (.iload_n 3, 1) := by decide +kernel
theorem dL_law_214 : decode cL_law 214 = .ok (.iconst 1, 1) := by decide +kernel
theorem dL_law_215 : decode cL_law 215 = .ok (.iadd, 1) := by decide +kernel
theorem dL_law_216 : decode cL_law 216 = .ok (.iaload, 1) := by decide +kernel
theorem dL_law_217 : decode cL_law 217 = .ok (.invokevirtual 18, 3) := by decide +kernel
theorem dL_law_220 : decode cL_law 220 = .ok (.aload_n 2, 1) := by decide +kernel
theorem dL_law_221 : decode cL_law 221 = .ok (.aload_n 0, 1) := by decide +kernel
theorem dL_law_222 : decode cL_law 222 = .ok (.iload_n 3, 1) := by decide +kernel
theorem dL_law_223 : decode cL_law 223 = .ok (.iconst 1, 1) := by decide +kernel
theorem dL_law_224 : decode cL_law 224 = .ok (.iadd, 1) := by decide +kernel
theorem dL_law_225 : decode cL_law 225 = .ok (.iaload, 1) := by decide +kernel
theorem dL_law_226 : decode cL_law 226 = .ok (.invokevirtual 22, 3) := by decide +kernel
theorem dL_law_229 : decode cL_law 229 = .ok (.if_icmp .eq 604, 3) := by decide +kernel
theorem dL_law_232 : decode cL_law 232 = .ok (.iconst 0, 1) := by decide +kernel
theorem dL_law_233 : decode cL_law 233 = .ok (.ireturn, 1) := by decide +kernel
theorem dL_law_234 : decode cL_law 234 = .ok (.aload_n 1, 1) := by decide +kernel
theorem dL_law_235 : decode cL_law 235 = .ok (.aload_n 0, 1) := by decide +kernel
theorem dL_law_236 : decode cL_law 236 = .ok (.iload_n 3, 1) := by decide +kernel
theorem dL_law_237 : decode cL_law 237 = .ok (.iconst 1, 1) := by decide +kernel
theorem dL_law_238 : decode cL_law 238 = .ok (.iadd, 1) := by decide +kernel
theorem dL_law_239 : decode cL_law 239 = .ok (.iaload, 1) := by decide +kernel
theorem dL_law_240 : decode cL_law 240 = .ok (.invokevirtual 23, 3) := by decide +kernel
theorem dL_law_243 : decode cL_law 243 = .ok (.aload_n 2, 1) := by decide +kernel
theorem dL_law_244 : decode cL_law 244 = .ok (.aload_n 0, 1) := by decide +kernel
theorem dL_law_245 : decode cL_law 245 = .ok (.iload_n 3, 1) := by decide +kernel
theorem dL_law_246 : decode cL_law 246 = .ok (.iconst 1, 1) := by decide +kernel
theorem dL_law_247 : decode cL_law 247 = .ok (.iadd, 1) := by decide +kernel
theorem dL_law_248 : decode cL_law 248 = .ok (.iaload, 1) := by decide +kernel
theorem dL_law_249 : decode cL_law 249 = .ok (.invokevirtual 26, 3) := by decide +kernel
theorem dL_law_252 : decode cL_law 252 = .ok (.if_icmp .eq 581, 3) := by decide +kernel
theorem dL_law_255 : decode cL_law 255 = .ok (.iconst 0, 1) := by decide +kernel
theorem dL_law_256 : decode cL_law 256 = .ok (.ireturn, 1) := by decide +kernel
theorem dL_law_257 : decode cL_law 257 = .ok (.aload_n 1, 1) := by decide +kernel
theorem dL_law_258 : decode cL_law 258 = .ok (.aload_n 0, 1) := by decide +kernel
theorem dL_law_259 : decode cL_law 259 = .ok (.iload_n 3, 1) := by decide +kernel
theorem dL_law_260 : decode cL_law 260 = .ok (.iconst 1, 1) := by decide +kernel
theorem dL_law_261 : decode cL_law 261 = .ok (.iadd, 1) := by decide +kernel
theorem dL_law_262 : decode cL_law 262 = .ok (.iaload, 1) := by decide +kernel
theorem dL_law_263 : decode cL_law 263 = .ok (.invokevirtual 27, 3) := by decide +kernel
theorem dL_law_266 : decode cL_law 266 = .ok (.aload_n 2, 1) := by decide +kernel
