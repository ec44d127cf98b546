theorem goodIn_c1 {big a : List Cond} {c : Cond} (h1 : GoodIn big [c]) (h2 : GoodIn big a) : GoodIn big (c :: a) := fun w h => (List.mem_cons.mp h).elim (fun e => h1 w (by rw [e]; exact List.mem_singleton.mpr rfl)) (h2 w)
set_option maxRecDepth 20000 in
theorem gr_wsL_commands_r1 : GoodIn wsL_law wsL_commands_r1 := goodIn_r _ [885, 953, 954, 955, 2, 956, 806, 807, 231, 232, 40, 18, 17, 36, 28, 957, 958, 959, 39, 960, 961, 962, 944, 109] (by decide +kernel) (by decide +kernel)
set_option maxRecDepth 20000 in
theorem gr_wsL_commands_r2 : GoodIn wsL_law wsL_commands_r2 := goodIn_r _ [963, 964, 965, 966, 105, 106, 967, 968, 969, 970, 971, 972, 973, 974, 975, 976, 977, 978, 979, 980, 981, 982, 983, 984] (by decide +kernel) (by decide +kernel)
set_option maxRecDepth 20000 in
theorem gr_wsL_commands_r3 : GoodIn wsL_law wsL_commands_r3 := goodIn_r _ [985, 986, 987, 988, 989, 990, 991, 992, 993, 994, 995, 996, 997, 998, 999, 1000, 1001, 1002, 1003, 1004, 124, 1005, 1006, 1007] (by decide +kernel) (by decide +kernel)
set_option maxRecDepth 20000 in
theorem gr_wsL_commands_r4 : GoodIn wsL_law wsL_commands_r4 := goodIn_r _ [1008, 1009, 1010, 1011, 1012, 1013, 1014, 1015, 1016, 1017, 1018, 1019, 1020, 1021, 1022, 1023, 1024, 1025, 1026, 1027, 1028, 1029, 1030, 1031] (by decide +kernel) (by decide +kernel)
set_option maxRecDepth 20000 in
theorem gr_wsL_commands_r5 : GoodIn wsL_law wsL_commands_r5 := goodIn_r _ [1032, 1033, 1034, 108, 1035, 1036, 1037, 1038, 1039, 1040, 1041, 1042, 152, 153, 154, 16, 155, 52, 55, 59, 156, 157, 53, 158] (by decide +kernel) (by decide +kernel)
set_option maxRecDepth 20000 in
theorem gr_wsL_commands_r6 : GoodIn wsL_law wsL_commands_r6 := goodIn_r _ [159, 160, 161, 162, 163, 51, 164, 67, 165, 166, 167, 168, 169, 170, 171, 57, 172, 173, 174, 175, 176, 177, 178, 179] (by decide +kernel) (by decide +kernel)
set_option maxRecDepth 20000 in
theorem gr_wsL_commands_r7 : GoodIn wsL_law wsL_commands_r7 := goodIn_r _ [61, 180, 181, 182, 183, 184, 75, 185, 186, 187, 1043, 1044, 1045, 35, 1046, 1047, 1048, 1049, 1050, 1051, 1052, 1053, 1054, 1055] (by decide +kernel) (by decide +kernel)
set_option maxRecDepth 20000 in
theorem gr_wsL_commands_r8 : GoodIn wsL_law wsL_commands_r8 := goodIn_r _ [189, 190, 191, 99, 97, 192, 193, 194, 27, 195, 196, 197, 198, 199, 200, 201, 202, 203, 204, 205, 206, 207, 208, 209] (by decide +kernel) (by decide +kernel)
set_option maxRecDepth 20000 in
theorem gr_wsL_commands_r9 : GoodIn wsL_law wsL_commands_r9 := goodIn_r _ [210, 211, 212, 213, 214, 215, 216, 217, 218, 219, 220, 221, 222, 223, 224, 225, 226, 1056, 296, 297, 298, 299, 300, 301] (by decide +kernel) (by decide +kernel)
set_option maxRecDepth 20000 in
theorem gr_wsL_commands_r10 : GoodIn wsL_law wsL_commands_r10 := goodIn_r _ [302, 303, 304, 305, 306, 307, 308, 309, 310, 311, 1057, 336, 337, 338, 339, 340, 341, 342, 1058, 366, 367, 368, 369, 370] (by decide +kernel) (by decide +kernel)
set_option maxRecDepth 20000 in
theorem gr_wsL_commands_r11 : GoodIn wsL_law wsL_commands_r11 := goodIn_r _ [371, 372, 373, 374, 375, 376, 377, 378, 379, 380, 381, 382, 383, 384, 385, 386, 387, 388, 389, 1059, 414, 415, 416, 417] (by decide +kernel) (by decide +kernel)
set_option maxRecDepth 20000 in
theorem gr_wsL_commands_r12 : GoodIn wsL_law wsL_commands_r12 := goodIn_r _ [418, 419, 420, 1060, 438, 439, 440, 98, 441, 442, 443, 31, 444, 445, 446, 447, 448, 92, 90, 91, 449, 450, 451, 452] (by decide +kernel) (by decide +kernel)
set_option maxRecDepth 20000 in
theorem gr_wsL_commands_r13 : GoodIn wsL_law wsL_commands_r13 := goodIn_r _ [453, 454, 455, 456, 457, 458, 459, 460, 461, 462, 463, 464, 465, 466, 467, 468, 469, 470, 471, 472, 473, 474, 475, 476] (by decide +kernel) (by decide +kernel)
set_option maxRecDepth 20000 in
theorem gr_wsL_commands_r14 : GoodIn wsL_law wsL_commands_r14 := goodIn_r _ [477, 478, 479, 480, 481, 482, 483, 484, 485, 486, 487, 488, 489, 490, 491, 492, 1061, 528, 529, 530, 531, 532, 533, 534] (by decide +kernel) (by decide +kernel)
set_option maxRecDepth 20000 in
theorem gr_wsL_commands_r15 : GoodIn wsL_law wsL_commands_r15 := goodIn_r _ [535, 536, 537, 538, 539, 1062, 561, 562, 563, 564, 565, 566, 567, 568, 569, 570, 571, 572, 573, 574, 575, 576, 577, 578] (by decide +kernel) (by decide +kernel)
set_option maxRecDepth 20000 in
theorem gr_wsL_commands_r16 : GoodIn wsL_law wsL_commands_r16 := goodIn_r _ [579, 580, 581, 582, 1063, 607, 608, 609, 227, 228, 229, 230, 24, 233, 234, 235, 23, 236, 237, 81, 238, 239, 240] (by decide +kernel) (by decide +kernel)
set_option maxRecDepth 20000 in
theorem ggL_law_L_commands : GoodIn wsL_law wsL_commands := goodIn_c1 (goodIn_r _ [952] (by decide +kernel) (by decide +kernel)) (goodIn_app (goodIn_app (goodIn_app (goodIn_app (goodIn_app (goodIn_app (goodIn_app (goodIn_app (goodIn_app (goodIn_app (goodIn_app (goodIn_app (goodIn_app (goodIn_app (goodIn_app gr_wsL_commands_r1 (goodIn_app gr_wsL_commands_r2 (goodIn_app gr_wsL_commands_r3 (goodIn_app gr_wsL_commands_r4 (goodIn_app gr_wsL_commands_r5 (goodIn_app gr_wsL_commands_r6 (goodIn_app gr_wsL_commands_r7 (goodIn_app gr_wsL_commands_r8 (goodIn_app gr_wsL_commands_r9 (goodIn_app gr_wsL_commands_r10 (goodIn_app gr_wsL_commands_r11 (goodIn_app gr_wsL_commands_r12 (goodIn_app gr_wsL_commands_r13 (goodIn_app gr_wsL_commands_r14 (goodIn_app gr_wsL_commands_r15 gr_wsL_commands_r16))))))))))))))) (goodIn_sub inlX9 (by decide +kernel))) (goodIn_sub inlX0 (by decide +kernel))) (goodIn_sub inlX5 (by decide +kernel))) (goodIn_sub inlJ0 (by decide +kernel))) (goodIn_sub inlX6 (by decide +kernel))) (goodIn_sub inlX4 (by decide +kernel))) (goodIn_sub inlX1 (by decide +kernel))) (goodIn_sub inlX7 (by decide +kernel))) (goodIn_sub inlX3 (by decide +kernel))) (goodIn_sub inlX8 (by decide +kernel))) (goodIn_sub inlX2 (by decide +kernel))) (goodIn_sub (fun _ h => List.mem_append_left _ (List.mem_append_left _ (List.mem_append_left _ (List.mem_append_left _ (List.mem_append_left _ (List.mem_append_left _ (List.mem_append_left _ (List.mem_append_right _ h)))))))) (by decide +kernel))) (goodIn_sub (fun _ h => List.mem_append_left _ (List.mem_append_left _ (List.mem_append_left _ (List.mem_append_right _ h)))) (by decide +kernel))) (goodIn_sub (fun _ h => List.mem_append_left _ (List.mem_append_left _ (List.mem_append_left _ (List.mem_append_left _ (List.mem_append_left _ (List.mem_append_left _ (List.mem_append_right _ h))))))) (by decide +kernel)))
set_option maxRecDepth 20000 in
theorem gL_law_L_commands : GoodIn wsL_law (va_wsS RL 227 yL_commands wsL_commands) := goodIn_app (goodIn_of _ (by decide +kernel)) ggL_law_L_commands
set_option maxRecDepth 20000 in
theorem gr_wsX10_commands_r1 : GoodIn wsL_law wsX10_commands_r1 := goodIn_r _ [949, 1068, 1069, 1070, 1071, 138, 249, 134, 135, 264, 245, 246, 247, 5, 248, 1072, 1073, 1074, 1075, 141, 1076, 1077, 1078, 1079] (by decide +kernel) (by decide +kernel)
set_option maxRecDepth 20000 in
theorem gr_wsX10_commands_r2 : GoodIn wsL_law wsX10_commands_r2 := goodIn_r _ [139, 1080, 1081, 1082, 1083, 1084, 1085, 1086, 1087, 1088, 1089, 1090, 1091, 1092, 1093, 1094, 1095, 1096, 1097, 255, 256, 257, 1098, 1099] (by decide +kernel) (by decide +kernel)
set_option maxRecDepth 20000 in
theorem gr_wsX10_commands_r3 : GoodIn wsL_law wsX10_commands_r3 := goodIn_r _ [1100, 265, 266, 267, 268, 1101, 1102, 1103, 1104, 250, 251, 252, 253, 254, 258, 259, 260, 261, 262, 263, 269, 270, 271, 272] (by decide +kernel) (by decide +kernel)
set_option maxRecDepth 20000 in
theorem gr_wsX10_commands_r4 : GoodIn wsL_law wsX10_commands_r4 := goodIn_r _ [273, 204, 205, 206, 274, 275, 276, 277, 278, 279, 280, 281, 214, 215, 316, 317, 318, 319, 320, 321, 322, 323, 324, 325] (by decide +kernel) (by decide +kernel)
set_option maxRecDepth 20000 in
theorem gr_wsX10_commands_r5 : GoodIn wsL_law wsX10_commands_r5 := goodIn_r _ [326, 327, 347, 348, 349, 350, 351, 352, 353, 354, 355, 356, 357, 394, 395, 396, 397, 398, 399, 400, 401, 402, 403, 404] (by decide +kernel) (by decide +kernel)
set_option maxRecDepth 20000 in
theorem gr_wsX10_commands_r6 : GoodIn wsL_law wsX10_commands_r6 := goodIn_r _ [405, 425, 426, 427, 428, 429, 497, 498, 499, 500, 501, 502, 503, 504, 140, 505, 506, 507, 508, 509, 510, 511, 512, 513] (by decide +kernel) (by decide +kernel)
set_option maxRecDepth 20000 in
theorem gr_wsX10_commands_r7 : GoodIn wsL_law wsX10_commands_r7 := goodIn_r _ [514, 515, 516, 517, 518, 519, 544, 545, 546, 547, 548, 549, 550, 551, 552, 587, 588, 589, 590, 591, 592, 593, 594, 595] (by decide +kernel) (by decide +kernel)
set_option maxRecDepth 20000 in
theorem gr_wsX10_commands_r8 : GoodIn wsL_law wsX10_commands_r8 := goodIn_r _ [596, 597, 598, 614, 615, 616, 617, 282, 283, 284, 285, 286, 137] (by decide +kernel) (by decide +kernel)
set_option maxRecDepth 20000 in
theorem ggL_law_X10_commands : GoodIn wsL_law wsX10_commands := goodIn_c1 (goodIn_r _ [1067] (by decide +kernel) (by decide +kernel)) (goodIn_app (goodIn_app (goodIn_app gr_wsX10_commands_r1 (goodIn_app gr_wsX10_commands_r2 (goodIn_app gr_wsX10_commands_r3 (goodIn_app gr_wsX10_commands_r4 (goodIn_app gr_wsX10_commands_r5 (goodIn_app gr_wsX10_commands_r6 (goodIn_app gr_wsX10_commands_r7 gr_wsX10_commands_r8))))))) (goodIn_sub inlX10 (by decide +kernel))) (goodIn_sub (fun _ h => List.mem_append_left _ (List.mem_append_left _ (List.mem_append_left _ (List.mem_append_left _ (List.mem_append_left _ (List.mem_append_left _ (List.mem_append_left _ (List.mem_append_right _ h)))))))) (by decide +kernel)))
set_option maxRecDepth 20000 in
theorem gL_law_X10_commands : GoodIn wsL_law (wsV RL 230 RX10 yX10_commands wsX10_commands) := goodIn_app (goodIn_of _ (by decide +kernel)) ggL_law_X10_commands
set_option maxRecDepth 20000 in
theorem gr_wsL_line_r1 : GoodIn wsL_law wsL_line_r1 := goodIn_r _ [621, 1128, 1129, 1130, 2, 1131, 44, 836, 837, 838, 839, 634, 635, 17, 840, 532, 533, 16, 534, 157, 59, 1132, 1133, 1134] (by decide +kernel) (by decide +kernel)
set_option maxRecDepth 20000 in
theorem gr_wsL_line_r2 : GoodIn wsL_law wsL_line_r2 := goodIn_r _ [43, 1135, 1136, 1137, 1138, 1139, 115, 1140, 1141, 1142, 1143, 1144, 120, 1145, 1146, 1147, 1148, 1149, 1150, 121, 1151, 1152, 1153, 1154] (by decide +kernel) (by decide +kernel)
set_option maxRecDepth 20000 in
theorem gr_wsL_line_r3 : GoodIn wsL_law wsL_line_r3 := goodIn_r _ [1155, 1156, 1157, 1158, 1159, 1160, 1161, 204, 205, 206, 1162, 1163, 1164, 1165, 1166, 1167, 455, 1168, 1169, 1170, 1171, 1172, 1173, 1174] (by decide +kernel) (by decide +kernel)
set_option maxRecDepth 20000 in
theorem gr_wsL_line_r4 : GoodIn wsL_law wsL_line_r4 := goodIn_r _ [119, 1175, 214, 215, 1176, 166, 167, 168, 1177, 1178, 1179, 1180, 1181, 118, 1182, 1183, 993, 1184, 1185, 1186, 1187, 1188, 1189, 1190] (by decide +kernel) (by decide +kernel)
set_option maxRecDepth 20000 in
theorem gr_wsL_line_r5 : GoodIn wsL_law wsL_line_r5 := goodIn_r _ [1191, 42, 1192, 1193, 1194, 1195, 1196, 124, 1197, 1198, 1199, 1200, 1201, 1202, 1203, 1204, 1205, 1206, 1207, 1208, 1209, 1210, 1211, 1212] (by decide +kernel) (by decide +kernel)
set_option maxRecDepth 20000 in
theorem gr_wsL_line_r6 : GoodIn wsL_law wsL_line_r6 := goodIn_r _ [1213, 1214, 1016, 1215, 1216, 1217, 1009, 1010, 1011, 1218, 1219, 974, 1220, 998, 1221, 1222, 1001, 1223, 1224, 1225, 1226, 1017, 1018, 1227] (by decide +kernel) (by decide +kernel)
set_option maxRecDepth 20000 in
theorem gr_wsL_line_r7 : GoodIn wsL_law wsL_line_r7 := goodIn_r _ [972, 973, 975, 976, 977, 978, 979, 980, 981, 982, 1228, 1229, 1230, 1231, 1232, 1233, 1234, 1235, 1236, 1237, 1238, 1239, 1240, 1241] (by decide +kernel) (by decide +kernel)
set_option maxRecDepth 20000 in
theorem gr_wsL_line_r8 : GoodIn wsL_law wsL_line_r8 := goodIn_r _ [1242, 1243, 122, 123, 125, 126, 127, 128, 129, 1244, 1245, 1246, 1247, 1248, 1249, 1250, 1251, 1252, 1253, 1254, 1255, 1256, 1257, 1258] (by decide +kernel) (by decide +kernel)
set_option maxRecDepth 20000 in
theorem gr_wsL_line_r9 : GoodIn wsL_law wsL_line_r9 := goodIn_r _ [1259, 1260, 1261, 1262, 1263, 1264, 1265, 1266, 1267, 1268, 1269, 1270, 1271, 1272, 1273, 1274, 480, 1275, 1276, 1277, 1278, 1279, 1280, 1281] (by decide +kernel) (by decide +kernel)
set_option maxRecDepth 20000 in
theorem gr_wsL_line_r10 : GoodIn wsL_law wsL_line_r10 := goodIn_r _ [1282, 1283, 1284, 1285, 1286, 1287, 1288, 1289, 1290, 1291, 1292, 1293, 1294, 1295, 1296, 1297, 1298, 1299, 1300, 1301, 1302, 1006, 1007, 1008] (by decide +kernel) (by decide +kernel)
set_option maxRecDepth 20000 in
theorem gr_wsL_line_r11 : GoodIn wsL_law wsL_line_r11 := goodIn_r _ [1012, 996, 997, 999, 1000, 1002, 1303, 382, 383, 61, 384, 75, 1304, 1305, 1306, 1307, 1308, 1309, 1310, 1311] (by decide +kernel) (by decide +kernel)
set_option maxRecDepth 20000 in
theorem ggL_law_L_line : GoodIn wsL_law wsL_line := goodIn_c1 (goodIn_r _ [1127] (by decide +kernel) (by decide +kernel)) (goodIn_app (goodIn_app (goodIn_app (goodIn_app (goodIn_app (goodIn_app (goodIn_app (goodIn_app (goodIn_app (goodIn_app gr_wsL_line_r1 (goodIn_app gr_wsL_line_r2 (goodIn_app gr_wsL_line_r3 (goodIn_app gr_wsL_line_r4 (goodIn_app gr_wsL_line_r5 (goodIn_app gr_wsL_line_r6 (goodIn_app gr_wsL_line_r7 (goodIn_app gr_wsL_line_r8 (goodIn_app gr_wsL_line_r9 (goodIn_app gr_wsL_line_r10 gr_wsL_line_r11)))))))))) (goodIn_sub inlX9 (by decide +kernel))) (goodIn_sub inlX7 (by decide +kernel))) (goodIn_sub inlX6 (by decide +kernel))) (goodIn_sub inlJx7c733 (by decide +kernel))) (goodIn_sub inlJ4 (by decide +kernel))) (goodIn_sub inlJx00060 (by decide +kernel))) (goodIn_sub inlJ0 (by decide +kernel))) (goodIn_sub (fun _ h => List.mem_append_left _ (List.mem_append_left _ (List.mem_append_left _ (List.mem_append_left _ (List.mem_append_left _ (List.mem_append_left _ (List.mem_append_left _ (List.mem_append_right _ h)))))))) (by decide +kernel))) (goodIn_sub (fun _ h => List.mem_append_left _ (List.mem_append_left _ (List.mem_append_left _ (List.mem_append_left _ (List.mem_append_right _ h))))) (by decide +kernel)))
set_option maxRecDepth 20000 in
theorem gL_law_L_line : GoodIn wsL_law (va_wsS RL 238 yL_line wsL_line) := goodIn_app (goodIn_of _ (by decide +kernel)) ggL_law_L_line
set_option maxRecDepth 20000 in
theorem gr_wsL_row_r1 : GoodIn wsL_law wsL_row_r1 := goodIn_r _ [885, 1328, 1329, 1330, 2, 1331, 806, 807, 44, 17, 1132, 1133, 1134, 43, 1135, 1136, 1137, 1138, 1139, 115, 1140, 1141, 1142, 1143] (by decide +kernel) (by decide +kernel)
set_option maxRecDepth 20000 in
theorem gr_wsL_row_r2 : GoodIn wsL_law wsL_row_r2 := goodIn_r _ [1144, 120, 1145, 1146, 1147, 1148, 1149, 1150, 121, 1151, 1152, 1153, 1154, 1155, 1156, 1157, 1158, 1159, 1160, 1161, 204, 205, 206, 1162] (by decide +kernel) (by decide +kernel)
set_option maxRecDepth 20000 in
theorem gr_wsL_row_r3 : GoodIn wsL_law wsL_row_r3 := goodIn_r _ [1163, 1164, 1165, 1166, 1167, 455, 1168, 1169, 1170, 1171, 1172, 1173, 1174, 119, 1175, 214, 215, 1176, 166, 167, 168, 1177, 1178, 1179] (by decide +kernel) (by decide +kernel)
set_option maxRecDepth 20000 in
theorem gr_wsL_row_r4 : GoodIn wsL_law wsL_row_r4 := goodIn_r _ [1180, 1181, 118, 1182, 1183, 993, 1184, 1185, 1186, 1187, 1188, 1189, 1190, 1191, 42, 1192, 1193, 1194, 1195, 1196, 124, 1197, 1198, 1289] (by decide +kernel) (by decide +kernel)
set_option maxRecDepth 20000 in
theorem gr_wsL_row_r5 : GoodIn wsL_law wsL_row_r5 := goodIn_r _ [1290, 1291, 1292, 1293, 1294, 1295, 1296, 1297, 1298, 1299, 1239, 1240, 1241, 1242, 1243, 122, 123, 125, 126, 127, 128, 129, 1244, 1245] (by decide +kernel) (by decide +kernel)
set_option maxRecDepth 20000 in
theorem gr_wsL_row_r6 : GoodIn wsL_law wsL_row_r6 := goodIn_r _ [1246, 1247, 1248, 1249, 1250, 1251, 1252, 1009, 1010, 1011, 1253, 1254, 974, 1255, 998, 1256, 1257, 1001, 1258, 1224, 1225, 1226, 1016, 1017] (by decide +kernel) (by decide +kernel)
set_option maxRecDepth 20000 in
theorem gr_wsL_row_r7 : GoodIn wsL_law wsL_row_r7 := goodIn_r _ [1018, 1300, 1301, 1302, 1006, 1007, 1008, 1012, 996, 997, 999, 1000, 1002, 1332, 386, 387, 16, 388, 157, 59, 389, 374, 375, 61] (by decide +kernel) (by decide +kernel)
set_option maxRecDepth 20000 in
theorem gr_wsL_row_r8 : GoodIn wsL_law wsL_row_r8 := goodIn_r _ [376, 187, 182, 1265, 1266, 1267, 1268, 1269, 1270, 1271, 1272, 1273, 1274, 480, 1275, 1276, 1277, 1278, 1279, 1280, 1281, 1282, 1283, 1215] (by decide +kernel) (by decide +kernel)
set_option maxRecDepth 20000 in
theorem gr_wsL_row_r9 : GoodIn wsL_law wsL_row_r9 := goodIn_r _ [1216, 1217, 1218, 1219, 1220, 1221, 1222, 1223, 1284, 1285, 1286, 1287, 1288, 637, 211, 51, 212, 213, 216, 217, 218, 654, 304, 305] (by decide +kernel) (by decide +kernel)
set_option maxRecDepth 20000 in
theorem gr_wsL_row_r10 : GoodIn wsL_law wsL_row_r10 := goodIn_r _ [306, 307, 220, 221, 222, 67, 1304, 1305, 1306, 1307, 1308, 1309, 1310, 1311] (by decide +kernel) (by decide +kernel)
set_option maxRecDepth 20000 in
theorem ggL_law_L_row : GoodIn wsL_law wsL_row := goodIn_c1 (goodIn_r _ [1327] (by decide +kernel) (by decide +kernel)) (goodIn_app (goodIn_app (goodIn_app (goodIn_app (goodIn_app (goodIn_app (goodIn_app (goodIn_app (goodIn_app (goodIn_app gr_wsL_row_r1 (goodIn_app gr_wsL_row_r2 (goodIn_app gr_wsL_row_r3 (goodIn_app gr_wsL_row_r4 (goodIn_app gr_wsL_row_r5 (goodIn_app gr_wsL_row_r6 (goodIn_app gr_wsL_row_r7 (goodIn_app gr_wsL_row_r8 (goodIn_app gr_wsL_row_r9 gr_wsL_row_r10))))))))) (goodIn_sub inlX9 (by decide +kernel))) (goodIn_sub inlX6 (by decide +kernel))) (goodIn_sub inlJx7c733 (by decide +kernel))) (goodIn_sub inlJ4 (by decide +kernel))) (goodIn_sub inlJx00060 (by decide +kernel))) (goodIn_sub inlX7 (by decide +kernel))) (goodIn_sub inlX4 (by decide +kernel))) (goodIn_sub (fun _ h => List.mem_append_left _ (List.mem_append_left _ (List.mem_append_left _ (List.mem_append_left _ (List.mem_append_left _ (List.mem_append_left _ (List.mem_append_left _ (List.mem_append_right _ h)))))))) (by decide +kernel))) (goodIn_sub (fun _ h => List.mem_append_left _ (List.mem_append_left _ (List.mem_append_left _ (List.mem_append_right _ h)))) (by decide +kernel)))
set_option maxRecDepth 20000 in
theorem gL_law_L_row : GoodIn wsL_law (va_wsS RL 241 yL_row wsL_row) := goodIn_app (goodIn_of _ (by decide +kernel)) ggL_law_L_row
