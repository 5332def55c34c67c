set_option maxRecDepth 20000 in
theorem ggL_law_X6_union : GoodIn wsL_law wsX6_union := goodIn_r _ [934, 183, 184, 185, 5, 186, 151, 152, 153, 154, 83, 109, 110, 111, 263, 264, 265, 266, 1366, 1367, 1368, 1369, 1370, 1371, 1372, 1373, 1374, 1375, 1376, 1377, 1378, 1379, 1380, 1381] (by decide +kernel) (by decide +kernel)
set_option maxRecDepth 20000 in
theorem gL_law_X6_union : GoodIn wsL_law (wsV RL 182 RX6 yX6_union wsX6_union) := goodIn_app (goodIn_of _ (by decide +kernel)) ggL_law_X6_union
set_option maxRecDepth 20000 in
theorem ggL_law_X5_stable : GoodIn wsL_law wsX5_stable := goodIn_r _ [938, 29, 16, 307, 116, 33, 480, 117, 118, 2, 119, 661, 630, 631, 626, 627, 628, 28, 629, 61, 467, 468, 469, 32, 470, 471, 522, 395, 396, 15, 397, 69, 939, 940, 941, 942, 636, 258, 253, 254, 472, 473, 474, 475, 308, 125, 126, 127, 1356, 1357, 1358, 1359, 1360, 1361, 1362, 1363, 1364, 1365, 1382, 1383, 1384, 1385, 1386, 1387, 1388, 1397, 1395, 1396] (by decide +kernel) (by decide +kernel)
set_option maxRecDepth 20000 in
theorem gL_law_X5_stable : GoodIn wsL_law (wsV RL 183 RX5 yX5_stable wsX5_stable) := goodIn_app (goodIn_of _ (by decide +kernel)) ggL_law_X5_stable
set_option maxRecDepth 20000 in
theorem ggL_law_X6_stable : GoodIn wsL_law wsX6_stable := goodIn_r _ [946, 485, 139, 140, 5, 141, 142, 109, 110, 111, 642, 643, 644, 649, 650, 651, 652, 91, 151, 152, 153, 154, 83, 147, 148, 149, 150, 947, 948, 949, 950, 92, 422, 423, 424, 486, 487, 488, 489, 165, 166, 167, 168, 1366, 1367, 1368, 1369, 1370, 1371, 1372, 1373, 1374, 1375, 1376, 1377, 1378, 1379, 1380, 1381] (by decide +kernel) (by decide +kernel)
set_option maxRecDepth 20000 in
theorem gL_law_X6_stable : GoodIn wsL_law (wsV RL 186 RX6 yX6_stable wsX6_stable) := goodIn_app (goodIn_of _ (by decide +kernel)) ggL_law_X6_stable
set_option maxRecDepth 20000 in
theorem ggL_law_X5_worst : GoodIn wsL_law wsX5_worst := goodIn_r _ [954, 29, 16, 307, 33, 116, 480, 117, 118, 2, 119, 661, 630, 631, 626, 627, 628, 28, 629, 61, 467, 468, 469, 32, 470, 471, 522, 395, 396, 15, 397, 69, 939, 940, 941, 942, 636, 258, 253, 254, 472, 473, 474, 475, 523, 524, 525, 526, 1356, 1357, 1358, 1359, 1360, 1361, 1362, 1363, 1364, 1365, 1382, 1383, 1384, 1385, 1386, 1387, 1388, 1397, 1395, 1396] (by decide +kernel) (by decide +kernel)
set_option maxRecDepth 20000 in
theorem gL_law_X5_worst : GoodIn wsL_law (wsV RL 187 RX5 yX5_worst wsX5_worst) := goodIn_app (goodIn_of _ (by decide +kernel)) ggL_law_X5_worst
set_option maxRecDepth 20000 in
theorem ggL_law_X6_worst : GoodIn wsL_law wsX6_worst := goodIn_r _ [958, 485, 139, 140, 5, 141, 142, 109, 110, 111, 642, 643, 644, 649, 650, 651, 652, 91, 151, 152, 153, 154, 83, 147, 148, 149, 150, 165, 166, 167, 168, 947, 948, 949, 950, 92, 422, 423, 424, 486, 487, 488, 489, 531, 532, 533, 534, 1366, 1367, 1368, 1369, 1370, 1371, 1372, 1373, 1374, 1375, 1376, 1377, 1378, 1379, 1380, 1381] (by decide +kernel) (by decide +kernel)
set_option maxRecDepth 20000 in
theorem gL_law_X6_worst : GoodIn wsL_law (wsV RL 190 RX6 yX6_worst wsX6_worst) := goodIn_app (goodIn_of _ (by decide +kernel)) ggL_law_X6_worst
set_option maxRecDepth 20000 in
theorem ggL_law_X5_excess : GoodIn wsL_law wsX5_excess := goodIn_r _ [962, 16, 29, 307, 159, 33, 116, 480, 117, 118, 2, 119, 120, 121, 122, 15, 123, 124, 125, 126, 127, 69, 626, 627, 628, 28, 629, 61, 630, 631, 467, 468, 469, 32, 470, 471, 939, 940, 941, 942, 636, 258, 253, 254, 472, 473, 474, 475, 523, 524, 525, 526, 1356, 1357, 1358, 1359, 1360, 1361, 1362, 1363, 1364, 1365, 1382, 1383, 1384, 1385, 1386, 1387, 1388, 1397, 1395, 1396] (by decide +kernel) (by decide +kernel)
set_option maxRecDepth 20000 in
theorem gL_law_X5_excess : GoodIn wsL_law (wsV RL 191 RX5 yX5_excess wsX5_excess) := goodIn_app (goodIn_of _ (by decide +kernel)) ggL_law_X5_excess
set_option maxRecDepth 20000 in
theorem ggL_law_X6_excess : GoodIn wsL_law wsX6_excess := goodIn_r _ [966, 164, 485, 139, 140, 5, 141, 142, 109, 110, 111, 642, 643, 644, 143, 144, 145, 146, 147, 148, 149, 150, 151, 152, 153, 154, 83, 649, 650, 651, 652, 91, 165, 166, 167, 168, 947, 948, 949, 950, 92, 422, 423, 424, 486, 487, 488, 489, 531, 532, 533, 534, 1366, 1367, 1368, 1369, 1370, 1371, 1372, 1373, 1374, 1375, 1376, 1377, 1378, 1379, 1380, 1381] (by decide +kernel) (by decide +kernel)
set_option maxRecDepth 20000 in
theorem gL_law_X6_excess : GoodIn wsL_law (wsV RL 194 RX6 yX6_excess wsX6_excess) := goodIn_app (goodIn_of _ (by decide +kernel)) ggL_law_X6_excess
set_option maxRecDepth 20000 in
theorem ggL_law_X5_spell : GoodIn wsL_law wsX5_spell := goodIn_r _ [970, 25, 16, 307, 36, 971, 117, 118, 2, 119, 972, 973, 974, 975, 33, 116, 480, 467, 468, 469, 32, 470, 471, 677, 678, 679, 680, 308, 125, 126, 15, 127, 69, 258, 253, 254, 681, 682, 683, 684, 523, 524, 525, 526, 685, 686, 687, 688, 441, 442, 443, 444, 445, 446, 447, 689, 690, 691, 692, 502, 503, 504, 505, 506, 507, 472, 473, 474, 475, 976, 977, 978, 24, 979, 980, 981, 982, 983, 984, 55, 693, 694, 695, 159, 696, 697, 698, 699, 700, 217, 701, 985, 986, 987, 988, 989, 990, 991, 992, 993, 994, 995, 996, 1356, 1357, 1358, 1359, 1360, 1361, 1362, 1363, 1364, 1365, 1382, 1383, 1384, 1385, 1386, 1387, 1388, 1393, 1394, 1397] (by decide +kernel) (by decide +kernel)
set_option maxRecDepth 20000 in
theorem gL_law_X5_spell : GoodIn wsL_law (wsV RL 195 RX5 yX5_spell wsX5_spell) := goodIn_app (goodIn_of _ (by decide +kernel)) ggL_law_X5_spell
set_option maxRecDepth 20000 in
theorem ggL_law_X6_spell : GoodIn wsL_law wsX6_spell := goodIn_r _ [1000, 485, 706, 86, 1001, 1002, 1003, 90, 139, 140, 5, 141, 142, 109, 110, 111, 151, 152, 153, 154, 83, 707, 708, 709, 710, 147, 148, 149, 150, 422, 423, 424, 711, 712, 713, 714, 165, 166, 167, 168, 531, 532, 533, 534, 452, 453, 454, 513, 514, 515, 516, 517, 164, 486, 487, 488, 489, 715, 716, 717, 718, 719, 720, 1004, 1005, 1006, 1007, 1008, 1009, 1010, 1011, 11, 12, 1012, 50, 1013, 1014, 1015, 1016, 1017, 1018, 1019, 1020, 1021, 1022, 1023, 1024, 1025, 1026, 1027, 1028, 1029, 1030, 1031, 1032, 1033, 1034, 1035, 1036, 1037, 1038, 1039, 1040, 1041, 1042, 1043, 1044, 1045, 1046, 1047, 1048, 1049, 1050, 1051, 1052, 1053, 220, 217, 221, 1054, 1055, 1056, 1057, 1058, 1059, 74, 1060, 1061, 1062, 1063, 1064, 1065, 1066, 1067, 216, 218, 1068, 304, 305, 306, 1069, 1070, 1071, 1072, 1073, 1074, 1075, 1076, 1077, 1078, 1079, 1080, 1081, 1082, 1083, 1084, 1085, 1086, 1087, 1088, 1089, 1090, 1091, 1092, 1093, 1094, 1095, 1096, 1097, 1098, 1099, 1100, 1101, 1102, 1103, 1104, 1105, 1106, 1107, 1108, 1109, 1110, 1111, 1112, 1113, 1114, 1115, 1116, 1117, 1118, 1119, 1120, 1121, 1122, 1123, 1124, 1125, 1126, 1127, 1128, 1129, 1130, 1131, 1132, 1133, 1134, 1135, 1136, 1137, 1138, 1139, 1140, 1141, 1142, 1143, 1144, 1145, 1146, 1147, 1148, 1149, 1150, 1151, 1152, 1153, 1154, 1155, 1156, 1157, 1158, 1159, 1160, 1161, 1162, 1163, 1164, 1165, 1166, 1167, 1168, 1169, 1170, 1171, 1172, 1173, 1174, 1175, 1176, 1177, 1178, 1179, 1180, 1181, 1182, 1183, 1184, 1185, 1186, 1187, 1188, 1189, 1190, 1191, 1192, 1193, 1194, 1195, 1196, 1197, 1198, 1199, 1200, 1201, 1202, 1203, 1204, 1205, 1206, 1207, 1208, 1209, 1210, 1211, 1212, 1213, 1214, 1215, 1216, 1217, 1218, 1219, 1220, 1221, 1222, 1223, 1224, 1225, 1226, 1227, 1228, 1229, 1366, 1367, 1368, 1369, 1370, 1371, 1372, 1373, 1374, 1375, 1376, 1377, 1378, 1379, 1380, 1381, 1398, 1399, 1400, 1401, 1402, 1403, 1404, 1405] rfl (by decide +kernel)
set_option maxRecDepth 20000 in
theorem gL_law_X6_spell : GoodIn wsL_law (wsV RL 198 RX6 yX6_spell wsX6_spell) := goodIn_app (goodIn_of _ (by decide +kernel)) ggL_law_X6_spell
set_option maxRecDepth 20000 in
theorem ggL_law_X5_paper : GoodIn wsL_law wsX5_paper := goodIn_r _ [1233, 25, 971, 1234, 1356, 1357, 1358, 1359, 1360, 1361, 1362, 1363, 1364, 1365, 1393, 1394] (by decide +kernel) (by decide +kernel)
set_option maxRecDepth 20000 in
theorem gL_law_X5_paper : GoodIn wsL_law (wsV RL 199 RX5 yX5_paper wsX5_paper) := goodIn_app (goodIn_of _ (by decide +kernel)) ggL_law_X5_paper
set_option maxRecDepth 20000 in
theorem ggL_law_X6_paper : GoodIn wsL_law wsX6_paper := goodIn_r _ [1238, 90, 1229, 1099, 1100, 1086, 1101, 1102, 1103, 1104, 1105, 1106, 1107, 1108, 109, 110, 5, 111, 1239, 1240, 1241, 1242, 1243, 1244, 1245, 1246, 1247, 1248, 1127, 1249, 1250, 1251, 1252, 1088, 1253, 1254, 1091, 1255, 1256, 1257, 1017, 1258, 1259, 1260, 1261, 1081, 1082, 1083, 1262, 1222, 1223, 1224, 1077, 1096, 1097, 1366, 1367, 1368, 1369, 1370, 1371, 1372, 1373, 1374, 1375, 1376, 1377, 1378, 1379, 1380, 1381, 1402, 1403, 1404, 1405] (by decide +kernel) (by decide +kernel)
set_option maxRecDepth 20000 in
theorem gL_law_X6_paper : GoodIn wsL_law (wsV RL 202 RX6 yX6_paper wsX6_paper) := goodIn_app (goodIn_of _ (by decide +kernel)) ggL_law_X6_paper
set_option maxRecDepth 20000 in
theorem ggL_law_X5_told : GoodIn wsL_law wsX5_told := goodIn_r _ [1266, 16, 307, 195, 196, 21, 275, 25, 971, 173, 1267, 1268, 1269, 15, 1270, 44, 737, 738, 739, 740, 69, 43, 256, 2, 257, 258, 253, 254, 522, 395, 396, 397, 1271, 383, 384, 385, 42, 174, 175, 176, 177, 1356, 1357, 1358, 1359, 1360, 1361, 1362, 1363, 1364, 1365, 1382, 1383, 1384, 1385, 1386, 1387, 1388, 1389, 1390, 1391, 1392, 1393, 1394] (by decide +kernel) (by decide +kernel)
set_option maxRecDepth 20000 in
theorem gL_law_X5_told : GoodIn wsL_law (wsV RL 203 RX5 yX5_told wsX5_told) := goodIn_app (goodIn_of _ (by decide +kernel)) ggL_law_X5_told
set_option maxRecDepth 20000 in
theorem ggL_law_X6_told : GoodIn wsL_law wsX6_told := goodIn_r _ [1275, 83, 286, 90, 1276, 1277, 1278, 5, 1279, 761, 762, 763, 764, 151, 152, 153, 154, 263, 264, 265, 266, 1229, 1099, 1100, 1086, 1101, 1102, 1103, 1104, 1105, 1106, 1107, 1108, 147, 148, 149, 150, 418, 419, 420, 421, 422, 423, 424, 183, 184, 185, 186, 109, 110, 111, 1366, 1367, 1368, 1369, 1370, 1371, 1372, 1373, 1374, 1375, 1376, 1377, 1378, 1379, 1380, 1381, 1402, 1403, 1404, 1405] (by decide +kernel) (by decide +kernel)
set_option maxRecDepth 20000 in
theorem gL_law_X6_told : GoodIn wsL_law (wsV RL 206 RX6 yX6_told wsX6_told) := goodIn_app (goodIn_of _ (by decide +kernel)) ggL_law_X6_told
set_option maxRecDepth 20000 in
theorem ggL_law_X5_worth : GoodIn wsL_law wsX5_worth := goodIn_r _ [1283, 16, 159, 206, 207, 208, 209, 15, 210, 211, 175, 176, 177, 69, 212, 213, 2, 214, 215, 216, 217, 218, 219, 220, 221, 1356, 1357, 1358, 1359, 1360, 1361, 1362, 1363, 1364, 1365, 1382, 1383, 1384, 1385, 1386, 1387, 1388] (by decide +kernel) (by decide +kernel)
set_option maxRecDepth 20000 in
theorem gL_law_X5_worth : GoodIn wsL_law (wsV RL 207 RX5 yX5_worth wsX5_worth) := goodIn_app (goodIn_of _ (by decide +kernel)) ggL_law_X5_worth
set_option maxRecDepth 20000 in
theorem ggL_law_X6_worth : GoodIn wsL_law wsX6_worth := goodIn_r _ [1287, 83, 164, 227, 228, 229, 5, 230, 183, 184, 185, 186, 151, 152, 153, 154, 109, 110, 111, 231, 232, 233, 234, 216, 217, 218, 235, 220, 221, 1366, 1367, 1368, 1369, 1370, 1371, 1372, 1373, 1374, 1375, 1376, 1377, 1378, 1379, 1380, 1381] (by decide +kernel) (by decide +kernel)
set_option maxRecDepth 20000 in
theorem gL_law_X6_worth : GoodIn wsL_law (wsV RL 210 RX6 yX6_worth wsX6_worth) := goodIn_app (goodIn_of _ (by decide +kernel)) ggL_law_X6_worth
set_option maxRecDepth 20000 in
theorem ggL_law_X5_row : GoodIn wsL_law wsX5_row := goodIn_r _ [1291, 29, 661, 630, 2, 631, 1292, 1293, 1294, 28, 1295, 61, 60, 1296, 77, 74, 78, 1356, 1357, 1358, 1359, 1360, 1361, 1362, 1363, 1364, 1365, 1395, 1396] (by decide +kernel) (by decide +kernel)
set_option maxRecDepth 20000 in
theorem gL_law_X5_row : GoodIn wsL_law (wsV RL 211 RX5 yX5_row wsX5_row) := goodIn_app (goodIn_of _ (by decide +kernel)) ggL_law_X5_row
set_option maxRecDepth 20000 in
theorem ggL_law_X6_row : GoodIn wsL_law wsX6_row := goodIn_r _ [1300, 91, 92, 642, 643, 5, 644, 142, 109, 110, 111, 1366, 1367, 1368, 1369, 1370, 1371, 1372, 1373, 1374, 1375, 1376, 1377, 1378, 1379, 1380, 1381] (by decide +kernel) (by decide +kernel)
set_option maxRecDepth 20000 in
theorem gL_law_X6_row : GoodIn wsL_law (wsV RL 214 RX6 yX6_row wsX6_row) := goodIn_app (goodIn_of _ (by decide +kernel)) ggL_law_X6_row
set_option maxRecDepth 20000 in
theorem ggL_law_X5_set : GoodIn wsL_law wsX5_set := goodIn_r _ [1304, 29, 636, 661, 630, 2, 631, 1305, 1306, 1307, 28, 1308, 61, 626, 627, 628, 629, 1356, 1357, 1358, 1359, 1360, 1361, 1362, 1363, 1364, 1365, 1395, 1396] (by decide +kernel) (by decide +kernel)
set_option maxRecDepth 20000 in
theorem gL_law_X5_set : GoodIn wsL_law (wsV RL 215 RX5 yX5_set wsX5_set) := goodIn_app (goodIn_of _ (by decide +kernel)) ggL_law_X5_set
set_option maxRecDepth 20000 in
theorem ggL_law_X6_set : GoodIn wsL_law wsX6_set := goodIn_r _ [1312, 91, 92, 642, 643, 5, 644, 142, 109, 110, 111, 1366, 1367, 1368, 1369, 1370, 1371, 1372, 1373, 1374, 1375, 1376, 1377, 1378, 1379, 1380, 1381] (by decide +kernel) (by decide +kernel)
set_option maxRecDepth 20000 in
theorem gL_law_X6_set : GoodIn wsL_law (wsV RL 218 RX6 yX6_set wsX6_set) := goodIn_app (goodIn_of _ (by decide +kernel)) ggL_law_X6_set
set_option maxRecDepth 20000 in
theorem ggL_law_X5_get : GoodIn wsL_law wsX5_get := goodIn_r _ [1316, 29, 636, 159, 626, 627, 628, 28, 629, 61, 630, 2, 631, 1356, 1357, 1358, 1359, 1360, 1361, 1362, 1363, 1364, 1365, 1395, 1396] (by decide +kernel) (by decide +kernel)
set_option maxRecDepth 20000 in
theorem gL_law_X5_get : GoodIn wsL_law (wsV RL 219 RX5 yX5_get wsX5_get) := goodIn_app (goodIn_of _ (by decide +kernel)) ggL_law_X5_get
set_option maxRecDepth 20000 in
theorem ggL_law_X6_get : GoodIn wsL_law wsX6_get := goodIn_r _ [1320, 91, 92, 164, 642, 643, 5, 644, 142, 109, 110, 111, 1366, 1367, 1368, 1369, 1370, 1371, 1372, 1373, 1374, 1375, 1376, 1377, 1378, 1379, 1380, 1381] (by decide +kernel) (by decide +kernel)
set_option maxRecDepth 20000 in
theorem gL_law_X6_get : GoodIn wsL_law (wsV RL 222 RX6 yX6_get wsX6_get) := goodIn_app (goodIn_of _ (by decide +kernel)) ggL_law_X6_get
set_option maxRecDepth 20000 in
theorem ggL_law_X5_lay : GoodIn wsL_law wsX5_lay := goodIn_r _ [1324, 29, 16, 307, 636, 36, 661, 630, 2, 631, 117, 118, 119, 1305, 1306, 1307, 28, 1308, 61, 972, 973, 974, 975, 33, 116, 480, 467, 468, 469, 32, 470, 471, 677, 678, 679, 680, 308, 125, 126, 15, 127, 69, 258, 253, 254, 681, 682, 683, 684, 523, 524, 525, 526, 685, 686, 687, 688, 441, 442, 443, 444, 445, 446, 447, 689, 690, 691, 692, 502, 503, 504, 505, 506, 507, 472, 473, 474, 475, 626, 627, 628, 629, 1325, 1326, 1327, 1356, 1357, 1358, 1359, 1360, 1361, 1362, 1363, 1364, 1365, 1382, 1383, 1384, 1385, 1386, 1387, 1388, 1395, 1396, 1397] (by decide +kernel) (by decide +kernel)
set_option maxRecDepth 20000 in
theorem gL_law_X5_lay : GoodIn wsL_law (wsV RL 223 RX5 yX5_lay wsX5_lay) := goodIn_app (goodIn_of _ (by decide +kernel)) ggL_law_X5_lay
set_option maxRecDepth 20000 in
theorem ggL_law_X6_lay : GoodIn wsL_law wsX6_lay := goodIn_r _ [1331, 91, 485, 85, 706, 86, 642, 643, 5, 644, 142, 109, 110, 111, 139, 140, 141, 151, 152, 153, 154, 83, 707, 708, 709, 710, 147, 148, 149, 150, 422, 423, 424, 711, 712, 713, 714, 165, 166, 167, 168, 531, 532, 533, 534, 452, 453, 454, 513, 514, 515, 516, 517, 164, 486, 487, 488, 489, 1332, 1310, 1311, 1312, 92, 1366, 1367, 1368, 1369, 1370, 1371, 1372, 1373, 1374, 1375, 1376, 1377, 1378, 1379, 1380, 1381] (by decide +kernel) (by decide +kernel)
set_option maxRecDepth 20000 in
theorem gL_law_X6_lay : GoodIn wsL_law (wsV RL 226 RX6 yX6_lay wsX6_lay) := goodIn_app (goodIn_of _ (by decide +kernel)) ggL_law_X6_lay
set_option maxRecDepth 20000 in
theorem ggL_law_X5_image : GoodIn wsL_law wsX5_image := goodIn_r _ [1336, 17, 16, 1337, 307, 1338, 1339, 1340, 15, 1341, 69, 70, 71, 42, 1342, 304, 305, 306, 43, 44, 46, 1356, 1357, 1358, 1359, 1360, 1361, 1362, 1363, 1364, 1365, 1382, 1383, 1384, 1385, 1386, 1387, 1388] (by decide +kernel) (by decide +kernel)
set_option maxRecDepth 20000 in
theorem gL_law_X5_image : GoodIn wsL_law (wsV RL 227 RX5 yX5_image wsX5_image) := goodIn_app (goodIn_of _ (by decide +kernel)) ggL_law_X5_image
set_option maxRecDepth 20000 in
theorem ggL_law_X6_image : GoodIn wsL_law wsX6_image := goodIn_r _ [1346, 84, 83, 1347, 151, 152, 153, 5, 154, 1366, 1367, 1368, 1369, 1370, 1371, 1372, 1373, 1374, 1375, 1376, 1377, 1378, 1379, 1380, 1381] (by decide +kernel) (by decide +kernel)
set_option maxRecDepth 20000 in
theorem gL_law_X6_image : GoodIn wsL_law (wsV RL 230 RX6 yX6_image wsX6_image) := goodIn_app (goodIn_of _ (by decide +kernel)) ggL_law_X6_image
set_option maxRecDepth 20000 in
theorem ggL_law_X5_undo : GoodIn wsL_law wsX5_undo := goodIn_r _ [1351, 1337, 16, 17, 307, 1338, 1339, 1340, 15, 1341, 69, 70, 71, 42, 1342, 304, 305, 306, 43, 44, 46, 1356, 1357, 1358, 1359, 1360, 1361, 1362, 1363, 1364, 1365, 1382, 1383, 1384, 1385, 1386, 1387, 1388] (by decide +kernel) (by decide +kernel)
set_option maxRecDepth 20000 in
theorem gL_law_X5_undo : GoodIn wsL_law (wsV RL 231 RX5 yX5_undo wsX5_undo) := goodIn_app (goodIn_of _ (by decide +kernel)) ggL_law_X5_undo
set_option maxRecDepth 20000 in
theorem ggL_law_X6_undo : GoodIn wsL_law wsX6_undo := goodIn_r _ [1355, 1347, 83, 84, 151, 152, 153, 5, 154, 1366, 1367, 1368, 1369, 1370, 1371, 1372, 1373, 1374, 1375, 1376, 1377, 1378, 1379, 1380, 1381] (by decide +kernel) (by decide +kernel)
set_option maxRecDepth 20000 in
theorem gL_law_X6_undo : GoodIn wsL_law (wsV RL 234 RX6 yX6_undo wsX6_undo) := goodIn_app (goodIn_of _ (by decide +kernel)) ggL_law_X6_undo
