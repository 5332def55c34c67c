set_option maxRecDepth 20000 in
theorem ggL_law_X6_union : GoodIn wsL_law wsX6_union := goodIn_r _ [936, 184, 185, 186, 5, 187, 152, 153, 154, 155, 84, 110, 111, 112, 265, 266, 267, 268, 1368, 1369, 1370, 1371, 1372, 1373, 1374, 1375, 1376, 1377, 1378, 1379, 1380, 1381, 1382, 1383] (by decide +kernel) (by decide +kernel)
set_option maxRecDepth 20000 in
theorem gL_law_X6_union : GoodIn wsL_law (wsV RL 182 RX6 yX6_union wsX6_union) := goodIn_app (goodIn_of _ (by decide +kernel)) ggL_law_X6_union
set_option maxRecDepth 20000 in
theorem ggL_law_X5_stable : GoodIn wsL_law wsX5_stable := goodIn_r _ [940, 29, 16, 309, 117, 33, 482, 118, 119, 2, 120, 663, 632, 633, 628, 629, 630, 28, 631, 61, 469, 470, 471, 32, 472, 473, 524, 397, 398, 15, 399, 69, 941, 942, 943, 944, 638, 260, 255, 256, 474, 475, 476, 477, 310, 126, 127, 128, 1358, 1359, 1360, 1361, 1362, 1363, 1364, 1365, 1366, 1367, 1384, 1385, 1386, 1387, 1388, 1389, 1390, 1399, 1397, 1398] (by decide +kernel) (by decide +kernel)
set_option maxRecDepth 20000 in
theorem gL_law_X5_stable : GoodIn wsL_law (wsV RL 183 RX5 yX5_stable wsX5_stable) := goodIn_app (goodIn_of _ (by decide +kernel)) ggL_law_X5_stable
set_option maxRecDepth 20000 in
theorem ggL_law_X6_stable : GoodIn wsL_law wsX6_stable := goodIn_r _ [948, 487, 140, 141, 5, 142, 143, 110, 111, 112, 644, 645, 646, 651, 652, 653, 654, 92, 152, 153, 154, 155, 84, 148, 149, 150, 151, 949, 950, 951, 952, 93, 424, 425, 426, 488, 489, 490, 491, 166, 167, 168, 169, 1368, 1369, 1370, 1371, 1372, 1373, 1374, 1375, 1376, 1377, 1378, 1379, 1380, 1381, 1382, 1383] (by decide +kernel) (by decide +kernel)
set_option maxRecDepth 20000 in
theorem gL_law_X6_stable : GoodIn wsL_law (wsV RL 186 RX6 yX6_stable wsX6_stable) := goodIn_app (goodIn_of _ (by decide +kernel)) ggL_law_X6_stable
set_option maxRecDepth 20000 in
theorem ggL_law_X5_worst : GoodIn wsL_law wsX5_worst := goodIn_r _ [956, 29, 16, 309, 33, 117, 482, 118, 119, 2, 120, 663, 632, 633, 628, 629, 630, 28, 631, 61, 469, 470, 471, 32, 472, 473, 524, 397, 398, 15, 399, 69, 941, 942, 943, 944, 638, 260, 255, 256, 474, 475, 476, 477, 525, 526, 527, 528, 1358, 1359, 1360, 1361, 1362, 1363, 1364, 1365, 1366, 1367, 1384, 1385, 1386, 1387, 1388, 1389, 1390, 1399, 1397, 1398] (by decide +kernel) (by decide +kernel)
set_option maxRecDepth 20000 in
theorem gL_law_X5_worst : GoodIn wsL_law (wsV RL 187 RX5 yX5_worst wsX5_worst) := goodIn_app (goodIn_of _ (by decide +kernel)) ggL_law_X5_worst
set_option maxRecDepth 20000 in
theorem ggL_law_X6_worst : GoodIn wsL_law wsX6_worst := goodIn_r _ [960, 487, 140, 141, 5, 142, 143, 110, 111, 112, 644, 645, 646, 651, 652, 653, 654, 92, 152, 153, 154, 155, 84, 148, 149, 150, 151, 166, 167, 168, 169, 949, 950, 951, 952, 93, 424, 425, 426, 488, 489, 490, 491, 533, 534, 535, 536, 1368, 1369, 1370, 1371, 1372, 1373, 1374, 1375, 1376, 1377, 1378, 1379, 1380, 1381, 1382, 1383] (by decide +kernel) (by decide +kernel)
set_option maxRecDepth 20000 in
theorem gL_law_X6_worst : GoodIn wsL_law (wsV RL 190 RX6 yX6_worst wsX6_worst) := goodIn_app (goodIn_of _ (by decide +kernel)) ggL_law_X6_worst
set_option maxRecDepth 20000 in
theorem ggL_law_X5_excess : GoodIn wsL_law wsX5_excess := goodIn_r _ [964, 16, 29, 309, 160, 33, 117, 482, 118, 119, 2, 120, 121, 122, 123, 15, 124, 125, 126, 127, 128, 69, 628, 629, 630, 28, 631, 61, 632, 633, 469, 470, 471, 32, 472, 473, 941, 942, 943, 944, 638, 260, 255, 256, 474, 475, 476, 477, 525, 526, 527, 528, 1358, 1359, 1360, 1361, 1362, 1363, 1364, 1365, 1366, 1367, 1384, 1385, 1386, 1387, 1388, 1389, 1390, 1399, 1397, 1398] (by decide +kernel) (by decide +kernel)
set_option maxRecDepth 20000 in
theorem gL_law_X5_excess : GoodIn wsL_law (wsV RL 191 RX5 yX5_excess wsX5_excess) := goodIn_app (goodIn_of _ (by decide +kernel)) ggL_law_X5_excess
set_option maxRecDepth 20000 in
theorem ggL_law_X6_excess : GoodIn wsL_law wsX6_excess := goodIn_r _ [968, 165, 487, 140, 141, 5, 142, 143, 110, 111, 112, 644, 645, 646, 144, 145, 146, 147, 148, 149, 150, 151, 152, 153, 154, 155, 84, 651, 652, 653, 654, 92, 166, 167, 168, 169, 949, 950, 951, 952, 93, 424, 425, 426, 488, 489, 490, 491, 533, 534, 535, 536, 1368, 1369, 1370, 1371, 1372, 1373, 1374, 1375, 1376, 1377, 1378, 1379, 1380, 1381, 1382, 1383] (by decide +kernel) (by decide +kernel)
set_option maxRecDepth 20000 in
theorem gL_law_X6_excess : GoodIn wsL_law (wsV RL 194 RX6 yX6_excess wsX6_excess) := goodIn_app (goodIn_of _ (by decide +kernel)) ggL_law_X6_excess
set_option maxRecDepth 20000 in
theorem ggL_law_X5_spell : GoodIn wsL_law wsX5_spell := goodIn_r _ [972, 25, 16, 309, 36, 973, 118, 119, 2, 120, 974, 975, 976, 977, 33, 117, 482, 469, 470, 471, 32, 472, 473, 679, 680, 681, 682, 310, 126, 127, 15, 128, 69, 260, 255, 256, 683, 684, 685, 686, 525, 526, 527, 528, 687, 688, 689, 690, 443, 444, 445, 446, 447, 448, 449, 691, 692, 693, 694, 504, 505, 506, 507, 508, 509, 474, 475, 476, 477, 978, 979, 980, 24, 981, 982, 983, 984, 985, 986, 55, 695, 696, 697, 160, 698, 699, 700, 701, 702, 218, 703, 987, 988, 989, 990, 991, 992, 993, 994, 995, 996, 997, 998, 1358, 1359, 1360, 1361, 1362, 1363, 1364, 1365, 1366, 1367, 1384, 1385, 1386, 1387, 1388, 1389, 1390, 1395, 1396, 1399] (by decide +kernel) (by decide +kernel)
set_option maxRecDepth 20000 in
theorem gL_law_X5_spell : GoodIn wsL_law (wsV RL 195 RX5 yX5_spell wsX5_spell) := goodIn_app (goodIn_of _ (by decide +kernel)) ggL_law_X5_spell
set_option maxRecDepth 100000 in
theorem ggL_law_X6_spell : GoodIn wsL_law wsX6_spell := goodIn_r _ [1002, 487, 708, 87, 1003, 1004, 1005, 91, 140, 141, 5, 142, 143, 110, 111, 112, 152, 153, 154, 155, 84, 709, 710, 711, 712, 148, 149, 150, 151, 424, 425, 426, 713, 714, 715, 716, 166, 167, 168, 169, 533, 534, 535, 536, 454, 455, 456, 515, 516, 517, 518, 519, 165, 488, 489, 490, 491, 717, 718, 719, 720, 721, 722, 1006, 1007, 1008, 1009, 1010, 1011, 1012, 1013, 11, 12, 1014, 50, 1015, 1016, 1017, 1018, 1019, 1020, 1021, 1022, 1023, 1024, 1025, 1026, 1027, 1028, 1029, 1030, 1031, 1032, 1033, 1034, 1035, 1036, 1037, 1038, 1039, 1040, 1041, 1042, 1043, 1044, 1045, 1046, 1047, 1048, 1049, 1050, 1051, 1052, 1053, 1054, 1055, 221, 218, 222, 1056, 1057, 1058, 1059, 1060, 1061, 75, 1062, 1063, 1064, 1065, 1066, 1067, 1068, 1069, 217, 219, 1070, 306, 307, 308, 1071, 1072, 1073, 1074, 1075, 1076, 1077, 1078, 1079, 1080, 1081, 1082, 1083, 1084, 1085, 1086, 1087, 1088, 1089, 1090, 1091, 1092, 1093, 1094, 1095, 1096, 1097, 1098, 1099, 1100, 1101, 1102, 1103, 1104, 1105, 1106, 1107, 1108, 1109, 1110, 1111, 1112, 1113, 1114, 1115, 1116, 1117, 1118, 1119, 1120, 1121, 1122, 1123, 1124, 1125, 1126, 1127, 1128, 1129, 1130, 1131, 1132, 1133, 1134, 1135, 1136, 1137, 1138, 1139, 1140, 1141, 1142, 1143, 1144, 1145, 1146, 1147, 1148, 1149, 1150, 1151, 1152, 1153, 1154, 1155, 1156, 1157, 1158, 1159, 1160, 1161, 1162, 1163, 1164, 1165, 1166, 1167, 1168, 1169, 1170, 1171, 1172, 1173, 1174, 1175, 1176, 1177, 1178, 1179, 1180, 1181, 1182, 1183, 1184, 1185, 1186, 1187, 1188, 1189, 1190, 1191, 1192, 1193, 1194, 1195, 1196, 1197, 1198, 1199, 1200, 1201, 1202, 1203, 1204, 1205, 1206, 1207, 1208, 1209, 1210, 1211, 1212, 1213, 1214, 1215, 1216, 1217, 1218, 1219, 1220, 1221, 1222, 1223, 1224, 1225, 1226, 1227, 1228, 1229, 1230, 1231, 1368, 1369, 1370, 1371, 1372, 1373, 1374, 1375, 1376, 1377, 1378, 1379, 1380, 1381, 1382, 1383, 1400, 1401, 1402, 1403, 1404, 1405, 1406, 1407] rfl (by decide +kernel)
set_option maxRecDepth 20000 in
theorem gL_law_X6_spell : GoodIn wsL_law (wsV RL 198 RX6 yX6_spell wsX6_spell) := goodIn_app (goodIn_of _ (by decide +kernel)) ggL_law_X6_spell
set_option maxRecDepth 20000 in
theorem ggL_law_X5_paper : GoodIn wsL_law wsX5_paper := goodIn_r _ [1235, 25, 973, 1236, 1358, 1359, 1360, 1361, 1362, 1363, 1364, 1365, 1366, 1367, 1395, 1396] (by decide +kernel) (by decide +kernel)
set_option maxRecDepth 20000 in
theorem gL_law_X5_paper : GoodIn wsL_law (wsV RL 199 RX5 yX5_paper wsX5_paper) := goodIn_app (goodIn_of _ (by decide +kernel)) ggL_law_X5_paper
set_option maxRecDepth 20000 in
theorem ggL_law_X6_paper : GoodIn wsL_law wsX6_paper := goodIn_r _ [1240, 91, 1231, 1101, 1102, 1088, 1103, 1104, 1105, 1106, 1107, 1108, 1109, 1110, 110, 111, 5, 112, 1241, 1242, 1243, 1244, 1245, 1246, 1247, 1248, 1249, 1250, 1129, 1251, 1252, 1253, 1254, 1090, 1255, 1256, 1093, 1257, 1258, 1259, 1019, 1260, 1261, 1262, 1263, 1083, 1084, 1085, 1264, 1224, 1225, 1226, 1079, 1098, 1099, 1368, 1369, 1370, 1371, 1372, 1373, 1374, 1375, 1376, 1377, 1378, 1379, 1380, 1381, 1382, 1383, 1404, 1405, 1406, 1407] (by decide +kernel) (by decide +kernel)
set_option maxRecDepth 20000 in
theorem gL_law_X6_paper : GoodIn wsL_law (wsV RL 202 RX6 yX6_paper wsX6_paper) := goodIn_app (goodIn_of _ (by decide +kernel)) ggL_law_X6_paper
set_option maxRecDepth 20000 in
theorem ggL_law_X5_told : GoodIn wsL_law wsX5_told := goodIn_r _ [1268, 16, 309, 196, 197, 21, 277, 25, 973, 174, 1269, 1270, 1271, 15, 1272, 44, 72, 739, 740, 741, 742, 69, 43, 258, 2, 259, 260, 255, 256, 524, 397, 398, 399, 1273, 385, 386, 387, 42, 175, 176, 177, 178, 1358, 1359, 1360, 1361, 1362, 1363, 1364, 1365, 1366, 1367, 1384, 1385, 1386, 1387, 1388, 1389, 1390, 1391, 1392, 1393, 1394, 1395, 1396] (by decide +kernel) (by decide +kernel)
set_option maxRecDepth 20000 in
theorem gL_law_X5_told : GoodIn wsL_law (wsV RL 203 RX5 yX5_told wsX5_told) := goodIn_app (goodIn_of _ (by decide +kernel)) ggL_law_X5_told
set_option maxRecDepth 20000 in
theorem ggL_law_X6_told : GoodIn wsL_law wsX6_told := goodIn_r _ [1277, 84, 288, 91, 1278, 1279, 1280, 5, 1281, 763, 764, 765, 766, 152, 153, 154, 155, 265, 266, 267, 268, 1231, 1101, 1102, 1088, 1103, 1104, 1105, 1106, 1107, 1108, 1109, 1110, 148, 149, 150, 151, 420, 421, 422, 423, 424, 425, 426, 184, 185, 186, 187, 110, 111, 112, 1368, 1369, 1370, 1371, 1372, 1373, 1374, 1375, 1376, 1377, 1378, 1379, 1380, 1381, 1382, 1383, 1404, 1405, 1406, 1407] (by decide +kernel) (by decide +kernel)
set_option maxRecDepth 20000 in
theorem gL_law_X6_told : GoodIn wsL_law (wsV RL 206 RX6 yX6_told wsX6_told) := goodIn_app (goodIn_of _ (by decide +kernel)) ggL_law_X6_told
set_option maxRecDepth 20000 in
theorem ggL_law_X5_worth : GoodIn wsL_law wsX5_worth := goodIn_r _ [1285, 16, 160, 207, 241, 208, 209, 210, 15, 211, 212, 176, 177, 178, 69, 213, 214, 2, 215, 216, 217, 218, 219, 220, 221, 222, 1358, 1359, 1360, 1361, 1362, 1363, 1364, 1365, 1366, 1367, 1384, 1385, 1386, 1387, 1388, 1389, 1390] (by decide +kernel) (by decide +kernel)
set_option maxRecDepth 20000 in
theorem gL_law_X5_worth : GoodIn wsL_law (wsV RL 207 RX5 yX5_worth wsX5_worth) := goodIn_app (goodIn_of _ (by decide +kernel)) ggL_law_X5_worth
set_option maxRecDepth 20000 in
theorem ggL_law_X6_worth : GoodIn wsL_law wsX6_worth := goodIn_r _ [1289, 84, 165, 228, 229, 230, 5, 231, 184, 185, 186, 187, 152, 153, 154, 155, 110, 111, 112, 232, 233, 234, 235, 217, 218, 219, 236, 221, 222, 1368, 1369, 1370, 1371, 1372, 1373, 1374, 1375, 1376, 1377, 1378, 1379, 1380, 1381, 1382, 1383] (by decide +kernel) (by decide +kernel)
set_option maxRecDepth 20000 in
theorem gL_law_X6_worth : GoodIn wsL_law (wsV RL 210 RX6 yX6_worth wsX6_worth) := goodIn_app (goodIn_of _ (by decide +kernel)) ggL_law_X6_worth
set_option maxRecDepth 20000 in
theorem ggL_law_X5_row : GoodIn wsL_law wsX5_row := goodIn_r _ [1293, 29, 663, 632, 2, 633, 1294, 1295, 1296, 28, 1297, 61, 60, 1298, 78, 75, 79, 1358, 1359, 1360, 1361, 1362, 1363, 1364, 1365, 1366, 1367, 1397, 1398] (by decide +kernel) (by decide +kernel)
set_option maxRecDepth 20000 in
theorem gL_law_X5_row : GoodIn wsL_law (wsV RL 211 RX5 yX5_row wsX5_row) := goodIn_app (goodIn_of _ (by decide +kernel)) ggL_law_X5_row
set_option maxRecDepth 20000 in
theorem ggL_law_X6_row : GoodIn wsL_law wsX6_row := goodIn_r _ [1302, 92, 93, 644, 645, 5, 646, 143, 110, 111, 112, 1368, 1369, 1370, 1371, 1372, 1373, 1374, 1375, 1376, 1377, 1378, 1379, 1380, 1381, 1382, 1383] (by decide +kernel) (by decide +kernel)
set_option maxRecDepth 20000 in
theorem gL_law_X6_row : GoodIn wsL_law (wsV RL 214 RX6 yX6_row wsX6_row) := goodIn_app (goodIn_of _ (by decide +kernel)) ggL_law_X6_row
set_option maxRecDepth 20000 in
theorem ggL_law_X5_set : GoodIn wsL_law wsX5_set := goodIn_r _ [1306, 29, 638, 663, 632, 2, 633, 1307, 1308, 1309, 28, 1310, 61, 628, 629, 630, 631, 1358, 1359, 1360, 1361, 1362, 1363, 1364, 1365, 1366, 1367, 1397, 1398] (by decide +kernel) (by decide +kernel)
set_option maxRecDepth 20000 in
theorem gL_law_X5_set : GoodIn wsL_law (wsV RL 215 RX5 yX5_set wsX5_set) := goodIn_app (goodIn_of _ (by decide +kernel)) ggL_law_X5_set
set_option maxRecDepth 20000 in
theorem ggL_law_X6_set : GoodIn wsL_law wsX6_set := goodIn_r _ [1314, 92, 93, 644, 645, 5, 646, 143, 110, 111, 112, 1368, 1369, 1370, 1371, 1372, 1373, 1374, 1375, 1376, 1377, 1378, 1379, 1380, 1381, 1382, 1383] (by decide +kernel) (by decide +kernel)
set_option maxRecDepth 20000 in
theorem gL_law_X6_set : GoodIn wsL_law (wsV RL 218 RX6 yX6_set wsX6_set) := goodIn_app (goodIn_of _ (by decide +kernel)) ggL_law_X6_set
set_option maxRecDepth 20000 in
theorem ggL_law_X5_get : GoodIn wsL_law wsX5_get := goodIn_r _ [1318, 29, 638, 160, 628, 629, 630, 28, 631, 61, 632, 2, 633, 1358, 1359, 1360, 1361, 1362, 1363, 1364, 1365, 1366, 1367, 1397, 1398] (by decide +kernel) (by decide +kernel)
set_option maxRecDepth 20000 in
theorem gL_law_X5_get : GoodIn wsL_law (wsV RL 219 RX5 yX5_get wsX5_get) := goodIn_app (goodIn_of _ (by decide +kernel)) ggL_law_X5_get
set_option maxRecDepth 20000 in
theorem ggL_law_X6_get : GoodIn wsL_law wsX6_get := goodIn_r _ [1322, 92, 93, 165, 644, 645, 5, 646, 143, 110, 111, 112, 1368, 1369, 1370, 1371, 1372, 1373, 1374, 1375, 1376, 1377, 1378, 1379, 1380, 1381, 1382, 1383] (by decide +kernel) (by decide +kernel)
set_option maxRecDepth 20000 in
theorem gL_law_X6_get : GoodIn wsL_law (wsV RL 222 RX6 yX6_get wsX6_get) := goodIn_app (goodIn_of _ (by decide +kernel)) ggL_law_X6_get
set_option maxRecDepth 20000 in
theorem ggL_law_X5_lay : GoodIn wsL_law wsX5_lay := goodIn_r _ [1326, 29, 16, 309, 638, 36, 663, 632, 2, 633, 118, 119, 120, 1307, 1308, 1309, 28, 1310, 61, 974, 975, 976, 977, 33, 117, 482, 469, 470, 471, 32, 472, 473, 679, 680, 681, 682, 310, 126, 127, 15, 128, 69, 260, 255, 256, 683, 684, 685, 686, 525, 526, 527, 528, 687, 688, 689, 690, 443, 444, 445, 446, 447, 448, 449, 691, 692, 693, 694, 504, 505, 506, 507, 508, 509, 474, 475, 476, 477, 628, 629, 630, 631, 1327, 1328, 1329, 1358, 1359, 1360, 1361, 1362, 1363, 1364, 1365, 1366, 1367, 1384, 1385, 1386, 1387, 1388, 1389, 1390, 1397, 1398, 1399] (by decide +kernel) (by decide +kernel)
set_option maxRecDepth 20000 in
theorem gL_law_X5_lay : GoodIn wsL_law (wsV RL 223 RX5 yX5_lay wsX5_lay) := goodIn_app (goodIn_of _ (by decide +kernel)) ggL_law_X5_lay
set_option maxRecDepth 20000 in
theorem ggL_law_X6_lay : GoodIn wsL_law wsX6_lay := goodIn_r _ [1333, 92, 487, 86, 708, 87, 644, 645, 5, 646, 143, 110, 111, 112, 140, 141, 142, 152, 153, 154, 155, 84, 709, 710, 711, 712, 148, 149, 150, 151, 424, 425, 426, 713, 714, 715, 716, 166, 167, 168, 169, 533, 534, 535, 536, 454, 455, 456, 515, 516, 517, 518, 519, 165, 488, 489, 490, 491, 1334, 1312, 1313, 1314, 93, 1368, 1369, 1370, 1371, 1372, 1373, 1374, 1375, 1376, 1377, 1378, 1379, 1380, 1381, 1382, 1383] (by decide +kernel) (by decide +kernel)
set_option maxRecDepth 20000 in
theorem gL_law_X6_lay : GoodIn wsL_law (wsV RL 226 RX6 yX6_lay wsX6_lay) := goodIn_app (goodIn_of _ (by decide +kernel)) ggL_law_X6_lay
set_option maxRecDepth 20000 in
theorem ggL_law_X5_image : GoodIn wsL_law wsX5_image := goodIn_r _ [1338, 17, 16, 1339, 309, 1340, 1341, 1342, 15, 1343, 69, 70, 71, 42, 1344, 306, 307, 308, 43, 44, 46, 1358, 1359, 1360, 1361, 1362, 1363, 1364, 1365, 1366, 1367, 1384, 1385, 1386, 1387, 1388, 1389, 1390] (by decide +kernel) (by decide +kernel)
set_option maxRecDepth 20000 in
theorem gL_law_X5_image : GoodIn wsL_law (wsV RL 227 RX5 yX5_image wsX5_image) := goodIn_app (goodIn_of _ (by decide +kernel)) ggL_law_X5_image
set_option maxRecDepth 20000 in
theorem ggL_law_X6_image : GoodIn wsL_law wsX6_image := goodIn_r _ [1348, 85, 84, 1349, 152, 153, 154, 5, 155, 1368, 1369, 1370, 1371, 1372, 1373, 1374, 1375, 1376, 1377, 1378, 1379, 1380, 1381, 1382, 1383] (by decide +kernel) (by decide +kernel)
set_option maxRecDepth 20000 in
theorem gL_law_X6_image : GoodIn wsL_law (wsV RL 230 RX6 yX6_image wsX6_image) := goodIn_app (goodIn_of _ (by decide +kernel)) ggL_law_X6_image
set_option maxRecDepth 20000 in
theorem ggL_law_X5_undo : GoodIn wsL_law wsX5_undo := goodIn_r _ [1353, 1339, 16, 17, 309, 1340, 1341, 1342, 15, 1343, 69, 70, 71, 42, 1344, 306, 307, 308, 43, 44, 46, 1358, 1359, 1360, 1361, 1362, 1363, 1364, 1365, 1366, 1367, 1384, 1385, 1386, 1387, 1388, 1389, 1390] (by decide +kernel) (by decide +kernel)
set_option maxRecDepth 20000 in
theorem gL_law_X5_undo : GoodIn wsL_law (wsV RL 231 RX5 yX5_undo wsX5_undo) := goodIn_app (goodIn_of _ (by decide +kernel)) ggL_law_X5_undo
set_option maxRecDepth 20000 in
theorem ggL_law_X6_undo : GoodIn wsL_law wsX6_undo := goodIn_r _ [1357, 1349, 84, 85, 152, 153, 154, 5, 155, 1368, 1369, 1370, 1371, 1372, 1373, 1374, 1375, 1376, 1377, 1378, 1379, 1380, 1381, 1382, 1383] (by decide +kernel) (by decide +kernel)
set_option maxRecDepth 20000 in
theorem gL_law_X6_undo : GoodIn wsL_law (wsV RL 234 RX6 yX6_undo wsX6_undo) := goodIn_app (goodIn_of _ (by decide +kernel)) ggL_law_X6_undo
