set_option maxRecDepth 20000 in
theorem ggL_law_X5_init : GoodIn wsL_law wsX5_init := goodIn_r _ [9, 10, 11, 12, 13, 14, 15, 16, 17, 18, 19, 20, 21, 22, 23, 24, 25, 26, 27, 28, 29, 30, 31, 32, 33, 34, 35, 36, 37, 38, 39, 40, 41, 42, 43, 44, 45, 46, 47, 48, 49, 50, 51, 52, 53, 54, 55, 56, 57, 58, 59, 60, 61, 62, 63, 64, 65, 66, 67, 68, 69, 70, 71, 72, 73, 74, 75, 76, 77, 78, 79, 1384, 1385, 1386, 1387, 1388, 1389, 1390, 1358, 1359, 1360, 1361, 1362, 1363, 1364, 1365, 1366, 1367, 1391, 1392, 1393, 1394, 1395, 1396, 1397, 1398, 1399] (by decide +kernel) (by decide +kernel)
set_option maxRecDepth 20000 in
theorem gL_law_X5_init : GoodIn wsL_law (wsX5_init) := ggL_law_X5_init
set_option maxRecDepth 20000 in
theorem ggL_law_X6_init : GoodIn wsL_law wsX6_init := goodIn_r _ [82, 83, 11, 12, 34, 84, 85, 86, 87, 37, 88, 89, 90, 91, 92, 93, 94, 95, 5, 96, 97, 98, 99, 100, 1368, 1369, 1370, 1371, 1372, 1373, 1374, 1375, 1376, 1377, 1378, 1379, 1380, 1381, 1382, 1383] (by decide +kernel) (by decide +kernel)
set_option maxRecDepth 20000 in
theorem gL_law_X6_init : GoodIn wsL_law (wsX6_init) := ggL_law_X6_init
set_option maxRecDepth 20000 in
theorem ggL_law_X5_partners : GoodIn wsL_law wsX5_partners := goodIn_r _ [104, 16, 65, 66, 67, 15, 68, 69, 70, 71, 42, 44, 72, 43, 46, 73, 74, 75, 76, 77, 78, 79, 1358, 1359, 1360, 1361, 1362, 1363, 1364, 1365, 1366, 1367, 1384, 1385, 1386, 1387, 1388, 1389, 1390] (by decide +kernel) (by decide +kernel)
set_option maxRecDepth 20000 in
theorem gL_law_X5_partners : GoodIn wsL_law (wsV RL 13 RX5 yX5_partners wsX5_partners) := goodIn_app (goodIn_of _ (by decide +kernel)) ggL_law_X5_partners
set_option maxRecDepth 20000 in
theorem ggL_law_X6_partners : GoodIn wsL_law wsX6_partners := goodIn_r _ [108, 109, 110, 111, 5, 112, 97, 98, 99, 100, 84, 1368, 1369, 1370, 1371, 1372, 1373, 1374, 1375, 1376, 1377, 1378, 1379, 1380, 1381, 1382, 1383] (by decide +kernel) (by decide +kernel)
set_option maxRecDepth 20000 in
theorem gL_law_X6_partners : GoodIn wsL_law (wsV RL 17 RX6 yX6_partners wsX6_partners) := goodIn_app (goodIn_of _ (by decide +kernel)) ggL_law_X6_partners
set_option maxRecDepth 20000 in
theorem ggL_law_X5_value : GoodIn wsL_law wsX5_value := goodIn_r _ [116, 16, 117, 118, 119, 2, 120, 121, 122, 123, 15, 124, 125, 126, 127, 128, 69, 129, 130, 131, 132, 133, 1358, 1359, 1360, 1361, 1362, 1363, 1364, 1365, 1366, 1367, 1384, 1385, 1386, 1387, 1388, 1389, 1390] (by decide +kernel) (by decide +kernel)
set_option maxRecDepth 20000 in
theorem gL_law_X5_value : GoodIn wsL_law (wsV RL 20 RX5 yX5_value wsX5_value) := goodIn_app (goodIn_of _ (by decide +kernel)) ggL_law_X5_value
set_option maxRecDepth 20000 in
theorem ggL_law_X6_value : GoodIn wsL_law wsX6_value := goodIn_r _ [137, 138, 139, 84, 140, 141, 5, 142, 143, 110, 111, 112, 144, 145, 146, 147, 148, 149, 150, 151, 152, 153, 154, 155, 1368, 1369, 1370, 1371, 1372, 1373, 1374, 1375, 1376, 1377, 1378, 1379, 1380, 1381, 1382, 1383] (by decide +kernel) (by decide +kernel)
set_option maxRecDepth 20000 in
theorem gL_law_X6_value : GoodIn wsL_law (wsV RL 24 RX6 yX6_value wsX6_value) := goodIn_app (goodIn_of _ (by decide +kernel)) ggL_law_X6_value
set_option maxRecDepth 20000 in
theorem ggL_law_X5_valueOf : GoodIn wsL_law wsX5_valueOf := goodIn_r _ [159, 16, 117, 160, 118, 119, 2, 120, 121, 122, 123, 15, 124, 125, 126, 127, 128, 69, 1358, 1359, 1360, 1361, 1362, 1363, 1364, 1365, 1366, 1367, 1384, 1385, 1386, 1387, 1388, 1389, 1390] (by decide +kernel) (by decide +kernel)
set_option maxRecDepth 20000 in
theorem gL_law_X5_valueOf : GoodIn wsL_law (wsV RL 25 RX5 yX5_valueOf wsX5_valueOf) := goodIn_app (goodIn_of _ (by decide +kernel)) ggL_law_X5_valueOf
set_option maxRecDepth 20000 in
theorem ggL_law_X6_valueOf : GoodIn wsL_law wsX6_valueOf := goodIn_r _ [164, 165, 140, 141, 5, 142, 143, 110, 111, 112, 144, 145, 146, 147, 148, 149, 150, 151, 152, 153, 154, 155, 84, 166, 167, 168, 169, 1368, 1369, 1370, 1371, 1372, 1373, 1374, 1375, 1376, 1377, 1378, 1379, 1380, 1381, 1382, 1383] (by decide +kernel) (by decide +kernel)
set_option maxRecDepth 20000 in
theorem gL_law_X6_valueOf : GoodIn wsL_law (wsV RL 29 RX6 yX6_valueOf wsX6_valueOf) := goodIn_app (goodIn_of _ (by decide +kernel)) ggL_law_X6_valueOf
set_option maxRecDepth 20000 in
theorem ggL_law_X5_weight : GoodIn wsL_law wsX5_weight := goodIn_r _ [173, 16, 174, 175, 176, 177, 15, 178, 69, 1358, 1359, 1360, 1361, 1362, 1363, 1364, 1365, 1366, 1367, 1384, 1385, 1386, 1387, 1388, 1389, 1390] (by decide +kernel) (by decide +kernel)
set_option maxRecDepth 20000 in
theorem gL_law_X5_weight : GoodIn wsL_law (wsV RL 30 RX5 yX5_weight wsX5_weight) := goodIn_app (goodIn_of _ (by decide +kernel)) ggL_law_X5_weight
set_option maxRecDepth 20000 in
theorem ggL_law_X6_weight : GoodIn wsL_law wsX6_weight := goodIn_r _ [182, 183, 184, 185, 186, 5, 187, 152, 153, 154, 155, 84, 110, 111, 112, 188, 189, 190, 191, 1368, 1369, 1370, 1371, 1372, 1373, 1374, 1375, 1376, 1377, 1378, 1379, 1380, 1381, 1382, 1383] (by decide +kernel) (by decide +kernel)
set_option maxRecDepth 20000 in
theorem gL_law_X6_weight : GoodIn wsL_law (wsV RL 34 RX6 yX6_weight wsX6_weight) := goodIn_app (goodIn_of _ (by decide +kernel)) ggL_law_X6_weight
set_option maxRecDepth 20000 in
theorem ggL_law_X5_quota : GoodIn wsL_law wsX5_quota := goodIn_r _ [195, 16, 196, 197, 1358, 1359, 1360, 1361, 1362, 1363, 1364, 1365, 1366, 1367, 1384, 1385, 1386, 1387, 1388, 1389, 1390] (by decide +kernel) (by decide +kernel)
set_option maxRecDepth 20000 in
theorem gL_law_X5_quota : GoodIn wsL_law (wsV RL 35 RX5 yX5_quota wsX5_quota) := goodIn_app (goodIn_of _ (by decide +kernel)) ggL_law_X5_quota
set_option maxRecDepth 20000 in
theorem ggL_law_X6_quota : GoodIn wsL_law wsX6_quota := goodIn_r _ [201, 202, 110, 111, 5, 112, 188, 189, 190, 191, 84, 1368, 1369, 1370, 1371, 1372, 1373, 1374, 1375, 1376, 1377, 1378, 1379, 1380, 1381, 1382, 1383] (by decide +kernel) (by decide +kernel)
set_option maxRecDepth 20000 in
theorem gL_law_X6_quota : GoodIn wsL_law (wsV RL 38 RX6 yX6_quota wsX6_quota) := goodIn_app (goodIn_of _ (by decide +kernel)) ggL_law_X6_quota
set_option maxRecDepth 20000 in
theorem ggL_law_X5_edge : GoodIn wsL_law wsX5_edge := goodIn_r _ [206, 16, 207, 208, 209, 210, 15, 211, 212, 176, 177, 178, 69, 213, 214, 2, 215, 216, 217, 218, 219, 220, 221, 222, 1358, 1359, 1360, 1361, 1362, 1363, 1364, 1365, 1366, 1367, 1384, 1385, 1386, 1387, 1388, 1389, 1390] (by decide +kernel) (by decide +kernel)
set_option maxRecDepth 20000 in
theorem gL_law_X5_edge : GoodIn wsL_law (wsV RL 39 RX5 yX5_edge wsX5_edge) := goodIn_app (goodIn_of _ (by decide +kernel)) ggL_law_X5_edge
set_option maxRecDepth 20000 in
theorem ggL_law_X6_edge : GoodIn wsL_law wsX6_edge := goodIn_r _ [226, 227, 202, 84, 228, 229, 230, 5, 231, 184, 185, 186, 187, 152, 153, 154, 155, 110, 111, 112, 232, 233, 234, 235, 217, 218, 219, 236, 221, 222, 1368, 1369, 1370, 1371, 1372, 1373, 1374, 1375, 1376, 1377, 1378, 1379, 1380, 1381, 1382, 1383] (by decide +kernel) (by decide +kernel)
set_option maxRecDepth 20000 in
theorem gL_law_X6_edge : GoodIn wsL_law (wsV RL 43 RX6 yX6_edge wsX6_edge) := goodIn_app (goodIn_of _ (by decide +kernel)) ggL_law_X6_edge
set_option maxRecDepth 20000 in
theorem ggL_law_X5_cut : GoodIn wsL_law wsX5_cut := goodIn_r _ [240, 16, 207, 241, 208, 209, 210, 15, 211, 212, 176, 177, 178, 69, 213, 214, 2, 215, 216, 217, 218, 219, 220, 221, 222, 1358, 1359, 1360, 1361, 1362, 1363, 1364, 1365, 1366, 1367, 1384, 1385, 1386, 1387, 1388, 1389, 1390] (by decide +kernel) (by decide +kernel)
set_option maxRecDepth 20000 in
theorem gL_law_X5_cut : GoodIn wsL_law (wsV RL 44 RX5 yX5_cut wsX5_cut) := goodIn_app (goodIn_of _ (by decide +kernel)) ggL_law_X5_cut
set_option maxRecDepth 20000 in
theorem ggL_law_X6_cut : GoodIn wsL_law wsX6_cut := goodIn_r _ [245, 228, 229, 230, 5, 231, 184, 185, 186, 187, 152, 153, 154, 155, 84, 110, 111, 112, 232, 233, 234, 235, 217, 218, 219, 236, 221, 222, 188, 189, 190, 191, 1368, 1369, 1370, 1371, 1372, 1373, 1374, 1375, 1376, 1377, 1378, 1379, 1380, 1381, 1382, 1383] (by decide +kernel) (by decide +kernel)
set_option maxRecDepth 20000 in
theorem gL_law_X6_cut : GoodIn wsL_law (wsV RL 47 RX6 yX6_cut wsX6_cut) := goodIn_app (goodIn_of _ (by decide +kernel)) ggL_law_X6_cut
set_option maxRecDepth 20000 in
theorem ggL_law_X5_unite : GoodIn wsL_law wsX5_unite := goodIn_r _ [249, 16, 250, 175, 176, 177, 15, 178, 69, 251, 252, 253, 254, 43, 255, 2, 256, 257, 258, 259, 260, 1358, 1359, 1360, 1361, 1362, 1363, 1364, 1365, 1366, 1367, 1384, 1385, 1386, 1387, 1388, 1389, 1390] (by decide +kernel) (by decide +kernel)
set_option maxRecDepth 20000 in
theorem gL_law_X5_unite : GoodIn wsL_law (wsV RL 48 RX5 yX5_unite wsX5_unite) := goodIn_app (goodIn_of _ (by decide +kernel)) ggL_law_X5_unite
set_option maxRecDepth 20000 in
theorem ggL_law_X6_unite : GoodIn wsL_law wsX6_unite := goodIn_r _ [264, 84, 184, 185, 186, 5, 187, 152, 153, 154, 155, 110, 111, 112, 265, 266, 267, 268, 269, 270, 271, 272, 1368, 1369, 1370, 1371, 1372, 1373, 1374, 1375, 1376, 1377, 1378, 1379, 1380, 1381, 1382, 1383] (by decide +kernel) (by decide +kernel)
set_option maxRecDepth 20000 in
theorem gL_law_X6_unite : GoodIn wsL_law (wsV RL 51 RX6 yX6_unite wsX6_unite) := goodIn_app (goodIn_of _ (by decide +kernel)) ggL_law_X6_unite
set_option maxRecDepth 20000 in
theorem ggL_law_X5_feed : GoodIn wsL_law wsX5_feed := goodIn_r _ [276, 21, 277, 278, 279, 280, 20, 281, 282, 51, 1358, 1359, 1360, 1361, 1362, 1363, 1364, 1365, 1366, 1367, 1391, 1392, 1393, 1394] (by decide +kernel) (by decide +kernel)
set_option maxRecDepth 20000 in
theorem gL_law_X5_feed : GoodIn wsL_law (wsV RL 52 RX5 yX5_feed wsX5_feed) := goodIn_app (goodIn_of _ (by decide +kernel)) ggL_law_X5_feed
set_option maxRecDepth 20000 in
theorem ggL_law_X6_feed : GoodIn wsL_law wsX6_feed := goodIn_r _ [286, 287, 288, 88, 110, 111, 5, 112, 1368, 1369, 1370, 1371, 1372, 1373, 1374, 1375, 1376, 1377, 1378, 1379, 1380, 1381, 1382, 1383] (by decide +kernel) (by decide +kernel)
set_option maxRecDepth 20000 in
theorem gL_law_X6_feed : GoodIn wsL_law (wsV RL 55 RX6 yX6_feed wsX6_feed) := goodIn_app (goodIn_of _ (by decide +kernel)) ggL_law_X6_feed
set_option maxRecDepth 20000 in
theorem ggL_law_X5_clear : GoodIn wsL_law wsX5_clear := goodIn_r _ [292, 21, 277, 293, 294, 295, 20, 296, 282, 1358, 1359, 1360, 1361, 1362, 1363, 1364, 1365, 1366, 1367, 1391, 1392, 1393, 1394] (by decide +kernel) (by decide +kernel)
set_option maxRecDepth 20000 in
theorem gL_law_X5_clear : GoodIn wsL_law (wsV RL 56 RX5 yX5_clear wsX5_clear) := goodIn_app (goodIn_of _ (by decide +kernel)) ggL_law_X5_clear
set_option maxRecDepth 20000 in
theorem ggL_law_X6_clear : GoodIn wsL_law wsX6_clear := goodIn_r _ [300, 288, 1368, 1369, 1370, 1371, 1372, 1373, 1374, 1375, 1376, 1377, 1378, 1379, 1380, 1381, 1382, 1383] (by decide +kernel) (by decide +kernel)
set_option maxRecDepth 20000 in
theorem gL_law_X6_clear : GoodIn wsL_law (wsV RL 60 RX6 yX6_clear wsX6_clear) := goodIn_app (goodIn_of _ (by decide +kernel)) ggL_law_X6_clear
set_option maxRecDepth 20000 in
theorem ggL_law_X5_read : GoodIn wsL_law wsX5_read := goodIn_r _ [304, 16, 117, 35, 305, 306, 307, 308, 21, 309, 118, 119, 2, 120, 310, 126, 127, 15, 128, 69, 311, 312, 313, 20, 314, 315, 282, 316, 317, 318, 319, 320, 321, 322, 323, 324, 325, 326, 327, 328, 329, 330, 331, 332, 51, 333, 334, 335, 336, 337, 338, 339, 340, 293, 294, 295, 296, 341, 342, 343, 344, 1358, 1359, 1360, 1361, 1362, 1363, 1364, 1365, 1366, 1367, 1384, 1385, 1386, 1387, 1388, 1389, 1390, 1391, 1392, 1393, 1394] (by decide +kernel) (by decide +kernel)
set_option maxRecDepth 20000 in
theorem gL_law_X5_read : GoodIn wsL_law (wsV RL 61 RX5 yX5_read wsX5_read) := goodIn_app (goodIn_of _ (by decide +kernel)) ggL_law_X5_read
set_option maxRecDepth 20000 in
theorem ggL_law_X6_read : GoodIn wsL_law wsX6_read := goodIn_r _ [348, 349, 288, 84, 89, 90, 140, 141, 5, 142, 143, 110, 111, 112, 350, 351, 352, 353, 354, 355, 356, 357, 358, 359, 360, 361, 362, 363, 364, 365, 88, 152, 153, 154, 155, 366, 367, 368, 369, 370, 1368, 1369, 1370, 1371, 1372, 1373, 1374, 1375, 1376, 1377, 1378, 1379, 1380, 1381, 1382, 1383] (by decide +kernel) (by decide +kernel)
set_option maxRecDepth 20000 in
theorem gL_law_X6_read : GoodIn wsL_law (wsV RL 64 RX6 yX6_read wsX6_read) := goodIn_app (goodIn_of _ (by decide +kernel)) ggL_law_X6_read
set_option maxRecDepth 20000 in
theorem ggL_law_X5_make : GoodIn wsL_law wsX5_make := goodIn_r _ [374, 16, 35, 118, 119, 2, 120, 310, 126, 127, 15, 128, 69, 375, 376, 377, 378, 71, 379, 221, 218, 222, 380, 381, 382, 383, 70, 384, 385, 386, 387, 42, 255, 256, 388, 389, 390, 391, 44, 72, 214, 215, 216, 217, 219, 220, 392, 393, 394, 395, 396, 397, 398, 399, 400, 401, 402, 403, 341, 342, 343, 344, 117, 1358, 1359, 1360, 1361, 1362, 1363, 1364, 1365, 1366, 1367, 1384, 1385, 1386, 1387, 1388, 1389, 1390] (by decide +kernel) (by decide +kernel)
set_option maxRecDepth 20000 in
theorem gL_law_X5_make : GoodIn wsL_law (wsV RL 65 RX5 yX5_make wsX5_make) := goodIn_app (goodIn_of _ (by decide +kernel)) ggL_law_X5_make
set_option maxRecDepth 20000 in
theorem ggL_law_X6_make : GoodIn wsL_law wsX6_make := goodIn_r _ [407, 408, 84, 140, 141, 5, 142, 143, 110, 111, 112, 148, 149, 150, 151, 152, 153, 154, 155, 409, 410, 411, 412, 413, 414, 218, 415, 416, 417, 418, 419, 420, 421, 422, 423, 424, 425, 426, 427, 428, 429, 430, 232, 233, 234, 235, 217, 219, 236, 221, 222, 431, 432, 433, 434, 435, 436, 437, 438, 166, 167, 168, 169, 1368, 1369, 1370, 1371, 1372, 1373, 1374, 1375, 1376, 1377, 1378, 1379, 1380, 1381, 1382, 1383] (by decide +kernel) (by decide +kernel)
set_option maxRecDepth 20000 in
theorem gL_law_X6_make : GoodIn wsL_law (wsV RL 68 RX6 yX6_make wsX6_make) := goodIn_app (goodIn_of _ (by decide +kernel)) ggL_law_X6_make
set_option maxRecDepth 20000 in
theorem ggL_law_X5_pairs : GoodIn wsL_law wsX5_pairs := goodIn_r _ [442, 16, 35, 216, 217, 218, 219, 118, 119, 2, 120, 121, 122, 123, 15, 124, 125, 126, 127, 128, 69, 310, 443, 444, 445, 446, 447, 448, 449, 400, 401, 402, 403, 341, 342, 343, 344, 117, 1358, 1359, 1360, 1361, 1362, 1363, 1364, 1365, 1366, 1367, 1384, 1385, 1386, 1387, 1388, 1389, 1390] (by decide +kernel) (by decide +kernel)
set_option maxRecDepth 20000 in
theorem gL_law_X5_pairs : GoodIn wsL_law (wsV RL 69 RX5 yX5_pairs wsX5_pairs) := goodIn_app (goodIn_of _ (by decide +kernel)) ggL_law_X5_pairs
