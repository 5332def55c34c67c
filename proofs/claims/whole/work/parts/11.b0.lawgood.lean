set_option maxRecDepth 20000 in
theorem ggL_law_X5_init : GoodIn wsL_law wsX5_init := goodIn_r _ [9, 10, 11, 12, 13, 14, 15, 16, 17, 18, 19, 20, 21, 22, 23, 24, 25, 26, 27, 28, 29, 30, 31, 32, 33, 34, 35, 36, 37, 38, 39, 40, 41, 42, 43, 44, 45, 46, 47, 48, 49, 50, 51, 52, 53, 54, 55, 56, 57, 58, 59, 60, 61, 62, 63, 64, 65, 66, 67, 68, 69, 70, 71, 72, 73, 74, 75, 76, 77, 78, 1382, 1383, 1384, 1385, 1386, 1387, 1388, 1356, 1357, 1358, 1359, 1360, 1361, 1362, 1363, 1364, 1365, 1389, 1390, 1391, 1392, 1393, 1394, 1395, 1396, 1397] (by decide +kernel) (by decide +kernel)
set_option maxRecDepth 20000 in
theorem gL_law_X5_init : GoodIn wsL_law (wsX5_init) := ggL_law_X5_init
set_option maxRecDepth 20000 in
theorem ggL_law_X6_init : GoodIn wsL_law wsX6_init := goodIn_r _ [81, 82, 11, 12, 34, 83, 84, 85, 86, 37, 87, 88, 89, 90, 91, 92, 93, 94, 5, 95, 96, 97, 98, 99, 1366, 1367, 1368, 1369, 1370, 1371, 1372, 1373, 1374, 1375, 1376, 1377, 1378, 1379, 1380, 1381] (by decide +kernel) (by decide +kernel)
set_option maxRecDepth 20000 in
theorem gL_law_X6_init : GoodIn wsL_law (wsX6_init) := ggL_law_X6_init
set_option maxRecDepth 20000 in
theorem ggL_law_X5_partners : GoodIn wsL_law wsX5_partners := goodIn_r _ [103, 16, 65, 66, 67, 15, 68, 69, 70, 71, 42, 44, 43, 46, 72, 73, 74, 75, 76, 77, 78, 1356, 1357, 1358, 1359, 1360, 1361, 1362, 1363, 1364, 1365, 1382, 1383, 1384, 1385, 1386, 1387, 1388] (by decide +kernel) (by decide +kernel)
set_option maxRecDepth 20000 in
theorem gL_law_X5_partners : GoodIn wsL_law (wsV RL 13 RX5 yX5_partners wsX5_partners) := goodIn_app (goodIn_of _ (by decide +kernel)) ggL_law_X5_partners
set_option maxRecDepth 20000 in
theorem ggL_law_X6_partners : GoodIn wsL_law wsX6_partners := goodIn_r _ [107, 108, 109, 110, 5, 111, 96, 97, 98, 99, 83, 1366, 1367, 1368, 1369, 1370, 1371, 1372, 1373, 1374, 1375, 1376, 1377, 1378, 1379, 1380, 1381] (by decide +kernel) (by decide +kernel)
set_option maxRecDepth 20000 in
theorem gL_law_X6_partners : GoodIn wsL_law (wsV RL 17 RX6 yX6_partners wsX6_partners) := goodIn_app (goodIn_of _ (by decide +kernel)) ggL_law_X6_partners
set_option maxRecDepth 20000 in
theorem ggL_law_X5_value : GoodIn wsL_law wsX5_value := goodIn_r _ [115, 16, 116, 117, 118, 2, 119, 120, 121, 122, 15, 123, 124, 125, 126, 127, 69, 128, 129, 130, 131, 132, 1356, 1357, 1358, 1359, 1360, 1361, 1362, 1363, 1364, 1365, 1382, 1383, 1384, 1385, 1386, 1387, 1388] (by decide +kernel) (by decide +kernel)
set_option maxRecDepth 20000 in
theorem gL_law_X5_value : GoodIn wsL_law (wsV RL 20 RX5 yX5_value wsX5_value) := goodIn_app (goodIn_of _ (by decide +kernel)) ggL_law_X5_value
set_option maxRecDepth 20000 in
theorem ggL_law_X6_value : GoodIn wsL_law wsX6_value := goodIn_r _ [136, 137, 138, 83, 139, 140, 5, 141, 142, 109, 110, 111, 143, 144, 145, 146, 147, 148, 149, 150, 151, 152, 153, 154, 1366, 1367, 1368, 1369, 1370, 1371, 1372, 1373, 1374, 1375, 1376, 1377, 1378, 1379, 1380, 1381] (by decide +kernel) (by decide +kernel)
set_option maxRecDepth 20000 in
theorem gL_law_X6_value : GoodIn wsL_law (wsV RL 24 RX6 yX6_value wsX6_value) := goodIn_app (goodIn_of _ (by decide +kernel)) ggL_law_X6_value
set_option maxRecDepth 20000 in
theorem ggL_law_X5_valueOf : GoodIn wsL_law wsX5_valueOf := goodIn_r _ [158, 16, 116, 159, 117, 118, 2, 119, 120, 121, 122, 15, 123, 124, 125, 126, 127, 69, 1356, 1357, 1358, 1359, 1360, 1361, 1362, 1363, 1364, 1365, 1382, 1383, 1384, 1385, 1386, 1387, 1388] (by decide +kernel) (by decide +kernel)
set_option maxRecDepth 20000 in
theorem gL_law_X5_valueOf : GoodIn wsL_law (wsV RL 25 RX5 yX5_valueOf wsX5_valueOf) := goodIn_app (goodIn_of _ (by decide +kernel)) ggL_law_X5_valueOf
set_option maxRecDepth 20000 in
theorem ggL_law_X6_valueOf : GoodIn wsL_law wsX6_valueOf := goodIn_r _ [163, 164, 139, 140, 5, 141, 142, 109, 110, 111, 143, 144, 145, 146, 147, 148, 149, 150, 151, 152, 153, 154, 83, 165, 166, 167, 168, 1366, 1367, 1368, 1369, 1370, 1371, 1372, 1373, 1374, 1375, 1376, 1377, 1378, 1379, 1380, 1381] (by decide +kernel) (by decide +kernel)
set_option maxRecDepth 20000 in
theorem gL_law_X6_valueOf : GoodIn wsL_law (wsV RL 29 RX6 yX6_valueOf wsX6_valueOf) := goodIn_app (goodIn_of _ (by decide +kernel)) ggL_law_X6_valueOf
set_option maxRecDepth 20000 in
theorem ggL_law_X5_weight : GoodIn wsL_law wsX5_weight := goodIn_r _ [172, 16, 173, 174, 175, 176, 15, 177, 69, 1356, 1357, 1358, 1359, 1360, 1361, 1362, 1363, 1364, 1365, 1382, 1383, 1384, 1385, 1386, 1387, 1388] (by decide +kernel) (by decide +kernel)
set_option maxRecDepth 20000 in
theorem gL_law_X5_weight : GoodIn wsL_law (wsV RL 30 RX5 yX5_weight wsX5_weight) := goodIn_app (goodIn_of _ (by decide +kernel)) ggL_law_X5_weight
set_option maxRecDepth 20000 in
theorem ggL_law_X6_weight : GoodIn wsL_law wsX6_weight := goodIn_r _ [181, 182, 183, 184, 185, 5, 186, 151, 152, 153, 154, 83, 109, 110, 111, 187, 188, 189, 190, 1366, 1367, 1368, 1369, 1370, 1371, 1372, 1373, 1374, 1375, 1376, 1377, 1378, 1379, 1380, 1381] (by decide +kernel) (by decide +kernel)
set_option maxRecDepth 20000 in
theorem gL_law_X6_weight : GoodIn wsL_law (wsV RL 34 RX6 yX6_weight wsX6_weight) := goodIn_app (goodIn_of _ (by decide +kernel)) ggL_law_X6_weight
set_option maxRecDepth 20000 in
theorem ggL_law_X5_quota : GoodIn wsL_law wsX5_quota := goodIn_r _ [194, 16, 195, 196, 1356, 1357, 1358, 1359, 1360, 1361, 1362, 1363, 1364, 1365, 1382, 1383, 1384, 1385, 1386, 1387, 1388] (by decide +kernel) (by decide +kernel)
set_option maxRecDepth 20000 in
theorem gL_law_X5_quota : GoodIn wsL_law (wsV RL 35 RX5 yX5_quota wsX5_quota) := goodIn_app (goodIn_of _ (by decide +kernel)) ggL_law_X5_quota
set_option maxRecDepth 20000 in
theorem ggL_law_X6_quota : GoodIn wsL_law wsX6_quota := goodIn_r _ [200, 201, 109, 110, 5, 111, 187, 188, 189, 190, 83, 1366, 1367, 1368, 1369, 1370, 1371, 1372, 1373, 1374, 1375, 1376, 1377, 1378, 1379, 1380, 1381] (by decide +kernel) (by decide +kernel)
set_option maxRecDepth 20000 in
theorem gL_law_X6_quota : GoodIn wsL_law (wsV RL 38 RX6 yX6_quota wsX6_quota) := goodIn_app (goodIn_of _ (by decide +kernel)) ggL_law_X6_quota
set_option maxRecDepth 20000 in
theorem ggL_law_X5_edge : GoodIn wsL_law wsX5_edge := goodIn_r _ [205, 16, 206, 207, 208, 209, 15, 210, 211, 175, 176, 177, 69, 212, 213, 2, 214, 215, 216, 217, 218, 219, 220, 221, 1356, 1357, 1358, 1359, 1360, 1361, 1362, 1363, 1364, 1365, 1382, 1383, 1384, 1385, 1386, 1387, 1388] (by decide +kernel) (by decide +kernel)
set_option maxRecDepth 20000 in
theorem gL_law_X5_edge : GoodIn wsL_law (wsV RL 39 RX5 yX5_edge wsX5_edge) := goodIn_app (goodIn_of _ (by decide +kernel)) ggL_law_X5_edge
set_option maxRecDepth 20000 in
theorem ggL_law_X6_edge : GoodIn wsL_law wsX6_edge := goodIn_r _ [225, 226, 201, 83, 227, 228, 229, 5, 230, 183, 184, 185, 186, 151, 152, 153, 154, 109, 110, 111, 231, 232, 233, 234, 216, 217, 218, 235, 220, 221, 1366, 1367, 1368, 1369, 1370, 1371, 1372, 1373, 1374, 1375, 1376, 1377, 1378, 1379, 1380, 1381] (by decide +kernel) (by decide +kernel)
set_option maxRecDepth 20000 in
theorem gL_law_X6_edge : GoodIn wsL_law (wsV RL 43 RX6 yX6_edge wsX6_edge) := goodIn_app (goodIn_of _ (by decide +kernel)) ggL_law_X6_edge
set_option maxRecDepth 20000 in
theorem ggL_law_X5_cut : GoodIn wsL_law wsX5_cut := goodIn_r _ [239, 16, 206, 207, 208, 209, 15, 210, 211, 175, 176, 177, 69, 212, 213, 2, 214, 215, 216, 217, 218, 219, 220, 221, 1356, 1357, 1358, 1359, 1360, 1361, 1362, 1363, 1364, 1365, 1382, 1383, 1384, 1385, 1386, 1387, 1388] (by decide +kernel) (by decide +kernel)
set_option maxRecDepth 20000 in
theorem gL_law_X5_cut : GoodIn wsL_law (wsV RL 44 RX5 yX5_cut wsX5_cut) := goodIn_app (goodIn_of _ (by decide +kernel)) ggL_law_X5_cut
set_option maxRecDepth 20000 in
theorem ggL_law_X6_cut : GoodIn wsL_law wsX6_cut := goodIn_r _ [243, 227, 228, 229, 5, 230, 183, 184, 185, 186, 151, 152, 153, 154, 83, 109, 110, 111, 231, 232, 233, 234, 216, 217, 218, 235, 220, 221, 187, 188, 189, 190, 1366, 1367, 1368, 1369, 1370, 1371, 1372, 1373, 1374, 1375, 1376, 1377, 1378, 1379, 1380, 1381] (by decide +kernel) (by decide +kernel)
set_option maxRecDepth 20000 in
theorem gL_law_X6_cut : GoodIn wsL_law (wsV RL 47 RX6 yX6_cut wsX6_cut) := goodIn_app (goodIn_of _ (by decide +kernel)) ggL_law_X6_cut
set_option maxRecDepth 20000 in
theorem ggL_law_X5_unite : GoodIn wsL_law wsX5_unite := goodIn_r _ [247, 16, 248, 174, 175, 176, 15, 177, 69, 249, 250, 251, 252, 43, 253, 2, 254, 255, 256, 257, 258, 1356, 1357, 1358, 1359, 1360, 1361, 1362, 1363, 1364, 1365, 1382, 1383, 1384, 1385, 1386, 1387, 1388] (by decide +kernel) (by decide +kernel)
set_option maxRecDepth 20000 in
theorem gL_law_X5_unite : GoodIn wsL_law (wsV RL 48 RX5 yX5_unite wsX5_unite) := goodIn_app (goodIn_of _ (by decide +kernel)) ggL_law_X5_unite
set_option maxRecDepth 20000 in
theorem ggL_law_X6_unite : GoodIn wsL_law wsX6_unite := goodIn_r _ [262, 83, 183, 184, 185, 5, 186, 151, 152, 153, 154, 109, 110, 111, 263, 264, 265, 266, 267, 268, 269, 270, 1366, 1367, 1368, 1369, 1370, 1371, 1372, 1373, 1374, 1375, 1376, 1377, 1378, 1379, 1380, 1381] (by decide +kernel) (by decide +kernel)
set_option maxRecDepth 20000 in
theorem gL_law_X6_unite : GoodIn wsL_law (wsV RL 51 RX6 yX6_unite wsX6_unite) := goodIn_app (goodIn_of _ (by decide +kernel)) ggL_law_X6_unite
set_option maxRecDepth 20000 in
theorem ggL_law_X5_feed : GoodIn wsL_law wsX5_feed := goodIn_r _ [274, 21, 275, 276, 277, 278, 20, 279, 280, 51, 1356, 1357, 1358, 1359, 1360, 1361, 1362, 1363, 1364, 1365, 1389, 1390, 1391, 1392] (by decide +kernel) (by decide +kernel)
set_option maxRecDepth 20000 in
theorem gL_law_X5_feed : GoodIn wsL_law (wsV RL 52 RX5 yX5_feed wsX5_feed) := goodIn_app (goodIn_of _ (by decide +kernel)) ggL_law_X5_feed
set_option maxRecDepth 20000 in
theorem ggL_law_X6_feed : GoodIn wsL_law wsX6_feed := goodIn_r _ [284, 285, 286, 87, 109, 110, 5, 111, 1366, 1367, 1368, 1369, 1370, 1371, 1372, 1373, 1374, 1375, 1376, 1377, 1378, 1379, 1380, 1381] (by decide +kernel) (by decide +kernel)
set_option maxRecDepth 20000 in
theorem gL_law_X6_feed : GoodIn wsL_law (wsV RL 55 RX6 yX6_feed wsX6_feed) := goodIn_app (goodIn_of _ (by decide +kernel)) ggL_law_X6_feed
set_option maxRecDepth 20000 in
theorem ggL_law_X5_clear : GoodIn wsL_law wsX5_clear := goodIn_r _ [290, 21, 275, 291, 292, 293, 20, 294, 280, 1356, 1357, 1358, 1359, 1360, 1361, 1362, 1363, 1364, 1365, 1389, 1390, 1391, 1392] (by decide +kernel) (by decide +kernel)
set_option maxRecDepth 20000 in
theorem gL_law_X5_clear : GoodIn wsL_law (wsV RL 56 RX5 yX5_clear wsX5_clear) := goodIn_app (goodIn_of _ (by decide +kernel)) ggL_law_X5_clear
set_option maxRecDepth 20000 in
theorem ggL_law_X6_clear : GoodIn wsL_law wsX6_clear := goodIn_r _ [298, 286, 1366, 1367, 1368, 1369, 1370, 1371, 1372, 1373, 1374, 1375, 1376, 1377, 1378, 1379, 1380, 1381] (by decide +kernel) (by decide +kernel)
set_option maxRecDepth 20000 in
theorem gL_law_X6_clear : GoodIn wsL_law (wsV RL 60 RX6 yX6_clear wsX6_clear) := goodIn_app (goodIn_of _ (by decide +kernel)) ggL_law_X6_clear
set_option maxRecDepth 20000 in
theorem ggL_law_X5_read : GoodIn wsL_law wsX5_read := goodIn_r _ [302, 16, 116, 35, 303, 304, 305, 306, 21, 307, 117, 118, 2, 119, 308, 125, 126, 15, 127, 69, 309, 310, 311, 20, 312, 313, 280, 314, 315, 316, 317, 318, 319, 320, 321, 322, 323, 324, 325, 326, 327, 328, 329, 330, 51, 331, 332, 333, 334, 335, 336, 337, 338, 291, 292, 293, 294, 339, 340, 341, 342, 1356, 1357, 1358, 1359, 1360, 1361, 1362, 1363, 1364, 1365, 1382, 1383, 1384, 1385, 1386, 1387, 1388, 1389, 1390, 1391, 1392] (by decide +kernel) (by decide +kernel)
set_option maxRecDepth 20000 in
theorem gL_law_X5_read : GoodIn wsL_law (wsV RL 61 RX5 yX5_read wsX5_read) := goodIn_app (goodIn_of _ (by decide +kernel)) ggL_law_X5_read
set_option maxRecDepth 20000 in
theorem ggL_law_X6_read : GoodIn wsL_law wsX6_read := goodIn_r _ [346, 347, 286, 83, 88, 89, 139, 140, 5, 141, 142, 109, 110, 111, 348, 349, 350, 351, 352, 353, 354, 355, 356, 357, 358, 359, 360, 361, 362, 363, 87, 151, 152, 153, 154, 364, 365, 366, 367, 368, 1366, 1367, 1368, 1369, 1370, 1371, 1372, 1373, 1374, 1375, 1376, 1377, 1378, 1379, 1380, 1381] (by decide +kernel) (by decide +kernel)
set_option maxRecDepth 20000 in
theorem gL_law_X6_read : GoodIn wsL_law (wsV RL 64 RX6 yX6_read wsX6_read) := goodIn_app (goodIn_of _ (by decide +kernel)) ggL_law_X6_read
set_option maxRecDepth 20000 in
theorem ggL_law_X5_make : GoodIn wsL_law wsX5_make := goodIn_r _ [372, 16, 35, 117, 118, 2, 119, 308, 125, 126, 15, 127, 69, 373, 374, 375, 376, 71, 377, 220, 217, 221, 378, 379, 380, 381, 70, 382, 383, 384, 385, 42, 253, 254, 386, 387, 388, 389, 44, 213, 214, 215, 216, 218, 219, 390, 391, 392, 393, 394, 395, 396, 397, 398, 399, 400, 401, 339, 340, 341, 342, 116, 1356, 1357, 1358, 1359, 1360, 1361, 1362, 1363, 1364, 1365, 1382, 1383, 1384, 1385, 1386, 1387, 1388] (by decide +kernel) (by decide +kernel)
set_option maxRecDepth 20000 in
theorem gL_law_X5_make : GoodIn wsL_law (wsV RL 65 RX5 yX5_make wsX5_make) := goodIn_app (goodIn_of _ (by decide +kernel)) ggL_law_X5_make
set_option maxRecDepth 20000 in
theorem ggL_law_X6_make : GoodIn wsL_law wsX6_make := goodIn_r _ [405, 406, 83, 139, 140, 5, 141, 142, 109, 110, 111, 147, 148, 149, 150, 151, 152, 153, 154, 407, 408, 409, 410, 411, 412, 217, 413, 414, 415, 416, 417, 418, 419, 420, 421, 422, 423, 424, 425, 426, 427, 428, 231, 232, 233, 234, 216, 218, 235, 220, 221, 429, 430, 431, 432, 433, 434, 435, 436, 165, 166, 167, 168, 1366, 1367, 1368, 1369, 1370, 1371, 1372, 1373, 1374, 1375, 1376, 1377, 1378, 1379, 1380, 1381] (by decide +kernel) (by decide +kernel)
set_option maxRecDepth 20000 in
theorem gL_law_X6_make : GoodIn wsL_law (wsV RL 68 RX6 yX6_make wsX6_make) := goodIn_app (goodIn_of _ (by decide +kernel)) ggL_law_X6_make
set_option maxRecDepth 20000 in
theorem ggL_law_X5_pairs : GoodIn wsL_law wsX5_pairs := goodIn_r _ [440, 16, 35, 215, 216, 217, 218, 117, 118, 2, 119, 120, 121, 122, 15, 123, 124, 125, 126, 127, 69, 308, 441, 442, 443, 444, 445, 446, 447, 398, 399, 400, 401, 339, 340, 341, 342, 116, 1356, 1357, 1358, 1359, 1360, 1361, 1362, 1363, 1364, 1365, 1382, 1383, 1384, 1385, 1386, 1387, 1388] (by decide +kernel) (by decide +kernel)
set_option maxRecDepth 20000 in
theorem gL_law_X5_pairs : GoodIn wsL_law (wsV RL 69 RX5 yX5_pairs wsX5_pairs) := goodIn_app (goodIn_of _ (by decide +kernel)) ggL_law_X5_pairs
