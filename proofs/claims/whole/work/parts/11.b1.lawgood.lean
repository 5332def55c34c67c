set_option maxRecDepth 20000 in
theorem ggL_law_X6_pairs : GoodIn wsL_law wsX6_pairs := goodIn_r _ [451, 83, 234, 216, 217, 218, 139, 140, 5, 141, 142, 109, 110, 111, 143, 144, 145, 146, 147, 148, 149, 150, 151, 152, 153, 154, 452, 453, 454, 433, 434, 435, 436, 165, 166, 167, 168, 1366, 1367, 1368, 1369, 1370, 1371, 1372, 1373, 1374, 1375, 1376, 1377, 1378, 1379, 1380, 1381] (by decide +kernel) (by decide +kernel)
set_option maxRecDepth 20000 in
theorem gL_law_X6_pairs : GoodIn wsL_law (wsV RL 72 RX6 yX6_pairs wsX6_pairs) := goodIn_app (goodIn_of _ (by decide +kernel)) ggL_law_X6_pairs
set_option maxRecDepth 20000 in
theorem ggL_law_X5_copy : GoodIn wsL_law wsX5_copy := goodIn_r _ [458, 16, 116, 35, 303, 304, 305, 306, 117, 118, 2, 119, 308, 125, 126, 15, 127, 69, 339, 340, 341, 342, 1356, 1357, 1358, 1359, 1360, 1361, 1362, 1363, 1364, 1365, 1382, 1383, 1384, 1385, 1386, 1387, 1388] (by decide +kernel) (by decide +kernel)
set_option maxRecDepth 20000 in
theorem gL_law_X5_copy : GoodIn wsL_law (wsV RL 73 RX5 yX5_copy wsX5_copy) := goodIn_app (goodIn_of _ (by decide +kernel)) ggL_law_X5_copy
set_option maxRecDepth 20000 in
theorem ggL_law_X6_copy : GoodIn wsL_law wsX6_copy := goodIn_r _ [462, 83, 139, 140, 5, 141, 142, 109, 110, 111, 147, 148, 149, 150, 151, 152, 153, 154, 165, 166, 167, 168, 1366, 1367, 1368, 1369, 1370, 1371, 1372, 1373, 1374, 1375, 1376, 1377, 1378, 1379, 1380, 1381] (by decide +kernel) (by decide +kernel)
set_option maxRecDepth 20000 in
theorem gL_law_X6_copy : GoodIn wsL_law (wsV RL 76 RX6 yX6_copy wsX6_copy) := goodIn_app (goodIn_of _ (by decide +kernel)) ggL_law_X6_copy
set_option maxRecDepth 20000 in
theorem ggL_law_X5_add : GoodIn wsL_law wsX5_add := goodIn_r _ [466, 33, 16, 35, 116, 117, 118, 2, 119, 467, 468, 469, 32, 470, 471, 308, 125, 126, 15, 127, 69, 472, 473, 474, 475, 476, 477, 478, 479, 480, 339, 340, 341, 342, 1356, 1357, 1358, 1359, 1360, 1361, 1362, 1363, 1364, 1365, 1382, 1383, 1384, 1385, 1386, 1387, 1388, 1397] (by decide +kernel) (by decide +kernel)
set_option maxRecDepth 20000 in
theorem gL_law_X5_add : GoodIn wsL_law (wsV RL 77 RX5 yX5_add wsX5_add) := goodIn_app (goodIn_of _ (by decide +kernel)) ggL_law_X5_add
set_option maxRecDepth 20000 in
theorem ggL_law_X6_add : GoodIn wsL_law wsX6_add := goodIn_r _ [484, 485, 85, 139, 140, 5, 141, 142, 109, 110, 111, 147, 148, 149, 150, 151, 152, 153, 154, 83, 165, 166, 167, 168, 486, 487, 488, 489, 490, 491, 492, 493, 494, 495, 496, 497, 1366, 1367, 1368, 1369, 1370, 1371, 1372, 1373, 1374, 1375, 1376, 1377, 1378, 1379, 1380, 1381] (by decide +kernel) (by decide +kernel)
set_option maxRecDepth 20000 in
theorem gL_law_X6_add : GoodIn wsL_law (wsV RL 80 RX6 yX6_add wsX6_add) := goodIn_app (goodIn_of _ (by decide +kernel)) ggL_law_X6_add
set_option maxRecDepth 20000 in
theorem ggL_law_X5_times : GoodIn wsL_law wsX5_times := goodIn_r _ [501, 33, 16, 35, 116, 117, 118, 2, 119, 467, 468, 469, 32, 470, 471, 308, 125, 126, 15, 127, 69, 502, 503, 504, 505, 506, 507, 476, 477, 478, 479, 480, 339, 340, 341, 342, 1356, 1357, 1358, 1359, 1360, 1361, 1362, 1363, 1364, 1365, 1382, 1383, 1384, 1385, 1386, 1387, 1388, 1397] (by decide +kernel) (by decide +kernel)
set_option maxRecDepth 20000 in
theorem gL_law_X5_times : GoodIn wsL_law (wsV RL 81 RX5 yX5_times wsX5_times) := goodIn_app (goodIn_of _ (by decide +kernel)) ggL_law_X5_times
set_option maxRecDepth 20000 in
theorem ggL_law_X6_times : GoodIn wsL_law wsX6_times := goodIn_r _ [511, 512, 182, 485, 85, 139, 140, 5, 141, 142, 109, 110, 111, 147, 148, 149, 150, 151, 152, 153, 154, 83, 165, 166, 167, 168, 513, 514, 515, 516, 517, 164, 490, 491, 492, 493, 494, 495, 496, 497, 1366, 1367, 1368, 1369, 1370, 1371, 1372, 1373, 1374, 1375, 1376, 1377, 1378, 1379, 1380, 1381] (by decide +kernel) (by decide +kernel)
set_option maxRecDepth 20000 in
theorem gL_law_X6_times : GoodIn wsL_law (wsV RL 84 RX6 yX6_times wsX6_times) := goodIn_app (goodIn_of _ (by decide +kernel)) ggL_law_X6_times
set_option maxRecDepth 20000 in
theorem ggL_law_X5_dual : GoodIn wsL_law wsX5_dual := goodIn_r _ [521, 16, 116, 33, 35, 117, 118, 2, 119, 522, 395, 396, 15, 397, 69, 467, 468, 469, 32, 470, 471, 523, 524, 525, 526, 476, 477, 478, 479, 480, 339, 340, 341, 342, 308, 125, 126, 127, 1356, 1357, 1358, 1359, 1360, 1361, 1362, 1363, 1364, 1365, 1382, 1383, 1384, 1385, 1386, 1387, 1388, 1397] (by decide +kernel) (by decide +kernel)
set_option maxRecDepth 20000 in
theorem gL_law_X5_dual : GoodIn wsL_law (wsV RL 85 RX5 yX5_dual wsX5_dual) := goodIn_app (goodIn_of _ (by decide +kernel)) ggL_law_X5_dual
set_option maxRecDepth 20000 in
theorem ggL_law_X6_dual : GoodIn wsL_law wsX6_dual := goodIn_r _ [530, 485, 85, 139, 140, 5, 141, 142, 109, 110, 111, 147, 148, 149, 150, 151, 152, 153, 154, 83, 165, 166, 167, 168, 531, 532, 533, 534, 490, 491, 492, 493, 494, 495, 496, 497, 1366, 1367, 1368, 1369, 1370, 1371, 1372, 1373, 1374, 1375, 1376, 1377, 1378, 1379, 1380, 1381] (by decide +kernel) (by decide +kernel)
set_option maxRecDepth 20000 in
theorem gL_law_X6_dual : GoodIn wsL_law (wsV RL 88 RX6 yX6_dual wsX6_dual) := goodIn_app (goodIn_of _ (by decide +kernel)) ggL_law_X6_dual
set_option maxRecDepth 20000 in
theorem ggL_law_X5_cover : GoodIn wsL_law wsX5_cover := goodIn_r _ [538, 33, 35, 16, 116, 480, 117, 118, 2, 119, 467, 468, 469, 32, 470, 471, 308, 125, 126, 15, 127, 69, 539, 540, 541, 542, 543, 412, 217, 413, 255, 256, 257, 258, 253, 254, 441, 442, 443, 444, 445, 446, 447, 544, 545, 546, 472, 473, 474, 475, 339, 340, 341, 342, 1356, 1357, 1358, 1359, 1360, 1361, 1362, 1363, 1364, 1365, 1382, 1383, 1384, 1385, 1386, 1387, 1388, 1397] (by decide +kernel) (by decide +kernel)
set_option maxRecDepth 20000 in
theorem gL_law_X5_cover : GoodIn wsL_law (wsV RL 89 RX5 yX5_cover wsX5_cover) := goodIn_app (goodIn_of _ (by decide +kernel)) ggL_law_X5_cover
set_option maxRecDepth 20000 in
theorem ggL_law_X6_cover : GoodIn wsL_law wsX6_cover := goodIn_r _ [550, 485, 85, 139, 140, 5, 141, 142, 109, 110, 111, 147, 148, 149, 150, 151, 152, 153, 154, 83, 551, 552, 553, 554, 411, 412, 217, 413, 165, 166, 167, 168, 486, 487, 488, 489, 494, 495, 496, 497, 1366, 1367, 1368, 1369, 1370, 1371, 1372, 1373, 1374, 1375, 1376, 1377, 1378, 1379, 1380, 1381] (by decide +kernel) (by decide +kernel)
set_option maxRecDepth 20000 in
theorem gL_law_X6_cover : GoodIn wsL_law (wsV RL 92 RX6 yX6_cover wsX6_cover) := goodIn_app (goodIn_of _ (by decide +kernel)) ggL_law_X6_cover
set_option maxRecDepth 20000 in
theorem ggL_law_X5_mask : GoodIn wsL_law wsX5_mask := goodIn_r _ [558, 16, 117, 118, 2, 119, 120, 121, 122, 15, 123, 124, 125, 126, 127, 69, 559, 560, 561, 562, 35, 116, 308, 339, 340, 341, 342, 1356, 1357, 1358, 1359, 1360, 1361, 1362, 1363, 1364, 1365, 1382, 1383, 1384, 1385, 1386, 1387, 1388] (by decide +kernel) (by decide +kernel)
set_option maxRecDepth 20000 in
theorem gL_law_X5_mask : GoodIn wsL_law (wsV RL 93 RX5 yX5_mask wsX5_mask) := goodIn_app (goodIn_of _ (by decide +kernel)) ggL_law_X5_mask
set_option maxRecDepth 20000 in
theorem ggL_law_X6_mask : GoodIn wsL_law wsX6_mask := goodIn_r _ [566, 485, 85, 139, 140, 5, 141, 142, 109, 110, 111, 143, 144, 145, 146, 147, 148, 149, 150, 151, 152, 153, 154, 83, 165, 166, 167, 168, 494, 495, 496, 497, 1366, 1367, 1368, 1369, 1370, 1371, 1372, 1373, 1374, 1375, 1376, 1377, 1378, 1379, 1380, 1381] (by decide +kernel) (by decide +kernel)
set_option maxRecDepth 20000 in
theorem gL_law_X6_mask : GoodIn wsL_law (wsV RL 96 RX6 yX6_mask wsX6_mask) := goodIn_app (goodIn_of _ (by decide +kernel)) ggL_law_X6_mask
set_option maxRecDepth 20000 in
theorem ggL_law_X5_unanimous : GoodIn wsL_law wsX5_unanimous := goodIn_r _ [570, 16, 33, 116, 35, 117, 118, 2, 119, 120, 121, 122, 15, 123, 124, 125, 126, 127, 69, 128, 129, 130, 131, 132, 467, 468, 469, 32, 470, 471, 308, 472, 473, 474, 475, 476, 477, 478, 479, 480, 339, 340, 341, 342, 1356, 1357, 1358, 1359, 1360, 1361, 1362, 1363, 1364, 1365, 1382, 1383, 1384, 1385, 1386, 1387, 1388, 1397] (by decide +kernel) (by decide +kernel)
set_option maxRecDepth 20000 in
theorem gL_law_X5_unanimous : GoodIn wsL_law (wsV RL 97 RX5 yX5_unanimous wsX5_unanimous) := goodIn_app (goodIn_of _ (by decide +kernel)) ggL_law_X5_unanimous
set_option maxRecDepth 20000 in
theorem ggL_law_X6_unanimous : GoodIn wsL_law wsX6_unanimous := goodIn_r _ [574, 137, 138, 485, 85, 139, 140, 5, 141, 142, 109, 110, 111, 143, 144, 145, 146, 147, 148, 149, 150, 151, 152, 153, 154, 83, 165, 166, 167, 168, 486, 487, 488, 489, 490, 491, 492, 493, 494, 495, 496, 497, 1366, 1367, 1368, 1369, 1370, 1371, 1372, 1373, 1374, 1375, 1376, 1377, 1378, 1379, 1380, 1381] (by decide +kernel) (by decide +kernel)
set_option maxRecDepth 20000 in
theorem gL_law_X6_unanimous : GoodIn wsL_law (wsV RL 100 RX6 yX6_unanimous wsX6_unanimous) := goodIn_app (goodIn_of _ (by decide +kernel)) ggL_law_X6_unanimous
set_option maxRecDepth 20000 in
theorem ggL_law_X5_without : GoodIn wsL_law wsX5_without := goodIn_r _ [578, 16, 117, 118, 2, 119, 174, 175, 176, 15, 177, 69, 522, 395, 396, 397, 559, 560, 561, 562, 35, 116, 308, 125, 126, 127, 339, 340, 341, 342, 1356, 1357, 1358, 1359, 1360, 1361, 1362, 1363, 1364, 1365, 1382, 1383, 1384, 1385, 1386, 1387, 1388] (by decide +kernel) (by decide +kernel)
set_option maxRecDepth 20000 in
theorem gL_law_X5_without : GoodIn wsL_law (wsV RL 101 RX5 yX5_without wsX5_without) := goodIn_app (goodIn_of _ (by decide +kernel)) ggL_law_X5_without
set_option maxRecDepth 20000 in
theorem ggL_law_X6_without : GoodIn wsL_law wsX6_without := goodIn_r _ [582, 485, 85, 139, 140, 5, 141, 142, 109, 110, 111, 183, 184, 185, 186, 151, 152, 153, 154, 83, 147, 148, 149, 150, 165, 166, 167, 168, 494, 495, 496, 497, 1366, 1367, 1368, 1369, 1370, 1371, 1372, 1373, 1374, 1375, 1376, 1377, 1378, 1379, 1380, 1381] (by decide +kernel) (by decide +kernel)
set_option maxRecDepth 20000 in
theorem gL_law_X6_without : GoodIn wsL_law (wsV RL 104 RX6 yX6_without wsX6_without) := goodIn_app (goodIn_of _ (by decide +kernel)) ggL_law_X6_without
set_option maxRecDepth 20000 in
theorem ggL_law_X5_join : GoodIn wsL_law wsX5_join := goodIn_r _ [586, 16, 35, 116, 117, 118, 2, 119, 207, 208, 209, 15, 210, 211, 175, 176, 177, 69, 308, 125, 126, 127, 258, 253, 254, 339, 340, 341, 342, 1356, 1357, 1358, 1359, 1360, 1361, 1362, 1363, 1364, 1365, 1382, 1383, 1384, 1385, 1386, 1387, 1388] (by decide +kernel) (by decide +kernel)
set_option maxRecDepth 20000 in
theorem gL_law_X5_join : GoodIn wsL_law (wsV RL 105 RX5 yX5_join wsX5_join) := goodIn_app (goodIn_of _ (by decide +kernel)) ggL_law_X5_join
set_option maxRecDepth 20000 in
theorem ggL_law_X6_join : GoodIn wsL_law wsX6_join := goodIn_r _ [590, 485, 85, 139, 140, 5, 141, 142, 109, 110, 111, 227, 228, 229, 230, 183, 184, 185, 186, 151, 152, 153, 154, 83, 147, 148, 149, 150, 422, 423, 424, 165, 166, 167, 168, 494, 495, 496, 497, 1366, 1367, 1368, 1369, 1370, 1371, 1372, 1373, 1374, 1375, 1376, 1377, 1378, 1379, 1380, 1381] (by decide +kernel) (by decide +kernel)
set_option maxRecDepth 20000 in
theorem gL_law_X6_join : GoodIn wsL_law (wsV RL 108 RX6 yX6_join wsX6_join) := goodIn_app (goodIn_of _ (by decide +kernel)) ggL_law_X6_join
set_option maxRecDepth 20000 in
theorem ggL_law_X5_swap : GoodIn wsL_law wsX5_swap := goodIn_r _ [594, 16, 35, 116, 117, 118, 2, 119, 174, 175, 176, 15, 177, 69, 308, 125, 126, 127, 258, 253, 254, 339, 340, 341, 342, 1356, 1357, 1358, 1359, 1360, 1361, 1362, 1363, 1364, 1365, 1382, 1383, 1384, 1385, 1386, 1387, 1388] (by decide +kernel) (by decide +kernel)
set_option maxRecDepth 20000 in
theorem gL_law_X5_swap : GoodIn wsL_law (wsV RL 109 RX5 yX5_swap wsX5_swap) := goodIn_app (goodIn_of _ (by decide +kernel)) ggL_law_X5_swap
set_option maxRecDepth 20000 in
theorem ggL_law_X6_swap : GoodIn wsL_law wsX6_swap := goodIn_r _ [598, 485, 85, 139, 140, 5, 141, 142, 109, 110, 111, 183, 184, 185, 186, 151, 152, 153, 154, 83, 147, 148, 149, 150, 422, 423, 424, 165, 166, 167, 168, 494, 495, 496, 497, 1366, 1367, 1368, 1369, 1370, 1371, 1372, 1373, 1374, 1375, 1376, 1377, 1378, 1379, 1380, 1381] (by decide +kernel) (by decide +kernel)
set_option maxRecDepth 20000 in
theorem gL_law_X6_swap : GoodIn wsL_law (wsV RL 112 RX6 yX6_swap wsX6_swap) := goodIn_app (goodIn_of _ (by decide +kernel)) ggL_law_X6_swap
set_option maxRecDepth 20000 in
theorem ggL_law_X5_differ : GoodIn wsL_law wsX5_differ := goodIn_r _ [602, 16, 116, 117, 118, 2, 119, 308, 125, 126, 15, 127, 69, 1356, 1357, 1358, 1359, 1360, 1361, 1362, 1363, 1364, 1365, 1382, 1383, 1384, 1385, 1386, 1387, 1388] (by decide +kernel) (by decide +kernel)
set_option maxRecDepth 20000 in
theorem gL_law_X5_differ : GoodIn wsL_law (wsV RL 113 RX5 yX5_differ wsX5_differ) := goodIn_app (goodIn_of _ (by decide +kernel)) ggL_law_X5_differ
set_option maxRecDepth 20000 in
theorem ggL_law_X6_differ : GoodIn wsL_law wsX6_differ := goodIn_r _ [606, 139, 140, 5, 141, 142, 109, 110, 111, 147, 148, 149, 150, 151, 152, 153, 154, 83, 165, 166, 167, 168, 1366, 1367, 1368, 1369, 1370, 1371, 1372, 1373, 1374, 1375, 1376, 1377, 1378, 1379, 1380, 1381] (by decide +kernel) (by decide +kernel)
set_option maxRecDepth 20000 in
theorem gL_law_X6_differ : GoodIn wsL_law (wsV RL 116 RX6 yX6_differ wsX6_differ) := goodIn_app (goodIn_of _ (by decide +kernel)) ggL_law_X6_differ
set_option maxRecDepth 20000 in
theorem ggL_law_X5_unlike : GoodIn wsL_law wsX5_unlike := goodIn_r _ [610, 16, 116, 117, 118, 2, 119, 308, 125, 126, 15, 127, 69, 611, 612, 613, 1356, 1357, 1358, 1359, 1360, 1361, 1362, 1363, 1364, 1365, 1382, 1383, 1384, 1385, 1386, 1387, 1388] (by decide +kernel) (by decide +kernel)
set_option maxRecDepth 20000 in
theorem gL_law_X5_unlike : GoodIn wsL_law (wsV RL 117 RX5 yX5_unlike wsX5_unlike) := goodIn_app (goodIn_of _ (by decide +kernel)) ggL_law_X5_unlike
set_option maxRecDepth 20000 in
theorem ggL_law_X6_unlike : GoodIn wsL_law wsX6_unlike := goodIn_r _ [617, 139, 140, 5, 141, 142, 109, 110, 111, 147, 148, 149, 150, 151, 152, 153, 154, 83, 165, 166, 167, 168, 1366, 1367, 1368, 1369, 1370, 1371, 1372, 1373, 1374, 1375, 1376, 1377, 1378, 1379, 1380, 1381] (by decide +kernel) (by decide +kernel)
set_option maxRecDepth 20000 in
theorem gL_law_X6_unlike : GoodIn wsL_law (wsV RL 120 RX6 yX6_unlike wsX6_unlike) := goodIn_app (goodIn_of _ (by decide +kernel)) ggL_law_X6_unlike
set_option maxRecDepth 20000 in
theorem ggL_law_X5_adds : GoodIn wsL_law wsX5_adds := goodIn_r _ [621, 16, 159, 33, 116, 480, 117, 118, 2, 119, 622, 623, 624, 625, 29, 307, 626, 627, 628, 28, 629, 61, 630, 631, 632, 633, 634, 635, 636, 637, 522, 395, 396, 15, 397, 69, 174, 175, 176, 177, 467, 468, 469, 32, 470, 471, 523, 524, 525, 526, 1356, 1357, 1358, 1359, 1360, 1361, 1362, 1363, 1364, 1365, 1382, 1383, 1384, 1385, 1386, 1387, 1388, 1397, 1395, 1396] (by decide +kernel) (by decide +kernel)
set_option maxRecDepth 20000 in
theorem gL_law_X5_adds : GoodIn wsL_law (wsV RL 121 RX5 yX5_adds wsX5_adds) := goodIn_app (goodIn_of _ (by decide +kernel)) ggL_law_X5_adds
set_option maxRecDepth 20000 in
theorem ggL_law_X6_adds : GoodIn wsL_law wsX6_adds := goodIn_r _ [641, 164, 485, 139, 140, 5, 141, 142, 109, 110, 111, 642, 643, 644, 151, 152, 153, 154, 83, 645, 646, 647, 648, 92, 649, 650, 651, 652, 91, 422, 423, 424, 653, 654, 655, 656, 165, 166, 167, 168, 531, 532, 533, 534, 1366, 1367, 1368, 1369, 1370, 1371, 1372, 1373, 1374, 1375, 1376, 1377, 1378, 1379, 1380, 1381] (by decide +kernel) (by decide +kernel)
set_option maxRecDepth 20000 in
theorem gL_law_X6_adds : GoodIn wsL_law (wsV RL 125 RX6 yX6_adds wsX6_adds) := goodIn_app (goodIn_of _ (by decide +kernel)) ggL_law_X6_adds
