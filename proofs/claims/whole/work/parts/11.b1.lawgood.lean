set_option maxRecDepth 20000 in
theorem ggL_law_X6_pairs : GoodIn wsL_law wsX6_pairs := goodIn_r _ [453, 84, 235, 217, 218, 219, 140, 141, 5, 142, 143, 110, 111, 112, 144, 145, 146, 147, 148, 149, 150, 151, 152, 153, 154, 155, 454, 455, 456, 435, 436, 437, 438, 166, 167, 168, 169, 1368, 1369, 1370, 1371, 1372, 1373, 1374, 1375, 1376, 1377, 1378, 1379, 1380, 1381, 1382, 1383] (by decide +kernel) (by decide +kernel)
set_option maxRecDepth 20000 in
theorem gL_law_X6_pairs : GoodIn wsL_law (wsV RL 72 RX6 yX6_pairs wsX6_pairs) := goodIn_app (goodIn_of _ (by decide +kernel)) ggL_law_X6_pairs
set_option maxRecDepth 20000 in
theorem ggL_law_X5_copy : GoodIn wsL_law wsX5_copy := goodIn_r _ [460, 16, 117, 35, 305, 306, 307, 308, 118, 119, 2, 120, 310, 126, 127, 15, 128, 69, 341, 342, 343, 344, 1358, 1359, 1360, 1361, 1362, 1363, 1364, 1365, 1366, 1367, 1384, 1385, 1386, 1387, 1388, 1389, 1390] (by decide +kernel) (by decide +kernel)
set_option maxRecDepth 20000 in
theorem gL_law_X5_copy : GoodIn wsL_law (wsV RL 73 RX5 yX5_copy wsX5_copy) := goodIn_app (goodIn_of _ (by decide +kernel)) ggL_law_X5_copy
set_option maxRecDepth 20000 in
theorem ggL_law_X6_copy : GoodIn wsL_law wsX6_copy := goodIn_r _ [464, 84, 140, 141, 5, 142, 143, 110, 111, 112, 148, 149, 150, 151, 152, 153, 154, 155, 166, 167, 168, 169, 1368, 1369, 1370, 1371, 1372, 1373, 1374, 1375, 1376, 1377, 1378, 1379, 1380, 1381, 1382, 1383] (by decide +kernel) (by decide +kernel)
set_option maxRecDepth 20000 in
theorem gL_law_X6_copy : GoodIn wsL_law (wsV RL 76 RX6 yX6_copy wsX6_copy) := goodIn_app (goodIn_of _ (by decide +kernel)) ggL_law_X6_copy
set_option maxRecDepth 20000 in
theorem ggL_law_X5_add : GoodIn wsL_law wsX5_add := goodIn_r _ [468, 33, 16, 35, 117, 118, 119, 2, 120, 469, 470, 471, 32, 472, 473, 310, 126, 127, 15, 128, 69, 474, 475, 476, 477, 478, 479, 480, 481, 482, 341, 342, 343, 344, 1358, 1359, 1360, 1361, 1362, 1363, 1364, 1365, 1366, 1367, 1384, 1385, 1386, 1387, 1388, 1389, 1390, 1399] (by decide +kernel) (by decide +kernel)
set_option maxRecDepth 20000 in
theorem gL_law_X5_add : GoodIn wsL_law (wsV RL 77 RX5 yX5_add wsX5_add) := goodIn_app (goodIn_of _ (by decide +kernel)) ggL_law_X5_add
set_option maxRecDepth 20000 in
theorem ggL_law_X6_add : GoodIn wsL_law wsX6_add := goodIn_r _ [486, 487, 86, 140, 141, 5, 142, 143, 110, 111, 112, 148, 149, 150, 151, 152, 153, 154, 155, 84, 166, 167, 168, 169, 488, 489, 490, 491, 492, 493, 494, 495, 496, 497, 498, 499, 1368, 1369, 1370, 1371, 1372, 1373, 1374, 1375, 1376, 1377, 1378, 1379, 1380, 1381, 1382, 1383] (by decide +kernel) (by decide +kernel)
set_option maxRecDepth 20000 in
theorem gL_law_X6_add : GoodIn wsL_law (wsV RL 80 RX6 yX6_add wsX6_add) := goodIn_app (goodIn_of _ (by decide +kernel)) ggL_law_X6_add
set_option maxRecDepth 20000 in
theorem ggL_law_X5_times : GoodIn wsL_law wsX5_times := goodIn_r _ [503, 33, 16, 35, 117, 118, 119, 2, 120, 469, 470, 471, 32, 472, 473, 310, 126, 127, 15, 128, 69, 504, 505, 506, 507, 508, 509, 478, 479, 480, 481, 482, 341, 342, 343, 344, 1358, 1359, 1360, 1361, 1362, 1363, 1364, 1365, 1366, 1367, 1384, 1385, 1386, 1387, 1388, 1389, 1390, 1399] (by decide +kernel) (by decide +kernel)
set_option maxRecDepth 20000 in
theorem gL_law_X5_times : GoodIn wsL_law (wsV RL 81 RX5 yX5_times wsX5_times) := goodIn_app (goodIn_of _ (by decide +kernel)) ggL_law_X5_times
set_option maxRecDepth 20000 in
theorem ggL_law_X6_times : GoodIn wsL_law wsX6_times := goodIn_r _ [513, 514, 183, 487, 86, 140, 141, 5, 142, 143, 110, 111, 112, 148, 149, 150, 151, 152, 153, 154, 155, 84, 166, 167, 168, 169, 515, 516, 517, 518, 519, 165, 492, 493, 494, 495, 496, 497, 498, 499, 1368, 1369, 1370, 1371, 1372, 1373, 1374, 1375, 1376, 1377, 1378, 1379, 1380, 1381, 1382, 1383] (by decide +kernel) (by decide +kernel)
set_option maxRecDepth 20000 in
theorem gL_law_X6_times : GoodIn wsL_law (wsV RL 84 RX6 yX6_times wsX6_times) := goodIn_app (goodIn_of _ (by decide +kernel)) ggL_law_X6_times
set_option maxRecDepth 20000 in
theorem ggL_law_X5_dual : GoodIn wsL_law wsX5_dual := goodIn_r _ [523, 16, 117, 33, 35, 118, 119, 2, 120, 524, 397, 398, 15, 399, 69, 469, 470, 471, 32, 472, 473, 525, 526, 527, 528, 478, 479, 480, 481, 482, 341, 342, 343, 344, 310, 126, 127, 128, 1358, 1359, 1360, 1361, 1362, 1363, 1364, 1365, 1366, 1367, 1384, 1385, 1386, 1387, 1388, 1389, 1390, 1399] (by decide +kernel) (by decide +kernel)
set_option maxRecDepth 20000 in
theorem gL_law_X5_dual : GoodIn wsL_law (wsV RL 85 RX5 yX5_dual wsX5_dual) := goodIn_app (goodIn_of _ (by decide +kernel)) ggL_law_X5_dual
set_option maxRecDepth 20000 in
theorem ggL_law_X6_dual : GoodIn wsL_law wsX6_dual := goodIn_r _ [532, 487, 86, 140, 141, 5, 142, 143, 110, 111, 112, 148, 149, 150, 151, 152, 153, 154, 155, 84, 166, 167, 168, 169, 533, 534, 535, 536, 492, 493, 494, 495, 496, 497, 498, 499, 1368, 1369, 1370, 1371, 1372, 1373, 1374, 1375, 1376, 1377, 1378, 1379, 1380, 1381, 1382, 1383] (by decide +kernel) (by decide +kernel)
set_option maxRecDepth 20000 in
theorem gL_law_X6_dual : GoodIn wsL_law (wsV RL 88 RX6 yX6_dual wsX6_dual) := goodIn_app (goodIn_of _ (by decide +kernel)) ggL_law_X6_dual
set_option maxRecDepth 20000 in
theorem ggL_law_X5_cover : GoodIn wsL_law wsX5_cover := goodIn_r _ [540, 33, 35, 16, 117, 482, 118, 119, 2, 120, 469, 470, 471, 32, 472, 473, 310, 126, 127, 15, 128, 69, 541, 542, 543, 544, 545, 414, 218, 415, 257, 258, 259, 260, 255, 256, 443, 444, 445, 446, 447, 448, 449, 546, 547, 548, 474, 475, 476, 477, 341, 342, 343, 344, 1358, 1359, 1360, 1361, 1362, 1363, 1364, 1365, 1366, 1367, 1384, 1385, 1386, 1387, 1388, 1389, 1390, 1399] (by decide +kernel) (by decide +kernel)
set_option maxRecDepth 20000 in
theorem gL_law_X5_cover : GoodIn wsL_law (wsV RL 89 RX5 yX5_cover wsX5_cover) := goodIn_app (goodIn_of _ (by decide +kernel)) ggL_law_X5_cover
set_option maxRecDepth 20000 in
theorem ggL_law_X6_cover : GoodIn wsL_law wsX6_cover := goodIn_r _ [552, 487, 86, 140, 141, 5, 142, 143, 110, 111, 112, 148, 149, 150, 151, 152, 153, 154, 155, 84, 553, 554, 555, 556, 413, 414, 218, 415, 166, 167, 168, 169, 488, 489, 490, 491, 496, 497, 498, 499, 1368, 1369, 1370, 1371, 1372, 1373, 1374, 1375, 1376, 1377, 1378, 1379, 1380, 1381, 1382, 1383] (by decide +kernel) (by decide +kernel)
set_option maxRecDepth 20000 in
theorem gL_law_X6_cover : GoodIn wsL_law (wsV RL 92 RX6 yX6_cover wsX6_cover) := goodIn_app (goodIn_of _ (by decide +kernel)) ggL_law_X6_cover
set_option maxRecDepth 20000 in
theorem ggL_law_X5_mask : GoodIn wsL_law wsX5_mask := goodIn_r _ [560, 16, 118, 119, 2, 120, 121, 122, 123, 15, 124, 125, 126, 127, 128, 69, 561, 562, 563, 564, 35, 117, 310, 341, 342, 343, 344, 1358, 1359, 1360, 1361, 1362, 1363, 1364, 1365, 1366, 1367, 1384, 1385, 1386, 1387, 1388, 1389, 1390] (by decide +kernel) (by decide +kernel)
set_option maxRecDepth 20000 in
theorem gL_law_X5_mask : GoodIn wsL_law (wsV RL 93 RX5 yX5_mask wsX5_mask) := goodIn_app (goodIn_of _ (by decide +kernel)) ggL_law_X5_mask
set_option maxRecDepth 20000 in
theorem ggL_law_X6_mask : GoodIn wsL_law wsX6_mask := goodIn_r _ [568, 487, 86, 140, 141, 5, 142, 143, 110, 111, 112, 144, 145, 146, 147, 148, 149, 150, 151, 152, 153, 154, 155, 84, 166, 167, 168, 169, 496, 497, 498, 499, 1368, 1369, 1370, 1371, 1372, 1373, 1374, 1375, 1376, 1377, 1378, 1379, 1380, 1381, 1382, 1383] (by decide +kernel) (by decide +kernel)
set_option maxRecDepth 20000 in
theorem gL_law_X6_mask : GoodIn wsL_law (wsV RL 96 RX6 yX6_mask wsX6_mask) := goodIn_app (goodIn_of _ (by decide +kernel)) ggL_law_X6_mask
set_option maxRecDepth 20000 in
theorem ggL_law_X5_unanimous : GoodIn wsL_law wsX5_unanimous := goodIn_r _ [572, 16, 33, 117, 35, 118, 119, 2, 120, 121, 122, 123, 15, 124, 125, 126, 127, 128, 69, 129, 130, 131, 132, 133, 469, 470, 471, 32, 472, 473, 310, 474, 475, 476, 477, 478, 479, 480, 481, 482, 341, 342, 343, 344, 1358, 1359, 1360, 1361, 1362, 1363, 1364, 1365, 1366, 1367, 1384, 1385, 1386, 1387, 1388, 1389, 1390, 1399] (by decide +kernel) (by decide +kernel)
set_option maxRecDepth 20000 in
theorem gL_law_X5_unanimous : GoodIn wsL_law (wsV RL 97 RX5 yX5_unanimous wsX5_unanimous) := goodIn_app (goodIn_of _ (by decide +kernel)) ggL_law_X5_unanimous
set_option maxRecDepth 20000 in
theorem ggL_law_X6_unanimous : GoodIn wsL_law wsX6_unanimous := goodIn_r _ [576, 138, 139, 487, 86, 140, 141, 5, 142, 143, 110, 111, 112, 144, 145, 146, 147, 148, 149, 150, 151, 152, 153, 154, 155, 84, 166, 167, 168, 169, 488, 489, 490, 491, 492, 493, 494, 495, 496, 497, 498, 499, 1368, 1369, 1370, 1371, 1372, 1373, 1374, 1375, 1376, 1377, 1378, 1379, 1380, 1381, 1382, 1383] (by decide +kernel) (by decide +kernel)
set_option maxRecDepth 20000 in
theorem gL_law_X6_unanimous : GoodIn wsL_law (wsV RL 100 RX6 yX6_unanimous wsX6_unanimous) := goodIn_app (goodIn_of _ (by decide +kernel)) ggL_law_X6_unanimous
set_option maxRecDepth 20000 in
theorem ggL_law_X5_without : GoodIn wsL_law wsX5_without := goodIn_r _ [580, 16, 118, 119, 2, 120, 175, 176, 177, 15, 178, 69, 524, 397, 398, 399, 561, 562, 563, 564, 35, 117, 310, 126, 127, 128, 341, 342, 343, 344, 1358, 1359, 1360, 1361, 1362, 1363, 1364, 1365, 1366, 1367, 1384, 1385, 1386, 1387, 1388, 1389, 1390] (by decide +kernel) (by decide +kernel)
set_option maxRecDepth 20000 in
theorem gL_law_X5_without : GoodIn wsL_law (wsV RL 101 RX5 yX5_without wsX5_without) := goodIn_app (goodIn_of _ (by decide +kernel)) ggL_law_X5_without
set_option maxRecDepth 20000 in
theorem ggL_law_X6_without : GoodIn wsL_law wsX6_without := goodIn_r _ [584, 487, 86, 140, 141, 5, 142, 143, 110, 111, 112, 184, 185, 186, 187, 152, 153, 154, 155, 84, 148, 149, 150, 151, 166, 167, 168, 169, 496, 497, 498, 499, 1368, 1369, 1370, 1371, 1372, 1373, 1374, 1375, 1376, 1377, 1378, 1379, 1380, 1381, 1382, 1383] (by decide +kernel) (by decide +kernel)
set_option maxRecDepth 20000 in
theorem gL_law_X6_without : GoodIn wsL_law (wsV RL 104 RX6 yX6_without wsX6_without) := goodIn_app (goodIn_of _ (by decide +kernel)) ggL_law_X6_without
set_option maxRecDepth 20000 in
theorem ggL_law_X5_join : GoodIn wsL_law wsX5_join := goodIn_r _ [588, 16, 35, 117, 118, 119, 2, 120, 208, 209, 210, 15, 211, 212, 176, 177, 178, 69, 310, 126, 127, 128, 260, 255, 256, 341, 342, 343, 344, 1358, 1359, 1360, 1361, 1362, 1363, 1364, 1365, 1366, 1367, 1384, 1385, 1386, 1387, 1388, 1389, 1390] (by decide +kernel) (by decide +kernel)
set_option maxRecDepth 20000 in
theorem gL_law_X5_join : GoodIn wsL_law (wsV RL 105 RX5 yX5_join wsX5_join) := goodIn_app (goodIn_of _ (by decide +kernel)) ggL_law_X5_join
set_option maxRecDepth 20000 in
theorem ggL_law_X6_join : GoodIn wsL_law wsX6_join := goodIn_r _ [592, 487, 86, 140, 141, 5, 142, 143, 110, 111, 112, 228, 229, 230, 231, 184, 185, 186, 187, 152, 153, 154, 155, 84, 148, 149, 150, 151, 424, 425, 426, 166, 167, 168, 169, 496, 497, 498, 499, 1368, 1369, 1370, 1371, 1372, 1373, 1374, 1375, 1376, 1377, 1378, 1379, 1380, 1381, 1382, 1383] (by decide +kernel) (by decide +kernel)
set_option maxRecDepth 20000 in
theorem gL_law_X6_join : GoodIn wsL_law (wsV RL 108 RX6 yX6_join wsX6_join) := goodIn_app (goodIn_of _ (by decide +kernel)) ggL_law_X6_join
set_option maxRecDepth 20000 in
theorem ggL_law_X5_swap : GoodIn wsL_law wsX5_swap := goodIn_r _ [596, 16, 35, 117, 118, 119, 2, 120, 175, 176, 177, 15, 178, 69, 310, 126, 127, 128, 260, 255, 256, 341, 342, 343, 344, 1358, 1359, 1360, 1361, 1362, 1363, 1364, 1365, 1366, 1367, 1384, 1385, 1386, 1387, 1388, 1389, 1390] (by decide +kernel) (by decide +kernel)
set_option maxRecDepth 20000 in
theorem gL_law_X5_swap : GoodIn wsL_law (wsV RL 109 RX5 yX5_swap wsX5_swap) := goodIn_app (goodIn_of _ (by decide +kernel)) ggL_law_X5_swap
set_option maxRecDepth 20000 in
theorem ggL_law_X6_swap : GoodIn wsL_law wsX6_swap := goodIn_r _ [600, 487, 86, 140, 141, 5, 142, 143, 110, 111, 112, 184, 185, 186, 187, 152, 153, 154, 155, 84, 148, 149, 150, 151, 424, 425, 426, 166, 167, 168, 169, 496, 497, 498, 499, 1368, 1369, 1370, 1371, 1372, 1373, 1374, 1375, 1376, 1377, 1378, 1379, 1380, 1381, 1382, 1383] (by decide +kernel) (by decide +kernel)
set_option maxRecDepth 20000 in
theorem gL_law_X6_swap : GoodIn wsL_law (wsV RL 112 RX6 yX6_swap wsX6_swap) := goodIn_app (goodIn_of _ (by decide +kernel)) ggL_law_X6_swap
set_option maxRecDepth 20000 in
theorem ggL_law_X5_differ : GoodIn wsL_law wsX5_differ := goodIn_r _ [604, 16, 117, 118, 119, 2, 120, 310, 126, 127, 15, 128, 69, 1358, 1359, 1360, 1361, 1362, 1363, 1364, 1365, 1366, 1367, 1384, 1385, 1386, 1387, 1388, 1389, 1390] (by decide +kernel) (by decide +kernel)
set_option maxRecDepth 20000 in
theorem gL_law_X5_differ : GoodIn wsL_law (wsV RL 113 RX5 yX5_differ wsX5_differ) := goodIn_app (goodIn_of _ (by decide +kernel)) ggL_law_X5_differ
set_option maxRecDepth 20000 in
theorem ggL_law_X6_differ : GoodIn wsL_law wsX6_differ := goodIn_r _ [608, 140, 141, 5, 142, 143, 110, 111, 112, 148, 149, 150, 151, 152, 153, 154, 155, 84, 166, 167, 168, 169, 1368, 1369, 1370, 1371, 1372, 1373, 1374, 1375, 1376, 1377, 1378, 1379, 1380, 1381, 1382, 1383] (by decide +kernel) (by decide +kernel)
set_option maxRecDepth 20000 in
theorem gL_law_X6_differ : GoodIn wsL_law (wsV RL 116 RX6 yX6_differ wsX6_differ) := goodIn_app (goodIn_of _ (by decide +kernel)) ggL_law_X6_differ
set_option maxRecDepth 20000 in
theorem ggL_law_X5_unlike : GoodIn wsL_law wsX5_unlike := goodIn_r _ [612, 16, 117, 118, 119, 2, 120, 310, 126, 127, 15, 128, 69, 613, 614, 615, 1358, 1359, 1360, 1361, 1362, 1363, 1364, 1365, 1366, 1367, 1384, 1385, 1386, 1387, 1388, 1389, 1390] (by decide +kernel) (by decide +kernel)
set_option maxRecDepth 20000 in
theorem gL_law_X5_unlike : GoodIn wsL_law (wsV RL 117 RX5 yX5_unlike wsX5_unlike) := goodIn_app (goodIn_of _ (by decide +kernel)) ggL_law_X5_unlike
set_option maxRecDepth 20000 in
theorem ggL_law_X6_unlike : GoodIn wsL_law wsX6_unlike := goodIn_r _ [619, 140, 141, 5, 142, 143, 110, 111, 112, 148, 149, 150, 151, 152, 153, 154, 155, 84, 166, 167, 168, 169, 1368, 1369, 1370, 1371, 1372, 1373, 1374, 1375, 1376, 1377, 1378, 1379, 1380, 1381, 1382, 1383] (by decide +kernel) (by decide +kernel)
set_option maxRecDepth 20000 in
theorem gL_law_X6_unlike : GoodIn wsL_law (wsV RL 120 RX6 yX6_unlike wsX6_unlike) := goodIn_app (goodIn_of _ (by decide +kernel)) ggL_law_X6_unlike
set_option maxRecDepth 20000 in
theorem ggL_law_X5_adds : GoodIn wsL_law wsX5_adds := goodIn_r _ [623, 16, 160, 33, 117, 482, 118, 119, 2, 120, 624, 625, 626, 627, 29, 309, 628, 629, 630, 28, 631, 61, 632, 633, 634, 635, 636, 637, 638, 639, 524, 397, 398, 15, 399, 69, 175, 176, 177, 178, 469, 470, 471, 32, 472, 473, 525, 526, 527, 528, 1358, 1359, 1360, 1361, 1362, 1363, 1364, 1365, 1366, 1367, 1384, 1385, 1386, 1387, 1388, 1389, 1390, 1399, 1397, 1398] (by decide +kernel) (by decide +kernel)
set_option maxRecDepth 20000 in
theorem gL_law_X5_adds : GoodIn wsL_law (wsV RL 121 RX5 yX5_adds wsX5_adds) := goodIn_app (goodIn_of _ (by decide +kernel)) ggL_law_X5_adds
set_option maxRecDepth 20000 in
theorem ggL_law_X6_adds : GoodIn wsL_law wsX6_adds := goodIn_r _ [643, 165, 487, 140, 141, 5, 142, 143, 110, 111, 112, 644, 645, 646, 152, 153, 154, 155, 84, 647, 648, 649, 650, 93, 651, 652, 653, 654, 92, 424, 425, 426, 655, 656, 657, 658, 166, 167, 168, 169, 533, 534, 535, 536, 1368, 1369, 1370, 1371, 1372, 1373, 1374, 1375, 1376, 1377, 1378, 1379, 1380, 1381, 1382, 1383] (by decide +kernel) (by decide +kernel)
set_option maxRecDepth 20000 in
theorem gL_law_X6_adds : GoodIn wsL_law (wsV RL 125 RX6 yX6_adds wsX6_adds) := goodIn_app (goodIn_of _ (by decide +kernel)) ggL_law_X6_adds
