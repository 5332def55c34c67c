set_option maxRecDepth 20000 in
theorem ggL_law_X5_pivot : GoodIn wsL_law wsX5_pivot := goodIn_r _ [662, 16, 309, 663, 632, 2, 633, 624, 625, 626, 627, 29, 628, 629, 630, 28, 631, 61, 634, 635, 636, 637, 638, 639, 524, 397, 398, 15, 399, 69, 664, 665, 666, 667, 255, 256, 380, 381, 382, 383, 70, 384, 385, 386, 387, 42, 1358, 1359, 1360, 1361, 1362, 1363, 1364, 1365, 1366, 1367, 1384, 1385, 1386, 1387, 1388, 1389, 1390, 1397, 1398] (by decide +kernel) (by decide +kernel)
set_option maxRecDepth 20000 in
theorem gL_law_X5_pivot : GoodIn wsL_law (wsV RL 126 RX5 yX5_pivot wsX5_pivot) := goodIn_app (goodIn_of _ (by decide +kernel)) ggL_law_X5_pivot
set_option maxRecDepth 20000 in
theorem ggL_law_X6_pivot : GoodIn wsL_law wsX6_pivot := goodIn_r _ [671, 93, 644, 645, 5, 646, 143, 110, 111, 112, 647, 648, 649, 650, 651, 652, 653, 654, 92, 152, 153, 154, 155, 84, 424, 425, 426, 655, 656, 657, 658, 416, 417, 418, 419, 420, 421, 422, 423, 1368, 1369, 1370, 1371, 1372, 1373, 1374, 1375, 1376, 1377, 1378, 1379, 1380, 1381, 1382, 1383] (by decide +kernel) (by decide +kernel)
set_option maxRecDepth 20000 in
theorem gL_law_X6_pivot : GoodIn wsL_law (wsV RL 129 RX6 yX6_pivot wsX6_pivot) := goodIn_app (goodIn_of _ (by decide +kernel)) ggL_law_X6_pivot
set_option maxRecDepth 20000 in
theorem ggL_law_X5_share : GoodIn wsL_law wsX5_share := goodIn_r _ [675, 16, 160, 33, 117, 482, 309, 118, 119, 2, 120, 175, 176, 177, 15, 178, 69, 676, 677, 678, 469, 470, 471, 32, 472, 473, 679, 680, 681, 682, 310, 126, 127, 128, 260, 255, 256, 683, 684, 685, 686, 525, 526, 527, 528, 687, 688, 689, 690, 443, 444, 445, 446, 447, 448, 449, 691, 692, 693, 694, 504, 505, 506, 507, 508, 509, 474, 475, 476, 477, 695, 696, 697, 698, 699, 700, 701, 702, 218, 703, 1358, 1359, 1360, 1361, 1362, 1363, 1364, 1365, 1366, 1367, 1384, 1385, 1386, 1387, 1388, 1389, 1390, 1399] (by decide +kernel) (by decide +kernel)
set_option maxRecDepth 20000 in
theorem gL_law_X5_share : GoodIn wsL_law (wsV RL 130 RX5 yX5_share wsX5_share) := goodIn_app (goodIn_of _ (by decide +kernel)) ggL_law_X5_share
set_option maxRecDepth 20000 in
theorem ggL_law_X6_share : GoodIn wsL_law wsX6_share := goodIn_r _ [707, 165, 487, 708, 87, 140, 141, 5, 142, 143, 110, 111, 112, 184, 185, 186, 187, 152, 153, 154, 155, 84, 709, 710, 711, 712, 148, 149, 150, 151, 424, 425, 426, 713, 714, 715, 716, 166, 167, 168, 169, 533, 534, 535, 536, 454, 455, 456, 515, 516, 517, 518, 519, 488, 489, 490, 491, 717, 718, 719, 720, 721, 722, 1368, 1369, 1370, 1371, 1372, 1373, 1374, 1375, 1376, 1377, 1378, 1379, 1380, 1381, 1382, 1383] (by decide +kernel) (by decide +kernel)
set_option maxRecDepth 20000 in
theorem gL_law_X6_share : GoodIn wsL_law (wsV RL 134 RX6 yX6_share wsX6_share) := goodIn_app (goodIn_of _ (by decide +kernel)) ggL_law_X6_share
set_option maxRecDepth 20000 in
theorem ggL_law_X5_power : GoodIn wsL_law wsX5_power := goodIn_r _ [726, 16, 160, 117, 33, 482, 118, 119, 2, 120, 175, 176, 177, 15, 178, 69, 469, 470, 471, 32, 472, 473, 310, 126, 127, 128, 260, 255, 256, 683, 684, 685, 686, 525, 526, 527, 528, 474, 475, 476, 477, 1358, 1359, 1360, 1361, 1362, 1363, 1364, 1365, 1366, 1367, 1384, 1385, 1386, 1387, 1388, 1389, 1390, 1399] (by decide +kernel) (by decide +kernel)
set_option maxRecDepth 20000 in
theorem gL_law_X5_power : GoodIn wsL_law (wsV RL 135 RX5 yX5_power wsX5_power) := goodIn_app (goodIn_of _ (by decide +kernel)) ggL_law_X5_power
set_option maxRecDepth 20000 in
theorem ggL_law_X6_power : GoodIn wsL_law wsX6_power := goodIn_r _ [730, 165, 487, 140, 141, 5, 142, 143, 110, 111, 112, 184, 185, 186, 187, 152, 153, 154, 155, 84, 148, 149, 150, 151, 424, 425, 426, 713, 714, 715, 716, 166, 167, 168, 169, 533, 534, 535, 536, 488, 489, 490, 491, 1368, 1369, 1370, 1371, 1372, 1373, 1374, 1375, 1376, 1377, 1378, 1379, 1380, 1381, 1382, 1383] (by decide +kernel) (by decide +kernel)
set_option maxRecDepth 20000 in
theorem gL_law_X6_power : GoodIn wsL_law (wsV RL 138 RX6 yX6_power wsX6_power) := goodIn_app (goodIn_of _ (by decide +kernel)) ggL_law_X6_power
set_option maxRecDepth 20000 in
theorem ggL_law_X5_owen : GoodIn wsL_law wsX5_owen := goodIn_r _ [734, 16, 160, 33, 117, 250, 482, 118, 119, 2, 120, 175, 176, 177, 15, 178, 69, 676, 677, 678, 469, 470, 471, 32, 472, 473, 735, 736, 737, 738, 443, 444, 445, 446, 447, 448, 449, 739, 740, 741, 742, 43, 258, 259, 260, 255, 256, 310, 126, 127, 128, 743, 744, 745, 746, 691, 692, 693, 694, 683, 684, 685, 686, 525, 526, 527, 528, 504, 505, 506, 507, 508, 509, 474, 475, 476, 477, 695, 696, 697, 698, 699, 700, 701, 702, 218, 703, 1358, 1359, 1360, 1361, 1362, 1363, 1364, 1365, 1366, 1367, 1384, 1385, 1386, 1387, 1388, 1389, 1390, 1399] (by decide +kernel) (by decide +kernel)
set_option maxRecDepth 20000 in
theorem gL_law_X5_owen : GoodIn wsL_law (wsV RL 139 RX5 yX5_owen wsX5_owen) := goodIn_app (goodIn_of _ (by decide +kernel)) ggL_law_X5_owen
set_option maxRecDepth 20000 in
theorem ggL_law_X6_owen : GoodIn wsL_law wsX6_owen := goodIn_r _ [750, 165, 487, 87, 140, 141, 5, 142, 143, 110, 111, 112, 184, 185, 186, 187, 152, 153, 154, 155, 84, 265, 266, 267, 268, 148, 149, 150, 151, 424, 425, 426, 751, 752, 753, 754, 755, 756, 757, 758, 713, 714, 715, 716, 166, 167, 168, 169, 533, 534, 535, 536, 759, 760, 761, 762, 454, 455, 456, 763, 764, 765, 766, 515, 516, 517, 518, 519, 488, 489, 490, 491, 717, 718, 719, 720, 721, 722, 1368, 1369, 1370, 1371, 1372, 1373, 1374, 1375, 1376, 1377, 1378, 1379, 1380, 1381, 1382, 1383] (by decide +kernel) (by decide +kernel)
set_option maxRecDepth 20000 in
theorem gL_law_X6_owen : GoodIn wsL_law (wsV RL 142 RX6 yX6_owen wsX6_owen) := goodIn_app (goodIn_of _ (by decide +kernel)) ggL_law_X6_owen
set_option maxRecDepth 20000 in
theorem ggL_law_X5_dividend : GoodIn wsL_law wsX5_dividend := goodIn_r _ [770, 16, 160, 33, 35, 117, 482, 118, 119, 2, 120, 121, 122, 123, 15, 124, 125, 126, 127, 128, 69, 469, 470, 471, 32, 472, 473, 443, 444, 445, 446, 447, 448, 449, 546, 547, 548, 771, 772, 773, 774, 525, 526, 527, 528, 1358, 1359, 1360, 1361, 1362, 1363, 1364, 1365, 1366, 1367, 1384, 1385, 1386, 1387, 1388, 1389, 1390, 1399] (by decide +kernel) (by decide +kernel)
set_option maxRecDepth 20000 in
theorem gL_law_X5_dividend : GoodIn wsL_law (wsV RL 143 RX5 yX5_dividend wsX5_dividend) := goodIn_app (goodIn_of _ (by decide +kernel)) ggL_law_X5_dividend
set_option maxRecDepth 20000 in
theorem ggL_law_X6_dividend : GoodIn wsL_law wsX6_dividend := goodIn_r _ [778, 165, 487, 86, 140, 141, 5, 142, 143, 110, 111, 112, 144, 145, 146, 147, 148, 149, 150, 151, 152, 153, 154, 155, 84, 779, 780, 781, 782, 166, 167, 168, 169, 533, 534, 535, 536, 1368, 1369, 1370, 1371, 1372, 1373, 1374, 1375, 1376, 1377, 1378, 1379, 1380, 1381, 1382, 1383] (by decide +kernel) (by decide +kernel)
set_option maxRecDepth 20000 in
theorem gL_law_X6_dividend : GoodIn wsL_law (wsV RL 146 RX6 yX6_dividend wsX6_dividend) := goodIn_app (goodIn_of _ (by decide +kernel)) ggL_law_X6_dividend
set_option maxRecDepth 20000 in
theorem ggL_law_X5_swings : GoodIn wsL_law wsX5_swings := goodIn_r _ [786, 16, 175, 176, 177, 15, 178, 69, 787, 788, 789, 2, 790, 310, 126, 127, 128, 664, 665, 666, 667, 255, 256, 380, 381, 382, 383, 70, 384, 385, 386, 387, 42, 791, 792, 793, 794, 174, 196, 38, 795, 796, 797, 798, 309, 799, 74, 75, 76, 1358, 1359, 1360, 1361, 1362, 1363, 1364, 1365, 1366, 1367, 1384, 1385, 1386, 1387, 1388, 1389, 1390] (by decide +kernel) (by decide +kernel)
set_option maxRecDepth 20000 in
theorem gL_law_X5_swings : GoodIn wsL_law (wsV RL 147 RX5 yX5_swings wsX5_swings) := goodIn_app (goodIn_of _ (by decide +kernel)) ggL_law_X5_swings
set_option maxRecDepth 20000 in
theorem ggL_law_X6_swings : GoodIn wsL_law wsX6_swings := goodIn_r _ [803, 184, 185, 186, 5, 187, 152, 153, 154, 155, 84, 110, 111, 112, 148, 149, 150, 151, 804, 805, 806, 807, 424, 425, 426, 416, 417, 418, 419, 420, 421, 422, 423, 1368, 1369, 1370, 1371, 1372, 1373, 1374, 1375, 1376, 1377, 1378, 1379, 1380, 1381, 1382, 1383] (by decide +kernel) (by decide +kernel)
set_option maxRecDepth 20000 in
theorem gL_law_X6_swings : GoodIn wsL_law (wsV RL 150 RX6 yX6_swings wsX6_swings) := goodIn_app (goodIn_of _ (by decide +kernel)) ggL_law_X6_swings
set_option maxRecDepth 20000 in
theorem ggL_law_X5_pivots : GoodIn wsL_law wsX5_pivots := goodIn_r _ [811, 16, 160, 309, 175, 176, 177, 15, 178, 69, 676, 677, 2, 678, 310, 126, 127, 128, 664, 665, 666, 667, 255, 256, 380, 381, 382, 383, 70, 384, 385, 386, 387, 42, 687, 688, 689, 690, 443, 444, 445, 446, 447, 448, 449, 691, 692, 693, 694, 695, 696, 697, 698, 699, 700, 701, 702, 218, 703, 1358, 1359, 1360, 1361, 1362, 1363, 1364, 1365, 1366, 1367, 1384, 1385, 1386, 1387, 1388, 1389, 1390] (by decide +kernel) (by decide +kernel)
set_option maxRecDepth 20000 in
theorem gL_law_X5_pivots : GoodIn wsL_law (wsV RL 151 RX5 yX5_pivots wsX5_pivots) := goodIn_app (goodIn_of _ (by decide +kernel)) ggL_law_X5_pivots
set_option maxRecDepth 20000 in
theorem ggL_law_X6_pivots : GoodIn wsL_law wsX6_pivots := goodIn_r _ [815, 165, 87, 184, 185, 186, 5, 187, 152, 153, 154, 155, 84, 110, 111, 112, 148, 149, 150, 151, 804, 805, 806, 807, 424, 425, 426, 416, 417, 418, 419, 420, 421, 422, 423, 454, 455, 456, 717, 718, 719, 720, 721, 722, 1368, 1369, 1370, 1371, 1372, 1373, 1374, 1375, 1376, 1377, 1378, 1379, 1380, 1381, 1382, 1383] (by decide +kernel) (by decide +kernel)
set_option maxRecDepth 20000 in
theorem gL_law_X6_pivots : GoodIn wsL_law (wsV RL 154 RX6 yX6_pivots wsX6_pivots) := goodIn_app (goodIn_of _ (by decide +kernel)) ggL_law_X6_pivots
set_option maxRecDepth 20000 in
theorem ggL_law_X5_holder : GoodIn wsL_law wsX5_holder := goodIn_r _ [819, 16, 160, 820, 175, 176, 177, 15, 178, 69, 676, 677, 2, 678, 310, 126, 127, 128, 821, 822, 823, 824, 380, 381, 382, 383, 70, 384, 385, 386, 387, 42, 255, 256, 260, 443, 444, 445, 446, 447, 448, 449, 695, 696, 697, 698, 699, 700, 701, 702, 218, 703, 1358, 1359, 1360, 1361, 1362, 1363, 1364, 1365, 1366, 1367, 1384, 1385, 1386, 1387, 1388, 1389, 1390] (by decide +kernel) (by decide +kernel)
set_option maxRecDepth 20000 in
theorem gL_law_X5_holder : GoodIn wsL_law (wsV RL 155 RX5 yX5_holder wsX5_holder) := goodIn_app (goodIn_of _ (by decide +kernel)) ggL_law_X5_holder
set_option maxRecDepth 20000 in
theorem ggL_law_X6_holder : GoodIn wsL_law wsX6_holder := goodIn_r _ [828, 165, 87, 184, 185, 186, 5, 187, 152, 153, 154, 155, 84, 110, 111, 112, 148, 149, 150, 151, 829, 830, 831, 832, 416, 417, 418, 419, 420, 421, 422, 423, 424, 425, 426, 454, 455, 456, 717, 718, 719, 720, 721, 722, 1368, 1369, 1370, 1371, 1372, 1373, 1374, 1375, 1376, 1377, 1378, 1379, 1380, 1381, 1382, 1383] (by decide +kernel) (by decide +kernel)
set_option maxRecDepth 20000 in
theorem gL_law_X6_holder : GoodIn wsL_law (wsV RL 158 RX6 yX6_holder wsX6_holder) := goodIn_app (goodIn_of _ (by decide +kernel)) ggL_law_X6_holder
set_option maxRecDepth 20000 in
theorem ggL_law_X5_votes : GoodIn wsL_law wsX5_votes := goodIn_r _ [836, 837, 838, 839, 2, 840, 16, 310, 126, 127, 15, 128, 69, 841, 381, 382, 383, 70, 384, 385, 386, 387, 42, 255, 256, 842, 843, 844, 845, 821, 822, 823, 824, 380, 846, 847, 848, 849, 443, 444, 445, 446, 447, 448, 449, 1358, 1359, 1360, 1361, 1362, 1363, 1364, 1365, 1366, 1367, 1384, 1385, 1386, 1387, 1388, 1389, 1390] (by decide +kernel) (by decide +kernel)
set_option maxRecDepth 20000 in
theorem gL_law_X5_votes : GoodIn wsL_law (wsV RL 159 RX5 yX5_votes wsX5_votes) := goodIn_app (goodIn_of _ (by decide +kernel)) ggL_law_X5_votes
set_option maxRecDepth 20000 in
theorem ggL_law_X6_votes : GoodIn wsL_law wsX6_votes := goodIn_r _ [853, 854, 110, 111, 5, 112, 148, 149, 150, 151, 152, 153, 154, 155, 84, 416, 417, 418, 419, 420, 421, 422, 423, 424, 425, 426, 829, 830, 831, 832, 454, 455, 456, 1368, 1369, 1370, 1371, 1372, 1373, 1374, 1375, 1376, 1377, 1378, 1379, 1380, 1381, 1382, 1383] (by decide +kernel) (by decide +kernel)
set_option maxRecDepth 20000 in
theorem gL_law_X6_votes : GoodIn wsL_law (wsV RL 162 RX6 yX6_votes wsX6_votes) := goodIn_app (goodIn_of _ (by decide +kernel)) ggL_law_X6_votes
set_option maxRecDepth 20000 in
theorem ggL_law_X5_kind : GoodIn wsL_law wsX5_kind := goodIn_r _ [858, 16, 309, 117, 118, 119, 2, 120, 859, 860, 861, 862, 863, 864, 865, 866, 33, 482, 310, 126, 127, 15, 128, 69, 260, 255, 256, 469, 470, 471, 32, 472, 473, 683, 684, 685, 686, 525, 526, 527, 528, 867, 868, 869, 870, 1358, 1359, 1360, 1361, 1362, 1363, 1364, 1365, 1366, 1367, 1384, 1385, 1386, 1387, 1388, 1389, 1390, 1399] (by decide +kernel) (by decide +kernel)
set_option maxRecDepth 20000 in
theorem gL_law_X5_kind : GoodIn wsL_law (wsV RL 163 RX5 yX5_kind wsX5_kind) := goodIn_app (goodIn_of _ (by decide +kernel)) ggL_law_X5_kind
set_option maxRecDepth 20000 in
theorem ggL_law_X6_kind : GoodIn wsL_law wsX6_kind := goodIn_r _ [874, 854, 140, 141, 5, 142, 143, 110, 111, 112, 152, 153, 154, 155, 84, 875, 876, 877, 878, 148, 149, 150, 151, 424, 425, 426, 879, 880, 881, 882, 487, 166, 167, 168, 169, 488, 489, 490, 491, 1368, 1369, 1370, 1371, 1372, 1373, 1374, 1375, 1376, 1377, 1378, 1379, 1380, 1381, 1382, 1383] (by decide +kernel) (by decide +kernel)
set_option maxRecDepth 20000 in
theorem gL_law_X6_kind : GoodIn wsL_law (wsV RL 166 RX6 yX6_kind wsX6_kind) := goodIn_app (goodIn_of _ (by decide +kernel)) ggL_law_X6_kind
set_option maxRecDepth 20000 in
theorem ggL_law_X5_alike : GoodIn wsL_law wsX5_alike := goodIn_r _ [886, 16, 309, 117, 118, 119, 2, 120, 175, 176, 177, 15, 178, 69, 887, 888, 889, 890, 310, 126, 127, 128, 260, 255, 256, 1358, 1359, 1360, 1361, 1362, 1363, 1364, 1365, 1366, 1367, 1384, 1385, 1386, 1387, 1388, 1389, 1390] (by decide +kernel) (by decide +kernel)
set_option maxRecDepth 20000 in
theorem gL_law_X5_alike : GoodIn wsL_law (wsV RL 167 RX5 yX5_alike wsX5_alike) := goodIn_app (goodIn_of _ (by decide +kernel)) ggL_law_X5_alike
set_option maxRecDepth 20000 in
theorem ggL_law_X6_alike : GoodIn wsL_law wsX6_alike := goodIn_r _ [894, 140, 141, 5, 142, 143, 110, 111, 112, 184, 185, 186, 187, 152, 153, 154, 155, 84, 895, 896, 897, 898, 148, 149, 150, 151, 424, 425, 426, 166, 167, 168, 169, 1368, 1369, 1370, 1371, 1372, 1373, 1374, 1375, 1376, 1377, 1378, 1379, 1380, 1381, 1382, 1383] (by decide +kernel) (by decide +kernel)
set_option maxRecDepth 20000 in
theorem gL_law_X6_alike : GoodIn wsL_law (wsV RL 170 RX6 yX6_alike wsX6_alike) := goodIn_app (goodIn_of _ (by decide +kernel)) ggL_law_X6_alike
set_option maxRecDepth 20000 in
theorem ggL_law_X5_carrier : GoodIn wsL_law wsX5_carrier := goodIn_r _ [902, 16, 118, 119, 2, 120, 524, 397, 398, 15, 399, 69, 903, 856, 857, 858, 309, 117, 859, 860, 861, 862, 863, 864, 865, 866, 33, 482, 310, 126, 127, 128, 260, 255, 256, 469, 470, 471, 32, 472, 473, 683, 684, 685, 686, 525, 526, 527, 528, 867, 868, 869, 870, 1358, 1359, 1360, 1361, 1362, 1363, 1364, 1365, 1366, 1367, 1384, 1385, 1386, 1387, 1388, 1389, 1390, 1399] (by decide +kernel) (by decide +kernel)
set_option maxRecDepth 20000 in
theorem gL_law_X5_carrier : GoodIn wsL_law (wsV RL 171 RX5 yX5_carrier wsX5_carrier) := goodIn_app (goodIn_of _ (by decide +kernel)) ggL_law_X5_carrier
set_option maxRecDepth 20000 in
theorem ggL_law_X6_carrier : GoodIn wsL_law wsX6_carrier := goodIn_r _ [907, 140, 141, 5, 142, 143, 110, 111, 112, 148, 149, 150, 151, 152, 153, 154, 155, 84, 908, 872, 873, 874, 854, 875, 876, 877, 878, 424, 425, 426, 879, 880, 881, 882, 487, 166, 167, 168, 169, 488, 489, 490, 491, 1368, 1369, 1370, 1371, 1372, 1373, 1374, 1375, 1376, 1377, 1378, 1379, 1380, 1381, 1382, 1383] (by decide +kernel) (by decide +kernel)
set_option maxRecDepth 20000 in
theorem gL_law_X6_carrier : GoodIn wsL_law (wsV RL 174 RX6 yX6_carrier wsX6_carrier) := goodIn_app (goodIn_of _ (by decide +kernel)) ggL_law_X6_carrier
set_option maxRecDepth 20000 in
theorem ggL_law_X5_is : GoodIn wsL_law wsX5_is := goodIn_r _ [912, 16, 117, 118, 119, 2, 120, 913, 914, 915, 916, 309, 310, 126, 127, 15, 128, 69, 260, 255, 256, 917, 918, 919, 920, 33, 482, 469, 470, 471, 32, 472, 473, 474, 475, 476, 477, 1358, 1359, 1360, 1361, 1362, 1363, 1364, 1365, 1366, 1367, 1384, 1385, 1386, 1387, 1388, 1389, 1390, 1399] (by decide +kernel) (by decide +kernel)
set_option maxRecDepth 20000 in
theorem gL_law_X5_is : GoodIn wsL_law (wsV RL 175 RX5 yX5_is wsX5_is) := goodIn_app (goodIn_of _ (by decide +kernel)) ggL_law_X5_is
set_option maxRecDepth 20000 in
theorem ggL_law_X6_is : GoodIn wsL_law wsX6_is := goodIn_r _ [924, 854, 487, 140, 141, 5, 142, 143, 110, 111, 112, 148, 149, 150, 151, 152, 153, 154, 155, 84, 925, 926, 927, 928, 166, 167, 168, 169, 488, 489, 490, 491, 1368, 1369, 1370, 1371, 1372, 1373, 1374, 1375, 1376, 1377, 1378, 1379, 1380, 1381, 1382, 1383] (by decide +kernel) (by decide +kernel)
set_option maxRecDepth 20000 in
theorem gL_law_X6_is : GoodIn wsL_law (wsV RL 178 RX6 yX6_is wsX6_is) := goodIn_app (goodIn_of _ (by decide +kernel)) ggL_law_X6_is
set_option maxRecDepth 20000 in
theorem ggL_law_X5_union : GoodIn wsL_law wsX5_union := goodIn_r _ [932, 16, 250, 175, 176, 177, 15, 178, 69, 257, 258, 2, 259, 260, 255, 256, 1358, 1359, 1360, 1361, 1362, 1363, 1364, 1365, 1366, 1367, 1384, 1385, 1386, 1387, 1388, 1389, 1390] (by decide +kernel) (by decide +kernel)
set_option maxRecDepth 20000 in
theorem gL_law_X5_union : GoodIn wsL_law (wsV RL 179 RX5 yX5_union wsX5_union) := goodIn_app (goodIn_of _ (by decide +kernel)) ggL_law_X5_union
