set_option maxRecDepth 20000 in
theorem ggL_law_X5_pivot : GoodIn wsL_law wsX5_pivot := goodIn_r _ [660, 16, 307, 661, 630, 2, 631, 622, 623, 624, 625, 29, 626, 627, 628, 28, 629, 61, 632, 633, 634, 635, 636, 637, 522, 395, 396, 15, 397, 69, 662, 663, 664, 665, 253, 254, 378, 379, 380, 381, 70, 382, 383, 384, 385, 42, 1356, 1357, 1358, 1359, 1360, 1361, 1362, 1363, 1364, 1365, 1382, 1383, 1384, 1385, 1386, 1387, 1388, 1395, 1396] (by decide +kernel) (by decide +kernel)
set_option maxRecDepth 20000 in
theorem gL_law_X5_pivot : GoodIn wsL_law (wsV RL 126 RX5 yX5_pivot wsX5_pivot) := goodIn_app (goodIn_of _ (by decide +kernel)) ggL_law_X5_pivot
set_option maxRecDepth 20000 in
theorem ggL_law_X6_pivot : GoodIn wsL_law wsX6_pivot := goodIn_r _ [669, 92, 642, 643, 5, 644, 142, 109, 110, 111, 645, 646, 647, 648, 649, 650, 651, 652, 91, 151, 152, 153, 154, 83, 422, 423, 424, 653, 654, 655, 656, 414, 415, 416, 417, 418, 419, 420, 421, 1366, 1367, 1368, 1369, 1370, 1371, 1372, 1373, 1374, 1375, 1376, 1377, 1378, 1379, 1380, 1381] (by decide +kernel) (by decide +kernel)
set_option maxRecDepth 20000 in
theorem gL_law_X6_pivot : GoodIn wsL_law (wsV RL 129 RX6 yX6_pivot wsX6_pivot) := goodIn_app (goodIn_of _ (by decide +kernel)) ggL_law_X6_pivot
set_option maxRecDepth 20000 in
theorem ggL_law_X5_share : GoodIn wsL_law wsX5_share := goodIn_r _ [673, 16, 159, 33, 116, 480, 307, 117, 118, 2, 119, 174, 175, 176, 15, 177, 69, 674, 675, 676, 467, 468, 469, 32, 470, 471, 677, 678, 679, 680, 308, 125, 126, 127, 258, 253, 254, 681, 682, 683, 684, 523, 524, 525, 526, 685, 686, 687, 688, 441, 442, 443, 444, 445, 446, 447, 689, 690, 691, 692, 502, 503, 504, 505, 506, 507, 472, 473, 474, 475, 693, 694, 695, 696, 697, 698, 699, 700, 217, 701, 1356, 1357, 1358, 1359, 1360, 1361, 1362, 1363, 1364, 1365, 1382, 1383, 1384, 1385, 1386, 1387, 1388, 1397] (by decide +kernel) (by decide +kernel)
set_option maxRecDepth 20000 in
theorem gL_law_X5_share : GoodIn wsL_law (wsV RL 130 RX5 yX5_share wsX5_share) := goodIn_app (goodIn_of _ (by decide +kernel)) ggL_law_X5_share
set_option maxRecDepth 20000 in
theorem ggL_law_X6_share : GoodIn wsL_law wsX6_share := goodIn_r _ [705, 164, 485, 706, 86, 139, 140, 5, 141, 142, 109, 110, 111, 183, 184, 185, 186, 151, 152, 153, 154, 83, 707, 708, 709, 710, 147, 148, 149, 150, 422, 423, 424, 711, 712, 713, 714, 165, 166, 167, 168, 531, 532, 533, 534, 452, 453, 454, 513, 514, 515, 516, 517, 486, 487, 488, 489, 715, 716, 717, 718, 719, 720, 1366, 1367, 1368, 1369, 1370, 1371, 1372, 1373, 1374, 1375, 1376, 1377, 1378, 1379, 1380, 1381] (by decide +kernel) (by decide +kernel)
set_option maxRecDepth 20000 in
theorem gL_law_X6_share : GoodIn wsL_law (wsV RL 134 RX6 yX6_share wsX6_share) := goodIn_app (goodIn_of _ (by decide +kernel)) ggL_law_X6_share
set_option maxRecDepth 20000 in
theorem ggL_law_X5_power : GoodIn wsL_law wsX5_power := goodIn_r _ [724, 16, 159, 116, 33, 480, 117, 118, 2, 119, 174, 175, 176, 15, 177, 69, 467, 468, 469, 32, 470, 471, 308, 125, 126, 127, 258, 253, 254, 681, 682, 683, 684, 523, 524, 525, 526, 472, 473, 474, 475, 1356, 1357, 1358, 1359, 1360, 1361, 1362, 1363, 1364, 1365, 1382, 1383, 1384, 1385, 1386, 1387, 1388, 1397] (by decide +kernel) (by decide +kernel)
set_option maxRecDepth 20000 in
theorem gL_law_X5_power : GoodIn wsL_law (wsV RL 135 RX5 yX5_power wsX5_power) := goodIn_app (goodIn_of _ (by decide +kernel)) ggL_law_X5_power
set_option maxRecDepth 20000 in
theorem ggL_law_X6_power : GoodIn wsL_law wsX6_power := goodIn_r _ [728, 164, 485, 139, 140, 5, 141, 142, 109, 110, 111, 183, 184, 185, 186, 151, 152, 153, 154, 83, 147, 148, 149, 150, 422, 423, 424, 711, 712, 713, 714, 165, 166, 167, 168, 531, 532, 533, 534, 486, 487, 488, 489, 1366, 1367, 1368, 1369, 1370, 1371, 1372, 1373, 1374, 1375, 1376, 1377, 1378, 1379, 1380, 1381] (by decide +kernel) (by decide +kernel)
set_option maxRecDepth 20000 in
theorem gL_law_X6_power : GoodIn wsL_law (wsV RL 138 RX6 yX6_power wsX6_power) := goodIn_app (goodIn_of _ (by decide +kernel)) ggL_law_X6_power
set_option maxRecDepth 20000 in
theorem ggL_law_X5_owen : GoodIn wsL_law wsX5_owen := goodIn_r _ [732, 16, 159, 33, 116, 248, 480, 117, 118, 2, 119, 174, 175, 176, 15, 177, 69, 674, 675, 676, 467, 468, 469, 32, 470, 471, 733, 734, 735, 736, 441, 442, 443, 444, 445, 446, 447, 737, 738, 739, 740, 43, 256, 257, 258, 253, 254, 308, 125, 126, 127, 741, 742, 743, 744, 689, 690, 691, 692, 681, 682, 683, 684, 523, 524, 525, 526, 502, 503, 504, 505, 506, 507, 472, 473, 474, 475, 693, 694, 695, 696, 697, 698, 699, 700, 217, 701, 1356, 1357, 1358, 1359, 1360, 1361, 1362, 1363, 1364, 1365, 1382, 1383, 1384, 1385, 1386, 1387, 1388, 1397] (by decide +kernel) (by decide +kernel)
set_option maxRecDepth 20000 in
theorem gL_law_X5_owen : GoodIn wsL_law (wsV RL 139 RX5 yX5_owen wsX5_owen) := goodIn_app (goodIn_of _ (by decide +kernel)) ggL_law_X5_owen
set_option maxRecDepth 20000 in
theorem ggL_law_X6_owen : GoodIn wsL_law wsX6_owen := goodIn_r _ [748, 164, 485, 86, 139, 140, 5, 141, 142, 109, 110, 111, 183, 184, 185, 186, 151, 152, 153, 154, 83, 263, 264, 265, 266, 147, 148, 149, 150, 422, 423, 424, 749, 750, 751, 752, 753, 754, 755, 756, 711, 712, 713, 714, 165, 166, 167, 168, 531, 532, 533, 534, 757, 758, 759, 760, 452, 453, 454, 761, 762, 763, 764, 513, 514, 515, 516, 517, 486, 487, 488, 489, 715, 716, 717, 718, 719, 720, 1366, 1367, 1368, 1369, 1370, 1371, 1372, 1373, 1374, 1375, 1376, 1377, 1378, 1379, 1380, 1381] (by decide +kernel) (by decide +kernel)
set_option maxRecDepth 20000 in
theorem gL_law_X6_owen : GoodIn wsL_law (wsV RL 142 RX6 yX6_owen wsX6_owen) := goodIn_app (goodIn_of _ (by decide +kernel)) ggL_law_X6_owen
set_option maxRecDepth 20000 in
theorem ggL_law_X5_dividend : GoodIn wsL_law wsX5_dividend := goodIn_r _ [768, 16, 159, 33, 35, 116, 480, 117, 118, 2, 119, 120, 121, 122, 15, 123, 124, 125, 126, 127, 69, 467, 468, 469, 32, 470, 471, 441, 442, 443, 444, 445, 446, 447, 544, 545, 546, 769, 770, 771, 772, 523, 524, 525, 526, 1356, 1357, 1358, 1359, 1360, 1361, 1362, 1363, 1364, 1365, 1382, 1383, 1384, 1385, 1386, 1387, 1388, 1397] (by decide +kernel) (by decide +kernel)
set_option maxRecDepth 20000 in
theorem gL_law_X5_dividend : GoodIn wsL_law (wsV RL 143 RX5 yX5_dividend wsX5_dividend) := goodIn_app (goodIn_of _ (by decide +kernel)) ggL_law_X5_dividend
set_option maxRecDepth 20000 in
theorem ggL_law_X6_dividend : GoodIn wsL_law wsX6_dividend := goodIn_r _ [776, 164, 485, 85, 139, 140, 5, 141, 142, 109, 110, 111, 143, 144, 145, 146, 147, 148, 149, 150, 151, 152, 153, 154, 83, 777, 778, 779, 780, 165, 166, 167, 168, 531, 532, 533, 534, 1366, 1367, 1368, 1369, 1370, 1371, 1372, 1373, 1374, 1375, 1376, 1377, 1378, 1379, 1380, 1381] (by decide +kernel) (by decide +kernel)
set_option maxRecDepth 20000 in
theorem gL_law_X6_dividend : GoodIn wsL_law (wsV RL 146 RX6 yX6_dividend wsX6_dividend) := goodIn_app (goodIn_of _ (by decide +kernel)) ggL_law_X6_dividend
set_option maxRecDepth 20000 in
theorem ggL_law_X5_swings : GoodIn wsL_law wsX5_swings := goodIn_r _ [784, 16, 174, 175, 176, 15, 177, 69, 785, 786, 787, 2, 788, 308, 125, 126, 127, 662, 663, 664, 665, 253, 254, 378, 379, 380, 381, 70, 382, 383, 384, 385, 42, 789, 790, 791, 792, 173, 195, 38, 793, 794, 795, 796, 307, 797, 73, 74, 75, 1356, 1357, 1358, 1359, 1360, 1361, 1362, 1363, 1364, 1365, 1382, 1383, 1384, 1385, 1386, 1387, 1388] (by decide +kernel) (by decide +kernel)
set_option maxRecDepth 20000 in
theorem gL_law_X5_swings : GoodIn wsL_law (wsV RL 147 RX5 yX5_swings wsX5_swings) := goodIn_app (goodIn_of _ (by decide +kernel)) ggL_law_X5_swings
set_option maxRecDepth 20000 in
theorem ggL_law_X6_swings : GoodIn wsL_law wsX6_swings := goodIn_r _ [801, 183, 184, 185, 5, 186, 151, 152, 153, 154, 83, 109, 110, 111, 147, 148, 149, 150, 802, 803, 804, 805, 422, 423, 424, 414, 415, 416, 417, 418, 419, 420, 421, 1366, 1367, 1368, 1369, 1370, 1371, 1372, 1373, 1374, 1375, 1376, 1377, 1378, 1379, 1380, 1381] (by decide +kernel) (by decide +kernel)
set_option maxRecDepth 20000 in
theorem gL_law_X6_swings : GoodIn wsL_law (wsV RL 150 RX6 yX6_swings wsX6_swings) := goodIn_app (goodIn_of _ (by decide +kernel)) ggL_law_X6_swings
set_option maxRecDepth 20000 in
theorem ggL_law_X5_pivots : GoodIn wsL_law wsX5_pivots := goodIn_r _ [809, 16, 159, 307, 174, 175, 176, 15, 177, 69, 674, 675, 2, 676, 308, 125, 126, 127, 662, 663, 664, 665, 253, 254, 378, 379, 380, 381, 70, 382, 383, 384, 385, 42, 685, 686, 687, 688, 441, 442, 443, 444, 445, 446, 447, 689, 690, 691, 692, 693, 694, 695, 696, 697, 698, 699, 700, 217, 701, 1356, 1357, 1358, 1359, 1360, 1361, 1362, 1363, 1364, 1365, 1382, 1383, 1384, 1385, 1386, 1387, 1388] (by decide +kernel) (by decide +kernel)
set_option maxRecDepth 20000 in
theorem gL_law_X5_pivots : GoodIn wsL_law (wsV RL 151 RX5 yX5_pivots wsX5_pivots) := goodIn_app (goodIn_of _ (by decide +kernel)) ggL_law_X5_pivots
set_option maxRecDepth 20000 in
theorem ggL_law_X6_pivots : GoodIn wsL_law wsX6_pivots := goodIn_r _ [813, 164, 86, 183, 184, 185, 5, 186, 151, 152, 153, 154, 83, 109, 110, 111, 147, 148, 149, 150, 802, 803, 804, 805, 422, 423, 424, 414, 415, 416, 417, 418, 419, 420, 421, 452, 453, 454, 715, 716, 717, 718, 719, 720, 1366, 1367, 1368, 1369, 1370, 1371, 1372, 1373, 1374, 1375, 1376, 1377, 1378, 1379, 1380, 1381] (by decide +kernel) (by decide +kernel)
set_option maxRecDepth 20000 in
theorem gL_law_X6_pivots : GoodIn wsL_law (wsV RL 154 RX6 yX6_pivots wsX6_pivots) := goodIn_app (goodIn_of _ (by decide +kernel)) ggL_law_X6_pivots
set_option maxRecDepth 20000 in
theorem ggL_law_X5_holder : GoodIn wsL_law wsX5_holder := goodIn_r _ [817, 16, 159, 818, 174, 175, 176, 15, 177, 69, 674, 675, 2, 676, 308, 125, 126, 127, 819, 820, 821, 822, 378, 379, 380, 381, 70, 382, 383, 384, 385, 42, 253, 254, 258, 441, 442, 443, 444, 445, 446, 447, 693, 694, 695, 696, 697, 698, 699, 700, 217, 701, 1356, 1357, 1358, 1359, 1360, 1361, 1362, 1363, 1364, 1365, 1382, 1383, 1384, 1385, 1386, 1387, 1388] (by decide +kernel) (by decide +kernel)
set_option maxRecDepth 20000 in
theorem gL_law_X5_holder : GoodIn wsL_law (wsV RL 155 RX5 yX5_holder wsX5_holder) := goodIn_app (goodIn_of _ (by decide +kernel)) ggL_law_X5_holder
set_option maxRecDepth 20000 in
theorem ggL_law_X6_holder : GoodIn wsL_law wsX6_holder := goodIn_r _ [826, 164, 86, 183, 184, 185, 5, 186, 151, 152, 153, 154, 83, 109, 110, 111, 147, 148, 149, 150, 827, 828, 829, 830, 414, 415, 416, 417, 418, 419, 420, 421, 422, 423, 424, 452, 453, 454, 715, 716, 717, 718, 719, 720, 1366, 1367, 1368, 1369, 1370, 1371, 1372, 1373, 1374, 1375, 1376, 1377, 1378, 1379, 1380, 1381] (by decide +kernel) (by decide +kernel)
set_option maxRecDepth 20000 in
theorem gL_law_X6_holder : GoodIn wsL_law (wsV RL 158 RX6 yX6_holder wsX6_holder) := goodIn_app (goodIn_of _ (by decide +kernel)) ggL_law_X6_holder
set_option maxRecDepth 20000 in
theorem ggL_law_X5_votes : GoodIn wsL_law wsX5_votes := goodIn_r _ [834, 835, 836, 837, 2, 838, 16, 308, 125, 126, 15, 127, 69, 839, 379, 380, 381, 70, 382, 383, 384, 385, 42, 253, 254, 840, 841, 842, 843, 819, 820, 821, 822, 378, 844, 845, 846, 847, 441, 442, 443, 444, 445, 446, 447, 1356, 1357, 1358, 1359, 1360, 1361, 1362, 1363, 1364, 1365, 1382, 1383, 1384, 1385, 1386, 1387, 1388] (by decide +kernel) (by decide +kernel)
set_option maxRecDepth 20000 in
theorem gL_law_X5_votes : GoodIn wsL_law (wsV RL 159 RX5 yX5_votes wsX5_votes) := goodIn_app (goodIn_of _ (by decide +kernel)) ggL_law_X5_votes
set_option maxRecDepth 20000 in
theorem ggL_law_X6_votes : GoodIn wsL_law wsX6_votes := goodIn_r _ [851, 852, 109, 110, 5, 111, 147, 148, 149, 150, 151, 152, 153, 154, 83, 414, 415, 416, 417, 418, 419, 420, 421, 422, 423, 424, 827, 828, 829, 830, 452, 453, 454, 1366, 1367, 1368, 1369, 1370, 1371, 1372, 1373, 1374, 1375, 1376, 1377, 1378, 1379, 1380, 1381] (by decide +kernel) (by decide +kernel)
set_option maxRecDepth 20000 in
theorem gL_law_X6_votes : GoodIn wsL_law (wsV RL 162 RX6 yX6_votes wsX6_votes) := goodIn_app (goodIn_of _ (by decide +kernel)) ggL_law_X6_votes
set_option maxRecDepth 20000 in
theorem ggL_law_X5_kind : GoodIn wsL_law wsX5_kind := goodIn_r _ [856, 16, 307, 116, 117, 118, 2, 119, 857, 858, 859, 860, 861, 862, 863, 864, 33, 480, 308, 125, 126, 15, 127, 69, 258, 253, 254, 467, 468, 469, 32, 470, 471, 681, 682, 683, 684, 523, 524, 525, 526, 865, 866, 867, 868, 1356, 1357, 1358, 1359, 1360, 1361, 1362, 1363, 1364, 1365, 1382, 1383, 1384, 1385, 1386, 1387, 1388, 1397] (by decide +kernel) (by decide +kernel)
set_option maxRecDepth 20000 in
theorem gL_law_X5_kind : GoodIn wsL_law (wsV RL 163 RX5 yX5_kind wsX5_kind) := goodIn_app (goodIn_of _ (by decide +kernel)) ggL_law_X5_kind
set_option maxRecDepth 20000 in
theorem ggL_law_X6_kind : GoodIn wsL_law wsX6_kind := goodIn_r _ [872, 852, 139, 140, 5, 141, 142, 109, 110, 111, 151, 152, 153, 154, 83, 873, 874, 875, 876, 147, 148, 149, 150, 422, 423, 424, 877, 878, 879, 880, 485, 165, 166, 167, 168, 486, 487, 488, 489, 1366, 1367, 1368, 1369, 1370, 1371, 1372, 1373, 1374, 1375, 1376, 1377, 1378, 1379, 1380, 1381] (by decide +kernel) (by decide +kernel)
set_option maxRecDepth 20000 in
theorem gL_law_X6_kind : GoodIn wsL_law (wsV RL 166 RX6 yX6_kind wsX6_kind) := goodIn_app (goodIn_of _ (by decide +kernel)) ggL_law_X6_kind
set_option maxRecDepth 20000 in
theorem ggL_law_X5_alike : GoodIn wsL_law wsX5_alike := goodIn_r _ [884, 16, 307, 116, 117, 118, 2, 119, 174, 175, 176, 15, 177, 69, 885, 886, 887, 888, 308, 125, 126, 127, 258, 253, 254, 1356, 1357, 1358, 1359, 1360, 1361, 1362, 1363, 1364, 1365, 1382, 1383, 1384, 1385, 1386, 1387, 1388] (by decide +kernel) (by decide +kernel)
set_option maxRecDepth 20000 in
theorem gL_law_X5_alike : GoodIn wsL_law (wsV RL 167 RX5 yX5_alike wsX5_alike) := goodIn_app (goodIn_of _ (by decide +kernel)) ggL_law_X5_alike
set_option maxRecDepth 20000 in
theorem ggL_law_X6_alike : GoodIn wsL_law wsX6_alike := goodIn_r _ [892, 139, 140, 5, 141, 142, 109, 110, 111, 183, 184, 185, 186, 151, 152, 153, 154, 83, 893, 894, 895, 896, 147, 148, 149, 150, 422, 423, 424, 165, 166, 167, 168, 1366, 1367, 1368, 1369, 1370, 1371, 1372, 1373, 1374, 1375, 1376, 1377, 1378, 1379, 1380, 1381] (by decide +kernel) (by decide +kernel)
set_option maxRecDepth 20000 in
theorem gL_law_X6_alike : GoodIn wsL_law (wsV RL 170 RX6 yX6_alike wsX6_alike) := goodIn_app (goodIn_of _ (by decide +kernel)) ggL_law_X6_alike
set_option maxRecDepth 20000 in
theorem ggL_law_X5_carrier : GoodIn wsL_law wsX5_carrier := goodIn_r _ [900, 16, 117, 118, 2, 119, 522, 395, 396, 15, 397, 69, 901, 854, 855, 856, 307, 116, 857, 858, 859, 860, 861, 862, 863, 864, 33, 480, 308, 125, 126, 127, 258, 253, 254, 467, 468, 469, 32, 470, 471, 681, 682, 683, 684, 523, 524, 525, 526, 865, 866, 867, 868, 1356, 1357, 1358, 1359, 1360, 1361, 1362, 1363, 1364, 1365, 1382, 1383, 1384, 1385, 1386, 1387, 1388, 1397] (by decide +kernel) (by decide +kernel)
set_option maxRecDepth 20000 in
theorem gL_law_X5_carrier : GoodIn wsL_law (wsV RL 171 RX5 yX5_carrier wsX5_carrier) := goodIn_app (goodIn_of _ (by decide +kernel)) ggL_law_X5_carrier
set_option maxRecDepth 20000 in
theorem ggL_law_X6_carrier : GoodIn wsL_law wsX6_carrier := goodIn_r _ [905, 139, 140, 5, 141, 142, 109, 110, 111, 147, 148, 149, 150, 151, 152, 153, 154, 83, 906, 870, 871, 872, 852, 873, 874, 875, 876, 422, 423, 424, 877, 878, 879, 880, 485, 165, 166, 167, 168, 486, 487, 488, 489, 1366, 1367, 1368, 1369, 1370, 1371, 1372, 1373, 1374, 1375, 1376, 1377, 1378, 1379, 1380, 1381] (by decide +kernel) (by decide +kernel)
set_option maxRecDepth 20000 in
theorem gL_law_X6_carrier : GoodIn wsL_law (wsV RL 174 RX6 yX6_carrier wsX6_carrier) := goodIn_app (goodIn_of _ (by decide +kernel)) ggL_law_X6_carrier
set_option maxRecDepth 20000 in
theorem ggL_law_X5_is : GoodIn wsL_law wsX5_is := goodIn_r _ [910, 16, 116, 117, 118, 2, 119, 911, 912, 913, 914, 307, 308, 125, 126, 15, 127, 69, 258, 253, 254, 915, 916, 917, 918, 33, 480, 467, 468, 469, 32, 470, 471, 472, 473, 474, 475, 1356, 1357, 1358, 1359, 1360, 1361, 1362, 1363, 1364, 1365, 1382, 1383, 1384, 1385, 1386, 1387, 1388, 1397] (by decide +kernel) (by decide +kernel)
set_option maxRecDepth 20000 in
theorem gL_law_X5_is : GoodIn wsL_law (wsV RL 175 RX5 yX5_is wsX5_is) := goodIn_app (goodIn_of _ (by decide +kernel)) ggL_law_X5_is
set_option maxRecDepth 20000 in
theorem ggL_law_X6_is : GoodIn wsL_law wsX6_is := goodIn_r _ [922, 852, 485, 139, 140, 5, 141, 142, 109, 110, 111, 147, 148, 149, 150, 151, 152, 153, 154, 83, 923, 924, 925, 926, 165, 166, 167, 168, 486, 487, 488, 489, 1366, 1367, 1368, 1369, 1370, 1371, 1372, 1373, 1374, 1375, 1376, 1377, 1378, 1379, 1380, 1381] (by decide +kernel) (by decide +kernel)
set_option maxRecDepth 20000 in
theorem gL_law_X6_is : GoodIn wsL_law (wsV RL 178 RX6 yX6_is wsX6_is) := goodIn_app (goodIn_of _ (by decide +kernel)) ggL_law_X6_is
set_option maxRecDepth 20000 in
theorem ggL_law_X5_union : GoodIn wsL_law wsX5_union := goodIn_r _ [930, 16, 248, 174, 175, 176, 15, 177, 69, 255, 256, 2, 257, 258, 253, 254, 1356, 1357, 1358, 1359, 1360, 1361, 1362, 1363, 1364, 1365, 1382, 1383, 1384, 1385, 1386, 1387, 1388] (by decide +kernel) (by decide +kernel)
set_option maxRecDepth 20000 in
theorem gL_law_X5_union : GoodIn wsL_law (wsV RL 179 RX5 yX5_union wsX5_union) := goodIn_app (goodIn_of _ (by decide +kernel)) ggL_law_X5_union
