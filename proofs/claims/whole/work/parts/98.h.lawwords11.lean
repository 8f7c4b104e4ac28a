set_option maxRecDepth 20000 in
theorem gL_law_L_lay : GoodIn wsL_law (va_wsS RL 199 yL_lay wsL_lay) := goodIn_app (goodIn_of _ (by decide +kernel)) ggL_law_L_lay
set_option maxRecDepth 20000 in
theorem ggL_law_X11_lay : GoodIn wsL_law wsX11_lay := goodIn_r _ [724, 188, 154, 146, 376, 377, 378, 5, 379, 324, 325, 326, 327, 317, 318, 319, 193, 194, 195, 196, 665, 666, 667, 668, 328, 329, 330, 331, 332, 147, 725, 726, 727, 728, 729, 730, 731, 732, 704, 705, 706, 707, 1400, 1401, 1402, 1403, 1404, 1405, 1406, 1407, 1408, 1409, 1410, 1411, 1412, 1413, 1414, 1415, 1416, 1417, 1418, 1419, 1420, 1421] (by decide +kernel) (by decide +kernel)
set_option maxRecDepth 20000 in
theorem gL_law_X11_lay : GoodIn wsL_law (wsV RL 201 RX11 yX11_lay wsX11_lay) := goodIn_app (goodIn_of _ (by decide +kernel)) ggL_law_X11_lay
set_option maxRecDepth 20000 in
theorem ggL_law_L_lies : GoodIn wsL_law wsL_lies := goodIn_ca (goodIn_r _ [735, 232, 736, 737, 738, 2, 739, 16, 364, 365, 366, 237, 238, 740, 741, 742, 15, 743, 52, 268, 269, 270, 51, 271, 64, 272, 273, 274, 275, 69, 71, 657, 658, 659, 660, 1389, 1390, 1391, 1392, 1393, 1394, 1395, 1396, 1397, 1398, 1399, 1422, 1423, 1424, 1425, 1426, 1427, 1428, 1429, 1465, 1466, 1467] (by decide +kernel) (by decide +kernel)) (goodIn_sub (fun _ h => List.mem_append_left _ (List.mem_append_right _ h)) (by decide +kernel))
set_option maxRecDepth 20000 in
theorem gL_law_L_lies : GoodIn wsL_law (va_wsS RL 202 yL_lies wsL_lies) := goodIn_app (goodIn_of _ (by decide +kernel)) ggL_law_L_lies
set_option maxRecDepth 20000 in
theorem ggL_law_X11_lies : GoodIn wsL_law wsX11_lies := goodIn_r _ [747, 188, 665, 666, 667, 5, 668, 317, 318, 319, 193, 194, 195, 196, 669, 670, 671, 672, 146, 324, 325, 326, 327, 1400, 1401, 1402, 1403, 1404, 1405, 1406, 1407, 1408, 1409, 1410, 1411, 1412, 1413, 1414, 1415, 1416, 1417, 1418, 1419, 1420, 1421] (by decide +kernel) (by decide +kernel)
set_option maxRecDepth 20000 in
theorem gL_law_X11_lies : GoodIn wsL_law (wsV RL 204 RX11 yX11_lies wsX11_lies) := goodIn_app (goodIn_of _ (by decide +kernel)) ggL_law_X11_lies
set_option maxRecDepth 20000 in
theorem ggL_law_X10_layAll : GoodIn wsL_law wsX10_layAll := goodIn_r _ [751, 36, 16, 281, 282, 283, 2, 284, 18, 19, 13, 14, 15, 20, 285, 247, 67, 248, 45, 46, 47, 48, 11, 12, 49, 50, 51, 52, 53, 54, 55, 56, 57, 58, 59, 60, 61, 62, 63, 64, 65, 66, 68, 69, 70, 71, 72, 73, 74, 75, 76, 77, 78, 79, 80, 81, 82, 83, 84, 286, 287, 288, 289, 290, 291, 292, 293, 294, 295, 296, 297, 752, 753, 754, 35, 755, 756, 126, 123, 124, 757, 128, 127, 758, 269, 270, 271, 759, 760, 761, 762, 121, 122, 763, 764, 765, 766, 273, 274, 275, 767, 689, 690, 691, 272, 768, 769, 770, 771, 125, 772, 773, 774, 775, 776, 777, 778, 779, 780, 781, 782, 783, 341, 371, 784, 785, 786, 787, 396, 1389, 1390, 1391, 1392, 1393, 1394, 1395, 1396, 1397, 1398, 1399, 1422, 1423, 1424, 1425, 1426, 1427, 1428, 1429, 1465, 1466, 1467, 1451, 1452, 1453, 1454, 1455, 1456, 1457] (by decide +kernel) (by decide +kernel)
set_option maxRecDepth 20000 in
theorem gL_law_X10_layAll : GoodIn wsL_law (wsV RL 205 RX10 yX10_layAll wsX10_layAll) := goodIn_app (goodIn_of _ (by decide +kernel)) ggL_law_X10_layAll
set_option maxRecDepth 20000 in
theorem ggL_law_X11_layAll : GoodIn wsL_law wsX11_layAll := goodIn_r _ [791, 188, 146, 154, 328, 329, 330, 5, 331, 332, 147, 792, 793, 794, 795, 324, 325, 326, 327, 729, 730, 731, 732, 704, 705, 706, 707, 796, 797, 798, 799, 1400, 1401, 1402, 1403, 1404, 1405, 1406, 1407, 1408, 1409, 1410, 1411, 1412, 1413, 1414, 1415, 1416, 1417, 1418, 1419, 1420, 1421] (by decide +kernel) (by decide +kernel)
set_option maxRecDepth 20000 in
theorem gL_law_X11_layAll : GoodIn wsL_law (wsV RL 208 RX11 yX11_layAll wsX11_layAll) := goodIn_app (goodIn_of _ (by decide +kernel)) ggL_law_X11_layAll
set_option maxRecDepth 20000 in
theorem ggL_law_L_tell : GoodIn wsL_law wsL_tell := goodIn_ca (goodIn_ca (goodIn_ca (goodIn_r _ [802, 349, 232, 166, 803, 804, 805, 2, 806, 171, 172, 16, 354, 355, 356, 357, 358, 359, 360, 361, 362, 51, 363, 64, 807, 808, 809, 237, 238, 810, 811, 812, 813, 814, 815, 816, 817, 818, 819, 820, 247, 67, 248, 821, 66, 68, 822, 823, 824, 825, 364, 365, 366, 280, 77, 78, 79, 69, 71, 281, 282, 283, 284, 18, 19, 13, 14, 15, 20, 285, 45, 46, 47, 48, 11, 12, 49, 50, 52, 53, 54, 55, 56, 57, 58, 59, 60, 61, 62, 63, 65, 70, 72, 73, 74, 75, 76, 80, 81, 82, 83, 84, 286, 287, 288, 289, 290, 291, 292, 293, 294, 295, 296, 297, 395, 396, 1389, 1390, 1391, 1392, 1393, 1394, 1395, 1396, 1397, 1398, 1399, 1422, 1423, 1424, 1425, 1426, 1427, 1428, 1429, 1465, 1466, 1467] (by decide +kernel) (by decide +kernel)) (goodIn_sub (fun _ h => List.mem_append_left _ (List.mem_append_left _ (List.mem_append_right _ h))) (by decide +kernel))) (goodIn_sub (fun _ h => List.mem_append_right _ h) (by decide +kernel))) (goodIn_sub (fun _ h => List.mem_append_left _ (List.mem_append_right _ h)) (by decide +kernel))
set_option maxRecDepth 20000 in
theorem gL_law_L_tell : GoodIn wsL_law (va_wsS RL 209 yL_tell wsL_tell) := goodIn_app (goodIn_of _ (by decide +kernel)) ggL_law_L_tell
set_option maxRecDepth 20000 in
theorem ggL_law_X11_tell : GoodIn wsL_law wsX11_tell := goodIn_r _ [829, 188, 146, 376, 377, 378, 5, 379, 324, 325, 326, 327, 317, 318, 319, 193, 194, 195, 196, 830, 831, 832, 833, 834, 835, 836, 837, 838, 839, 840, 328, 329, 330, 331, 332, 147, 841, 842, 843, 1400, 1401, 1402, 1403, 1404, 1405, 1406, 1407, 1408, 1409, 1410, 1411, 1412, 1413, 1414, 1415, 1416, 1417, 1418, 1419, 1420, 1421] (by decide +kernel) (by decide +kernel)
set_option maxRecDepth 20000 in
theorem gL_law_X11_tell : GoodIn wsL_law (wsV RL 211 RX11 yX11_tell wsX11_tell) := goodIn_app (goodIn_of _ (by decide +kernel)) ggL_law_X11_tell
set_option maxRecDepth 20000 in
theorem ggL_law_L_takeBack : GoodIn wsL_law wsL_takeBack := goodIn_ca (goodIn_ca (goodIn_r _ [846, 349, 166, 847, 848, 849, 2, 850, 358, 359, 171, 172, 16, 360, 361, 362, 51, 363, 64, 371, 273, 274, 275, 69, 71, 281, 282, 283, 284, 18, 19, 13, 14, 15, 20, 285, 247, 67, 248, 45, 46, 47, 48, 11, 12, 49, 50, 52, 53, 54, 55, 56, 57, 58, 59, 60, 61, 62, 63, 65, 66, 68, 70, 72, 73, 74, 75, 76, 77, 78, 79, 80, 81, 82, 83, 84, 286, 287, 288, 289, 290, 291, 292, 293, 294, 295, 296, 297, 396, 1389, 1390, 1391, 1392, 1393, 1394, 1395, 1396, 1397, 1398, 1399, 1422, 1423, 1424, 1425, 1426, 1427, 1428, 1429, 1465, 1466, 1467] (by decide +kernel) (by decide +kernel)) (goodIn_sub (fun _ h => List.mem_append_right _ h) (by decide +kernel))) (goodIn_sub (fun _ h => List.mem_append_left _ (List.mem_append_left _ (List.mem_append_right _ h))) (by decide +kernel))
set_option maxRecDepth 20000 in
theorem gL_law_L_takeBack : GoodIn wsL_law (va_wsS RL 212 yL_takeBack wsL_takeBack) := goodIn_app (goodIn_of _ (by decide +kernel)) ggL_law_L_takeBack
set_option maxRecDepth 20000 in
theorem ggL_law_X11_takeBack : GoodIn wsL_law wsX11_takeBack := goodIn_r _ [854, 188, 146, 317, 318, 5, 319, 193, 194, 195, 196, 328, 329, 330, 331, 332, 147, 1400, 1401, 1402, 1403, 1404, 1405, 1406, 1407, 1408, 1409, 1410, 1411, 1412, 1413, 1414, 1415, 1416, 1417, 1418, 1419, 1420, 1421] (by decide +kernel) (by decide +kernel)
set_option maxRecDepth 20000 in
theorem gL_law_X11_takeBack : GoodIn wsL_law (wsV RL 214 RX11 yX11_takeBack wsX11_takeBack) := goodIn_app (goodIn_of _ (by decide +kernel)) ggL_law_X11_takeBack
set_option maxRecDepth 20000 in
theorem ggL_law_X10_time : GoodIn wsL_law wsX10_time := goodIn_r _ [858, 16, 1389, 1390, 1391, 1392, 1393, 1394, 1395, 1396, 1397, 1398, 1399, 1422, 1423, 1424, 1425, 1426, 1427, 1428, 1429] (by decide +kernel) (by decide +kernel)
set_option maxRecDepth 20000 in
theorem gL_law_X10_time : GoodIn wsL_law (wsV RL 215 RX10 yX10_time wsX10_time) := goodIn_app (goodIn_of _ (by decide +kernel)) ggL_law_X10_time
set_option maxRecDepth 20000 in
theorem ggL_law_X11_time : GoodIn wsL_law wsX11_time := goodIn_r _ [862, 188, 146, 1400, 1401, 1402, 1403, 1404, 1405, 1406, 1407, 1408, 1409, 1410, 1411, 1412, 1413, 1414, 1415, 1416, 1417, 1418, 1419, 1420, 1421] (by decide +kernel) (by decide +kernel)
set_option maxRecDepth 20000 in
theorem gL_law_X11_time : GoodIn wsL_law (wsV RL 218 RX11 yX11_time wsX11_time) := goodIn_app (goodIn_of _ (by decide +kernel)) ggL_law_X11_time
set_option maxRecDepth 20000 in
theorem ggL_law_L_handOn : GoodIn wsL_law wsL_handOn := goodIn_ca (goodIn_ca (goodIn_r _ [865, 349, 232, 866, 867, 868, 2, 869, 16, 40, 354, 355, 356, 357, 358, 359, 360, 361, 362, 51, 363, 64, 807, 808, 809, 237, 238, 810, 811, 812, 813, 814, 815, 816, 817, 818, 819, 820, 247, 67, 248, 821, 66, 68, 822, 823, 824, 825, 364, 365, 366, 870, 871, 872, 39, 873, 132, 133, 134, 874, 269, 270, 271, 875, 273, 274, 275, 69, 71, 876, 877, 878, 879, 880, 881, 882, 883, 295, 296, 297, 884, 885, 886, 887, 888, 889, 890, 891, 1389, 1390, 1391, 1392, 1393, 1394, 1395, 1396, 1397, 1398, 1399, 1422, 1423, 1424, 1425, 1426, 1427, 1428, 1429, 1465, 1466, 1467, 1458, 1459, 1460] (by decide +kernel) (by decide +kernel)) (goodIn_sub (fun _ h => List.mem_append_right _ h) (by decide +kernel))) (goodIn_sub (fun _ h => List.mem_append_left _ (List.mem_append_right _ h)) (by decide +kernel))
set_option maxRecDepth 20000 in
theorem gL_law_L_handOn : GoodIn wsL_law (va_wsS RL 219 yL_handOn wsL_handOn) := goodIn_app (goodIn_of _ (by decide +kernel)) ggL_law_L_handOn
set_option maxRecDepth 20000 in
theorem ggL_law_X11_handOn : GoodIn wsL_law wsX11_handOn := goodIn_r _ [895, 188, 146, 376, 377, 378, 5, 379, 324, 325, 326, 327, 317, 318, 319, 193, 194, 195, 196, 830, 831, 832, 833, 834, 835, 836, 837, 838, 839, 840, 841, 842, 843, 896, 897, 898, 899, 900, 901, 902, 903, 1400, 1401, 1402, 1403, 1404, 1405, 1406, 1407, 1408, 1409, 1410, 1411, 1412, 1413, 1414, 1415, 1416, 1417, 1418, 1419, 1420, 1421] (by decide +kernel) (by decide +kernel)
set_option maxRecDepth 20000 in
theorem gL_law_X11_handOn : GoodIn wsL_law (wsV RL 221 RX11 yX11_handOn wsX11_handOn) := goodIn_app (goodIn_of _ (by decide +kernel)) ggL_law_X11_handOn
set_option maxRecDepth 20000 in
theorem ggL_law_L_stays : GoodIn wsL_law wsL_stays := goodIn_ca (goodIn_ca (goodIn_r _ [906, 349, 232, 907, 908, 909, 2, 910, 16, 40, 354, 355, 356, 357, 358, 359, 360, 361, 362, 51, 363, 64, 364, 365, 366, 237, 238, 870, 871, 872, 39, 873, 132, 133, 134, 874, 269, 270, 271, 875, 273, 274, 275, 69, 71, 876, 877, 878, 879, 880, 881, 882, 883, 295, 296, 297, 884, 885, 886, 887, 911, 912, 913, 914, 1389, 1390, 1391, 1392, 1393, 1394, 1395, 1396, 1397, 1398, 1399, 1422, 1423, 1424, 1425, 1426, 1427, 1428, 1429, 1465, 1466, 1467, 1458, 1459, 1460] (by decide +kernel) (by decide +kernel)) (goodIn_sub (fun _ h => List.mem_append_right _ h) (by decide +kernel))) (goodIn_sub (fun _ h => List.mem_append_left _ (List.mem_append_right _ h)) (by decide +kernel))
set_option maxRecDepth 20000 in
theorem gL_law_L_stays : GoodIn wsL_law (va_wsS RL 222 yL_stays wsL_stays) := goodIn_app (goodIn_of _ (by decide +kernel)) ggL_law_L_stays
set_option maxRecDepth 20000 in
theorem ggL_law_X11_stays : GoodIn wsL_law wsX11_stays := goodIn_r _ [918, 188, 146, 919, 376, 377, 378, 5, 379, 324, 325, 326, 327, 317, 318, 319, 193, 194, 195, 196, 920, 921, 922, 923, 155, 900, 901, 902, 903, 896, 897, 898, 899, 1400, 1401, 1402, 1403, 1404, 1405, 1406, 1407, 1408, 1409, 1410, 1411, 1412, 1413, 1414, 1415, 1416, 1417, 1418, 1419, 1420, 1421] (by decide +kernel) (by decide +kernel)
