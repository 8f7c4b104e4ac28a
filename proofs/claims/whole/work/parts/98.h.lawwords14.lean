set_option maxRecDepth 20000 in
theorem gL_law_X11_write : GoodIn wsL_law (wsV RL 274 RX11 yX11_write wsX11_write) := goodIn_app (goodIn_of _ (by decide +kernel)) ggL_law_X11_write
set_option maxRecDepth 20000 in
theorem ggL_law_L_writtenAt : GoodIn wsL_law wsL_writtenAt := goodIn_ca (goodIn_r _ [1322, 349, 1323, 1324, 1325, 2, 1326, 358, 359, 28, 1327, 1328, 1329, 27, 1330, 98, 1331, 1332, 1333, 1334, 97, 1389, 1390, 1391, 1392, 1393, 1394, 1395, 1396, 1397, 1398, 1399, 1433, 1434, 1435, 1436, 1437, 1438, 1439] (by decide +kernel) (by decide +kernel)) (goodIn_sub (fun _ h => List.mem_append_right _ h) (by decide +kernel))
set_option maxRecDepth 20000 in
theorem gL_law_L_writtenAt : GoodIn wsL_law (va_wsS RL 275 yL_writtenAt wsL_writtenAt) := goodIn_app (goodIn_of _ (by decide +kernel)) ggL_law_L_writtenAt
set_option maxRecDepth 20000 in
theorem ggL_law_X11_writtenAt : GoodIn wsL_law wsX11_writtenAt := goodIn_r _ [1338, 188, 1311, 161, 317, 318, 5, 319, 193, 194, 195, 196, 1400, 1401, 1402, 1403, 1404, 1405, 1406, 1407, 1408, 1409, 1410, 1411, 1412, 1413, 1414, 1415, 1416, 1417, 1418, 1419, 1420, 1421] (by decide +kernel) (by decide +kernel)
set_option maxRecDepth 20000 in
theorem gL_law_X11_writtenAt : GoodIn wsL_law (wsV RL 277 RX11 yX11_writtenAt wsX11_writtenAt) := goodIn_app (goodIn_of _ (by decide +kernel)) ggL_law_X11_writtenAt
set_option maxRecDepth 20000 in
theorem ggL_law_X10_undo : GoodIn wsL_law wsX10_undo := goodIn_r _ [1342, 19, 20, 18, 16, 286, 287, 288, 15, 289, 52, 53, 54, 55, 56, 57, 58, 59, 290, 291, 292, 51, 293, 69, 71, 64, 294, 295, 296, 297, 1389, 1390, 1391, 1392, 1393, 1394, 1395, 1396, 1397, 1398, 1399, 1422, 1423, 1424, 1425, 1426, 1427, 1428, 1429, 1465, 1466, 1467] (by decide +kernel) (by decide +kernel)
set_option maxRecDepth 20000 in
theorem gL_law_X10_undo : GoodIn wsL_law (wsV RL 278 RX10 yX10_undo wsX10_undo) := goodIn_app (goodIn_of _ (by decide +kernel)) ggL_law_X10_undo
set_option maxRecDepth 20000 in
theorem ggL_law_X11_undo : GoodIn wsL_law wsX11_undo := goodIn_r _ [1346, 188, 332, 146, 147, 1400, 1401, 1402, 1403, 1404, 1405, 1406, 1407, 1408, 1409, 1410, 1411, 1412, 1413, 1414, 1415, 1416, 1417, 1418, 1419, 1420, 1421] (by decide +kernel) (by decide +kernel)
set_option maxRecDepth 20000 in
theorem gL_law_X11_undo : GoodIn wsL_law (wsV RL 281 RX11 yX11_undo wsX11_undo) := goodIn_app (goodIn_of _ (by decide +kernel)) ggL_law_X11_undo
set_option maxRecDepth 20000 in
theorem ggL_law_X10_checksum : GoodIn wsL_law wsX10_checksum := goodIn_r _ [1350, 16, 341, 269, 270, 51, 271, 64, 371, 273, 274, 275, 69, 71, 1389, 1390, 1391, 1392, 1393, 1394, 1395, 1396, 1397, 1398, 1399, 1422, 1423, 1424, 1425, 1426, 1427, 1428, 1429, 1465, 1466, 1467] (by decide +kernel) (by decide +kernel)
set_option maxRecDepth 20000 in
theorem gL_law_X10_checksum : GoodIn wsL_law (wsV RL 282 RX10 yX10_checksum wsX10_checksum) := goodIn_app (goodIn_of _ (by decide +kernel)) ggL_law_X10_checksum
set_option maxRecDepth 20000 in
theorem ggL_law_X11_checksum : GoodIn wsL_law wsX11_checksum := goodIn_r _ [1354, 188, 146, 324, 325, 326, 5, 327, 1400, 1401, 1402, 1403, 1404, 1405, 1406, 1407, 1408, 1409, 1410, 1411, 1412, 1413, 1414, 1415, 1416, 1417, 1418, 1419, 1420, 1421] (by decide +kernel) (by decide +kernel)
set_option maxRecDepth 20000 in
theorem gL_law_X11_checksum : GoodIn wsL_law (wsV RL 285 RX11 yX11_checksum wsX11_checksum) := goodIn_app (goodIn_of _ (by decide +kernel)) ggL_law_X11_checksum
set_option maxRecDepth 20000 in
theorem ggL_law_X10_meanValue : GoodIn wsL_law wsX10_meanValue := goodIn_r _ [1358, 16, 341, 269, 270, 51, 271, 64, 371, 273, 274, 275, 69, 71, 1389, 1390, 1391, 1392, 1393, 1394, 1395, 1396, 1397, 1398, 1399, 1422, 1423, 1424, 1425, 1426, 1427, 1428, 1429, 1465, 1466, 1467] (by decide +kernel) (by decide +kernel)
set_option maxRecDepth 20000 in
theorem gL_law_X10_meanValue : GoodIn wsL_law (wsV RL 286 RX10 yX10_meanValue wsX10_meanValue) := goodIn_app (goodIn_of _ (by decide +kernel)) ggL_law_X10_meanValue
set_option maxRecDepth 20000 in
theorem ggL_law_X11_meanValue : GoodIn wsL_law wsX11_meanValue := goodIn_r _ [1362, 188, 146, 324, 325, 326, 5, 327, 1400, 1401, 1402, 1403, 1404, 1405, 1406, 1407, 1408, 1409, 1410, 1411, 1412, 1413, 1414, 1415, 1416, 1417, 1418, 1419, 1420, 1421] (by decide +kernel) (by decide +kernel)
set_option maxRecDepth 20000 in
theorem gL_law_X11_meanValue : GoodIn wsL_law (wsV RL 290 RX11 yX11_meanValue wsX11_meanValue) := goodIn_app (goodIn_of _ (by decide +kernel)) ggL_law_X11_meanValue
set_option maxRecDepth 20000 in
theorem ggL_law_X10_laidShare : GoodIn wsL_law wsX10_laidShare := goodIn_r _ [1366, 16, 341, 269, 270, 51, 271, 64, 740, 741, 742, 15, 743, 52, 268, 272, 273, 274, 275, 69, 71, 1389, 1390, 1391, 1392, 1393, 1394, 1395, 1396, 1397, 1398, 1399, 1422, 1423, 1424, 1425, 1426, 1427, 1428, 1429, 1465, 1466, 1467] (by decide +kernel) (by decide +kernel)
set_option maxRecDepth 20000 in
theorem gL_law_X10_laidShare : GoodIn wsL_law (wsV RL 291 RX10 yX10_laidShare wsX10_laidShare) := goodIn_app (goodIn_of _ (by decide +kernel)) ggL_law_X10_laidShare
set_option maxRecDepth 20000 in
theorem ggL_law_X11_laidShare : GoodIn wsL_law wsX11_laidShare := goodIn_r _ [1370, 188, 146, 324, 325, 326, 5, 327, 1400, 1401, 1402, 1403, 1404, 1405, 1406, 1407, 1408, 1409, 1410, 1411, 1412, 1413, 1414, 1415, 1416, 1417, 1418, 1419, 1420, 1421] (by decide +kernel) (by decide +kernel)
set_option maxRecDepth 20000 in
theorem gL_law_X11_laidShare : GoodIn wsL_law (wsV RL 295 RX11 yX11_laidShare wsX11_laidShare) := goodIn_app (goodIn_of _ (by decide +kernel)) ggL_law_X11_laidShare
set_option maxRecDepth 20000 in
theorem ggL_law_X10_errors : GoodIn wsL_law wsX10_errors := goodIn_r _ [1374, 32, 16, 40, 421, 422, 423, 31, 424, 425, 247, 67, 248, 117, 107, 108, 426, 269, 270, 51, 271, 64, 427, 428, 429, 430, 431, 432, 433, 434, 435, 273, 274, 275, 69, 71, 436, 437, 438, 439, 440, 441, 442, 109, 443, 444, 445, 446, 110, 447, 448, 449, 450, 451, 452, 453, 454, 455, 456, 457, 458, 111, 112, 113, 459, 460, 461, 462, 463, 464, 465, 466, 467, 468, 469, 470, 471, 472, 473, 474, 475, 476, 477, 116, 478, 479, 480, 481, 114, 482, 483, 484, 485, 115, 486, 487, 488, 1375, 1376, 1377, 1378, 1379, 533, 534, 535, 1380, 556, 557, 558, 630, 589, 590, 591, 715, 716, 717, 15, 718, 54, 52, 719, 658, 659, 660, 268, 272, 684, 685, 686, 687, 720, 689, 690, 691, 55, 341, 371, 1021, 1022, 1023, 1024, 1025, 1026, 1027, 1028, 1029, 1030, 964, 812, 965, 966, 967, 968, 969, 970, 971, 817, 818, 819, 820, 821, 66, 68, 822, 823, 824, 825, 1031, 1032, 1033, 1034, 1035, 1036, 870, 871, 872, 39, 873, 132, 133, 134, 874, 875, 876, 877, 878, 879, 880, 881, 882, 883, 295, 296, 297, 884, 885, 886, 887, 1381, 1382, 1383, 1384, 979, 980, 940, 941, 942, 943, 944, 945, 814, 815, 816, 1389, 1390, 1391, 1392, 1393, 1394, 1395, 1396, 1397, 1398, 1399, 1422, 1423, 1424, 1425, 1426, 1427, 1428, 1429, 1440, 1441, 1442, 1443, 1444, 1445, 1446, 1447, 1448, 1449, 1450, 1465, 1466, 1467, 1458, 1459, 1460] (by decide +kernel) (by decide +kernel)
set_option maxRecDepth 20000 in
theorem gL_law_X10_errors : GoodIn wsL_law (wsV RL 296 RX10 yX10_errors wsX10_errors) := goodIn_app (goodIn_of _ (by decide +kernel)) ggL_law_X10_errors
set_option maxRecDepth 20000 in
theorem ggL_law_X11_errors : GoodIn wsL_law wsX11_errors := goodIn_r _ [1388, 188, 1400, 1401, 1402, 1403, 1404, 1405, 1406, 1407, 1408, 1409, 1410, 1411, 1412, 1413, 1414, 1415, 1416, 1417, 1418, 1419, 1420, 1421] (by decide +kernel) (by decide +kernel)
set_option maxRecDepth 20000 in
theorem gL_law_X11_errors : GoodIn wsL_law (wsV RL 299 RX11 yX11_errors wsX11_errors) := goodIn_app (goodIn_of _ (by decide +kernel)) ggL_law_X11_errors
