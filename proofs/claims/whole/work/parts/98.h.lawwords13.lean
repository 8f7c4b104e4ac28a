set_option maxRecDepth 20000 in
theorem gL_law_L_mostDays : GoodIn wsL_law (va_wsS RL 246 yL_mostDays wsL_mostDays) := goodIn_app (goodIn_of _ (by decide +kernel)) ggL_law_L_mostDays
set_option maxRecDepth 20000 in
theorem ggL_law_X11_mostDays : GoodIn wsL_law wsX11_mostDays := goodIn_r _ [1094, 188, 376, 377, 378, 5, 379, 324, 325, 326, 327, 146, 317, 318, 319, 193, 194, 195, 196, 830, 831, 832, 833, 834, 835, 836, 837, 838, 839, 840, 841, 842, 843, 1068, 1069, 1070, 1071, 950, 951, 952, 1042, 1043, 1044, 1045, 1046, 1047, 1048, 1400, 1401, 1402, 1403, 1404, 1405, 1406, 1407, 1408, 1409, 1410, 1411, 1412, 1413, 1414, 1415, 1416, 1417, 1418, 1419, 1420, 1421] (by decide +kernel) (by decide +kernel)
set_option maxRecDepth 20000 in
theorem gL_law_X11_mostDays : GoodIn wsL_law (wsV RL 248 RX11 yX11_mostDays wsX11_mostDays) := goodIn_app (goodIn_of _ (by decide +kernel)) ggL_law_X11_mostDays
set_option maxRecDepth 20000 in
theorem ggL_law_L_offer : GoodIn wsL_law wsL_offer := goodIn_ca (goodIn_ca (goodIn_r _ [1097, 232, 166, 1098, 1099, 1100, 2, 1101, 237, 238, 171, 172, 16, 364, 365, 366, 280, 77, 78, 51, 79, 64, 69, 71, 281, 282, 283, 284, 18, 19, 13, 14, 15, 20, 285, 247, 67, 248, 45, 46, 47, 48, 11, 12, 49, 50, 52, 53, 54, 55, 56, 57, 58, 59, 60, 61, 62, 63, 65, 66, 68, 70, 72, 73, 74, 75, 76, 80, 81, 82, 83, 84, 286, 287, 288, 289, 290, 291, 292, 293, 294, 295, 296, 297, 395, 396, 1389, 1390, 1391, 1392, 1393, 1394, 1395, 1396, 1397, 1398, 1399, 1422, 1423, 1424, 1425, 1426, 1427, 1428, 1429, 1465, 1466, 1467] (by decide +kernel) (by decide +kernel)) (goodIn_sub (fun _ h => List.mem_append_left _ (List.mem_append_right _ h)) (by decide +kernel))) (goodIn_sub (fun _ h => List.mem_append_left _ (List.mem_append_left _ (List.mem_append_right _ h))) (by decide +kernel))
set_option maxRecDepth 20000 in
theorem gL_law_L_offer : GoodIn wsL_law (va_wsS RL 249 yL_offer wsL_offer) := goodIn_app (goodIn_of _ (by decide +kernel)) ggL_law_L_offer
set_option maxRecDepth 20000 in
theorem ggL_law_X11_offer : GoodIn wsL_law wsX11_offer := goodIn_r _ [1105, 188, 146, 317, 318, 5, 319, 193, 194, 195, 196, 328, 329, 330, 331, 332, 147, 1400, 1401, 1402, 1403, 1404, 1405, 1406, 1407, 1408, 1409, 1410, 1411, 1412, 1413, 1414, 1415, 1416, 1417, 1418, 1419, 1420, 1421] (by decide +kernel) (by decide +kernel)
set_option maxRecDepth 20000 in
theorem gL_law_X11_offer : GoodIn wsL_law (wsV RL 251 RX11 yX11_offer wsX11_offer) := goodIn_app (goodIn_of _ (by decide +kernel)) ggL_law_X11_offer
set_option maxRecDepth 20000 in
theorem ggL_law_X10_clearOffers : GoodIn wsL_law wsX10_clearOffers := goodIn_r _ [1109, 16, 281, 282, 283, 2, 284, 18, 19, 13, 14, 15, 20, 285, 247, 67, 248, 45, 46, 47, 48, 11, 12, 49, 50, 51, 52, 53, 54, 55, 56, 57, 58, 59, 60, 61, 62, 63, 64, 65, 66, 68, 69, 70, 71, 72, 73, 74, 75, 76, 77, 78, 79, 80, 81, 82, 83, 84, 286, 287, 288, 289, 290, 291, 292, 293, 294, 295, 296, 297, 341, 269, 270, 271, 1110, 1111, 1112, 1113, 1389, 1390, 1391, 1392, 1393, 1394, 1395, 1396, 1397, 1398, 1399, 1422, 1423, 1424, 1425, 1426, 1427, 1428, 1429, 1465, 1466, 1467] (by decide +kernel) (by decide +kernel)
set_option maxRecDepth 20000 in
theorem gL_law_X10_clearOffers : GoodIn wsL_law (wsV RL 252 RX10 yX10_clearOffers wsX10_clearOffers) := goodIn_app (goodIn_of _ (by decide +kernel)) ggL_law_X10_clearOffers
set_option maxRecDepth 20000 in
theorem ggL_law_X11_clearOffers : GoodIn wsL_law wsX11_clearOffers := goodIn_r _ [1117, 188, 146, 328, 329, 330, 5, 331, 332, 147, 1400, 1401, 1402, 1403, 1404, 1405, 1406, 1407, 1408, 1409, 1410, 1411, 1412, 1413, 1414, 1415, 1416, 1417, 1418, 1419, 1420, 1421] (by decide +kernel) (by decide +kernel)
set_option maxRecDepth 20000 in
theorem gL_law_X11_clearOffers : GoodIn wsL_law (wsV RL 255 RX11 yX11_clearOffers wsX11_clearOffers) := goodIn_app (goodIn_of _ (by decide +kernel)) ggL_law_X11_clearOffers
set_option maxRecDepth 20000 in
theorem ggL_law_X10_plan : GoodIn wsL_law wsX10_plan := goodIn_r _ [1121, 44, 16, 1122, 1123, 1124, 43, 1125, 1126, 247, 67, 248, 140, 138, 1127, 141, 139, 1128, 269, 270, 51, 271, 64, 1129, 1130, 1131, 1132, 1133, 1134, 464, 465, 466, 467, 468, 469, 1135, 1136, 1137, 1138, 273, 274, 275, 69, 71, 1139, 1140, 1141, 1142, 1143, 66, 68, 1144, 1145, 1146, 1147, 1389, 1390, 1391, 1392, 1393, 1394, 1395, 1396, 1397, 1398, 1399, 1422, 1423, 1424, 1425, 1426, 1427, 1428, 1429, 1461, 1462, 1463, 1464, 1465, 1466, 1467] (by decide +kernel) (by decide +kernel)
set_option maxRecDepth 20000 in
theorem gL_law_X10_plan : GoodIn wsL_law (wsV RL 256 RX10 yX10_plan wsX10_plan) := goodIn_app (goodIn_of _ (by decide +kernel)) ggL_law_X10_plan
set_option maxRecDepth 20000 in
theorem ggL_law_X11_plan : GoodIn wsL_law wsX11_plan := goodIn_r _ [1151, 188, 1152, 1153, 1154, 5, 1155, 156, 146, 157, 1156, 1157, 1158, 1159, 1160, 1161, 1162, 1163, 567, 568, 569, 1400, 1401, 1402, 1403, 1404, 1405, 1406, 1407, 1408, 1409, 1410, 1411, 1412, 1413, 1414, 1415, 1416, 1417, 1418, 1419, 1420, 1421] (by decide +kernel) (by decide +kernel)
set_option maxRecDepth 20000 in
theorem gL_law_X11_plan : GoodIn wsL_law (wsV RL 259 RX11 yX11_plan wsX11_plan) := goodIn_app (goodIn_of _ (by decide +kernel)) ggL_law_X11_plan
set_option maxRecDepth 20000 in
theorem ggL_law_L_getsFrom : GoodIn wsL_law wsL_getsFrom := goodIn_ca (goodIn_r _ [1166, 349, 1167, 1168, 1169, 2, 1170, 358, 359, 16, 44, 360, 361, 362, 51, 363, 64, 1122, 1123, 1124, 43, 1125, 1126, 247, 67, 248, 140, 138, 1127, 141, 139, 1128, 269, 270, 271, 1129, 1130, 1131, 1132, 1133, 1134, 464, 465, 466, 467, 468, 469, 1135, 1136, 1137, 1138, 273, 274, 275, 69, 71, 1139, 1140, 1141, 1142, 1143, 66, 68, 1171, 1172, 1173, 1174, 1389, 1390, 1391, 1392, 1393, 1394, 1395, 1396, 1397, 1398, 1399, 1422, 1423, 1424, 1425, 1426, 1427, 1428, 1429, 1465, 1466, 1467, 1461, 1462, 1463, 1464] (by decide +kernel) (by decide +kernel)) (goodIn_sub (fun _ h => List.mem_append_right _ h) (by decide +kernel))
set_option maxRecDepth 20000 in
theorem gL_law_L_getsFrom : GoodIn wsL_law (va_wsS RL 260 yL_getsFrom wsL_getsFrom) := goodIn_app (goodIn_of _ (by decide +kernel)) ggL_law_L_getsFrom
set_option maxRecDepth 20000 in
theorem ggL_law_X11_getsFrom : GoodIn wsL_law wsX11_getsFrom := goodIn_r _ [1178, 188, 146, 157, 317, 318, 5, 319, 193, 194, 195, 196, 1152, 1153, 1154, 1155, 156, 1156, 1157, 1158, 1159, 1160, 1161, 1162, 1163, 567, 568, 569, 1400, 1401, 1402, 1403, 1404, 1405, 1406, 1407, 1408, 1409, 1410, 1411, 1412, 1413, 1414, 1415, 1416, 1417, 1418, 1419, 1420, 1421] (by decide +kernel) (by decide +kernel)
set_option maxRecDepth 20000 in
theorem gL_law_X11_getsFrom : GoodIn wsL_law (wsV RL 262 RX11 yX11_getsFrom wsX11_getsFrom) := goodIn_app (goodIn_of _ (by decide +kernel)) ggL_law_X11_getsFrom
set_option maxRecDepth 20000 in
theorem ggL_law_X10_rings : GoodIn wsL_law wsX10_rings := goodIn_r _ [1182, 44, 16, 1122, 1123, 1124, 43, 1125, 1126, 247, 67, 248, 140, 138, 1127, 141, 139, 1128, 269, 270, 51, 271, 64, 1129, 1130, 1131, 1132, 1133, 1134, 464, 465, 466, 467, 468, 469, 1135, 1136, 1137, 1138, 273, 274, 275, 69, 71, 1139, 1140, 1141, 1142, 1143, 66, 68, 1183, 1184, 1185, 1186, 1187, 1172, 1173, 1174, 1389, 1390, 1391, 1392, 1393, 1394, 1395, 1396, 1397, 1398, 1399, 1422, 1423, 1424, 1425, 1426, 1427, 1428, 1429, 1461, 1462, 1463, 1464, 1465, 1466, 1467] (by decide +kernel) (by decide +kernel)
set_option maxRecDepth 20000 in
theorem gL_law_X10_rings : GoodIn wsL_law (wsV RL 263 RX10 yX10_rings wsX10_rings) := goodIn_app (goodIn_of _ (by decide +kernel)) ggL_law_X10_rings
set_option maxRecDepth 20000 in
theorem ggL_law_X11_rings : GoodIn wsL_law wsX11_rings := goodIn_r _ [1191, 188, 146, 157, 1152, 1153, 1154, 5, 1155, 156, 1156, 1157, 1158, 1159, 1160, 1161, 1162, 1163, 567, 568, 569, 1400, 1401, 1402, 1403, 1404, 1405, 1406, 1407, 1408, 1409, 1410, 1411, 1412, 1413, 1414, 1415, 1416, 1417, 1418, 1419, 1420, 1421] (by decide +kernel) (by decide +kernel)
set_option maxRecDepth 20000 in
theorem gL_law_X11_rings : GoodIn wsL_law (wsV RL 266 RX11 yX11_rings wsX11_rings) := goodIn_app (goodIn_of _ (by decide +kernel)) ggL_law_X11_rings
set_option maxRecDepth 20000 in
theorem ggL_law_L_join : GoodIn wsL_law wsL_join := goodIn_ca (goodIn_ca (goodIn_r _ [1194, 232, 166, 1195, 1196, 1197, 2, 1198, 237, 238, 171, 172, 28, 24, 17, 16, 1199, 1200, 1201, 27, 1202, 95, 101, 99, 100, 1203, 1111, 1112, 51, 1113, 64, 1204, 1205, 1206, 1207, 1208, 177, 178, 23, 179, 89, 1209, 254, 255, 256, 88, 1210, 262, 263, 1211, 1212, 1213, 1214, 102, 1215, 250, 251, 252, 253, 1216, 1217, 1218, 1219, 1220, 1221, 1222, 1223, 1224, 1225, 1226, 1227, 1228, 1229, 1230, 1231, 269, 270, 271, 1232, 273, 274, 275, 69, 71, 1233, 240, 15, 241, 1234, 1235, 1236, 1237, 1238, 73, 74, 75, 76, 77, 78, 79, 80, 81, 82, 83, 1239, 276, 277, 278, 279, 90, 286, 287, 288, 289, 52, 53, 54, 55, 56, 57, 58, 59, 290, 291, 292, 293, 294, 295, 296, 297, 1240, 1241, 1242, 1243, 1244, 1245, 1246, 1247, 265, 266, 267, 268, 272, 1248, 1249, 299, 300, 301, 72, 84, 1250, 1251, 1252, 1253, 1254, 66, 67, 68, 1255, 1256, 1257, 1258, 1259, 716, 717, 718, 719, 658, 659, 660, 684, 685, 686, 687, 720, 689, 690, 691, 281, 282, 283, 284, 18, 19, 13, 14, 20, 285, 247, 248, 45, 46, 47, 48, 11, 12, 49, 50, 60, 61, 62, 63, 65, 70, 341, 1389, 1390, 1391, 1392, 1393, 1394, 1395, 1396, 1397, 1398, 1399, 1422, 1423, 1424, 1425, 1426, 1427, 1428, 1429, 1433, 1434, 1435, 1436, 1437, 1438, 1439, 1465, 1466, 1467, 1430, 1431, 1432] (by decide +kernel) (by decide +kernel)) (goodIn_sub (fun _ h => List.mem_append_left _ (List.mem_append_right _ h)) (by decide +kernel))) (goodIn_sub (fun _ h => List.mem_append_left _ (List.mem_append_left _ (List.mem_append_right _ h))) (by decide +kernel))
set_option maxRecDepth 20000 in
theorem gL_law_L_join : GoodIn wsL_law (va_wsS RL 267 yL_join wsL_join) := goodIn_app (goodIn_of _ (by decide +kernel)) ggL_law_L_join
set_option maxRecDepth 20000 in
theorem ggL_law_X11_join : GoodIn wsL_law wsX11_join := goodIn_r _ [1263, 188, 149, 189, 160, 146, 1264, 1265, 1266, 5, 1267, 1268, 148, 158, 159, 306, 307, 308, 309, 317, 318, 319, 310, 311, 312, 313, 1269, 1270, 1271, 1272, 1273, 1274, 1275, 1276, 1277, 1278, 193, 194, 195, 196, 1279, 1280, 1281, 1282, 154, 1283, 1284, 1285, 1286, 320, 321, 322, 323, 324, 325, 326, 327, 333, 334, 335, 336, 725, 726, 727, 728, 729, 730, 731, 732, 704, 705, 706, 707, 328, 329, 330, 331, 332, 147, 1400, 1401, 1402, 1403, 1404, 1405, 1406, 1407, 1408, 1409, 1410, 1411, 1412, 1413, 1414, 1415, 1416, 1417, 1418, 1419, 1420, 1421] (by decide +kernel) (by decide +kernel)
set_option maxRecDepth 20000 in
theorem gL_law_X11_join : GoodIn wsL_law (wsV RL 270 RX11 yX11_join wsX11_join) := goodIn_app (goodIn_of _ (by decide +kernel)) ggL_law_X11_join
set_option maxRecDepth 20000 in
theorem ggL_law_X10_write : GoodIn wsL_law wsX10_write := goodIn_r _ [1290, 28, 16, 1291, 1292, 1293, 27, 1294, 98, 1231, 269, 270, 51, 271, 64, 1244, 1245, 1246, 1232, 273, 274, 275, 69, 71, 1295, 1296, 1297, 1298, 1299, 1300, 1301, 1302, 97, 1303, 1304, 1305, 1306, 1389, 1390, 1391, 1392, 1393, 1394, 1395, 1396, 1397, 1398, 1399, 1433, 1434, 1435, 1436, 1437, 1438, 1439, 1422, 1423, 1424, 1425, 1426, 1427, 1428, 1429, 1465, 1466, 1467] (by decide +kernel) (by decide +kernel)
set_option maxRecDepth 20000 in
theorem gL_law_X10_write : GoodIn wsL_law (wsV RL 271 RX10 yX10_write wsX10_write) := goodIn_app (goodIn_of _ (by decide +kernel)) ggL_law_X10_write
set_option maxRecDepth 20000 in
theorem ggL_law_X11_write : GoodIn wsL_law wsX11_write := goodIn_r _ [1310, 188, 1311, 146, 324, 325, 326, 5, 327, 380, 381, 382, 383, 1312, 1313, 1314, 1315, 161, 1316, 1317, 1318, 1319, 1400, 1401, 1402, 1403, 1404, 1405, 1406, 1407, 1408, 1409, 1410, 1411, 1412, 1413, 1414, 1415, 1416, 1417, 1418, 1419, 1420, 1421] (by decide +kernel) (by decide +kernel)
