set_option maxRecDepth 20000 in
theorem ggL_law_X13_receipt : GoodIn wsL_law wsX13_receipt := goodIn_r _ [1076, 186, 434, 1077, 143, 160, 683, 684, 5, 685, 1283, 1284, 1285, 1286, 1287, 1288, 1289, 1290, 1291, 1292, 1293, 1294, 1295, 1296, 1297, 1298, 1299, 1300, 1301, 1302, 1303, 1304, 1305, 1306, 1307, 1308, 1309, 1310, 1311, 1312, 1313, 1314, 1315, 1316, 1317, 1318, 1319, 1320, 1321, 1322, 1323, 1324, 1325, 1326, 1327, 1328, 1329, 1330, 1331, 1332, 1333, 1334, 1335, 1336, 1337, 1338, 1339, 1340, 1341, 1342, 1343, 1344, 1345, 1346] rfl (by decide +kernel)
set_option maxRecDepth 20000 in
theorem gL_law_X13_receipt : GoodIn wsL_law (wsV RL 137 RX13 yX13_receipt wsX13_receipt) := goodIn_app (goodIn_of _ (by decide +kernel)) ggL_law_X13_receipt
set_option maxRecDepth 20000 in
theorem ggL_law_X12_lose : GoodIn wsL_law wsX12_lose := goodIn_r _ [1081, 19, 675, 676, 1266, 1267, 1268, 1269, 1270, 1271, 1272, 1273, 1274, 1275, 1276, 1277, 1278, 1279, 1280, 1281, 1282, 1347, 1348, 1349, 1350, 1351, 1352, 1353, 1354, 1355, 1395, 1396, 1397, 1398] rfl (by decide +kernel)
set_option maxRecDepth 20000 in
theorem gL_law_X12_lose : GoodIn wsL_law (wsV RL 138 RX12 yX12_lose wsX12_lose) := goodIn_app (goodIn_of _ (by decide +kernel)) ggL_law_X12_lose
set_option maxRecDepth 20000 in
theorem ggL_law_X13_lose : GoodIn wsL_law wsX13_lose := goodIn_r _ [1085, 186, 434, 1283, 1284, 1285, 1286, 1287, 1288, 1289, 1290, 1291, 1292, 1293, 1294, 1295, 1296, 1297, 1298, 1299, 1300, 1301, 1302, 1303, 1304, 1305, 1306, 1307, 1308, 1309, 1310, 1311, 1312, 1313, 1314, 1315, 1316, 1317, 1318, 1319, 1320, 1321, 1322, 1323, 1324, 1325, 1326, 1327, 1328, 1329, 1330, 1331, 1332, 1333, 1334, 1335, 1336, 1337, 1338, 1339, 1340, 1341, 1342, 1343, 1344, 1345, 1346] rfl (by decide +kernel)
set_option maxRecDepth 20000 in
theorem gL_law_X13_lose : GoodIn wsL_law (wsV RL 141 RX13 yX13_lose wsX13_lose) := goodIn_app (goodIn_of _ (by decide +kernel)) ggL_law_X13_lose
set_option maxRecDepth 20000 in
theorem ggL_law_L_chalked : GoodIn wsL_law wsL_chalked := goodIn_ca (goodIn_r _ [1088, 664, 1089, 1090, 1091, 2, 1092, 19, 675, 671, 825, 826, 827, 669, 670, 1093, 1094, 1095, 60, 1096, 418, 80, 82, 81, 1097, 1098, 1099, 1100, 718, 719, 56, 720, 229, 721, 722, 723, 724, 74, 388, 389, 390, 391, 230, 725, 726, 727, 728, 75, 1266, 1267, 1268, 1269, 1270, 1271, 1272, 1273, 1274, 1275, 1276, 1277, 1278, 1279, 1280, 1281, 1282, 1347, 1348, 1349, 1350, 1351, 1352, 1353, 1354, 1355, 1395, 1396, 1397, 1398, 1389, 1390, 1391, 1392, 1393, 1394] rfl (by decide +kernel)) (goodIn_sub (fun _ h => List.mem_append_right _ h) (by decide +kernel))
set_option maxRecDepth 20000 in
theorem gL_law_L_chalked : GoodIn wsL_law (va_wsS RL 142 yL_chalked wsL_chalked) := goodIn_app (goodIn_of _ (by decide +kernel)) ggL_law_L_chalked
set_option maxRecDepth 20000 in
theorem ggL_law_X13_chalked : GoodIn wsL_law wsX13_chalked := goodIn_r _ [1104, 186, 436, 437, 438, 5, 439, 751, 752, 753, 754, 153, 136, 755, 756, 757, 758, 139, 140, 432, 1105, 1106, 1107, 1108, 434, 160, 1283, 1284, 1285, 1286, 1287, 1288, 1289, 1290, 1291, 1292, 1293, 1294, 1295, 1296, 1297, 1298, 1299, 1300, 1301, 1302, 1303, 1304, 1305, 1306, 1307, 1308, 1309, 1310, 1311, 1312, 1313, 1314, 1315, 1316, 1317, 1318, 1319, 1320, 1321, 1322, 1323, 1324, 1325, 1326, 1327, 1328, 1329, 1330, 1331, 1332, 1333, 1334, 1335, 1336, 1337, 1338, 1339, 1340, 1341, 1342, 1343, 1344, 1345, 1346] rfl (by decide +kernel)
set_option maxRecDepth 20000 in
theorem gL_law_X13_chalked : GoodIn wsL_law (wsV RL 144 RX13 yX13_chalked wsX13_chalked) := goodIn_app (goodIn_of _ (by decide +kernel)) ggL_law_X13_chalked
set_option maxRecDepth 20000 in
theorem ggL_law_L_voids : GoodIn wsL_law wsL_voids := goodIn_ca (goodIn_r _ [1111, 664, 1112, 1113, 1114, 2, 1115, 19, 778, 779, 780, 781, 669, 670, 671, 782, 389, 390, 56, 391, 230, 825, 826, 827, 1116, 1117, 1118, 1119, 673, 674, 809, 718, 719, 720, 229, 721, 722, 723, 724, 74, 388, 725, 726, 727, 728, 75, 1120, 1121, 1122, 18, 1123, 63, 346, 347, 348, 349, 222, 1266, 1267, 1268, 1269, 1270, 1271, 1272, 1273, 1274, 1275, 1276, 1277, 1278, 1279, 1280, 1281, 1282, 1347, 1348, 1349, 1350, 1351, 1352, 1353, 1354, 1355, 1389, 1390, 1391, 1392, 1393, 1394] rfl (by decide +kernel)) (goodIn_sub (fun _ h => List.mem_append_right _ h) (by decide +kernel))
set_option maxRecDepth 20000 in
theorem gL_law_L_voids : GoodIn wsL_law (va_wsS RL 145 yL_voids wsL_voids) := goodIn_app (goodIn_of _ (by decide +kernel)) ggL_law_L_voids
set_option maxRecDepth 20000 in
theorem ggL_law_X13_voids : GoodIn wsL_law wsX13_voids := goodIn_r _ [1127, 186, 432, 433, 431, 132, 795, 796, 797, 5, 798, 136, 436, 437, 438, 439, 755, 756, 757, 758, 139, 140, 1283, 1284, 1285, 1286, 1287, 1288, 1289, 1290, 1291, 1292, 1293, 1294, 1295, 1296, 1297, 1298, 1299, 1300, 1301, 1302, 1303, 1304, 1305, 1306, 1307, 1308, 1309, 1310, 1311, 1312, 1313, 1314, 1315, 1316, 1317, 1318, 1319, 1320, 1321, 1322, 1323, 1324, 1325, 1326, 1327, 1328, 1329, 1330, 1331, 1332, 1333, 1334, 1335, 1336, 1337, 1338, 1339, 1340, 1341, 1342, 1343, 1344, 1345, 1346] rfl (by decide +kernel)
set_option maxRecDepth 20000 in
theorem gL_law_X13_voids : GoodIn wsL_law (wsV RL 147 RX13 yX13_voids wsX13_voids) := goodIn_app (goodIn_of _ (by decide +kernel)) ggL_law_X13_voids
set_option maxRecDepth 20000 in
theorem ggL_law_L_mean : GoodIn wsL_law wsL_mean := goodIn_ca (goodIn_ca (goodIn_r _ [1130, 664, 196, 1131, 1132, 1133, 2, 1134, 209, 210, 49, 19, 674, 671, 778, 779, 780, 781, 669, 670, 782, 389, 390, 56, 391, 230, 1135, 1136, 1137, 1138, 1139, 1140, 48, 1141, 126, 127, 1142, 1143, 1144, 1145, 1146, 1147, 1148, 1149, 1150, 1151, 718, 719, 720, 229, 721, 722, 723, 724, 74, 388, 725, 726, 727, 728, 75, 1266, 1267, 1268, 1269, 1270, 1271, 1272, 1273, 1274, 1275, 1276, 1277, 1278, 1279, 1280, 1281, 1282, 1347, 1348, 1349, 1350, 1351, 1352, 1353, 1354, 1355, 1389, 1390, 1391, 1392, 1393, 1394, 1387, 1388] rfl (by decide +kernel)) (goodIn_sub (fun _ h => List.mem_append_left _ (List.mem_append_right _ h)) (by decide +kernel))) (goodIn_sub (fun _ h => List.mem_append_right _ h) (by decide +kernel))
set_option maxRecDepth 20000 in
theorem gL_law_L_mean : GoodIn wsL_law (va_wsS RL 148 yL_mean wsL_mean) := goodIn_app (goodIn_of _ (by decide +kernel)) ggL_law_L_mean
