set_option maxRecDepth 20000 in
theorem ggL_law_X13_sum : GoodIn wsL_law wsX13_sum := goodIn_r _ [1243, 186, 433, 163, 795, 796, 797, 5, 798, 136, 436, 437, 438, 439, 1244, 1245, 1246, 1247, 139, 140, 1283, 1284, 1285, 1286, 1287, 1288, 1289, 1290, 1291, 1292, 1293, 1294, 1295, 1296, 1297, 1298, 1299, 1300, 1301, 1302, 1303, 1304, 1305, 1306, 1307, 1308, 1309, 1310, 1311, 1312, 1313, 1314, 1315, 1316, 1317, 1318, 1319, 1320, 1321, 1322, 1323, 1324, 1325, 1326, 1327, 1328, 1329, 1330, 1331, 1332, 1333, 1334, 1335, 1336, 1337, 1338, 1339, 1340, 1341, 1342, 1343, 1344, 1345, 1346] rfl (by decide +kernel)
set_option maxRecDepth 20000 in
theorem gL_law_X13_sum : GoodIn wsL_law (wsV RL 163 RX13 yX13_sum wsX13_sum) := goodIn_app (goodIn_of _ (by decide +kernel)) ggL_law_X13_sum
set_option maxRecDepth 20000 in
theorem ggL_law_X12_image : GoodIn wsL_law wsX12_image := goodIn_r _ [1251, 21, 19, 204, 401, 402, 403, 18, 404, 222, 223, 57, 61, 63, 405, 406, 407, 408, 64, 65, 66, 67, 409, 410, 411, 56, 412, 229, 230, 72, 413, 73, 74, 75, 414, 415, 416, 60, 417, 418, 80, 419, 81, 82, 1266, 1267, 1268, 1269, 1270, 1271, 1272, 1273, 1274, 1275, 1276, 1277, 1278, 1279, 1280, 1281, 1282, 1347, 1348, 1349, 1350, 1351, 1352, 1353, 1354, 1355, 1389, 1390, 1391, 1392, 1393, 1394, 1395, 1396, 1397, 1398] rfl (by decide +kernel)
set_option maxRecDepth 20000 in
theorem gL_law_X12_image : GoodIn wsL_law (wsV RL 164 RX12 yX12_image wsX12_image) := goodIn_app (goodIn_of _ (by decide +kernel)) ggL_law_X12_image
set_option maxRecDepth 20000 in
theorem ggL_law_X13_image : GoodIn wsL_law wsX13_image := goodIn_r _ [1255, 186, 435, 433, 1256, 434, 1257, 132, 164, 134, 165, 135, 166, 136, 167, 137, 168, 138, 169, 139, 170, 140, 171, 160, 172, 503, 504, 505, 5, 506, 1283, 1284, 1285, 1286, 1287, 1288, 1289, 1290, 1291, 1292, 1293, 1294, 1295, 1296, 1297, 1298, 1299, 1300, 1301, 1302, 1303, 1304, 1305, 1306, 1307, 1308, 1309, 1310, 1311, 1312, 1313, 1314, 1315, 1316, 1317, 1318, 1319, 1320, 1321, 1322, 1323, 1324, 1325, 1326, 1327, 1328, 1329, 1330, 1331, 1332, 1333, 1334, 1335, 1336, 1337, 1338, 1339, 1340, 1341, 1342, 1343, 1344, 1345, 1346] rfl (by decide +kernel)
set_option maxRecDepth 20000 in
theorem gL_law_X13_image : GoodIn wsL_law (wsV RL 167 RX13 yX13_image wsX13_image) := goodIn_app (goodIn_of _ (by decide +kernel)) ggL_law_X13_image
set_option maxRecDepth 20000 in
theorem ggL_law_X12_restore : GoodIn wsL_law wsX12_restore := goodIn_r _ [1261, 204, 19, 21, 401, 402, 403, 18, 404, 222, 223, 57, 61, 63, 405, 406, 407, 408, 64, 65, 66, 67, 409, 410, 411, 56, 412, 229, 230, 72, 413, 73, 74, 75, 414, 415, 416, 60, 417, 418, 80, 419, 81, 82, 1266, 1267, 1268, 1269, 1270, 1271, 1272, 1273, 1274, 1275, 1276, 1277, 1278, 1279, 1280, 1281, 1282, 1347, 1348, 1349, 1350, 1351, 1352, 1353, 1354, 1355, 1389, 1390, 1391, 1392, 1393, 1394, 1395, 1396, 1397, 1398] rfl (by decide +kernel)
set_option maxRecDepth 20000 in
theorem gL_law_X12_restore : GoodIn wsL_law (wsV RL 168 RX12 yX12_restore wsX12_restore) := goodIn_app (goodIn_of _ (by decide +kernel)) ggL_law_X12_restore
set_option maxRecDepth 20000 in
theorem ggL_law_X13_restore : GoodIn wsL_law wsX13_restore := goodIn_r _ [1265, 186, 435, 1256, 433, 1257, 434, 164, 132, 165, 134, 166, 135, 167, 136, 168, 137, 169, 138, 170, 139, 171, 140, 172, 160, 503, 504, 505, 5, 506, 1283, 1284, 1285, 1286, 1287, 1288, 1289, 1290, 1291, 1292, 1293, 1294, 1295, 1296, 1297, 1298, 1299, 1300, 1301, 1302, 1303, 1304, 1305, 1306, 1307, 1308, 1309, 1310, 1311, 1312, 1313, 1314, 1315, 1316, 1317, 1318, 1319, 1320, 1321, 1322, 1323, 1324, 1325, 1326, 1327, 1328, 1329, 1330, 1331, 1332, 1333, 1334, 1335, 1336, 1337, 1338, 1339, 1340, 1341, 1342, 1343, 1344, 1345, 1346] rfl (by decide +kernel)
set_option maxRecDepth 20000 in
theorem gL_law_X13_restore : GoodIn wsL_law (wsV RL 172 RX13 yX13_restore wsX13_restore) := goodIn_app (goodIn_of _ (by decide +kernel)) ggL_law_X13_restore
