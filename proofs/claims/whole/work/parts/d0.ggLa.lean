set_option maxRecDepth 20000 in
theorem ggL_law_X11_init : GoodIn wsL_law wsX11_init := goodIn_r _ [8, 9, 10, 11, 12, 13, 14, 15, 16, 17, 18, 19, 20, 21, 22, 23, 24, 25, 26, 27, 28, 29, 30, 31, 32, 33, 34, 35, 36, 37, 38, 39, 40, 41, 42, 43, 44, 45, 46, 47, 48, 49, 50, 51, 52, 53, 54, 55, 56, 57, 58, 59, 60, 61, 62, 63, 64, 65, 66, 67, 68, 69, 70, 71, 72, 73, 74, 75, 76, 77, 78, 79, 80, 81, 82, 83, 84, 85, 86, 87, 88, 89, 90, 91, 92, 93, 94, 95, 96, 97, 98, 99, 100, 101, 102, 103, 104, 105, 106, 107, 108, 109, 110, 111, 112, 113, 114, 115, 116, 117, 118, 119, 120, 1429, 1430, 1431, 1432, 1433, 1434, 1435, 1436, 1437, 1438, 1378, 1379, 1380, 1381, 1382, 1383, 1384, 1385, 1386, 1387, 1388, 1439, 1440, 1441, 1442, 1443, 1444, 1445, 1446, 1447, 1448, 1449, 1450, 1451, 1452, 1453, 1454, 1455, 1456, 1457] (by decide +kernel) (by decide +kernel)
set_option maxRecDepth 20000 in
theorem gL_law_X11_init : GoodIn wsL_law (wsX11_init) := ggL_law_X11_init
set_option maxRecDepth 20000 in
theorem ggL_law_X12_init : GoodIn wsL_law wsX12_init := goodIn_r _ [123, 124, 10, 11, 48, 125, 126, 127, 128, 129, 60, 130, 131, 132, 133, 134, 135, 136, 137, 138, 139, 140, 141, 142, 143, 144, 145, 146, 147, 148, 149, 1389, 1390, 1391, 1392, 1393, 1394, 1395, 1396, 1397, 1398, 1399, 1400, 1401, 1402, 1403, 1404, 1405, 1406, 1407, 1408, 1409, 1410, 1411, 1412, 1413, 1414, 1415, 1416, 1417, 1418, 1419, 1420, 1421, 1422, 1423, 1424, 1425, 1426, 1427, 1428] (by decide +kernel) (by decide +kernel)
set_option maxRecDepth 20000 in
theorem gL_law_X12_init : GoodIn wsL_law (wsX12_init) := ggL_law_X12_init
set_option maxRecDepth 20000 in
theorem ggL_law_X11_addState : GoodIn wsL_law wsX11_addState := goodIn_r _ [153, 18, 23, 154, 155, 156, 14, 157, 158, 159, 160, 161, 22, 162, 76, 77, 163, 164, 165, 166, 75, 167, 168, 169, 170, 49, 50, 51, 171, 172, 173, 174, 1378, 1379, 1380, 1381, 1382, 1383, 1384, 1385, 1386, 1387, 1388, 1429, 1430, 1431, 1432, 1439, 1440, 1441] (by decide +kernel) (by decide +kernel)
set_option maxRecDepth 20000 in
theorem gL_law_X11_addState : GoodIn wsL_law (wsV RL 13 RX11 yX11_addState wsX11_addState) := goodIn_app (goodIn_of _ (by decide +kernel)) ggL_law_X11_addState
set_option maxRecDepth 20000 in
theorem ggL_law_X12_addState : GoodIn wsL_law wsX12_addState := goodIn_r _ [178, 125, 179, 180, 181, 5, 182, 183, 127, 184, 185, 186, 187, 1389, 1390, 1391, 1392, 1393, 1394, 1395, 1396, 1397, 1398, 1399, 1400, 1401, 1402, 1403, 1404, 1405, 1406, 1407, 1408, 1409, 1410, 1411, 1412, 1413, 1414, 1415, 1416, 1417, 1418, 1419, 1420, 1421, 1422, 1423, 1424, 1425, 1426, 1427, 1428] (by decide +kernel) (by decide +kernel)
set_option maxRecDepth 20000 in
theorem gL_law_X12_addState : GoodIn wsL_law (wsV RL 17 RX12 yX12_addState wsX12_addState) := goodIn_app (goodIn_of _ (by decide +kernel)) ggL_law_X12_addState
set_option maxRecDepth 20000 in
theorem ggL_law_X11_removeState : GoodIn wsL_law wsX11_removeState := goodIn_r _ [191, 18, 23, 154, 155, 156, 14, 157, 158, 159, 160, 161, 22, 162, 76, 77, 163, 164, 165, 166, 75, 167, 168, 169, 170, 49, 50, 51, 192, 193, 194, 195, 196, 197, 198, 199, 200, 201, 202, 203, 204, 205, 206, 207, 208, 209, 210, 211, 1378, 1379, 1380, 1381, 1382, 1383, 1384, 1385, 1386, 1387, 1388, 1429, 1430, 1431, 1432, 1439, 1440, 1441] (by decide +kernel) (by decide +kernel)
set_option maxRecDepth 20000 in
theorem gL_law_X11_removeState : GoodIn wsL_law (wsV RL 18 RX11 yX11_removeState wsX11_removeState) := goodIn_app (goodIn_of _ (by decide +kernel)) ggL_law_X11_removeState
set_option maxRecDepth 20000 in
theorem ggL_law_X12_removeState : GoodIn wsL_law wsX12_removeState := goodIn_r _ [215, 125, 179, 180, 181, 5, 182, 183, 127, 184, 185, 186, 187, 1389, 1390, 1391, 1392, 1393, 1394, 1395, 1396, 1397, 1398, 1399, 1400, 1401, 1402, 1403, 1404, 1405, 1406, 1407, 1408, 1409, 1410, 1411, 1412, 1413, 1414, 1415, 1416, 1417, 1418, 1419, 1420, 1421, 1422, 1423, 1424, 1425, 1426, 1427, 1428] (by decide +kernel) (by decide +kernel)
set_option maxRecDepth 20000 in
theorem gL_law_X12_removeState : GoodIn wsL_law (wsV RL 21 RX12 yX12_removeState wsX12_removeState) := goodIn_app (goodIn_of _ (by decide +kernel)) ggL_law_X12_removeState
set_option maxRecDepth 20000 in
theorem ggL_law_X11_stateCount : GoodIn wsL_law wsX11_stateCount := goodIn_r _ [219, 18, 154, 155, 156, 14, 157, 158, 1378, 1379, 1380, 1381, 1382, 1383, 1384, 1385, 1386, 1387, 1388, 1429, 1430, 1431, 1432] (by decide +kernel) (by decide +kernel)
set_option maxRecDepth 20000 in
theorem gL_law_X11_stateCount : GoodIn wsL_law (wsV RL 22 RX11 yX11_stateCount wsX11_stateCount) := goodIn_app (goodIn_of _ (by decide +kernel)) ggL_law_X11_stateCount
set_option maxRecDepth 20000 in
theorem ggL_law_X12_stateCount : GoodIn wsL_law wsX12_stateCount := goodIn_r _ [223, 125, 1389, 1390, 1391, 1392, 1393, 1394, 1395, 1396, 1397, 1398, 1399, 1400, 1401, 1402, 1403, 1404, 1405, 1406, 1407, 1408, 1409, 1410, 1411, 1412, 1413, 1414, 1415, 1416, 1417, 1418, 1419, 1420, 1421, 1422, 1423, 1424, 1425, 1426, 1427, 1428] (by decide +kernel) (by decide +kernel)
set_option maxRecDepth 20000 in
theorem gL_law_X12_stateCount : GoodIn wsL_law (wsV RL 25 RX12 yX12_stateCount wsX12_stateCount) := goodIn_app (goodIn_of _ (by decide +kernel)) ggL_law_X12_stateCount
