set_option maxRecDepth 20000 in
theorem ggL_law_X11_setWeight : GoodIn wsL_law wsX11_setWeight := goodIn_r _ [227, 18, 23, 228, 201, 202, 14, 203, 158, 229, 230, 231, 232, 49, 233, 234, 235, 236, 237, 159, 160, 161, 22, 162, 76, 77, 163, 164, 165, 166, 75, 167, 168, 169, 170, 50, 51, 238, 197, 198, 199, 200, 1378, 1379, 1380, 1381, 1382, 1383, 1384, 1385, 1386, 1387, 1388, 1429, 1430, 1431, 1432, 1439, 1440, 1441] (by decide +kernel) (by decide +kernel)
set_option maxRecDepth 20000 in
theorem gL_law_X11_setWeight : GoodIn wsL_law (wsV RL 26 RX11 yX11_setWeight wsX11_setWeight) := goodIn_app (goodIn_of _ (by decide +kernel)) ggL_law_X11_setWeight
set_option maxRecDepth 20000 in
theorem ggL_law_X12_setWeight : GoodIn wsL_law wsX12_setWeight := goodIn_r _ [242, 125, 243, 244, 245, 5, 246, 247, 248, 249, 250, 251, 252, 253, 179, 180, 181, 182, 183, 127, 184, 185, 186, 187, 1389, 1390, 1391, 1392, 1393, 1394, 1395, 1396, 1397, 1398, 1399, 1400, 1401, 1402, 1403, 1404, 1405, 1406, 1407, 1408, 1409, 1410, 1411, 1412, 1413, 1414, 1415, 1416, 1417, 1418, 1419, 1420, 1421, 1422, 1423, 1424, 1425, 1426, 1427, 1428] (by decide +kernel) (by decide +kernel)
set_option maxRecDepth 20000 in
theorem gL_law_X12_setWeight : GoodIn wsL_law (wsV RL 30 RX12 yX12_setWeight wsX12_setWeight) := goodIn_app (goodIn_of _ (by decide +kernel)) ggL_law_X12_setWeight
set_option maxRecDepth 20000 in
theorem ggL_law_X11_weight : GoodIn wsL_law wsX11_weight := goodIn_r _ [257, 18, 228, 201, 202, 14, 203, 158, 229, 230, 231, 232, 49, 1378, 1379, 1380, 1381, 1382, 1383, 1384, 1385, 1386, 1387, 1388, 1429, 1430, 1431, 1432] (by decide +kernel) (by decide +kernel)
set_option maxRecDepth 20000 in
theorem gL_law_X11_weight : GoodIn wsL_law (wsV RL 31 RX11 yX11_weight wsX11_weight) := goodIn_app (goodIn_of _ (by decide +kernel)) ggL_law_X11_weight
set_option maxRecDepth 20000 in
theorem ggL_law_X12_weight : GoodIn wsL_law wsX12_weight := goodIn_r _ [261, 125, 243, 244, 245, 5, 246, 247, 248, 249, 1389, 1390, 1391, 1392, 1393, 1394, 1395, 1396, 1397, 1398, 1399, 1400, 1401, 1402, 1403, 1404, 1405, 1406, 1407, 1408, 1409, 1410, 1411, 1412, 1413, 1414, 1415, 1416, 1417, 1418, 1419, 1420, 1421, 1422, 1423, 1424, 1425, 1426, 1427, 1428] (by decide +kernel) (by decide +kernel)
set_option maxRecDepth 20000 in
theorem gL_law_X12_weight : GoodIn wsL_law (wsV RL 35 RX12 yX12_weight wsX12_weight) := goodIn_app (goodIn_of _ (by decide +kernel)) ggL_law_X12_weight
set_option maxRecDepth 20000 in
theorem ggL_law_X11_sum : GoodIn wsL_law wsX11_sum := goodIn_r _ [265, 18, 228, 201, 202, 14, 203, 158, 233, 234, 235, 236, 237, 230, 231, 232, 49, 1378, 1379, 1380, 1381, 1382, 1383, 1384, 1385, 1386, 1387, 1388, 1429, 1430, 1431, 1432] (by decide +kernel) (by decide +kernel)
set_option maxRecDepth 20000 in
theorem gL_law_X11_sum : GoodIn wsL_law (wsV RL 36 RX11 yX11_sum wsX11_sum) := goodIn_app (goodIn_of _ (by decide +kernel)) ggL_law_X11_sum
set_option maxRecDepth 20000 in
theorem ggL_law_X12_sum : GoodIn wsL_law wsX12_sum := goodIn_r _ [269, 243, 244, 245, 5, 246, 125, 247, 248, 249, 250, 251, 252, 253, 1389, 1390, 1391, 1392, 1393, 1394, 1395, 1396, 1397, 1398, 1399, 1400, 1401, 1402, 1403, 1404, 1405, 1406, 1407, 1408, 1409, 1410, 1411, 1412, 1413, 1414, 1415, 1416, 1417, 1418, 1419, 1420, 1421, 1422, 1423, 1424, 1425, 1426, 1427, 1428] (by decide +kernel) (by decide +kernel)
set_option maxRecDepth 20000 in
theorem gL_law_X12_sum : GoodIn wsL_law (wsV RL 40 RX12 yX12_sum wsX12_sum) := goodIn_app (goodIn_of _ (by decide +kernel)) ggL_law_X12_sum
set_option maxRecDepth 20000 in
theorem ggL_law_X11_setLabels : GoodIn wsL_law wsX11_setLabels := goodIn_r _ [273, 18, 23, 228, 201, 202, 14, 203, 158, 274, 275, 276, 277, 50, 200, 159, 160, 161, 22, 162, 76, 77, 163, 164, 165, 166, 75, 167, 168, 169, 170, 49, 51, 278, 205, 206, 207, 1378, 1379, 1380, 1381, 1382, 1383, 1384, 1385, 1386, 1387, 1388, 1429, 1430, 1431, 1432, 1439, 1440, 1441] (by decide +kernel) (by decide +kernel)
set_option maxRecDepth 20000 in
theorem gL_law_X11_setLabels : GoodIn wsL_law (wsV RL 41 RX11 yX11_setLabels wsX11_setLabels) := goodIn_app (goodIn_of _ (by decide +kernel)) ggL_law_X11_setLabels
set_option maxRecDepth 20000 in
theorem ggL_law_X12_setLabels : GoodIn wsL_law wsX12_setLabels := goodIn_r _ [282, 125, 243, 244, 245, 5, 246, 247, 248, 249, 179, 180, 181, 182, 183, 127, 184, 185, 186, 187, 1389, 1390, 1391, 1392, 1393, 1394, 1395, 1396, 1397, 1398, 1399, 1400, 1401, 1402, 1403, 1404, 1405, 1406, 1407, 1408, 1409, 1410, 1411, 1412, 1413, 1414, 1415, 1416, 1417, 1418, 1419, 1420, 1421, 1422, 1423, 1424, 1425, 1426, 1427, 1428] (by decide +kernel) (by decide +kernel)
set_option maxRecDepth 20000 in
theorem gL_law_X12_setLabels : GoodIn wsL_law (wsV RL 44 RX12 yX12_setLabels wsX12_setLabels) := goodIn_app (goodIn_of _ (by decide +kernel)) ggL_law_X12_setLabels
