set_option maxRecDepth 20000 in
theorem ggL_law_X11_labels : GoodIn wsL_law wsX11_labels := goodIn_r _ [286, 18, 228, 201, 202, 14, 203, 158, 274, 275, 276, 277, 50, 200, 1378, 1379, 1380, 1381, 1382, 1383, 1384, 1385, 1386, 1387, 1388, 1429, 1430, 1431, 1432] (by decide +kernel) (by decide +kernel)
set_option maxRecDepth 20000 in
theorem gL_law_X11_labels : GoodIn wsL_law (wsV RL 45 RX11 yX11_labels wsX11_labels) := goodIn_app (goodIn_of _ (by decide +kernel)) ggL_law_X11_labels
set_option maxRecDepth 20000 in
theorem ggL_law_X12_labels : GoodIn wsL_law wsX12_labels := goodIn_r _ [290, 125, 243, 244, 245, 5, 246, 247, 248, 249, 1389, 1390, 1391, 1392, 1393, 1394, 1395, 1396, 1397, 1398, 1399, 1400, 1401, 1402, 1403, 1404, 1405, 1406, 1407, 1408, 1409, 1410, 1411, 1412, 1413, 1414, 1415, 1416, 1417, 1418, 1419, 1420, 1421, 1422, 1423, 1424, 1425, 1426, 1427, 1428] (by decide +kernel) (by decide +kernel)
set_option maxRecDepth 20000 in
theorem gL_law_X12_labels : GoodIn wsL_law (wsV RL 48 RX12 yX12_labels wsX12_labels) := goodIn_app (goodIn_of _ (by decide +kernel)) ggL_law_X12_labels
set_option maxRecDepth 20000 in
theorem ggL_law_X11_setReward : GoodIn wsL_law wsX11_setReward := goodIn_r _ [294, 18, 23, 228, 201, 202, 14, 203, 158, 295, 296, 297, 298, 51, 200, 159, 160, 161, 22, 162, 76, 77, 163, 164, 165, 166, 75, 167, 168, 169, 170, 49, 50, 299, 209, 210, 211, 1378, 1379, 1380, 1381, 1382, 1383, 1384, 1385, 1386, 1387, 1388, 1429, 1430, 1431, 1432, 1439, 1440, 1441] (by decide +kernel) (by decide +kernel)
set_option maxRecDepth 20000 in
theorem gL_law_X11_setReward : GoodIn wsL_law (wsV RL 49 RX11 yX11_setReward wsX11_setReward) := goodIn_app (goodIn_of _ (by decide +kernel)) ggL_law_X11_setReward
set_option maxRecDepth 20000 in
theorem ggL_law_X12_setReward : GoodIn wsL_law wsX12_setReward := goodIn_r _ [303, 125, 243, 244, 245, 5, 246, 247, 248, 249, 179, 180, 181, 182, 183, 127, 184, 185, 186, 187, 1389, 1390, 1391, 1392, 1393, 1394, 1395, 1396, 1397, 1398, 1399, 1400, 1401, 1402, 1403, 1404, 1405, 1406, 1407, 1408, 1409, 1410, 1411, 1412, 1413, 1414, 1415, 1416, 1417, 1418, 1419, 1420, 1421, 1422, 1423, 1424, 1425, 1426, 1427, 1428] (by decide +kernel) (by decide +kernel)
set_option maxRecDepth 20000 in
theorem gL_law_X12_setReward : GoodIn wsL_law (wsV RL 52 RX12 yX12_setReward wsX12_setReward) := goodIn_app (goodIn_of _ (by decide +kernel)) ggL_law_X12_setReward
set_option maxRecDepth 20000 in
theorem ggL_law_X11_reward : GoodIn wsL_law wsX11_reward := goodIn_r _ [307, 18, 228, 201, 202, 14, 203, 158, 295, 296, 297, 298, 51, 200, 1378, 1379, 1380, 1381, 1382, 1383, 1384, 1385, 1386, 1387, 1388, 1429, 1430, 1431, 1432] (by decide +kernel) (by decide +kernel)
set_option maxRecDepth 20000 in
theorem gL_law_X11_reward : GoodIn wsL_law (wsV RL 53 RX11 yX11_reward wsX11_reward) := goodIn_app (goodIn_of _ (by decide +kernel)) ggL_law_X11_reward
set_option maxRecDepth 20000 in
theorem ggL_law_X12_reward : GoodIn wsL_law wsX12_reward := goodIn_r _ [311, 125, 243, 244, 245, 5, 246, 247, 248, 249, 1389, 1390, 1391, 1392, 1393, 1394, 1395, 1396, 1397, 1398, 1399, 1400, 1401, 1402, 1403, 1404, 1405, 1406, 1407, 1408, 1409, 1410, 1411, 1412, 1413, 1414, 1415, 1416, 1417, 1418, 1419, 1420, 1421, 1422, 1423, 1424, 1425, 1426, 1427, 1428] (by decide +kernel) (by decide +kernel)
set_option maxRecDepth 20000 in
theorem gL_law_X12_reward : GoodIn wsL_law (wsV RL 56 RX12 yX12_reward wsX12_reward) := goodIn_app (goodIn_of _ (by decide +kernel)) ggL_law_X12_reward
set_option maxRecDepth 20000 in
theorem ggL_law_X11_reaches : GoodIn wsL_law wsX11_reaches := goodIn_r _ [315, 18, 228, 201, 202, 14, 203, 158, 316, 317, 318, 319, 320, 2, 321, 322, 323, 324, 325, 237, 230, 231, 232, 49, 1378, 1379, 1380, 1381, 1382, 1383, 1384, 1385, 1386, 1387, 1388, 1429, 1430, 1431, 1432] (by decide +kernel) (by decide +kernel)
set_option maxRecDepth 20000 in
theorem gL_law_X11_reaches : GoodIn wsL_law (wsV RL 57 RX11 yX11_reaches wsX11_reaches) := goodIn_app (goodIn_of _ (by decide +kernel)) ggL_law_X11_reaches
set_option maxRecDepth 20000 in
theorem ggL_law_X12_reaches : GoodIn wsL_law wsX12_reaches := goodIn_r _ [329, 243, 244, 245, 5, 246, 125, 247, 248, 249, 330, 331, 332, 333, 334, 335, 336, 337, 338, 339, 340, 250, 251, 252, 253, 1389, 1390, 1391, 1392, 1393, 1394, 1395, 1396, 1397, 1398, 1399, 1400, 1401, 1402, 1403, 1404, 1405, 1406, 1407, 1408, 1409, 1410, 1411, 1412, 1413, 1414, 1415, 1416, 1417, 1418, 1419, 1420, 1421, 1422, 1423, 1424, 1425, 1426, 1427, 1428] (by decide +kernel) (by decide +kernel)
set_option maxRecDepth 20000 in
theorem gL_law_X12_reaches : GoodIn wsL_law (wsV RL 60 RX12 yX12_reaches wsX12_reaches) := goodIn_app (goodIn_of _ (by decide +kernel)) ggL_law_X12_reaches
