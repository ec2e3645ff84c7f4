set_option maxRecDepth 20000 in
theorem ggL_law_X11_component : GoodIn wsL_law wsX11_component := goodIn_r _ [344, 18, 228, 201, 202, 14, 203, 158, 345, 346, 347, 348, 349, 317, 318, 319, 320, 2, 321, 322, 323, 324, 325, 237, 230, 231, 232, 49, 1378, 1379, 1380, 1381, 1382, 1383, 1384, 1385, 1386, 1387, 1388, 1429, 1430, 1431, 1432] (by decide +kernel) (by decide +kernel)
set_option maxRecDepth 20000 in
theorem gL_law_X11_component : GoodIn wsL_law (wsV RL 61 RX11 yX11_component wsX11_component) := goodIn_app (goodIn_of _ (by decide +kernel)) ggL_law_X11_component
set_option maxRecDepth 20000 in
theorem ggL_law_X12_component : GoodIn wsL_law wsX12_component := goodIn_r _ [353, 243, 244, 245, 5, 246, 125, 247, 248, 249, 354, 355, 356, 357, 330, 331, 332, 333, 334, 335, 336, 337, 338, 339, 340, 250, 251, 252, 253, 1389, 1390, 1391, 1392, 1393, 1394, 1395, 1396, 1397, 1398, 1399, 1400, 1401, 1402, 1403, 1404, 1405, 1406, 1407, 1408, 1409, 1410, 1411, 1412, 1413, 1414, 1415, 1416, 1417, 1418, 1419, 1420, 1421, 1422, 1423, 1424, 1425, 1426, 1427, 1428] (by decide +kernel) (by decide +kernel)
set_option maxRecDepth 20000 in
theorem gL_law_X12_component : GoodIn wsL_law (wsV RL 64 RX12 yX12_component wsX12_component) := goodIn_app (goodIn_of _ (by decide +kernel)) ggL_law_X12_component
set_option maxRecDepth 20000 in
theorem ggL_law_X11_bottoms : GoodIn wsL_law wsX11_bottoms := goodIn_r _ [361, 18, 362, 363, 364, 14, 365, 158, 366, 367, 368, 369, 349, 317, 318, 319, 320, 2, 321, 322, 323, 324, 325, 237, 230, 231, 232, 49, 1378, 1379, 1380, 1381, 1382, 1383, 1384, 1385, 1386, 1387, 1388, 1429, 1430, 1431, 1432] (by decide +kernel) (by decide +kernel)
set_option maxRecDepth 20000 in
theorem gL_law_X11_bottoms : GoodIn wsL_law (wsV RL 65 RX11 yX11_bottoms wsX11_bottoms) := goodIn_app (goodIn_of _ (by decide +kernel)) ggL_law_X11_bottoms
set_option maxRecDepth 20000 in
theorem ggL_law_X12_bottoms : GoodIn wsL_law wsX12_bottoms := goodIn_r _ [373, 125, 374, 375, 376, 5, 377, 354, 355, 356, 357, 330, 331, 332, 333, 334, 335, 336, 337, 338, 339, 340, 250, 251, 252, 253, 1389, 1390, 1391, 1392, 1393, 1394, 1395, 1396, 1397, 1398, 1399, 1400, 1401, 1402, 1403, 1404, 1405, 1406, 1407, 1408, 1409, 1410, 1411, 1412, 1413, 1414, 1415, 1416, 1417, 1418, 1419, 1420, 1421, 1422, 1423, 1424, 1425, 1426, 1427, 1428] (by decide +kernel) (by decide +kernel)
set_option maxRecDepth 20000 in
theorem gL_law_X12_bottoms : GoodIn wsL_law (wsV RL 68 RX12 yX12_bottoms wsX12_bottoms) := goodIn_app (goodIn_of _ (by decide +kernel)) ggL_law_X12_bottoms
set_option maxRecDepth 20000 in
theorem ggL_law_X11_classCount : GoodIn wsL_law wsX11_classCount := goodIn_r _ [381, 27, 382, 383, 384, 26, 385, 82, 85, 84, 83, 386, 155, 156, 14, 157, 158, 387, 388, 389, 390, 391, 201, 202, 203, 392, 393, 394, 395, 396, 275, 276, 277, 50, 200, 397, 296, 297, 298, 51, 398, 399, 400, 401, 402, 2, 403, 404, 405, 406, 407, 408, 409, 410, 411, 320, 321, 237, 230, 231, 232, 49, 412, 234, 235, 236, 413, 414, 415, 416, 417, 418, 419, 420, 1378, 1379, 1380, 1381, 1382, 1383, 1384, 1385, 1386, 1387, 1388, 1442, 1443, 1444, 1445, 1429, 1430, 1431, 1432] (by decide +kernel) (by decide +kernel)
set_option maxRecDepth 20000 in
theorem gL_law_X11_classCount : GoodIn wsL_law (wsV RL 69 RX11 yX11_classCount wsX11_classCount) := goodIn_app (goodIn_of _ (by decide +kernel)) ggL_law_X11_classCount
set_option maxRecDepth 20000 in
theorem ggL_law_X12_classCount : GoodIn wsL_law wsX12_classCount := goodIn_r _ [424, 425, 426, 427, 5, 428, 125, 128, 129, 184, 185, 186, 187, 429, 430, 431, 432, 433, 434, 435, 436, 437, 438, 439, 440, 334, 335, 336, 337, 338, 339, 340, 250, 251, 252, 253, 441, 442, 443, 444, 445, 446, 447, 448, 1389, 1390, 1391, 1392, 1393, 1394, 1395, 1396, 1397, 1398, 1399, 1400, 1401, 1402, 1403, 1404, 1405, 1406, 1407, 1408, 1409, 1410, 1411, 1412, 1413, 1414, 1415, 1416, 1417, 1418, 1419, 1420, 1421, 1422, 1423, 1424, 1425, 1426, 1427, 1428] (by decide +kernel) (by decide +kernel)
set_option maxRecDepth 20000 in
theorem gL_law_X12_classCount : GoodIn wsL_law (wsV RL 72 RX12 yX12_classCount wsX12_classCount) := goodIn_app (goodIn_of _ (by decide +kernel)) ggL_law_X12_classCount
set_option maxRecDepth 20000 in
theorem ggL_law_X11_classOf : GoodIn wsL_law wsX11_classOf := goodIn_r _ [452, 18, 27, 228, 201, 202, 14, 203, 158, 382, 383, 384, 26, 385, 82, 85, 84, 83, 386, 155, 156, 157, 387, 388, 389, 390, 391, 392, 393, 394, 395, 396, 275, 276, 277, 50, 200, 397, 296, 297, 298, 51, 398, 399, 400, 401, 402, 2, 403, 404, 405, 406, 407, 408, 409, 410, 411, 320, 321, 237, 230, 231, 232, 49, 412, 234, 235, 236, 413, 414, 415, 416, 453, 1378, 1379, 1380, 1381, 1382, 1383, 1384, 1385, 1386, 1387, 1388, 1429, 1430, 1431, 1432, 1442, 1443, 1444, 1445] (by decide +kernel) (by decide +kernel)
set_option maxRecDepth 20000 in
theorem gL_law_X11_classOf : GoodIn wsL_law (wsV RL 73 RX11 yX11_classOf wsX11_classOf) := goodIn_app (goodIn_of _ (by decide +kernel)) ggL_law_X11_classOf
set_option maxRecDepth 20000 in
theorem ggL_law_X12_classOf : GoodIn wsL_law wsX12_classOf := goodIn_r _ [457, 128, 243, 244, 245, 5, 246, 125, 247, 248, 249, 425, 426, 427, 428, 129, 184, 185, 186, 187, 429, 430, 431, 432, 433, 434, 435, 436, 437, 438, 439, 440, 334, 335, 336, 337, 338, 339, 340, 250, 251, 252, 253, 441, 442, 443, 444, 445, 446, 447, 448, 1389, 1390, 1391, 1392, 1393, 1394, 1395, 1396, 1397, 1398, 1399, 1400, 1401, 1402, 1403, 1404, 1405, 1406, 1407, 1408, 1409, 1410, 1411, 1412, 1413, 1414, 1415, 1416, 1417, 1418, 1419, 1420, 1421, 1422, 1423, 1424, 1425, 1426, 1427, 1428] (by decide +kernel) (by decide +kernel)
set_option maxRecDepth 20000 in
theorem gL_law_X12_classOf : GoodIn wsL_law (wsV RL 76 RX12 yX12_classOf wsX12_classOf) := goodIn_app (goodIn_of _ (by decide +kernel)) ggL_law_X12_classOf
