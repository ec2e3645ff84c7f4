set_option maxRecDepth 20000 in
theorem ggL_law_X11_expected : GoodIn wsL_law wsX11_expected := goodIn_L tie_wsX11_expected (by decide +kernel)
set_option maxRecDepth 20000 in
theorem gL_law_X11_expected : GoodIn wsL_law (wsV RL 145 RX11 yX11_expected wsX11_expected) := goodIn_app (goodIn_L (is := [1237, 1238, 1239, 2]) rfl (by decide +kernel)) ggL_law_X11_expected
set_option maxRecDepth 20000 in
theorem ggL_law_X12_expected : GoodIn wsL_law wsX12_expected := goodIn_L tie_wsX12_expected (by decide +kernel)
set_option maxRecDepth 20000 in
theorem gL_law_X12_expected : GoodIn wsL_law (wsV RL 148 RX12 yX12_expected wsX12_expected) := goodIn_app (goodIn_L (is := [1246, 1247, 1248, 5]) rfl (by decide +kernel)) ggL_law_X12_expected
set_option maxRecDepth 20000 in
theorem ggL_law_X11_bestPath : GoodIn wsL_law wsX11_bestPath := goodIn_L tie_wsX11_bestPath (by decide +kernel)
set_option maxRecDepth 20000 in
theorem gL_law_X11_bestPath : GoodIn wsL_law (wsV RL 149 RX11 yX11_bestPath wsX11_bestPath) := goodIn_app (goodIn_L (is := [1251, 1252, 1253, 2]) rfl (by decide +kernel)) ggL_law_X11_bestPath
set_option maxRecDepth 20000 in
theorem ggL_law_X12_bestPath : GoodIn wsL_law wsX12_bestPath := goodIn_L tie_wsX12_bestPath (by decide +kernel)
set_option maxRecDepth 20000 in
theorem gL_law_X12_bestPath : GoodIn wsL_law (wsV RL 153 RX12 yX12_bestPath wsX12_bestPath) := goodIn_app (goodIn_L (is := [1286, 1287, 1288, 5]) rfl (by decide +kernel)) ggL_law_X12_bestPath
set_option maxRecDepth 20000 in
theorem ggL_law_X11_bestProduct : GoodIn wsL_law wsX11_bestProduct := goodIn_L tie_wsX11_bestProduct (by decide +kernel)
set_option maxRecDepth 20000 in
theorem gL_law_X11_bestProduct : GoodIn wsL_law (wsV RL 154 RX11 yX11_bestProduct wsX11_bestProduct) := goodIn_app (goodIn_L (is := [1302, 1303, 1304, 2]) rfl (by decide +kernel)) ggL_law_X11_bestProduct
set_option maxRecDepth 20000 in
theorem ggL_law_X12_bestProduct : GoodIn wsL_law wsX12_bestProduct := goodIn_L tie_wsX12_bestProduct (by decide +kernel)
set_option maxRecDepth 20000 in
theorem gL_law_X12_bestProduct : GoodIn wsL_law (wsV RL 157 RX12 yX12_bestProduct wsX12_bestProduct) := goodIn_app (goodIn_L (is := [1311, 1312, 1313, 5]) rfl (by decide +kernel)) ggL_law_X12_bestProduct
set_option maxRecDepth 20000 in
theorem ggL_law_X11_walk : GoodIn wsL_law wsX11_walk := goodIn_L tie_wsX11_walk (by decide +kernel)
set_option maxRecDepth 20000 in
theorem gL_law_X11_walk : GoodIn wsL_law (wsV RL 158 RX11 yX11_walk wsX11_walk) := goodIn_app (goodIn_L (is := [1316, 1317, 1318, 2]) rfl (by decide +kernel)) ggL_law_X11_walk
set_option maxRecDepth 20000 in
theorem ggL_law_X12_walk : GoodIn wsL_law wsX12_walk := goodIn_L tie_wsX12_walk (by decide +kernel)
set_option maxRecDepth 20000 in
theorem gL_law_X12_walk : GoodIn wsL_law (wsV RL 161 RX12 yX12_walk wsX12_walk) := goodIn_app (goodIn_L (is := [1325, 1326, 1327, 5]) rfl (by decide +kernel)) ggL_law_X12_walk
