set_option maxRecDepth 20000 in
theorem ggL_law_X11_never : GoodIn wsL_law wsX11_never := goodIn_L tie_wsX11_never (by decide +kernel)
set_option maxRecDepth 20000 in
theorem gL_law_X11_never : GoodIn wsL_law (wsV RL 128 RX11 yX11_never wsX11_never) := goodIn_app (goodIn_L (is := [1196, 1197, 1198, 2]) rfl (by decide +kernel)) ggL_law_X11_never
set_option maxRecDepth 20000 in
theorem ggL_law_X12_never : GoodIn wsL_law wsX12_never := goodIn_L tie_wsX12_never (by decide +kernel)
set_option maxRecDepth 20000 in
theorem gL_law_X12_never : GoodIn wsL_law (wsV RL 131 RX12 yX12_never wsX12_never) := goodIn_app (goodIn_L (is := [1204, 1205, 1206, 5]) rfl (by decide +kernel)) ggL_law_X12_never
set_option maxRecDepth 20000 in
theorem ggL_law_X11_surely : GoodIn wsL_law wsX11_surely := goodIn_L tie_wsX11_surely (by decide +kernel)
set_option maxRecDepth 20000 in
theorem gL_law_X11_surely : GoodIn wsL_law (wsV RL 132 RX11 yX11_surely wsX11_surely) := goodIn_app (goodIn_L (is := [1212, 1213, 1214, 2]) rfl (by decide +kernel)) ggL_law_X11_surely
set_option maxRecDepth 20000 in
theorem ggL_law_X12_surely : GoodIn wsL_law wsX12_surely := goodIn_L tie_wsX12_surely (by decide +kernel)
set_option maxRecDepth 20000 in
theorem gL_law_X12_surely : GoodIn wsL_law (wsV RL 135 RX12 yX12_surely wsX12_surely) := goodIn_app (goodIn_L (is := [1217, 1218, 1219, 5]) rfl (by decide +kernel)) ggL_law_X12_surely
set_option maxRecDepth 20000 in
theorem ggL_law_X11_steady : GoodIn wsL_law wsX11_steady := goodIn_L tie_wsX11_steady (by decide +kernel)
set_option maxRecDepth 20000 in
theorem gL_law_X11_steady : GoodIn wsL_law (wsV RL 136 RX11 yX11_steady wsX11_steady) := goodIn_app (goodIn_L (is := [1221, 1222, 1223, 2]) rfl (by decide +kernel)) ggL_law_X11_steady
set_option maxRecDepth 20000 in
theorem ggL_law_X12_steady : GoodIn wsL_law wsX12_steady := goodIn_L tie_wsX12_steady (by decide +kernel)
set_option maxRecDepth 20000 in
theorem gL_law_X12_steady : GoodIn wsL_law (wsV RL 139 RX12 yX12_steady wsX12_steady) := goodIn_app (goodIn_L (is := [1225, 1226, 1227, 5]) rfl (by decide +kernel)) ggL_law_X12_steady
set_option maxRecDepth 20000 in
theorem ggL_law_X11_share : GoodIn wsL_law wsX11_share := goodIn_L tie_wsX11_share (by decide +kernel)
set_option maxRecDepth 20000 in
theorem gL_law_X11_share : GoodIn wsL_law (wsV RL 140 RX11 yX11_share wsX11_share) := goodIn_app (goodIn_L (is := [1229, 1230, 1231, 2]) rfl (by decide +kernel)) ggL_law_X11_share
set_option maxRecDepth 20000 in
theorem ggL_law_X12_share : GoodIn wsL_law wsX12_share := goodIn_L tie_wsX12_share (by decide +kernel)
set_option maxRecDepth 20000 in
theorem gL_law_X12_share : GoodIn wsL_law (wsV RL 144 RX12 yX12_share wsX12_share) := goodIn_app (goodIn_L (is := [1233, 1234, 1235, 5]) rfl (by decide +kernel)) ggL_law_X12_share
