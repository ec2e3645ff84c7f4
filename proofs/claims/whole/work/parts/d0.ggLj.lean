set_option maxRecDepth 20000 in
theorem ggL_law_X11_save : GoodIn wsL_law wsX11_save := goodIn_L tie_wsX11_save (by decide +kernel)
set_option maxRecDepth 20000 in
theorem gL_law_X11_save : GoodIn wsL_law (wsV RL 162 RX11 yX11_save wsX11_save) := goodIn_app (goodIn_L (is := [1330, 1331, 1332, 2]) rfl (by decide +kernel)) ggL_law_X11_save
set_option maxRecDepth 20000 in
theorem ggL_law_X12_save : GoodIn wsL_law wsX12_save := goodIn_L tie_wsX12_save (by decide +kernel)
set_option maxRecDepth 20000 in
theorem gL_law_X12_save : GoodIn wsL_law (wsV RL 165 RX12 yX12_save wsX12_save) := goodIn_app (goodIn_L (is := [1335, 1336, 1337, 5]) rfl (by decide +kernel)) ggL_law_X12_save
set_option maxRecDepth 20000 in
theorem ggL_law_X11_restore : GoodIn wsL_law wsX11_restore := goodIn_L tie_wsX11_restore (by decide +kernel)
set_option maxRecDepth 20000 in
theorem gL_law_X11_restore : GoodIn wsL_law (wsV RL 166 RX11 yX11_restore wsX11_restore) := goodIn_app (goodIn_L (is := [1340, 1341, 1342, 2]) rfl (by decide +kernel)) ggL_law_X11_restore
set_option maxRecDepth 20000 in
theorem ggL_law_X12_restore : GoodIn wsL_law wsX12_restore := goodIn_L tie_wsX12_restore (by decide +kernel)
set_option maxRecDepth 20000 in
theorem gL_law_X12_restore : GoodIn wsL_law (wsV RL 169 RX12 yX12_restore wsX12_restore) := goodIn_app (goodIn_L (is := [1344, 1345, 1346, 5]) rfl (by decide +kernel)) ggL_law_X12_restore
set_option maxRecDepth 20000 in
theorem ggL_law_X11_undo : GoodIn wsL_law wsX11_undo := goodIn_L tie_wsX11_undo (by decide +kernel)
set_option maxRecDepth 20000 in
theorem gL_law_X11_undo : GoodIn wsL_law (wsV RL 170 RX11 yX11_undo wsX11_undo) := goodIn_app (goodIn_L (is := [1348, 1349, 1350, 2]) rfl (by decide +kernel)) ggL_law_X11_undo
set_option maxRecDepth 20000 in
theorem ggL_law_X12_undo : GoodIn wsL_law wsX12_undo := goodIn_L tie_wsX12_undo (by decide +kernel)
set_option maxRecDepth 20000 in
theorem gL_law_X12_undo : GoodIn wsL_law (wsV RL 173 RX12 yX12_undo wsX12_undo) := goodIn_app (goodIn_L (is := [1360, 1361, 1362, 5]) rfl (by decide +kernel)) ggL_law_X12_undo
