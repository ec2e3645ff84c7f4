set_option maxRecDepth 20000 in
theorem ggL_law_X11_lumped : GoodIn wsL_law wsX11_lumped := goodIn_L tie_wsX11_lumped (by decide +kernel)
set_option maxRecDepth 20000 in
theorem gL_law_X11_lumped : GoodIn wsL_law (wsV RL 77 RX11 yX11_lumped wsX11_lumped) := goodIn_app (goodIn_L (is := [448, 449, 450, 2]) rfl (by decide +kernel)) ggL_law_X11_lumped
set_option maxRecDepth 20000 in
theorem ggL_law_X12_lumped : GoodIn wsL_law wsX12_lumped := goodIn_L tie_wsX12_lumped (by decide +kernel)
set_option maxRecDepth 20000 in
theorem gL_law_X12_lumped : GoodIn wsL_law (wsV RL 81 RX12 yX12_lumped wsX12_lumped) := goodIn_app (goodIn_L (is := [474, 475, 476, 5]) rfl (by decide +kernel)) ggL_law_X12_lumped
set_option maxRecDepth 20000 in
theorem ggL_law_X11_feed : GoodIn wsL_law wsX11_feed := goodIn_L tie_wsX11_feed (by decide +kernel)
set_option maxRecDepth 20000 in
theorem gL_law_X11_feed : GoodIn wsL_law (wsV RL 82 RX11 yX11_feed wsX11_feed) := goodIn_app (goodIn_L (is := [495, 496, 497, 2]) rfl (by decide +kernel)) ggL_law_X11_feed
set_option maxRecDepth 20000 in
theorem ggL_law_X12_feed : GoodIn wsL_law wsX12_feed := goodIn_L tie_wsX12_feed (by decide +kernel)
set_option maxRecDepth 20000 in
theorem gL_law_X12_feed : GoodIn wsL_law (wsV RL 85 RX12 yX12_feed wsX12_feed) := goodIn_app (goodIn_L (is := [604, 605, 606, 5]) rfl (by decide +kernel)) ggL_law_X12_feed
set_option maxRecDepth 20000 in
theorem ggL_law_X11_addFormula : GoodIn wsL_law wsX11_addFormula := goodIn_L tie_wsX11_addFormula (by decide +kernel)
set_option maxRecDepth 20000 in
theorem gL_law_X11_addFormula : GoodIn wsL_law (wsV RL 86 RX11 yX11_addFormula wsX11_addFormula) := goodIn_app (goodIn_L (is := [609, 610, 611, 2]) rfl (by decide +kernel)) ggL_law_X11_addFormula
set_option maxRecDepth 20000 in
theorem ggL_law_X12_addFormula : GoodIn wsL_law wsX12_addFormula := goodIn_L tie_wsX12_addFormula (by decide +kernel)
set_option maxRecDepth 20000 in
theorem gL_law_X12_addFormula : GoodIn wsL_law (wsV RL 89 RX12 yX12_addFormula wsX12_addFormula) := goodIn_app (goodIn_L (is := [802, 803, 804, 5]) rfl (by decide +kernel)) ggL_law_X12_addFormula
set_option maxRecDepth 20000 in
theorem ggL_law_X11_formulaCount : GoodIn wsL_law wsX11_formulaCount := goodIn_L tie_wsX11_formulaCount (by decide +kernel)
set_option maxRecDepth 20000 in
theorem gL_law_X11_formulaCount : GoodIn wsL_law (wsV RL 90 RX11 yX11_formulaCount wsX11_formulaCount) := goodIn_app (goodIn_L (is := [865, 866, 867, 2]) rfl (by decide +kernel)) ggL_law_X11_formulaCount
set_option maxRecDepth 20000 in
theorem ggL_law_X12_formulaCount : GoodIn wsL_law wsX12_formulaCount := goodIn_L tie_wsX12_formulaCount (by decide +kernel)
set_option maxRecDepth 20000 in
theorem gL_law_X12_formulaCount : GoodIn wsL_law (wsV RL 93 RX12 yX12_formulaCount wsX12_formulaCount) := goodIn_app (goodIn_L (is := [869, 870, 871, 5]) rfl (by decide +kernel)) ggL_law_X12_formulaCount
