set_option maxRecDepth 20000 in
theorem ggL_law_X11_init : GoodIn wsL_law wsX11_init := goodIn_L tie_wsX11_init (by decide +kernel)
set_option maxRecDepth 20000 in
theorem gL_law_X11_init : GoodIn wsL_law (wsX11_init) := ggL_law_X11_init
set_option maxRecDepth 20000 in
theorem ggL_law_X12_init : GoodIn wsL_law wsX12_init := goodIn_L tie_wsX12_init (by decide +kernel)
set_option maxRecDepth 20000 in
theorem gL_law_X12_init : GoodIn wsL_law (wsX12_init) := ggL_law_X12_init
set_option maxRecDepth 20000 in
theorem ggL_law_X11_addState : GoodIn wsL_law wsX11_addState := goodIn_L tie_wsX11_addState (by decide +kernel)
set_option maxRecDepth 20000 in
theorem gL_law_X11_addState : GoodIn wsL_law (wsV RL 13 RX11 yX11_addState wsX11_addState) := goodIn_app (goodIn_L (is := [140, 141, 142, 2]) rfl (by decide +kernel)) ggL_law_X11_addState
set_option maxRecDepth 20000 in
theorem ggL_law_X12_addState : GoodIn wsL_law wsX12_addState := goodIn_L tie_wsX12_addState (by decide +kernel)
set_option maxRecDepth 20000 in
theorem gL_law_X12_addState : GoodIn wsL_law (wsV RL 17 RX12 yX12_addState wsX12_addState) := goodIn_app (goodIn_L (is := [165, 166, 167, 5]) rfl (by decide +kernel)) ggL_law_X12_addState
set_option maxRecDepth 20000 in
theorem ggL_law_X11_removeState : GoodIn wsL_law wsX11_removeState := goodIn_L tie_wsX11_removeState (by decide +kernel)
set_option maxRecDepth 20000 in
theorem gL_law_X11_removeState : GoodIn wsL_law (wsV RL 18 RX11 yX11_removeState wsX11_removeState) := goodIn_app (goodIn_L (is := [178, 179, 180, 2]) rfl (by decide +kernel)) ggL_law_X11_removeState
set_option maxRecDepth 20000 in
theorem ggL_law_X12_removeState : GoodIn wsL_law wsX12_removeState := goodIn_L tie_wsX12_removeState (by decide +kernel)
set_option maxRecDepth 20000 in
theorem gL_law_X12_removeState : GoodIn wsL_law (wsV RL 21 RX12 yX12_removeState wsX12_removeState) := goodIn_app (goodIn_L (is := [202, 203, 204, 5]) rfl (by decide +kernel)) ggL_law_X12_removeState
set_option maxRecDepth 20000 in
theorem ggL_law_X11_stateCount : GoodIn wsL_law wsX11_stateCount := goodIn_L tie_wsX11_stateCount (by decide +kernel)
set_option maxRecDepth 20000 in
theorem gL_law_X11_stateCount : GoodIn wsL_law (wsV RL 22 RX11 yX11_stateCount wsX11_stateCount) := goodIn_app (goodIn_L (is := [206, 207, 208, 2]) rfl (by decide +kernel)) ggL_law_X11_stateCount
set_option maxRecDepth 20000 in
theorem ggL_law_X12_stateCount : GoodIn wsL_law wsX12_stateCount := goodIn_L tie_wsX12_stateCount (by decide +kernel)
set_option maxRecDepth 20000 in
theorem gL_law_X12_stateCount : GoodIn wsL_law (wsV RL 25 RX12 yX12_stateCount wsX12_stateCount) := goodIn_app (goodIn_L (is := [210, 211, 212, 5]) rfl (by decide +kernel)) ggL_law_X12_stateCount
