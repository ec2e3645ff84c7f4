set_option maxRecDepth 20000 in
theorem ggL_law_X11_clearFormulas : GoodIn wsL_law wsX11_clearFormulas := goodIn_L tie_wsX11_clearFormulas (by decide +kernel)
set_option maxRecDepth 20000 in
theorem gL_law_X11_clearFormulas : GoodIn wsL_law (wsV RL 94 RX11 yX11_clearFormulas wsX11_clearFormulas) := goodIn_app (goodIn_L (is := [873, 874, 875, 2]) rfl (by decide +kernel)) ggL_law_X11_clearFormulas
set_option maxRecDepth 20000 in
theorem ggL_law_X12_clearFormulas : GoodIn wsL_law wsX12_clearFormulas := goodIn_L tie_wsX12_clearFormulas (by decide +kernel)
set_option maxRecDepth 20000 in
theorem gL_law_X12_clearFormulas : GoodIn wsL_law (wsV RL 97 RX12 yX12_clearFormulas wsX12_clearFormulas) := goodIn_app (goodIn_L (is := [877, 878, 879, 5]) rfl (by decide +kernel)) ggL_law_X12_clearFormulas
set_option maxRecDepth 20000 in
theorem ggL_law_X11_letter : GoodIn wsL_law wsX11_letter := goodIn_L tie_wsX11_letter (by decide +kernel)
set_option maxRecDepth 20000 in
theorem gL_law_X11_letter : GoodIn wsL_law (wsV RL 98 RX11 yX11_letter wsX11_letter) := goodIn_app (goodIn_L (is := [881, 882, 883, 2]) rfl (by decide +kernel)) ggL_law_X11_letter
set_option maxRecDepth 20000 in
theorem ggL_law_X12_letter : GoodIn wsL_law wsX12_letter := goodIn_L tie_wsX12_letter (by decide +kernel)
set_option maxRecDepth 20000 in
theorem gL_law_X12_letter : GoodIn wsL_law (wsV RL 101 RX12 yX12_letter wsX12_letter) := goodIn_app (goodIn_L (is := [895, 896, 897, 5]) rfl (by decide +kernel)) ggL_law_X12_letter
set_option maxRecDepth 20000 in
theorem ggL_law_X11_depth : GoodIn wsL_law wsX11_depth := goodIn_L tie_wsX11_depth (by decide +kernel)
set_option maxRecDepth 20000 in
theorem gL_law_X11_depth : GoodIn wsL_law (wsV RL 102 RX11 yX11_depth wsX11_depth) := goodIn_app (goodIn_L (is := [903, 904, 905, 2]) rfl (by decide +kernel)) ggL_law_X11_depth
set_option maxRecDepth 20000 in
theorem ggL_law_X12_depth : GoodIn wsL_law wsX12_depth := goodIn_L tie_wsX12_depth (by decide +kernel)
set_option maxRecDepth 20000 in
theorem gL_law_X12_depth : GoodIn wsL_law (wsV RL 105 RX12 yX12_depth wsX12_depth) := goodIn_app (goodIn_L (is := [911, 912, 913, 5]) rfl (by decide +kernel)) ggL_law_X12_depth
set_option maxRecDepth 20000 in
theorem ggL_law_X11_holdsIn : GoodIn wsL_law wsX11_holdsIn := goodIn_L tie_wsX11_holdsIn (by decide +kernel)
set_option maxRecDepth 20000 in
theorem gL_law_X11_holdsIn : GoodIn wsL_law (wsV RL 106 RX11 yX11_holdsIn wsX11_holdsIn) := goodIn_app (goodIn_L (is := [928, 929, 930, 2]) rfl (by decide +kernel)) ggL_law_X11_holdsIn
set_option maxRecDepth 20000 in
theorem ggL_law_X12_holdsIn : GoodIn wsL_law wsX12_holdsIn := goodIn_L tie_wsX12_holdsIn (by decide +kernel)
set_option maxRecDepth 20000 in
theorem gL_law_X12_holdsIn : GoodIn wsL_law (wsV RL 109 RX12 yX12_holdsIn wsX12_holdsIn) := goodIn_app (goodIn_L (is := [1071, 1072, 1073, 5]) rfl (by decide +kernel)) ggL_law_X12_holdsIn
