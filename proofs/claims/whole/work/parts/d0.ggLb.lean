set_option maxRecDepth 20000 in
theorem ggL_law_X11_setWeight : GoodIn wsL_law wsX11_setWeight := goodIn_L tie_wsX11_setWeight (by decide +kernel)
set_option maxRecDepth 20000 in
theorem gL_law_X11_setWeight : GoodIn wsL_law (wsV RL 26 RX11 yX11_setWeight wsX11_setWeight) := goodIn_app (goodIn_L (is := [214, 215, 216, 2]) rfl (by decide +kernel)) ggL_law_X11_setWeight
set_option maxRecDepth 20000 in
theorem ggL_law_X12_setWeight : GoodIn wsL_law wsX12_setWeight := goodIn_L tie_wsX12_setWeight (by decide +kernel)
set_option maxRecDepth 20000 in
theorem gL_law_X12_setWeight : GoodIn wsL_law (wsV RL 30 RX12 yX12_setWeight wsX12_setWeight) := goodIn_app (goodIn_L (is := [229, 230, 231, 5]) rfl (by decide +kernel)) ggL_law_X12_setWeight
set_option maxRecDepth 20000 in
theorem ggL_law_X11_weight : GoodIn wsL_law wsX11_weight := goodIn_L tie_wsX11_weight (by decide +kernel)
set_option maxRecDepth 20000 in
theorem gL_law_X11_weight : GoodIn wsL_law (wsV RL 31 RX11 yX11_weight wsX11_weight) := goodIn_app (goodIn_L (is := [244, 245, 246, 2]) rfl (by decide +kernel)) ggL_law_X11_weight
set_option maxRecDepth 20000 in
theorem ggL_law_X12_weight : GoodIn wsL_law wsX12_weight := goodIn_L tie_wsX12_weight (by decide +kernel)
set_option maxRecDepth 20000 in
theorem gL_law_X12_weight : GoodIn wsL_law (wsV RL 35 RX12 yX12_weight wsX12_weight) := goodIn_app (goodIn_L (is := [248, 249, 250, 5]) rfl (by decide +kernel)) ggL_law_X12_weight
set_option maxRecDepth 20000 in
theorem ggL_law_X11_sum : GoodIn wsL_law wsX11_sum := goodIn_L tie_wsX11_sum (by decide +kernel)
set_option maxRecDepth 20000 in
theorem gL_law_X11_sum : GoodIn wsL_law (wsV RL 36 RX11 yX11_sum wsX11_sum) := goodIn_app (goodIn_L (is := [252, 253, 254, 2]) rfl (by decide +kernel)) ggL_law_X11_sum
set_option maxRecDepth 20000 in
theorem ggL_law_X12_sum : GoodIn wsL_law wsX12_sum := goodIn_L tie_wsX12_sum (by decide +kernel)
set_option maxRecDepth 20000 in
theorem gL_law_X12_sum : GoodIn wsL_law (wsV RL 40 RX12 yX12_sum wsX12_sum) := goodIn_app (goodIn_L (is := [256, 257, 258, 5]) rfl (by decide +kernel)) ggL_law_X12_sum
set_option maxRecDepth 20000 in
theorem ggL_law_X11_setLabels : GoodIn wsL_law wsX11_setLabels := goodIn_L tie_wsX11_setLabels (by decide +kernel)
set_option maxRecDepth 20000 in
theorem gL_law_X11_setLabels : GoodIn wsL_law (wsV RL 41 RX11 yX11_setLabels wsX11_setLabels) := goodIn_app (goodIn_L (is := [260, 261, 262, 2]) rfl (by decide +kernel)) ggL_law_X11_setLabels
set_option maxRecDepth 20000 in
theorem ggL_law_X12_setLabels : GoodIn wsL_law wsX12_setLabels := goodIn_L tie_wsX12_setLabels (by decide +kernel)
set_option maxRecDepth 20000 in
theorem gL_law_X12_setLabels : GoodIn wsL_law (wsV RL 44 RX12 yX12_setLabels wsX12_setLabels) := goodIn_app (goodIn_L (is := [269, 270, 271, 5]) rfl (by decide +kernel)) ggL_law_X12_setLabels
