set_option maxRecDepth 20000 in
theorem ggL_law_X11_component : GoodIn wsL_law wsX11_component := goodIn_L tie_wsX11_component (by decide +kernel)
set_option maxRecDepth 20000 in
theorem gL_law_X11_component : GoodIn wsL_law (wsV RL 61 RX11 yX11_component wsX11_component) := goodIn_app (goodIn_L (is := [331, 332, 333, 2]) rfl (by decide +kernel)) ggL_law_X11_component
set_option maxRecDepth 20000 in
theorem ggL_law_X12_component : GoodIn wsL_law wsX12_component := goodIn_L tie_wsX12_component (by decide +kernel)
set_option maxRecDepth 20000 in
theorem gL_law_X12_component : GoodIn wsL_law (wsV RL 64 RX12 yX12_component wsX12_component) := goodIn_app (goodIn_L (is := [340, 341, 342, 5]) rfl (by decide +kernel)) ggL_law_X12_component
set_option maxRecDepth 20000 in
theorem ggL_law_X11_bottoms : GoodIn wsL_law wsX11_bottoms := goodIn_L tie_wsX11_bottoms (by decide +kernel)
set_option maxRecDepth 20000 in
theorem gL_law_X11_bottoms : GoodIn wsL_law (wsV RL 65 RX11 yX11_bottoms wsX11_bottoms) := goodIn_app (goodIn_L (is := [348, 349, 350, 2]) rfl (by decide +kernel)) ggL_law_X11_bottoms
set_option maxRecDepth 20000 in
theorem ggL_law_X12_bottoms : GoodIn wsL_law wsX12_bottoms := goodIn_L tie_wsX12_bottoms (by decide +kernel)
set_option maxRecDepth 20000 in
theorem gL_law_X12_bottoms : GoodIn wsL_law (wsV RL 68 RX12 yX12_bottoms wsX12_bottoms) := goodIn_app (goodIn_L (is := [360, 361, 362, 5]) rfl (by decide +kernel)) ggL_law_X12_bottoms
set_option maxRecDepth 20000 in
theorem ggL_law_X11_classCount : GoodIn wsL_law wsX11_classCount := goodIn_L tie_wsX11_classCount (by decide +kernel)
set_option maxRecDepth 20000 in
theorem gL_law_X11_classCount : GoodIn wsL_law (wsV RL 69 RX11 yX11_classCount wsX11_classCount) := goodIn_app (goodIn_L (is := [368, 369, 370, 2]) rfl (by decide +kernel)) ggL_law_X11_classCount
set_option maxRecDepth 20000 in
theorem ggL_law_X12_classCount : GoodIn wsL_law wsX12_classCount := goodIn_L tie_wsX12_classCount (by decide +kernel)
set_option maxRecDepth 20000 in
theorem gL_law_X12_classCount : GoodIn wsL_law (wsV RL 72 RX12 yX12_classCount wsX12_classCount) := goodIn_app (goodIn_L (is := [411, 412, 413, 5]) rfl (by decide +kernel)) ggL_law_X12_classCount
set_option maxRecDepth 20000 in
theorem ggL_law_X11_classOf : GoodIn wsL_law wsX11_classOf := goodIn_L tie_wsX11_classOf (by decide +kernel)
set_option maxRecDepth 20000 in
theorem gL_law_X11_classOf : GoodIn wsL_law (wsV RL 73 RX11 yX11_classOf wsX11_classOf) := goodIn_app (goodIn_L (is := [439, 440, 441, 2]) rfl (by decide +kernel)) ggL_law_X11_classOf
set_option maxRecDepth 20000 in
theorem ggL_law_X12_classOf : GoodIn wsL_law wsX12_classOf := goodIn_L tie_wsX12_classOf (by decide +kernel)
set_option maxRecDepth 20000 in
theorem gL_law_X12_classOf : GoodIn wsL_law (wsV RL 76 RX12 yX12_classOf wsX12_classOf) := goodIn_app (goodIn_L (is := [444, 445, 446, 5]) rfl (by decide +kernel)) ggL_law_X12_classOf
