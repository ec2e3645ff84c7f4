set_option maxRecDepth 20000 in
theorem ggL_law_X11_labels : GoodIn wsL_law wsX11_labels := goodIn_L tie_wsX11_labels (by decide +kernel)
set_option maxRecDepth 20000 in
theorem gL_law_X11_labels : GoodIn wsL_law (wsV RL 45 RX11 yX11_labels wsX11_labels) := goodIn_app (goodIn_L (is := [273, 274, 275, 2]) rfl (by decide +kernel)) ggL_law_X11_labels
set_option maxRecDepth 20000 in
theorem ggL_law_X12_labels : GoodIn wsL_law wsX12_labels := goodIn_L tie_wsX12_labels (by decide +kernel)
set_option maxRecDepth 20000 in
theorem gL_law_X12_labels : GoodIn wsL_law (wsV RL 48 RX12 yX12_labels wsX12_labels) := goodIn_app (goodIn_L (is := [277, 278, 279, 5]) rfl (by decide +kernel)) ggL_law_X12_labels
set_option maxRecDepth 20000 in
theorem ggL_law_X11_setReward : GoodIn wsL_law wsX11_setReward := goodIn_L tie_wsX11_setReward (by decide +kernel)
set_option maxRecDepth 20000 in
theorem gL_law_X11_setReward : GoodIn wsL_law (wsV RL 49 RX11 yX11_setReward wsX11_setReward) := goodIn_app (goodIn_L (is := [281, 282, 283, 2]) rfl (by decide +kernel)) ggL_law_X11_setReward
set_option maxRecDepth 20000 in
theorem ggL_law_X12_setReward : GoodIn wsL_law wsX12_setReward := goodIn_L tie_wsX12_setReward (by decide +kernel)
set_option maxRecDepth 20000 in
theorem gL_law_X12_setReward : GoodIn wsL_law (wsV RL 52 RX12 yX12_setReward wsX12_setReward) := goodIn_app (goodIn_L (is := [290, 291, 292, 5]) rfl (by decide +kernel)) ggL_law_X12_setReward
set_option maxRecDepth 20000 in
theorem ggL_law_X11_reward : GoodIn wsL_law wsX11_reward := goodIn_L tie_wsX11_reward (by decide +kernel)
set_option maxRecDepth 20000 in
theorem gL_law_X11_reward : GoodIn wsL_law (wsV RL 53 RX11 yX11_reward wsX11_reward) := goodIn_app (goodIn_L (is := [294, 295, 296, 2]) rfl (by decide +kernel)) ggL_law_X11_reward
set_option maxRecDepth 20000 in
theorem ggL_law_X12_reward : GoodIn wsL_law wsX12_reward := goodIn_L tie_wsX12_reward (by decide +kernel)
set_option maxRecDepth 20000 in
theorem gL_law_X12_reward : GoodIn wsL_law (wsV RL 56 RX12 yX12_reward wsX12_reward) := goodIn_app (goodIn_L (is := [298, 299, 300, 5]) rfl (by decide +kernel)) ggL_law_X12_reward
set_option maxRecDepth 20000 in
theorem ggL_law_X11_reaches : GoodIn wsL_law wsX11_reaches := goodIn_L tie_wsX11_reaches (by decide +kernel)
set_option maxRecDepth 20000 in
theorem gL_law_X11_reaches : GoodIn wsL_law (wsV RL 57 RX11 yX11_reaches wsX11_reaches) := goodIn_app (goodIn_L (is := [302, 303, 304, 2]) rfl (by decide +kernel)) ggL_law_X11_reaches
set_option maxRecDepth 20000 in
theorem ggL_law_X12_reaches : GoodIn wsL_law wsX12_reaches := goodIn_L tie_wsX12_reaches (by decide +kernel)
set_option maxRecDepth 20000 in
theorem gL_law_X12_reaches : GoodIn wsL_law (wsV RL 60 RX12 yX12_reaches wsX12_reaches) := goodIn_app (goodIn_L (is := [316, 317, 318, 5]) rfl (by decide +kernel)) ggL_law_X12_reaches
