set_option maxRecDepth 20000 in
theorem ggL_law_X11_holds : GoodIn wsL_law wsX11_holds := goodIn_L tie_wsX11_holds (by decide +kernel)
set_option maxRecDepth 20000 in
theorem gL_law_X11_holds : GoodIn wsL_law (wsV RL 110 RX11 yX11_holds wsX11_holds) := goodIn_app (goodIn_L (is := [1158, 1159, 1160, 2]) rfl (by decide +kernel)) ggL_law_X11_holds
set_option maxRecDepth 20000 in
theorem ggL_law_X12_holds : GoodIn wsL_law wsX12_holds := goodIn_L tie_wsX12_holds (by decide +kernel)
set_option maxRecDepth 20000 in
theorem gL_law_X12_holds : GoodIn wsL_law (wsV RL 113 RX12 yX12_holds wsX12_holds) := goodIn_app (goodIn_L (is := [1163, 1164, 1165, 5]) rfl (by decide +kernel)) ggL_law_X12_holds
set_option maxRecDepth 20000 in
theorem ggL_law_X11_next : GoodIn wsL_law wsX11_next := goodIn_L tie_wsX11_next (by decide +kernel)
set_option maxRecDepth 20000 in
theorem gL_law_X11_next : GoodIn wsL_law (wsV RL 114 RX11 yX11_next wsX11_next) := goodIn_app (goodIn_L (is := [1167, 1168, 1169, 2]) rfl (by decide +kernel)) ggL_law_X11_next
set_option maxRecDepth 20000 in
theorem ggL_law_X12_next : GoodIn wsL_law wsX12_next := goodIn_L tie_wsX12_next (by decide +kernel)
set_option maxRecDepth 20000 in
theorem gL_law_X12_next : GoodIn wsL_law (wsV RL 117 RX12 yX12_next wsX12_next) := goodIn_app (goodIn_L (is := [1171, 1172, 1173, 5]) rfl (by decide +kernel)) ggL_law_X12_next
set_option maxRecDepth 20000 in
theorem ggL_law_X11_until : GoodIn wsL_law wsX11_until := goodIn_L tie_wsX11_until (by decide +kernel)
set_option maxRecDepth 20000 in
theorem gL_law_X11_until : GoodIn wsL_law (wsV RL 118 RX11 yX11_until wsX11_until) := goodIn_app (goodIn_L (is := [1179, 1180, 1181, 2]) rfl (by decide +kernel)) ggL_law_X11_until
set_option maxRecDepth 20000 in
theorem ggL_law_X12_until : GoodIn wsL_law wsX12_until := goodIn_L tie_wsX12_until (by decide +kernel)
set_option maxRecDepth 20000 in
theorem gL_law_X12_until : GoodIn wsL_law (wsV RL 122 RX12 yX12_until wsX12_until) := goodIn_app (goodIn_L (is := [1183, 1184, 1185, 5]) rfl (by decide +kernel)) ggL_law_X12_until
set_option maxRecDepth 20000 in
theorem ggL_law_X11_within : GoodIn wsL_law wsX11_within := goodIn_L tie_wsX11_within (by decide +kernel)
set_option maxRecDepth 20000 in
theorem gL_law_X11_within : GoodIn wsL_law (wsV RL 123 RX11 yX11_within wsX11_within) := goodIn_app (goodIn_L (is := [1187, 1188, 1189, 2]) rfl (by decide +kernel)) ggL_law_X11_within
set_option maxRecDepth 20000 in
theorem ggL_law_X12_within : GoodIn wsL_law wsX12_within := goodIn_L tie_wsX12_within (by decide +kernel)
set_option maxRecDepth 20000 in
theorem gL_law_X12_within : GoodIn wsL_law (wsV RL 127 RX12 yX12_within wsX12_within) := goodIn_app (goodIn_L (is := [1192, 1193, 1194, 5]) rfl (by decide +kernel)) ggL_law_X12_within
