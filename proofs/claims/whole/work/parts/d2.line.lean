set_option maxRecDepth 20000 in
theorem lin_wsL_law_r49 : ∀ w ∈ wsL_law_r49, w ∈ lw_tb2 := fun w h => (goodIn_p wsL_law_r49 [1616, 1620, 1624, 1628, 1052] (by decide +kernel) (by decide +kernel) w h).1
set_option maxRecDepth 20000 in
theorem lin_wsL_law_r50 : ∀ w ∈ wsL_law_r50, w ∈ lw_tb2 := fun w h => (goodIn_p wsL_law_r50 [1632, 1057, 1636, 1640, 1061, 1644] (by decide +kernel) (by decide +kernel) w h).1
set_option maxRecDepth 20000 in
theorem lin_wsL_law_r51 : ∀ w ∈ wsL_law_r51, w ∈ lw_tb2 := fun w h => (goodIn_p wsL_law_r51 [1066, 1648, 1072, 1076, 1652, 1656] (by decide +kernel) (by decide +kernel) w h).1
set_option maxRecDepth 20000 in
theorem lin_wsL_law_r52 : ∀ w ∈ wsL_law_r52, w ∈ lw_tb2 := fun w h => (goodIn_p wsL_law_r52 [1080, 1660, 1085, 1664, 1090] (by decide +kernel) (by decide +kernel) w h).1
set_option maxRecDepth 20000 in
theorem lin_wsL_law_r53 : ∀ w ∈ wsL_law_r53, w ∈ lw_tb2 := fun w h => (goodIn_p wsL_law_r53 [1668, 1094, 1099, 1672, 1104] (by decide +kernel) (by decide +kernel) w h).1
set_option maxRecDepth 20000 in
theorem lin_wsL_law_r54 : ∀ w ∈ wsL_law_r54, w ∈ lw_tb2 := fun w h => (goodIn_p wsL_law_r54 [1108, 1113, 1117, 1122, 1127, 1133] (by decide +kernel) (by decide +kernel) w h).1
set_option maxRecDepth 20000 in
theorem lin_wsL_law_r55 : ∀ w ∈ wsL_law_r55, w ∈ lw_tb2 := fun w h => (goodIn_p wsL_law_r55 [1137, 1677, 1681, 1685, 1689, 1141] (by decide +kernel) (by decide +kernel) w h).1
set_option maxRecDepth 20000 in
theorem lin_wsL_law_r56 : ∀ w ∈ wsL_law_r56, w ∈ lw_tb2 := fun w h => (goodIn_p wsL_law_r56 [1146, 1693, 1151, 1156, 1698] (by decide +kernel) (by decide +kernel) w h).1
set_option maxRecDepth 20000 in
theorem lin_wsL_law_r57 : ∀ w ∈ wsL_law_r57, w ∈ lw_tb2 := fun w h => (goodIn_p wsL_law_r57 [1160, 1364, 1165, 1368, 1169] (by decide +kernel) (by decide +kernel) w h).1
set_option maxRecDepth 20000 in
theorem lin_wsL_law_r58 : ∀ w ∈ wsL_law_r58, w ∈ lw_tb2 := fun w h => (goodIn_p wsL_law_r58 [1173, 1177, 1372] (by decide +kernel) (by decide +kernel) w h).1
set_option maxRecDepth 20000 in
theorem lin_wsX110 : ∀ w ∈ wsX110, w ∈ lw_tb2 := fun w h => (goodIn_p wsX110 [] (by decide +kernel) (by decide +kernel) w h).1
set_option maxRecDepth 20000 in
theorem lin_wsX120 : ∀ w ∈ wsX120, w ∈ lw_tb2 := fun w h => (goodIn_p wsX120 [] (by decide +kernel) (by decide +kernel) w h).1
