set_option maxRecDepth 20000 in
theorem lin_wsL_law_r49 : ∀ w ∈ wsL_law_r49, w ∈ lw_tb2 := fun w h => (goodIn_p wsL_law_r49 [1613, 1617, 1621, 1625, 1049] (by decide +kernel) (by decide +kernel) w h).1
set_option maxRecDepth 20000 in
theorem lin_wsL_law_r50 : ∀ w ∈ wsL_law_r50, w ∈ lw_tb2 := fun w h => (goodIn_p wsL_law_r50 [1629, 1054, 1633, 1637, 1058, 1641] (by decide +kernel) (by decide +kernel) w h).1
set_option maxRecDepth 20000 in
theorem lin_wsL_law_r51 : ∀ w ∈ wsL_law_r51, w ∈ lw_tb2 := fun w h => (goodIn_p wsL_law_r51 [1063, 1645, 1069, 1073, 1649, 1653] (by decide +kernel) (by decide +kernel) w h).1
set_option maxRecDepth 20000 in
theorem lin_wsL_law_r52 : ∀ w ∈ wsL_law_r52, w ∈ lw_tb2 := fun w h => (goodIn_p wsL_law_r52 [1077, 1657, 1082, 1661, 1087] (by decide +kernel) (by decide +kernel) w h).1
set_option maxRecDepth 20000 in
theorem lin_wsL_law_r53 : ∀ w ∈ wsL_law_r53, w ∈ lw_tb2 := fun w h => (goodIn_p wsL_law_r53 [1665, 1091, 1096, 1669, 1101] (by decide +kernel) (by decide +kernel) w h).1
set_option maxRecDepth 20000 in
theorem lin_wsL_law_r54 : ∀ w ∈ wsL_law_r54, w ∈ lw_tb2 := fun w h => (goodIn_p wsL_law_r54 [1105, 1110, 1114, 1119, 1124, 1130] (by decide +kernel) (by decide +kernel) w h).1
set_option maxRecDepth 20000 in
theorem lin_wsL_law_r55 : ∀ w ∈ wsL_law_r55, w ∈ lw_tb2 := fun w h => (goodIn_p wsL_law_r55 [1134, 1674, 1678, 1682, 1686, 1138] (by decide +kernel) (by decide +kernel) w h).1
set_option maxRecDepth 20000 in
theorem lin_wsL_law_r56 : ∀ w ∈ wsL_law_r56, w ∈ lw_tb2 := fun w h => (goodIn_p wsL_law_r56 [1143, 1690, 1148, 1153, 1695] (by decide +kernel) (by decide +kernel) w h).1
set_option maxRecDepth 20000 in
theorem lin_wsL_law_r57 : ∀ w ∈ wsL_law_r57, w ∈ lw_tb2 := fun w h => (goodIn_p wsL_law_r57 [1157, 1361, 1162, 1365, 1166] (by decide +kernel) (by decide +kernel) w h).1
set_option maxRecDepth 20000 in
theorem lin_wsL_law_r58 : ∀ w ∈ wsL_law_r58, w ∈ lw_tb2 := fun w h => (goodIn_p wsL_law_r58 [1170, 1174, 1369] (by decide +kernel) (by decide +kernel) w h).1
set_option maxRecDepth 20000 in
theorem lin_wsX110 : ∀ w ∈ wsX110, w ∈ lw_tb2 := fun w h => (goodIn_p wsX110 [] (by decide +kernel) (by decide +kernel) w h).1
set_option maxRecDepth 20000 in
theorem lin_wsX120 : ∀ w ∈ wsX120, w ∈ lw_tb2 := fun w h => (goodIn_p wsX120 [] (by decide +kernel) (by decide +kernel) w h).1
