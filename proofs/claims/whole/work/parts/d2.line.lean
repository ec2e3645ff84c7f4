set_option maxRecDepth 20000 in
theorem lin_wsL_law_r49 : ∀ w ∈ wsL_law_r49, w ∈ lw_tb2 := fun w h => (goodIn_p wsL_law_r49 [1604, 1608, 1036, 1612, 1041, 1616] (by decide +kernel) (by decide +kernel) w h).1
set_option maxRecDepth 20000 in
theorem lin_wsL_law_r50 : ∀ w ∈ wsL_law_r50, w ∈ lw_tb2 := fun w h => (goodIn_p wsL_law_r50 [1620, 1045, 1624, 1049, 1628, 1054] (by decide +kernel) (by decide +kernel) w h).1
set_option maxRecDepth 20000 in
theorem lin_wsL_law_r51 : ∀ w ∈ wsL_law_r51, w ∈ lw_tb2 := fun w h => (goodIn_p wsL_law_r51 [1058, 1632, 1636, 1062, 1640] (by decide +kernel) (by decide +kernel) w h).1
set_option maxRecDepth 20000 in
theorem lin_wsL_law_r52 : ∀ w ∈ wsL_law_r52, w ∈ lw_tb2 := fun w h => (goodIn_p wsL_law_r52 [1067, 1644, 1071, 1648, 1075, 1079] (by decide +kernel) (by decide +kernel) w h).1
set_option maxRecDepth 20000 in
theorem lin_wsL_law_r53 : ∀ w ∈ wsL_law_r53, w ∈ lw_tb2 := fun w h => (goodIn_p wsL_law_r53 [1652, 1084, 1088, 1093, 1097, 1102] (by decide +kernel) (by decide +kernel) w h).1
set_option maxRecDepth 20000 in
theorem lin_wsL_law_r54 : ∀ w ∈ wsL_law_r54, w ∈ lw_tb2 := fun w h => (goodIn_p wsL_law_r54 [1107, 1113, 1117, 1657, 1661] (by decide +kernel) (by decide +kernel) w h).1
set_option maxRecDepth 20000 in
theorem lin_wsL_law_r55 : ∀ w ∈ wsL_law_r55, w ∈ lw_tb2 := fun w h => (goodIn_p wsL_law_r55 [1665, 1669, 1121, 1126, 1673, 1131] (by decide +kernel) (by decide +kernel) w h).1
set_option maxRecDepth 20000 in
theorem lin_wsL_law_r56 : ∀ w ∈ wsL_law_r56, w ∈ lw_tb2 := fun w h => (goodIn_p wsL_law_r56 [1136, 1678, 1140, 1344, 1145] (by decide +kernel) (by decide +kernel) w h).1
set_option maxRecDepth 20000 in
theorem lin_wsL_law_r57 : ∀ w ∈ wsL_law_r57, w ∈ lw_tb2 := fun w h => (goodIn_p wsL_law_r57 [1348, 1149, 1153, 1157, 1352] (by decide +kernel) (by decide +kernel) w h).1
set_option maxRecDepth 20000 in
theorem lin_wsX110 : ∀ w ∈ wsX110, w ∈ lw_tb2 := fun w h => (goodIn_p wsX110 [] (by decide +kernel) (by decide +kernel) w h).1
set_option maxRecDepth 20000 in
theorem lin_wsX120 : ∀ w ∈ wsX120, w ∈ lw_tb2 := fun w h => (goodIn_p wsX120 [] (by decide +kernel) (by decide +kernel) w h).1
set_option maxRecDepth 20000 in
theorem lin_wsX20 : ∀ w ∈ wsX20, w ∈ lw_tb2 := fun w h => (goodIn_p wsX20 [] (by decide +kernel) (by decide +kernel) w h).1
