set_option maxRecDepth 20000 in
theorem lin_wsL_law_r37 : ∀ w ∈ wsL_law_r37, w ∈ lw_tb2 := fun w h => (goodIn_p wsL_law_r37 [1503, 1507, 1510, 873, 1514, 877, 1518] (by decide +kernel) (by decide +kernel) w h).1
set_option maxRecDepth 20000 in
theorem lin_wsL_law_r38 : ∀ w ∈ wsL_law_r38, w ∈ lw_tb2 := fun w h => (goodIn_p wsL_law_r38 [881, 885, 889, 1522, 1526] (by decide +kernel) (by decide +kernel) w h).1
set_option maxRecDepth 20000 in
theorem lin_wsL_law_r39 : ∀ w ∈ wsL_law_r39, w ∈ lw_tb2 := fun w h => (goodIn_p wsL_law_r39 [895, 899, 1530, 1534, 1537, 1540, 1543] (by decide +kernel) (by decide +kernel) w h).1
set_option maxRecDepth 20000 in
theorem lin_wsL_law_r40 : ∀ w ∈ wsL_law_r40, w ∈ lw_tb2 := fun w h => (goodIn_p wsL_law_r40 [903, 907, 911, 916, 920, 924] (by decide +kernel) (by decide +kernel) w h).1
set_option maxRecDepth 20000 in
theorem lin_wsL_law_r41 : ∀ w ∈ wsL_law_r41, w ∈ lw_tb2 := fun w h => (goodIn_p wsL_law_r41 [930, 934, 940, 946] (by decide +kernel) (by decide +kernel) w h).1
set_option maxRecDepth 20000 in
theorem lin_wsL_law_r42 : ∀ w ∈ wsL_law_r42, w ∈ lw_tb2 := fun w h => (goodIn_p wsL_law_r42 [950, 954, 958, 962, 967, 974] (by decide +kernel) (by decide +kernel) w h).1
set_option maxRecDepth 20000 in
theorem lin_wsL_law_r43 : ∀ w ∈ wsL_law_r43, w ∈ lw_tb2 := fun w h => (goodIn_p wsL_law_r43 [978, 982, 986, 990, 994, 998] (by decide +kernel) (by decide +kernel) w h).1
set_option maxRecDepth 20000 in
theorem lin_wsL_law_r44 : ∀ w ∈ wsL_law_r44, w ∈ lw_tb2 := fun w h => (goodIn_p wsL_law_r44 [1002, 1006, 1010, 1014, 1018] (by decide +kernel) (by decide +kernel) w h).1
set_option maxRecDepth 20000 in
theorem lin_wsL_law_r45 : ∀ w ∈ wsL_law_r45, w ∈ lw_tb2 := fun w h => (goodIn_p wsL_law_r45 [1024, 1028, 1033, 1038, 1044] (by decide +kernel) (by decide +kernel) w h).1
set_option maxRecDepth 20000 in
theorem lin_wsL_law_r46 : ∀ w ∈ wsL_law_r46, w ∈ lw_tb2 := fun w h => (goodIn_p wsL_law_r46 [1048, 1547, 1551, 1555, 1559, 1564] (by decide +kernel) (by decide +kernel) w h).1
set_option maxRecDepth 20000 in
theorem lin_wsL_law_r47 : ∀ w ∈ wsL_law_r47, w ∈ lw_tb2 := fun w h => (goodIn_p wsL_law_r47 [1568, 1572, 1576, 1580, 1584, 1588] (by decide +kernel) (by decide +kernel) w h).1
set_option maxRecDepth 20000 in
theorem lin_wsL_law_r48 : ∀ w ∈ wsL_law_r48, w ∈ lw_tb2 := fun w h => (goodIn_p wsL_law_r48 [1592, 1596, 1600, 1604, 1608, 1612] (by decide +kernel) (by decide +kernel) w h).1
