set_option maxRecDepth 20000 in
theorem lin_wsL_law_r37 : ∀ w ∈ wsL_law_r37, w ∈ lw_tb2 := fun w h => (goodIn_p wsL_law_r37 [1490, 860, 1494, 864, 1498, 868] (by decide +kernel) (by decide +kernel) w h).1
set_option maxRecDepth 20000 in
theorem lin_wsL_law_r38 : ∀ w ∈ wsL_law_r38, w ∈ lw_tb2 := fun w h => (goodIn_p wsL_law_r38 [872, 876, 1502, 1506, 882, 886] (by decide +kernel) (by decide +kernel) w h).1
set_option maxRecDepth 20000 in
theorem lin_wsL_law_r39 : ∀ w ∈ wsL_law_r39, w ∈ lw_tb2 := fun w h => (goodIn_p wsL_law_r39 [1510, 1514, 1517, 1520, 1523, 890, 894] (by decide +kernel) (by decide +kernel) w h).1
set_option maxRecDepth 20000 in
theorem lin_wsL_law_r40 : ∀ w ∈ wsL_law_r40, w ∈ lw_tb2 := fun w h => (goodIn_p wsL_law_r40 [898, 903, 907, 911, 917] (by decide +kernel) (by decide +kernel) w h).1
set_option maxRecDepth 20000 in
theorem lin_wsL_law_r41 : ∀ w ∈ wsL_law_r41, w ∈ lw_tb2 := fun w h => (goodIn_p wsL_law_r41 [920, 925, 930, 934, 938, 942] (by decide +kernel) (by decide +kernel) w h).1
set_option maxRecDepth 20000 in
theorem lin_wsL_law_r42 : ∀ w ∈ wsL_law_r42, w ∈ lw_tb2 := fun w h => (goodIn_p wsL_law_r42 [946, 951, 958, 962, 966] (by decide +kernel) (by decide +kernel) w h).1
set_option maxRecDepth 20000 in
theorem lin_wsL_law_r43 : ∀ w ∈ wsL_law_r43, w ∈ lw_tb2 := fun w h => (goodIn_p wsL_law_r43 [970, 974, 978, 982, 986, 990] (by decide +kernel) (by decide +kernel) w h).1
set_option maxRecDepth 20000 in
theorem lin_wsL_law_r44 : ∀ w ∈ wsL_law_r44, w ∈ lw_tb2 := fun w h => (goodIn_p wsL_law_r44 [994, 998, 1002, 1008, 1012, 1017] (by decide +kernel) (by decide +kernel) w h).1
set_option maxRecDepth 20000 in
theorem lin_wsL_law_r45 : ∀ w ∈ wsL_law_r45, w ∈ lw_tb2 := fun w h => (goodIn_p wsL_law_r45 [1022, 1028, 1032, 1527, 1531] (by decide +kernel) (by decide +kernel) w h).1
set_option maxRecDepth 20000 in
theorem lin_wsL_law_r46 : ∀ w ∈ wsL_law_r46, w ∈ lw_tb2 := fun w h => (goodIn_p wsL_law_r46 [1535, 1539, 1544, 1548, 1552, 1556] (by decide +kernel) (by decide +kernel) w h).1
set_option maxRecDepth 20000 in
theorem lin_wsL_law_r47 : ∀ w ∈ wsL_law_r47, w ∈ lw_tb2 := fun w h => (goodIn_p wsL_law_r47 [1560, 1564, 1568, 1572, 1576] (by decide +kernel) (by decide +kernel) w h).1
set_option maxRecDepth 20000 in
theorem lin_wsL_law_r48 : ∀ w ∈ wsL_law_r48, w ∈ lw_tb2 := fun w h => (goodIn_p wsL_law_r48 [1580, 1584, 1588, 1592, 1596, 1600] (by decide +kernel) (by decide +kernel) w h).1
