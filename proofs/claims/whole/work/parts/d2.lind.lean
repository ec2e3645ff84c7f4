set_option maxRecDepth 20000 in
theorem lin_wsL_law_r37 : ∀ w ∈ wsL_law_r37, w ∈ lw_tb2 := fun w h => (goodIn_p wsL_law_r37 [1500, 1504, 1507, 870, 1511, 874, 1515] (by decide +kernel) (by decide +kernel) w h).1
set_option maxRecDepth 20000 in
theorem lin_wsL_law_r38 : ∀ w ∈ wsL_law_r38, w ∈ lw_tb2 := fun w h => (goodIn_p wsL_law_r38 [878, 882, 886, 1519, 1523] (by decide +kernel) (by decide +kernel) w h).1
set_option maxRecDepth 20000 in
theorem lin_wsL_law_r39 : ∀ w ∈ wsL_law_r39, w ∈ lw_tb2 := fun w h => (goodIn_p wsL_law_r39 [892, 896, 1527, 1531, 1534, 1537, 1540] (by decide +kernel) (by decide +kernel) w h).1
set_option maxRecDepth 20000 in
theorem lin_wsL_law_r40 : ∀ w ∈ wsL_law_r40, w ∈ lw_tb2 := fun w h => (goodIn_p wsL_law_r40 [900, 904, 908, 913, 917, 921] (by decide +kernel) (by decide +kernel) w h).1
set_option maxRecDepth 20000 in
theorem lin_wsL_law_r41 : ∀ w ∈ wsL_law_r41, w ∈ lw_tb2 := fun w h => (goodIn_p wsL_law_r41 [927, 931, 937, 943] (by decide +kernel) (by decide +kernel) w h).1
set_option maxRecDepth 20000 in
theorem lin_wsL_law_r42 : ∀ w ∈ wsL_law_r42, w ∈ lw_tb2 := fun w h => (goodIn_p wsL_law_r42 [947, 951, 955, 959, 964, 971] (by decide +kernel) (by decide +kernel) w h).1
set_option maxRecDepth 20000 in
theorem lin_wsL_law_r43 : ∀ w ∈ wsL_law_r43, w ∈ lw_tb2 := fun w h => (goodIn_p wsL_law_r43 [975, 979, 983, 987, 991, 995] (by decide +kernel) (by decide +kernel) w h).1
set_option maxRecDepth 20000 in
theorem lin_wsL_law_r44 : ∀ w ∈ wsL_law_r44, w ∈ lw_tb2 := fun w h => (goodIn_p wsL_law_r44 [999, 1003, 1007, 1011, 1015] (by decide +kernel) (by decide +kernel) w h).1
set_option maxRecDepth 20000 in
theorem lin_wsL_law_r45 : ∀ w ∈ wsL_law_r45, w ∈ lw_tb2 := fun w h => (goodIn_p wsL_law_r45 [1021, 1025, 1030, 1035, 1041] (by decide +kernel) (by decide +kernel) w h).1
set_option maxRecDepth 20000 in
theorem lin_wsL_law_r46 : ∀ w ∈ wsL_law_r46, w ∈ lw_tb2 := fun w h => (goodIn_p wsL_law_r46 [1045, 1544, 1548, 1552, 1556, 1561] (by decide +kernel) (by decide +kernel) w h).1
set_option maxRecDepth 20000 in
theorem lin_wsL_law_r47 : ∀ w ∈ wsL_law_r47, w ∈ lw_tb2 := fun w h => (goodIn_p wsL_law_r47 [1565, 1569, 1573, 1577, 1581, 1585] (by decide +kernel) (by decide +kernel) w h).1
set_option maxRecDepth 20000 in
theorem lin_wsL_law_r48 : ∀ w ∈ wsL_law_r48, w ∈ lw_tb2 := fun w h => (goodIn_p wsL_law_r48 [1589, 1593, 1597, 1601, 1605, 1609] (by decide +kernel) (by decide +kernel) w h).1
