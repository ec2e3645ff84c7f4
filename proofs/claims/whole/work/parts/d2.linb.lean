set_option maxRecDepth 20000 in
theorem lin_wsL_law_r13 : ∀ w ∈ wsL_law_r13, w ∈ lw_tb2 := fun w h => (goodIn_p wsL_law_r13 [394, 1336, 399, 1340, 403, 407, 410] (by decide +kernel) (by decide +kernel) w h).1
set_option maxRecDepth 20000 in
theorem lin_wsL_law_r14 : ∀ w ∈ wsL_law_r14, w ∈ lw_tb2 := fun w h => (goodIn_p wsL_law_r14 [414, 1356, 1360, 1363, 1367, 418] (by decide +kernel) (by decide +kernel) w h).1
set_option maxRecDepth 20000 in
theorem lin_wsL_law_r15 : ∀ w ∈ wsL_law_r15, w ∈ lw_tb2 := fun w h => (goodIn_p wsL_law_r15 [422, 1371, 1375, 427, 431, 435] (by decide +kernel) (by decide +kernel) w h).1
set_option maxRecDepth 20000 in
theorem lin_wsL_law_r16 : ∀ w ∈ wsL_law_r16, w ∈ lw_tb2 := fun w h => (goodIn_p wsL_law_r16 [1379, 1383, 439, 443, 448] (by decide +kernel) (by decide +kernel) w h).1
set_option maxRecDepth 20000 in
theorem lin_wsL_law_r17 : ∀ w ∈ wsL_law_r17, w ∈ lw_tb2 := fun w h => (goodIn_p wsL_law_r17 [453, 459, 462, 466, 470, 475] (by decide +kernel) (by decide +kernel) w h).1
set_option maxRecDepth 20000 in
theorem lin_wsL_law_r18 : ∀ w ∈ wsL_law_r18, w ∈ lw_tb2 := fun w h => (goodIn_p wsL_law_r18 [479, 1387, 1391, 1395, 1399, 1403] (by decide +kernel) (by decide +kernel) w h).1
set_option maxRecDepth 20000 in
theorem lin_wsL_law_r19 : ∀ w ∈ wsL_law_r19, w ∈ lw_tb2 := fun w h => (goodIn_p wsL_law_r19 [1407, 544, 483, 1412, 488] (by decide +kernel) (by decide +kernel) w h).1
set_option maxRecDepth 20000 in
theorem lin_wsL_law_r20 : ∀ w ∈ wsL_law_r20, w ∈ lw_tb2 := fun w h => (goodIn_p wsL_law_r20 [492, 498, 504, 507, 512, 1416] (by decide +kernel) (by decide +kernel) w h).1
set_option maxRecDepth 20000 in
theorem lin_wsL_law_r21 : ∀ w ∈ wsL_law_r21, w ∈ lw_tb2 := fun w h => (goodIn_p wsL_law_r21 [1419, 1424, 1427, 1431, 516, 520] (by decide +kernel) (by decide +kernel) w h).1
set_option maxRecDepth 20000 in
theorem lin_wsL_law_r22 : ∀ w ∈ wsL_law_r22, w ∈ lw_tb2 := fun w h => (goodIn_p wsL_law_r22 [523, 527, 530, 534, 538] (by decide +kernel) (by decide +kernel) w h).1
set_option maxRecDepth 20000 in
theorem lin_wsL_law_r23 : ∀ w ∈ wsL_law_r23, w ∈ lw_tb2 := fun w h => (goodIn_p wsL_law_r23 [541, 548, 552, 562] (by decide +kernel) (by decide +kernel) w h).1
set_option maxRecDepth 20000 in
theorem lin_wsL_law_r24 : ∀ w ∈ wsL_law_r24, w ∈ lw_tb2 := fun w h => (goodIn_p wsL_law_r24 [570, 573, 577, 580, 583, 586] (by decide +kernel) (by decide +kernel) w h).1
