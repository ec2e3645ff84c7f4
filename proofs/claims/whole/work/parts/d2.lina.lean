set_option maxRecDepth 20000 in
theorem lin_wsL_law_r1 : ∀ w ∈ wsL_law_r1, w ∈ lw_tb2 := fun w h => (goodIn_p wsL_law_r1 [114, 117] (by decide +kernel) (by decide +kernel) w h).1
set_option maxRecDepth 20000 in
theorem lin_wsL_law_r2 : ∀ w ∈ wsL_law_r2, w ∈ lw_tb2 := fun w h => (goodIn_p wsL_law_r2 [122] (by decide +kernel) (by decide +kernel) w h).1
set_option maxRecDepth 20000 in
theorem lin_wsL_law_r3 : ∀ w ∈ wsL_law_r3, w ∈ lw_tb2 := fun w h => (goodIn_p wsL_law_r3 [142, 148] (by decide +kernel) (by decide +kernel) w h).1
set_option maxRecDepth 20000 in
theorem lin_wsL_law_r4 : ∀ w ∈ wsL_law_r4, w ∈ lw_tb2 := fun w h => (goodIn_p wsL_law_r4 [178, 197, 216, 229] (by decide +kernel) (by decide +kernel) w h).1
set_option maxRecDepth 20000 in
theorem lin_wsL_law_r5 : ∀ w ∈ wsL_law_r5, w ∈ lw_tb2 := fun w h => (goodIn_p wsL_law_r5 [251, 254, 260, 263] (by decide +kernel) (by decide +kernel) w h).1
set_option maxRecDepth 20000 in
theorem lin_wsL_law_r6 : ∀ w ∈ wsL_law_r6, w ∈ lw_tb2 := fun w h => (goodIn_p wsL_law_r6 [1182] (by decide +kernel) (by decide +kernel) w h).1
set_option maxRecDepth 20000 in
theorem lin_wsL_law_r7 : ∀ w ∈ wsL_law_r7, w ∈ lw_tb2 := fun w h => (goodIn_p wsL_law_r7 [319, 323, 327, 331] (by decide +kernel) (by decide +kernel) w h).1
set_option maxRecDepth 20000 in
theorem lin_wsL_law_r8 : ∀ w ∈ wsL_law_r8, w ∈ lw_tb2 := fun w h => (goodIn_p wsL_law_r8 [335, 339, 1308, 1312, 343] (by decide +kernel) (by decide +kernel) w h).1
set_option maxRecDepth 20000 in
theorem lin_wsL_law_r9 : ∀ w ∈ wsL_law_r9, w ∈ lw_tb2 := fun w h => (goodIn_p wsL_law_r9 [347, 351, 355, 359, 363, 1317] (by decide +kernel) (by decide +kernel) w h).1
set_option maxRecDepth 20000 in
theorem lin_wsL_law_r10 : ∀ w ∈ wsL_law_r10, w ∈ lw_tb2 := fun w h => (goodIn_p wsL_law_r10 [367, 1321, 371, 376, 380] (by decide +kernel) (by decide +kernel) w h).1
set_option maxRecDepth 20000 in
theorem lin_wsL_law_r11 : ∀ w ∈ wsL_law_r11, w ∈ lw_tb2 := fun w h => (goodIn_p wsL_law_r11 [1325, 1329, 1332, 1336, 386, 1340] (by decide +kernel) (by decide +kernel) w h).1
set_option maxRecDepth 20000 in
theorem lin_wsL_law_r12 : ∀ w ∈ wsL_law_r12, w ∈ lw_tb2 := fun w h => (goodIn_p wsL_law_r12 [390, 1344, 394, 398, 1348, 403] (by decide +kernel) (by decide +kernel) w h).1
