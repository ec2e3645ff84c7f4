set_option maxRecDepth 20000 in
theorem lin_wsL_law_r1 : ∀ w ∈ wsL_law_r1, w ∈ lw_tb2 := fun w h => (goodIn_p wsL_law_r1 [112, 115] (by decide +kernel) (by decide +kernel) w h).1
set_option maxRecDepth 20000 in
theorem lin_wsL_law_r2 : ∀ w ∈ wsL_law_r2, w ∈ lw_tb2 := fun w h => (goodIn_p wsL_law_r2 [120] (by decide +kernel) (by decide +kernel) w h).1
set_option maxRecDepth 20000 in
theorem lin_wsL_law_r3 : ∀ w ∈ wsL_law_r3, w ∈ lw_tb2 := fun w h => (goodIn_p wsL_law_r3 [140, 159, 178] (by decide +kernel) (by decide +kernel) w h).1
set_option maxRecDepth 20000 in
theorem lin_wsL_law_r4 : ∀ w ∈ wsL_law_r4, w ∈ lw_tb2 := fun w h => (goodIn_p wsL_law_r4 [184, 215, 237] (by decide +kernel) (by decide +kernel) w h).1
set_option maxRecDepth 20000 in
theorem lin_wsL_law_r5 : ∀ w ∈ wsL_law_r5, w ∈ lw_tb2 := fun w h => (goodIn_p wsL_law_r5 [240, 246, 249, 1162] (by decide +kernel) (by decide +kernel) w h).1
set_option maxRecDepth 20000 in
theorem lin_wsL_law_r6 : ∀ w ∈ wsL_law_r6, w ∈ lw_tb2 := fun w h => (goodIn_p wsL_law_r6 [302] (by decide +kernel) (by decide +kernel) w h).1
set_option maxRecDepth 20000 in
theorem lin_wsL_law_r7 : ∀ w ∈ wsL_law_r7, w ∈ lw_tb2 := fun w h => (goodIn_p wsL_law_r7 [306, 310, 314, 318, 322] (by decide +kernel) (by decide +kernel) w h).1
set_option maxRecDepth 20000 in
theorem lin_wsL_law_r8 : ∀ w ∈ wsL_law_r8, w ∈ lw_tb2 := fun w h => (goodIn_p wsL_law_r8 [1288, 1292, 326, 330, 334] (by decide +kernel) (by decide +kernel) w h).1
set_option maxRecDepth 20000 in
theorem lin_wsL_law_r9 : ∀ w ∈ wsL_law_r9, w ∈ lw_tb2 := fun w h => (goodIn_p wsL_law_r9 [338, 342, 346, 1297, 350, 1301] (by decide +kernel) (by decide +kernel) w h).1
set_option maxRecDepth 20000 in
theorem lin_wsL_law_r10 : ∀ w ∈ wsL_law_r10, w ∈ lw_tb2 := fun w h => (goodIn_p wsL_law_r10 [354, 359, 363, 1305, 1309, 1312] (by decide +kernel) (by decide +kernel) w h).1
set_option maxRecDepth 20000 in
theorem lin_wsL_law_r11 : ∀ w ∈ wsL_law_r11, w ∈ lw_tb2 := fun w h => (goodIn_p wsL_law_r11 [1316, 369, 1320, 373, 1324, 377] (by decide +kernel) (by decide +kernel) w h).1
set_option maxRecDepth 20000 in
theorem lin_wsL_law_r12 : ∀ w ∈ wsL_law_r12, w ∈ lw_tb2 := fun w h => (goodIn_p wsL_law_r12 [381, 1328, 386, 1332, 390] (by decide +kernel) (by decide +kernel) w h).1
