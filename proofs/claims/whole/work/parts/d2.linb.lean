set_option maxRecDepth 20000 in
theorem lin_wsL_law_r13 : ∀ w ∈ wsL_law_r13, w ∈ lw_tb2 := fun w h => (goodIn_p wsL_law_r13 [1352, 407, 411, 1356, 416, 1360] (by decide +kernel) (by decide +kernel) w h).1
set_option maxRecDepth 20000 in
theorem lin_wsL_law_r14 : ∀ w ∈ wsL_law_r14, w ∈ lw_tb2 := fun w h => (goodIn_p wsL_law_r14 [420, 424, 427, 431, 1376, 1380] (by decide +kernel) (by decide +kernel) w h).1
set_option maxRecDepth 20000 in
theorem lin_wsL_law_r15 : ∀ w ∈ wsL_law_r15, w ∈ lw_tb2 := fun w h => (goodIn_p wsL_law_r15 [1383, 1387, 435, 439, 1391, 1395] (by decide +kernel) (by decide +kernel) w h).1
set_option maxRecDepth 20000 in
theorem lin_wsL_law_r16 : ∀ w ∈ wsL_law_r16, w ∈ lw_tb2 := fun w h => (goodIn_p wsL_law_r16 [444, 448, 452, 1399, 1403, 456] (by decide +kernel) (by decide +kernel) w h).1
set_option maxRecDepth 20000 in
theorem lin_wsL_law_r17 : ∀ w ∈ wsL_law_r17, w ∈ lw_tb2 := fun w h => (goodIn_p wsL_law_r17 [460, 465, 470, 476, 479, 483] (by decide +kernel) (by decide +kernel) w h).1
set_option maxRecDepth 20000 in
theorem lin_wsL_law_r18 : ∀ w ∈ wsL_law_r18, w ∈ lw_tb2 := fun w h => (goodIn_p wsL_law_r18 [487, 492, 496, 1407, 1411] (by decide +kernel) (by decide +kernel) w h).1
set_option maxRecDepth 20000 in
theorem lin_wsL_law_r19 : ∀ w ∈ wsL_law_r19, w ∈ lw_tb2 := fun w h => (goodIn_p wsL_law_r19 [1415, 1419, 1423, 1427, 561, 500] (by decide +kernel) (by decide +kernel) w h).1
set_option maxRecDepth 20000 in
theorem lin_wsL_law_r20 : ∀ w ∈ wsL_law_r20, w ∈ lw_tb2 := fun w h => (goodIn_p wsL_law_r20 [1432, 505, 509, 515, 521, 524] (by decide +kernel) (by decide +kernel) w h).1
set_option maxRecDepth 20000 in
theorem lin_wsL_law_r21 : ∀ w ∈ wsL_law_r21, w ∈ lw_tb2 := fun w h => (goodIn_p wsL_law_r21 [529, 1436, 1439, 1444, 1447] (by decide +kernel) (by decide +kernel) w h).1
set_option maxRecDepth 20000 in
theorem lin_wsL_law_r22 : ∀ w ∈ wsL_law_r22, w ∈ lw_tb2 := fun w h => (goodIn_p wsL_law_r22 [1451, 533, 537, 540, 544, 547] (by decide +kernel) (by decide +kernel) w h).1
set_option maxRecDepth 20000 in
theorem lin_wsL_law_r23 : ∀ w ∈ wsL_law_r23, w ∈ lw_tb2 := fun w h => (goodIn_p wsL_law_r23 [551, 555, 558, 565, 569] (by decide +kernel) (by decide +kernel) w h).1
set_option maxRecDepth 20000 in
theorem lin_wsL_law_r24 : ∀ w ∈ wsL_law_r24, w ∈ lw_tb2 := fun w h => (goodIn_p wsL_law_r24 [579, 587, 590, 594] (by decide +kernel) (by decide +kernel) w h).1
