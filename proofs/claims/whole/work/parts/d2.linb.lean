set_option maxRecDepth 20000 in
theorem lin_wsL_law_r13 : ∀ w ∈ wsL_law_r13, w ∈ lw_tb2 := fun w h => (goodIn_p wsL_law_r13 [1349, 404, 408, 1353, 413, 1357] (by decide +kernel) (by decide +kernel) w h).1
set_option maxRecDepth 20000 in
theorem lin_wsL_law_r14 : ∀ w ∈ wsL_law_r14, w ∈ lw_tb2 := fun w h => (goodIn_p wsL_law_r14 [417, 421, 424, 428, 1373, 1377] (by decide +kernel) (by decide +kernel) w h).1
set_option maxRecDepth 20000 in
theorem lin_wsL_law_r15 : ∀ w ∈ wsL_law_r15, w ∈ lw_tb2 := fun w h => (goodIn_p wsL_law_r15 [1380, 1384, 432, 436, 1388, 1392] (by decide +kernel) (by decide +kernel) w h).1
set_option maxRecDepth 20000 in
theorem lin_wsL_law_r16 : ∀ w ∈ wsL_law_r16, w ∈ lw_tb2 := fun w h => (goodIn_p wsL_law_r16 [441, 445, 449, 1396, 1400, 453] (by decide +kernel) (by decide +kernel) w h).1
set_option maxRecDepth 20000 in
theorem lin_wsL_law_r17 : ∀ w ∈ wsL_law_r17, w ∈ lw_tb2 := fun w h => (goodIn_p wsL_law_r17 [457, 462, 467, 473, 476, 480] (by decide +kernel) (by decide +kernel) w h).1
set_option maxRecDepth 20000 in
theorem lin_wsL_law_r18 : ∀ w ∈ wsL_law_r18, w ∈ lw_tb2 := fun w h => (goodIn_p wsL_law_r18 [484, 489, 493, 1404, 1408] (by decide +kernel) (by decide +kernel) w h).1
set_option maxRecDepth 20000 in
theorem lin_wsL_law_r19 : ∀ w ∈ wsL_law_r19, w ∈ lw_tb2 := fun w h => (goodIn_p wsL_law_r19 [1412, 1416, 1420, 1424, 558, 497] (by decide +kernel) (by decide +kernel) w h).1
set_option maxRecDepth 20000 in
theorem lin_wsL_law_r20 : ∀ w ∈ wsL_law_r20, w ∈ lw_tb2 := fun w h => (goodIn_p wsL_law_r20 [1429, 502, 506, 512, 518, 521] (by decide +kernel) (by decide +kernel) w h).1
set_option maxRecDepth 20000 in
theorem lin_wsL_law_r21 : ∀ w ∈ wsL_law_r21, w ∈ lw_tb2 := fun w h => (goodIn_p wsL_law_r21 [526, 1433, 1436, 1441, 1444] (by decide +kernel) (by decide +kernel) w h).1
set_option maxRecDepth 20000 in
theorem lin_wsL_law_r22 : ∀ w ∈ wsL_law_r22, w ∈ lw_tb2 := fun w h => (goodIn_p wsL_law_r22 [1448, 530, 534, 537, 541, 544] (by decide +kernel) (by decide +kernel) w h).1
set_option maxRecDepth 20000 in
theorem lin_wsL_law_r23 : ∀ w ∈ wsL_law_r23, w ∈ lw_tb2 := fun w h => (goodIn_p wsL_law_r23 [548, 552, 555, 562, 566] (by decide +kernel) (by decide +kernel) w h).1
set_option maxRecDepth 20000 in
theorem lin_wsL_law_r24 : ∀ w ∈ wsL_law_r24, w ∈ lw_tb2 := fun w h => (goodIn_p wsL_law_r24 [576, 584, 587, 591] (by decide +kernel) (by decide +kernel) w h).1
