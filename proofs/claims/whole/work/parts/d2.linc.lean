set_option maxRecDepth 20000 in
theorem lin_wsL_law_r25 : ∀ w ∈ wsL_law_r25, w ∈ lw_tb2 := fun w h => (goodIn_p wsL_law_r25 [594, 597, 600, 603, 606, 611, 614] (by decide +kernel) (by decide +kernel) w h).1
set_option maxRecDepth 20000 in
theorem lin_wsL_law_r26 : ∀ w ∈ wsL_law_r26, w ∈ lw_tb2 := fun w h => (goodIn_p wsL_law_r26 [623, 626, 629, 632, 1452, 636] (by decide +kernel) (by decide +kernel) w h).1
set_option maxRecDepth 20000 in
theorem lin_wsL_law_r27 : ∀ w ∈ wsL_law_r27, w ∈ lw_tb2 := fun w h => (goodIn_p wsL_law_r27 [640, 645, 648] (by decide +kernel) (by decide +kernel) w h).1
set_option maxRecDepth 20000 in
theorem lin_wsL_law_r28 : ∀ w ∈ wsL_law_r28, w ∈ lw_tb2 := fun w h => (goodIn_p wsL_law_r28 [654, 659, 662, 665, 669, 672, 675] (by decide +kernel) (by decide +kernel) w h).1
set_option maxRecDepth 20000 in
theorem lin_wsL_law_r29 : ∀ w ∈ wsL_law_r29, w ∈ lw_tb2 := fun w h => (goodIn_p wsL_law_r29 [679, 694, 697, 700, 703, 706] (by decide +kernel) (by decide +kernel) w h).1
set_option maxRecDepth 20000 in
theorem lin_wsL_law_r30 : ∀ w ∈ wsL_law_r30, w ∈ lw_tb2 := fun w h => (goodIn_p wsL_law_r30 [709, 715, 730, 734, 738] (by decide +kernel) (by decide +kernel) w h).1
set_option maxRecDepth 20000 in
theorem lin_wsL_law_r31 : ∀ w ∈ wsL_law_r31, w ∈ lw_tb2 := fun w h => (goodIn_p wsL_law_r31 [742, 746, 750, 753, 757, 762] (by decide +kernel) (by decide +kernel) w h).1
set_option maxRecDepth 20000 in
theorem lin_wsL_law_r32 : ∀ w ∈ wsL_law_r32, w ∈ lw_tb2 := fun w h => (goodIn_p wsL_law_r32 [797, 845] (by decide +kernel) (by decide +kernel) w h).1
set_option maxRecDepth 20000 in
theorem lin_wsL_law_r33 : ∀ w ∈ wsL_law_r33, w ∈ lw_tb2 := fun w h => (goodIn_p wsL_law_r33 [814, 806, 818, 823, 802, 810] (by decide +kernel) (by decide +kernel) w h).1
set_option maxRecDepth 20000 in
theorem lin_wsL_law_r34 : ∀ w ∈ wsL_law_r34, w ∈ lw_tb2 := fun w h => (goodIn_p wsL_law_r34 [841, 849, 853, 857, 1456] (by decide +kernel) (by decide +kernel) w h).1
set_option maxRecDepth 20000 in
theorem lin_wsL_law_r35 : ∀ w ∈ wsL_law_r35, w ∈ lw_tb2 := fun w h => (goodIn_p wsL_law_r35 [1460, 1464, 1468, 1476] (by decide +kernel) (by decide +kernel) w h).1
set_option maxRecDepth 20000 in
theorem lin_wsL_law_r36 : ∀ w ∈ wsL_law_r36, w ∈ lw_tb2 := fun w h => (goodIn_p wsL_law_r36 [1480, 1484, 1488, 1492, 1472, 1496] (by decide +kernel) (by decide +kernel) w h).1
