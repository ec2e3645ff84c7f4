set_option maxRecDepth 20000 in
theorem lin_wsL_law_r25 : ∀ w ∈ wsL_law_r25, w ∈ lw_tb2 := fun w h => (goodIn_p wsL_law_r25 [597, 600, 603, 606, 609, 614, 617] (by decide +kernel) (by decide +kernel) w h).1
set_option maxRecDepth 20000 in
theorem lin_wsL_law_r26 : ∀ w ∈ wsL_law_r26, w ∈ lw_tb2 := fun w h => (goodIn_p wsL_law_r26 [626, 629, 632, 635, 1455, 639] (by decide +kernel) (by decide +kernel) w h).1
set_option maxRecDepth 20000 in
theorem lin_wsL_law_r27 : ∀ w ∈ wsL_law_r27, w ∈ lw_tb2 := fun w h => (goodIn_p wsL_law_r27 [643, 648, 651] (by decide +kernel) (by decide +kernel) w h).1
set_option maxRecDepth 20000 in
theorem lin_wsL_law_r28 : ∀ w ∈ wsL_law_r28, w ∈ lw_tb2 := fun w h => (goodIn_p wsL_law_r28 [657, 662, 665, 668, 672, 675, 678] (by decide +kernel) (by decide +kernel) w h).1
set_option maxRecDepth 20000 in
theorem lin_wsL_law_r29 : ∀ w ∈ wsL_law_r29, w ∈ lw_tb2 := fun w h => (goodIn_p wsL_law_r29 [682, 697, 700, 703, 706, 709] (by decide +kernel) (by decide +kernel) w h).1
set_option maxRecDepth 20000 in
theorem lin_wsL_law_r30 : ∀ w ∈ wsL_law_r30, w ∈ lw_tb2 := fun w h => (goodIn_p wsL_law_r30 [712, 718, 733, 737, 741] (by decide +kernel) (by decide +kernel) w h).1
set_option maxRecDepth 20000 in
theorem lin_wsL_law_r31 : ∀ w ∈ wsL_law_r31, w ∈ lw_tb2 := fun w h => (goodIn_p wsL_law_r31 [745, 749, 753, 756, 760, 765] (by decide +kernel) (by decide +kernel) w h).1
set_option maxRecDepth 20000 in
theorem lin_wsL_law_r32 : ∀ w ∈ wsL_law_r32, w ∈ lw_tb2 := fun w h => (goodIn_p wsL_law_r32 [800, 848] (by decide +kernel) (by decide +kernel) w h).1
set_option maxRecDepth 20000 in
theorem lin_wsL_law_r33 : ∀ w ∈ wsL_law_r33, w ∈ lw_tb2 := fun w h => (goodIn_p wsL_law_r33 [817, 809, 821, 826, 805, 813] (by decide +kernel) (by decide +kernel) w h).1
set_option maxRecDepth 20000 in
theorem lin_wsL_law_r34 : ∀ w ∈ wsL_law_r34, w ∈ lw_tb2 := fun w h => (goodIn_p wsL_law_r34 [844, 852, 856, 860, 1459] (by decide +kernel) (by decide +kernel) w h).1
set_option maxRecDepth 20000 in
theorem lin_wsL_law_r35 : ∀ w ∈ wsL_law_r35, w ∈ lw_tb2 := fun w h => (goodIn_p wsL_law_r35 [1463, 1467, 1471, 1479] (by decide +kernel) (by decide +kernel) w h).1
set_option maxRecDepth 20000 in
theorem lin_wsL_law_r36 : ∀ w ∈ wsL_law_r36, w ∈ lw_tb2 := fun w h => (goodIn_p wsL_law_r36 [1483, 1487, 1491, 1495, 1475, 1499] (by decide +kernel) (by decide +kernel) w h).1
