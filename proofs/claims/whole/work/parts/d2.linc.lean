set_option maxRecDepth 20000 in
theorem lin_wsL_law_r25 : ∀ w ∈ wsL_law_r25, w ∈ lw_tb2 := fun w h => (goodIn_p wsL_law_r25 [589, 592, 597, 600, 609, 612] (by decide +kernel) (by decide +kernel) w h).1
set_option maxRecDepth 20000 in
theorem lin_wsL_law_r26 : ∀ w ∈ wsL_law_r26, w ∈ lw_tb2 := fun w h => (goodIn_p wsL_law_r26 [615, 618, 1435, 622, 626] (by decide +kernel) (by decide +kernel) w h).1
set_option maxRecDepth 20000 in
theorem lin_wsL_law_r27 : ∀ w ∈ wsL_law_r27, w ∈ lw_tb2 := fun w h => (goodIn_p wsL_law_r27 [631, 634, 640, 645] (by decide +kernel) (by decide +kernel) w h).1
set_option maxRecDepth 20000 in
theorem lin_wsL_law_r28 : ∀ w ∈ wsL_law_r28, w ∈ lw_tb2 := fun w h => (goodIn_p wsL_law_r28 [648, 651, 655, 658, 661, 665, 680] (by decide +kernel) (by decide +kernel) w h).1
set_option maxRecDepth 20000 in
theorem lin_wsL_law_r29 : ∀ w ∈ wsL_law_r29, w ∈ lw_tb2 := fun w h => (goodIn_p wsL_law_r29 [683, 686, 689, 692, 695, 701] (by decide +kernel) (by decide +kernel) w h).1
set_option maxRecDepth 20000 in
theorem lin_wsL_law_r30 : ∀ w ∈ wsL_law_r30, w ∈ lw_tb2 := fun w h => (goodIn_p wsL_law_r30 [716, 720, 724, 728, 732] (by decide +kernel) (by decide +kernel) w h).1
set_option maxRecDepth 20000 in
theorem lin_wsL_law_r31 : ∀ w ∈ wsL_law_r31, w ∈ lw_tb2 := fun w h => (goodIn_p wsL_law_r31 [736, 739, 743, 748, 783] (by decide +kernel) (by decide +kernel) w h).1
set_option maxRecDepth 20000 in
theorem lin_wsL_law_r32 : ∀ w ∈ wsL_law_r32, w ∈ lw_tb2 := fun w h => (goodIn_p wsL_law_r32 [835, 804, 796] (by decide +kernel) (by decide +kernel) w h).1
set_option maxRecDepth 20000 in
theorem lin_wsL_law_r33 : ∀ w ∈ wsL_law_r33, w ∈ lw_tb2 := fun w h => (goodIn_p wsL_law_r33 [808, 813, 787, 792, 800, 831, 839] (by decide +kernel) (by decide +kernel) w h).1
set_option maxRecDepth 20000 in
theorem lin_wsL_law_r34 : ∀ w ∈ wsL_law_r34, w ∈ lw_tb2 := fun w h => (goodIn_p wsL_law_r34 [843, 847, 1439, 1443] (by decide +kernel) (by decide +kernel) w h).1
set_option maxRecDepth 20000 in
theorem lin_wsL_law_r35 : ∀ w ∈ wsL_law_r35, w ∈ lw_tb2 := fun w h => (goodIn_p wsL_law_r35 [1447, 1451, 1459, 1463, 1467] (by decide +kernel) (by decide +kernel) w h).1
set_option maxRecDepth 20000 in
theorem lin_wsL_law_r36 : ∀ w ∈ wsL_law_r36, w ∈ lw_tb2 := fun w h => (goodIn_p wsL_law_r36 [1471, 1475, 1455, 1479, 1483, 1487] (by decide +kernel) (by decide +kernel) w h).1
