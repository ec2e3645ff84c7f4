abbrev ix_wsX0_search_r1 : List Nat := [90, 86, 87, 88, 310, 2, 311, 1259, 1260, 1261, 31, 1262, 89, 1263, 1264, 1265, 1266, 1267, 995, 996, 14, 997, 402, 224]
set_option maxRecDepth 20000 in
theorem tie_wsX0_search_r1 : wsX0_search_r1 = tk ix_wsX0_search_r1 := rfl
abbrev ix_wsX0_search_r2 : List Nat := [225, 226, 148, 227, 220, 221, 222, 45, 1268, 1269, 1270, 1271, 392, 393, 1272, 1273, 1274, 1275, 1276, 404, 405, 406]
set_option maxRecDepth 20000 in
theorem tie_wsX0_search_r2 : wsX0_search_r2 = tk ix_wsX0_search_r2 := rfl
abbrev ix_wsX00 : List Nat := [1431, 1432, 1433, 1434, 1435]
theorem tie_wsX00 : wsX00 = tk ix_wsX00 := by decide +kernel
abbrev ix_wsX20 : List Nat := [1414, 1415, 1416, 1417]
theorem tie_wsX20 : wsX20 = tk ix_wsX20 := by decide +kernel
abbrev ix_wsX0_search : List Nat := 1258 :: ((((ix_wsX0_search_r1) ++ (ix_wsX0_search_r2)) ++ (ix_wsX00)) ++ (ix_wsX20))
set_option maxRecDepth 20000 in
theorem tie_wsX0_search : wsX0_search = tk ix_wsX0_search := tk_co rfl (tk_ap (tk_ap (tk_ap (tie_wsX0_search_r1) (tie_wsX0_search_r2)) (tie_wsX00)) (tie_wsX20))
abbrev ix_wsX11_contains : List Nat := 311 :: (([] : List Nat))
set_option maxRecDepth 20000 in
theorem tie_wsX11_contains : wsX11_contains = tk ix_wsX11_contains := tk_co rfl (rfl)
abbrev ix_wsX0_improve_r1 : List Nat := [88, 86, 89, 87, 1263, 1264, 1265, 31, 1266, 90, 310, 2, 311, 1267, 995, 996, 14, 997, 402, 224, 225, 226, 148, 227]
set_option maxRecDepth 20000 in
theorem tie_wsX0_improve_r1 : wsX0_improve_r1 = tk ix_wsX0_improve_r1 := rfl
abbrev ix_wsX0_improve_r2 : List Nat := [220, 221, 222, 45, 1268, 1269, 1270, 1271, 392, 393, 1272, 1273, 1274, 1275, 1276, 404, 405, 406]
set_option maxRecDepth 20000 in
theorem tie_wsX0_improve_r2 : wsX0_improve_r2 = tk ix_wsX0_improve_r2 := rfl
abbrev ix_wsX0_improve : List Nat := 1262 :: ((((ix_wsX0_improve_r1) ++ (ix_wsX0_improve_r2)) ++ (ix_wsX00)) ++ (ix_wsX20))
set_option maxRecDepth 20000 in
theorem tie_wsX0_improve : wsX0_improve = tk ix_wsX0_improve := tk_co rfl (tk_ap (tk_ap (tk_ap (tie_wsX0_improve_r1) (tie_wsX0_improve_r2)) (tie_wsX00)) (tie_wsX20))
abbrev ix_wsX0_lengthFrom : List Nat := 1271 :: (([88, 392, 2, 393]) ++ (ix_wsX00))
set_option maxRecDepth 20000 in
theorem tie_wsX0_lengthFrom : wsX0_lengthFrom = tk ix_wsX0_lengthFrom := tk_co rfl (tk_ap (rfl) (tie_wsX00))
abbrev ix_wsX11_isIndex : List Nat := 393 :: (([] : List Nat))
set_option maxRecDepth 20000 in
theorem tie_wsX11_isIndex : wsX11_isIndex = tk ix_wsX11_isIndex := tk_co rfl (rfl)
abbrev ix_wsX0_product : List Nat := 1310 :: (([86, 87, 392, 2, 393, 468, 469]) ++ (ix_wsX00))
set_option maxRecDepth 20000 in
theorem tie_wsX0_product : wsX0_product = tk ix_wsX0_product := tk_co rfl (tk_ap (rfl) (tie_wsX00))
abbrev ix_wsX11_commonDivisor : List Nat := 469 :: (([] : List Nat))
set_option maxRecDepth 20000 in
theorem tie_wsX11_commonDivisor : wsX11_commonDivisor = tk ix_wsX11_commonDivisor := tk_co rfl (rfl)
abbrev ix_wsX0_stateAt_r1 : List Nat := [1282, 1283, 1284, 31, 1285, 88, 1263, 1264, 1265, 1266, 90, 89, 310, 2, 311, 1267, 995, 996, 14, 997, 402, 224, 225, 226]
set_option maxRecDepth 20000 in
theorem tie_wsX0_stateAt_r1 : wsX0_stateAt_r1 = tk ix_wsX0_stateAt_r1 := rfl
abbrev ix_wsX0_stateAt_r2 : List Nat := [148, 227, 220, 221, 222, 45, 1268, 1269, 1270, 1271, 392, 393, 1272, 1273, 1274, 1275, 86, 87, 1276, 404, 405, 406]
set_option maxRecDepth 20000 in
theorem tie_wsX0_stateAt_r2 : wsX0_stateAt_r2 = tk ix_wsX0_stateAt_r2 := rfl
abbrev ix_wsX0_stateAt : List Nat := 1281 :: ((((ix_wsX0_stateAt_r1) ++ (ix_wsX0_stateAt_r2)) ++ (ix_wsX00)) ++ (ix_wsX20))
set_option maxRecDepth 20000 in
theorem tie_wsX0_stateAt : wsX0_stateAt = tk ix_wsX0_stateAt := tk_co rfl (tk_ap (tk_ap (tk_ap (tie_wsX0_stateAt_r1) (tie_wsX0_stateAt_r2)) (tie_wsX00)) (tie_wsX20))
abbrev ix_wsX0_following_r1 : List Nat := [88, 1263, 1264, 1265, 31, 1266, 90, 89, 310, 2, 311, 1267, 995, 996, 14, 997, 402, 224, 225, 226, 148, 227, 220, 221]
set_option maxRecDepth 20000 in
theorem tie_wsX0_following_r1 : wsX0_following_r1 = tk ix_wsX0_following_r1 := rfl
abbrev ix_wsX0_following_r2 : List Nat := [222, 45, 1268, 1269, 1270, 1271, 392, 393, 1272, 1273, 1274, 1275, 86, 87, 1276, 404, 405, 406]
set_option maxRecDepth 20000 in
theorem tie_wsX0_following_r2 : wsX0_following_r2 = tk ix_wsX0_following_r2 := rfl
abbrev ix_wsX0_following : List Nat := 1285 :: ((((ix_wsX0_following_r1) ++ (ix_wsX0_following_r2)) ++ (ix_wsX00)) ++ (ix_wsX20))
set_option maxRecDepth 20000 in
theorem tie_wsX0_following : wsX0_following = tk ix_wsX0_following := tk_co rfl (tk_ap (tk_ap (tk_ap (tie_wsX0_following_r1) (tie_wsX0_following_r2)) (tie_wsX00)) (tie_wsX20))
abbrev ix_wsX0_isStep_r1 : List Nat := [90, 89, 310, 2, 311, 1267, 995, 996, 14, 997, 402, 224, 225, 226, 148, 227, 220, 221, 222, 45, 1268, 1269, 1270, 31]
set_option maxRecDepth 20000 in
theorem tie_wsX0_isStep_r1 : wsX0_isStep_r1 = tk ix_wsX0_isStep_r1 := rfl
abbrev ix_wsX0_isStep_r2 : List Nat := [1271, 88, 392, 393]
set_option maxRecDepth 20000 in
theorem tie_wsX0_isStep_r2 : wsX0_isStep_r2 = tk ix_wsX0_isStep_r2 := rfl
abbrev ix_wsX0_isStep : List Nat := 1266 :: ((((ix_wsX0_isStep_r1) ++ (ix_wsX0_isStep_r2)) ++ (ix_wsX00)) ++ (ix_wsX20))
set_option maxRecDepth 20000 in
theorem tie_wsX0_isStep : wsX0_isStep = tk ix_wsX0_isStep := tk_co rfl (tk_ap (tk_ap (tk_ap (tie_wsX0_isStep_r1) (tie_wsX0_isStep_r2)) (tie_wsX00)) (tie_wsX20))
abbrev ix_wsX0_gainOf_r1 : List Nat := [89, 86, 87, 392, 2, 393, 1267, 995, 996, 14, 997, 402, 224, 225, 226, 148, 227, 220, 221, 222, 45, 1276, 404, 405]
set_option maxRecDepth 20000 in
theorem tie_wsX0_gainOf_r1 : wsX0_gainOf_r1 = tk ix_wsX0_gainOf_r1 := rfl
abbrev ix_wsX0_gainOf_r2 : List Nat := [406]
set_option maxRecDepth 20000 in
theorem tie_wsX0_gainOf_r2 : wsX0_gainOf_r2 = tk ix_wsX0_gainOf_r2 := rfl
abbrev ix_wsX0_gainOf : List Nat := 1275 :: ((((ix_wsX0_gainOf_r1) ++ (ix_wsX0_gainOf_r2)) ++ (ix_wsX00)) ++ (ix_wsX20))
set_option maxRecDepth 20000 in
theorem tie_wsX0_gainOf : wsX0_gainOf = tk ix_wsX0_gainOf := tk_co rfl (tk_ap (tk_ap (tk_ap (tie_wsX0_gainOf_r1) (tie_wsX0_gainOf_r2)) (tie_wsX00)) (tie_wsX20))
abbrev ix_wsX2_stepWeight : List Nat := 997 :: (([402, 224, 225, 14, 226, 148, 227, 220, 221, 222, 45]) ++ (ix_wsX20))
set_option maxRecDepth 20000 in
theorem tie_wsX2_stepWeight : wsX2_stepWeight = tk ix_wsX2_stepWeight := tk_co rfl (tk_ap (rfl) (tie_wsX20))
abbrev ix_wsX2_divisorOf : List Nat := 406 :: (([402, 224, 225, 14, 226, 148, 227, 220, 221, 222, 45]) ++ (ix_wsX20))
set_option maxRecDepth 20000 in
theorem tie_wsX2_divisorOf : wsX2_divisorOf = tk ix_wsX2_divisorOf := tk_co rfl (tk_ap (rfl) (tie_wsX20))
abbrev ix_wsX2_shrink : List Nat := 185 :: (([148, 186, 187, 188, 14, 189, 45, 190, 191, 192, 193, 194, 195, 196, 197, 46, 198, 199, 200, 201, 47]) ++ (ix_wsX20))
set_option maxRecDepth 20000 in
theorem tie_wsX2_shrink : wsX2_shrink = tk ix_wsX2_shrink := tk_co rfl (tk_ap (rfl) (tie_wsX20))
abbrev ix_wsX2_putWeight : List Nat := 189 :: (([45, 190, 191, 192, 14, 193, 148]) ++ (ix_wsX20))
set_option maxRecDepth 20000 in
theorem tie_wsX2_putWeight : wsX2_putWeight = tk ix_wsX2_putWeight := tk_co rfl (tk_ap (rfl) (tie_wsX20))
abbrev ix_wsX2_putLabels : List Nat := 197 :: (([46, 190, 191, 192, 14, 193, 148]) ++ (ix_wsX20))
set_option maxRecDepth 20000 in
theorem tie_wsX2_putLabels : wsX2_putLabels = tk ix_wsX2_putLabels := tk_co rfl (tk_ap (rfl) (tie_wsX20))
abbrev ix_wsX2_putReward : List Nat := 201 :: (([47, 190, 191, 192, 14, 193, 148]) ++ (ix_wsX20))
set_option maxRecDepth 20000 in
theorem tie_wsX2_putReward : wsX2_putReward = tk ix_wsX2_putReward := tk_co rfl (tk_ap (rfl) (tie_wsX20))
abbrev ix_wsX2_has : List Nat := 193 :: (([148]) ++ (ix_wsX20))
set_option maxRecDepth 20000 in
theorem tie_wsX2_has : wsX2_has = tk ix_wsX2_has := tk_co rfl (tk_ap (rfl) (tie_wsX20))
abbrev ix_wsX2_labelsOf : List Nat := 267 :: (([46, 190, 191, 192, 14, 193, 148]) ++ (ix_wsX20))
set_option maxRecDepth 20000 in
theorem tie_wsX2_labelsOf : wsX2_labelsOf = tk ix_wsX2_labelsOf := tk_co rfl (tk_ap (rfl) (tie_wsX20))
abbrev ix_wsX2_rewardOf : List Nat := 288 :: (([47, 190, 191, 192, 14, 193, 148]) ++ (ix_wsX20))
set_option maxRecDepth 20000 in
theorem tie_wsX2_rewardOf : wsX2_rewardOf = tk ix_wsX2_rewardOf := tk_co rfl (tk_ap (rfl) (tie_wsX20))
abbrev ix_wsX2_sumOf : List Nat := 226 :: (([148, 227, 220, 221, 14, 222, 45]) ++ (ix_wsX20))
set_option maxRecDepth 20000 in
theorem tie_wsX2_sumOf : wsX2_sumOf = tk ix_wsX2_sumOf := tk_co rfl (tk_ap (rfl) (tie_wsX20))
abbrev ix_wsX2_weightOf : List Nat := 222 :: (([45]) ++ (ix_wsX20))
set_option maxRecDepth 20000 in
theorem tie_wsX2_weightOf : wsX2_weightOf = tk ix_wsX2_weightOf := tk_co rfl (tk_ap (rfl) (tie_wsX20))
abbrev ix_wsX2_stepWeightInto : List Nat := 401 :: (([148, 310, 2, 311, 227, 220, 221, 14, 222, 45, 402, 224, 225, 226]) ++ (ix_wsX20))
set_option maxRecDepth 20000 in
theorem tie_wsX2_stepWeightInto : wsX2_stepWeightInto = tk ix_wsX2_stepWeightInto := tk_co rfl (tk_ap (rfl) (tie_wsX20))
abbrev ix_wsX2_successorsOf : List Nat := 315 :: (([148, 227, 220, 221, 14, 222, 45]) ++ (ix_wsX20))
set_option maxRecDepth 20000 in
theorem tie_wsX2_successorsOf : wsX2_successorsOf = tk ix_wsX2_successorsOf := tk_co rfl (tk_ap (rfl) (tie_wsX20))
abbrev ix_wsX2_labelled : List Nat := 965 :: (([148, 966, 265, 266, 14, 267, 46, 190, 191, 192, 193, 310, 2, 311]) ++ (ix_wsX20))
set_option maxRecDepth 20000 in
theorem tie_wsX2_labelled : wsX2_labelled = tk ix_wsX2_labelled := tk_co rfl (tk_ap (rfl) (tie_wsX20))
abbrev ix_wsX2_reachedFrom : List Nat := 309 :: (([148, 310, 2, 311, 312, 313, 314, 14, 315, 227, 220, 221, 222, 45]) ++ (ix_wsX20))
set_option maxRecDepth 20000 in
theorem tie_wsX2_reachedFrom : wsX2_reachedFrom = tk ix_wsX2_reachedFrom := tk_co rfl (tk_ap (rfl) (tie_wsX20))
abbrev ix_wsX2_componentOf : List Nat := 338 :: (([148, 339, 307, 308, 14, 309, 310, 2, 311, 312, 313, 314, 315, 227, 220, 221, 222, 45]) ++ (ix_wsX20))
set_option maxRecDepth 20000 in
theorem tie_wsX2_componentOf : wsX2_componentOf = tk ix_wsX2_componentOf := tk_co rfl (tk_ap (rfl) (tie_wsX20))
abbrev ix_wsX2_bottomStates : List Nat := 355 :: (([148, 356, 357, 358, 14, 359, 339, 307, 308, 309, 310, 2, 311, 312, 313, 314, 315, 227, 220, 221, 222, 45]) ++ (ix_wsX20))
set_option maxRecDepth 20000 in
theorem tie_wsX2_bottomStates : wsX2_bottomStates = tk ix_wsX2_bottomStates := tk_co rfl (tk_ap (rfl) (tie_wsX20))
abbrev ix_wsX2_all : List Nat := 359 :: (([148]) ++ (ix_wsX20))
set_option maxRecDepth 20000 in
theorem tie_wsX2_all : wsX2_all = tk ix_wsX2_all := tk_co rfl (tk_ap (rfl) (tie_wsX20))
abbrev ix_wsX2_canReach : List Nat := 974 :: (([148, 310, 2, 311, 312, 313, 314, 14, 315, 227, 220, 221, 222, 45]) ++ (ix_wsX20))
set_option maxRecDepth 20000 in
theorem tie_wsX2_canReach : wsX2_canReach = tk ix_wsX2_canReach := tk_co rfl (tk_ap (rfl) (tie_wsX20))
abbrev ix_wsX2_neverUntil : List Nat := 1203 :: (([356, 357, 358, 14, 359, 148, 1061, 972, 973, 974, 310, 2, 311, 312, 313, 314, 315, 227, 220, 221, 222, 45]) ++ (ix_wsX20))
set_option maxRecDepth 20000 in
theorem tie_wsX2_neverUntil : wsX2_neverUntil = tk ix_wsX2_neverUntil := tk_co rfl (tk_ap (rfl) (tie_wsX20))
abbrev ix_wsX2_surelyUntil : List Nat := 1060 :: (([356, 357, 358, 14, 359, 148, 1061, 972, 973, 974, 310, 2, 311, 312, 313, 314, 315, 227, 220, 221, 222, 45]) ++ (ix_wsX20))
set_option maxRecDepth 20000 in
theorem tie_wsX2_surelyUntil : wsX2_surelyUntil = tk ix_wsX2_surelyUntil := tk_co rfl (tk_ap (rfl) (tie_wsX20))
abbrev ix_wsX2_commonDivisors : List Nat := 949 :: (([148, 950, 404, 405, 14, 406, 402, 224, 225, 226, 227, 220, 221, 222, 45, 951, 2, 952, 953, 468, 469]) ++ (ix_wsX20))
set_option maxRecDepth 20000 in
theorem tie_wsX2_commonDivisors : wsX2_commonDivisors = tk ix_wsX2_commonDivisors := tk_co rfl (tk_ap (rfl) (tie_wsX20))
abbrev ix_wsX11_commonMultiple : List Nat := 952 :: [953, 468, 2, 469]
set_option maxRecDepth 20000 in
theorem tie_wsX11_commonMultiple : wsX11_commonMultiple = tk ix_wsX11_commonMultiple := tk_co rfl (rfl)
abbrev ix_wsX2_drawn : List Nat := 1324 :: (([148, 402, 224, 225, 14, 226, 227, 220, 221, 222, 45]) ++ (ix_wsX20))
set_option maxRecDepth 20000 in
theorem tie_wsX2_drawn : wsX2_drawn = tk ix_wsX2_drawn := tk_co rfl (tk_ap (rfl) (tie_wsX20))
abbrev ix_wsX30 : List Nat := [1440]
theorem tie_wsX30 : wsX30 = tk ix_wsX30 := by decide +kernel
abbrev ix_wsX3_clear : List Nat := 978 :: (([979, 980, 981, 70, 982, 983, 984, 985, 986, 81]) ++ (ix_wsX30))
set_option maxRecDepth 20000 in
theorem tie_wsX3_clear : wsX3_clear = tk ix_wsX3_clear := tk_co rfl (tk_ap (rfl) (tie_wsX30))
abbrev ix_wsX3_clearRow : List Nat := 982 :: (([983, 984, 985, 70, 986, 81]) ++ (ix_wsX30))
set_option maxRecDepth 20000 in
theorem tie_wsX3_clearRow : wsX3_clearRow = tk ix_wsX3_clearRow := tk_co rfl (tk_ap (rfl) (tie_wsX30))
abbrev ix_wsX3_put : List Nat := 986 :: (([81]) ++ (ix_wsX30))
set_option maxRecDepth 20000 in
theorem tie_wsX3_put : wsX3_put = tk ix_wsX3_put := tk_co rfl (tk_ap (rfl) (tie_wsX30))
abbrev ix_wsX3_add : List Nat := 1001 :: (([1002, 1003, 1004, 70, 1005, 81, 983, 984, 985, 986]) ++ (ix_wsX30))
set_option maxRecDepth 20000 in
theorem tie_wsX3_add : wsX3_add = tk ix_wsX3_add := tk_co rfl (tk_ap (rfl) (tie_wsX30))
abbrev ix_wsX3_get : List Nat := 1005 :: (([81]) ++ (ix_wsX30))
set_option maxRecDepth 20000 in
theorem tie_wsX3_get : wsX3_get = tk ix_wsX3_get := tk_co rfl (tk_ap (rfl) (tie_wsX30))
abbrev ix_wsX3_putRight : List Nat := 1009 :: (([983, 984, 985, 70, 986, 81]) ++ (ix_wsX30))
set_option maxRecDepth 20000 in
theorem tie_wsX3_putRight : wsX3_putRight = tk ix_wsX3_putRight := tk_co rfl (tk_ap (rfl) (tie_wsX30))
abbrev ix_wsX3_solve : List Nat := 1013 :: (([1014, 1015, 1016, 70, 1017, 1002, 1003, 1004, 1005, 81, 983, 984, 985, 986]) ++ (ix_wsX30))
set_option maxRecDepth 20000 in
theorem tie_wsX3_solve : wsX3_solve = tk ix_wsX3_solve := tk_co rfl (tk_ap (rfl) (tie_wsX30))
abbrev ix_wsX3_eliminate : List Nat := 1017 :: (([1002, 1003, 1004, 70, 1005, 81, 983, 984, 985, 986]) ++ (ix_wsX30))
set_option maxRecDepth 20000 in
theorem tie_wsX3_eliminate : wsX3_eliminate = tk ix_wsX3_eliminate := tk_co rfl (tk_ap (rfl) (tie_wsX30))
abbrev ix_wsX3_solution : List Nat := 1021 :: (([1002, 1003, 1004, 70, 1005, 81]) ++ (ix_wsX30))
set_option maxRecDepth 20000 in
theorem tie_wsX3_solution : wsX3_solution = tk ix_wsX3_solution := tk_co rfl (tk_ap (rfl) (tie_wsX30))
abbrev ix_wsX3_determinant : List Nat := 1025 :: (([1002, 1003, 1004, 70, 1005, 81]) ++ (ix_wsX30))
set_option maxRecDepth 20000 in
theorem tie_wsX3_determinant : wsX3_determinant = tk ix_wsX3_determinant := tk_co rfl (tk_ap (rfl) (tie_wsX30))
abbrev ix_wsX5_letterAt_r1 : List Nat := [800, 893, 706, 707, 579, 708, 632, 709, 710, 711, 712, 633, 631, 894, 714, 715, 716, 717, 718, 719, 720, 721, 722, 558]
set_option maxRecDepth 20000 in
theorem tie_wsX5_letterAt_r1 : wsX5_letterAt_r1 = tk ix_wsX5_letterAt_r1 := rfl
abbrev ix_wsX5_letterAt_r2 : List Nat := [723, 724, 599, 600, 581, 601, 602, 584, 603, 725, 726, 105, 727, 595, 596, 597, 574, 575, 576, 598, 659, 660, 661, 589]
set_option maxRecDepth 20000 in
theorem tie_wsX5_letterAt_r2 : wsX5_letterAt_r2 = tk ix_wsX5_letterAt_r2 := rfl
abbrev ix_wsX5_letterAt_r3 : List Nat := [590, 591]
set_option maxRecDepth 20000 in
theorem tie_wsX5_letterAt_r3 : wsX5_letterAt_r3 = tk ix_wsX5_letterAt_r3 := rfl
abbrev ix_wsX50 : List Nat := [1444, 1445]
theorem tie_wsX50 : wsX50 = tk ix_wsX50 := by decide +kernel
abbrev ix_wsJ00 : List Nat := [1446, 1447, 1448, 1449]
theorem tie_wsJ00 : wsJ00 = tk ix_wsJ00 := by decide +kernel
abbrev ix_wsX5_letterAt : List Nat := 892 :: ((((ix_wsX5_letterAt_r1) ++ ((ix_wsX5_letterAt_r2) ++ (ix_wsX5_letterAt_r3))) ++ (ix_wsX50)) ++ (ix_wsJ00))
set_option maxRecDepth 20000 in
theorem tie_wsX5_letterAt : wsX5_letterAt = tk ix_wsX5_letterAt := tk_co rfl (tk_ap (tk_ap (tk_ap (tie_wsX5_letterAt_r1) (tk_ap (tie_wsX5_letterAt_r2) (tie_wsX5_letterAt_r3))) (tie_wsX50)) (tie_wsJ00))
abbrev ix_wsJ0_length_8abf5 : List Nat := 708 :: (([632, 709, 710, 711, 579, 712, 633, 631]) ++ (ix_wsJ00))
set_option maxRecDepth 20000 in
theorem tie_wsJ0_length_8abf5 : wsJ0_length_8abf5 = tk ix_wsJ0_length_8abf5 := tk_co rfl (tk_ap (rfl) (tie_wsJ00))
abbrev ix_wsJ0_charAt_5068e_r1 : List Nat := [632, 717, 718, 719, 579, 720, 633, 631, 721, 722, 558, 723, 724, 599, 600, 581, 601, 602, 584, 603, 725, 726, 105, 727]
set_option maxRecDepth 20000 in
theorem tie_wsJ0_charAt_5068e_r1 : wsJ0_charAt_5068e_r1 = tk ix_wsJ0_charAt_5068e_r1 := rfl
abbrev ix_wsJ0_charAt_5068e_r2 : List Nat := [595, 596, 597, 574, 575, 576, 598, 659, 660, 661, 589, 590, 591]
set_option maxRecDepth 20000 in
theorem tie_wsJ0_charAt_5068e_r2 : wsJ0_charAt_5068e_r2 = tk ix_wsJ0_charAt_5068e_r2 := rfl
abbrev ix_wsJ0_charAt_5068e : List Nat := 716 :: (((ix_wsJ0_charAt_5068e_r1) ++ (ix_wsJ0_charAt_5068e_r2)) ++ (ix_wsJ00))
set_option maxRecDepth 20000 in
theorem tie_wsJ0_charAt_5068e : wsJ0_charAt_5068e = tk ix_wsJ0_charAt_5068e := tk_co rfl (tk_ap (tk_ap (tie_wsJ0_charAt_5068e_r1) (tie_wsJ0_charAt_5068e_r2)) (tie_wsJ00))
abbrev ix_wsX60 : List Nat := [1418, 1419, 1420]
theorem tie_wsX60 : wsX60 = tk ix_wsX60 := by decide +kernel
abbrev ix_wsX6_init : List Nat := 50 :: ((([51, 10, 11, 52, 53, 13, 14, 54, 55, 41, 42, 43, 44, 45, 46, 47]) ++ (ix_wsX60)) ++ (ix_wsX20))
set_option maxRecDepth 20000 in
theorem tie_wsX6_init : wsX6_init = tk ix_wsX6_init := tk_co rfl (tk_ap (tk_ap (rfl) (tie_wsX60)) (tie_wsX20))
abbrev ix_wsX2_init : List Nat := 42 :: (([43, 10, 11, 44, 45, 46, 47]) ++ (ix_wsX20))
set_option maxRecDepth 20000 in
theorem tie_wsX2_init : wsX2_init = tk ix_wsX2_init := tk_co rfl (tk_ap (rfl) (tie_wsX20))
abbrev ix_wsX6_record : List Nat := 152 :: ((([54, 55, 153, 154, 155, 19, 156, 53, 157, 158, 159, 14, 160, 45, 46, 47, 148]) ++ (ix_wsX60)) ++ (ix_wsX20))
set_option maxRecDepth 20000 in
theorem tie_wsX6_record : wsX6_record = tk ix_wsX6_record := tk_co rfl (tk_ap (tk_ap (rfl) (tie_wsX60)) (tie_wsX20))
abbrev ix_wsX6_slotAt : List Nat := 156 :: (([53]) ++ (ix_wsX60))
set_option maxRecDepth 20000 in
theorem tie_wsX6_slotAt : wsX6_slotAt = tk ix_wsX6_slotAt := tk_co rfl (tk_ap (rfl) (tie_wsX60))
abbrev ix_wsX2_copyFrom : List Nat := 160 :: (([45, 46, 47, 148]) ++ (ix_wsX20))
set_option maxRecDepth 20000 in
theorem tie_wsX2_copyFrom : wsX2_copyFrom = tk ix_wsX2_copyFrom := tk_co rfl (tk_ap (rfl) (tie_wsX20))
abbrev ix_wsX6_takeBack : List Nat := 1355 :: ((([55, 54, 153, 154, 155, 19, 156, 53, 157, 158, 159, 14, 160, 45, 46, 47, 148]) ++ (ix_wsX60)) ++ (ix_wsX20))
set_option maxRecDepth 20000 in
theorem tie_wsX6_takeBack : wsX6_takeBack = tk ix_wsX6_takeBack := tk_co rfl (tk_ap (tk_ap (rfl) (tie_wsX60)) (tie_wsX20))
abbrev ix_wsX70 : List Nat := [1421, 1422, 1423, 1424]
theorem tie_wsX70 : wsX70 = tk ix_wsX70 := by decide +kernel
abbrev ix_wsX7_numberOf : List Nat := 391 :: (([60, 392, 2, 393]) ++ (ix_wsX70))
set_option maxRecDepth 20000 in
theorem tie_wsX7_numberOf : wsX7_numberOf = tk ix_wsX7_numberOf := tk_co rfl (tk_ap (rfl) (tie_wsX70))
abbrev ix_wsX7_members : List Nat := 397 :: ((([62, 60, 381, 191, 192, 14, 193, 148]) ++ (ix_wsX70)) ++ (ix_wsX20))
set_option maxRecDepth 20000 in
theorem tie_wsX7_members : wsX7_members = tk ix_wsX7_members := tk_co rfl (tk_ap (tk_ap (rfl) (tie_wsX70)) (tie_wsX20))
abbrev ix_wsX7_refine_r1 : List Nat := [60, 63, 62, 61, 376, 145, 146, 14, 147, 148, 377, 378, 379, 23, 380, 381, 191, 192, 193, 382, 383, 384, 385, 386]
set_option maxRecDepth 20000 in
theorem tie_wsX7_refine_r1 : wsX7_refine_r1 = tk ix_wsX7_refine_r1 := rfl
abbrev ix_wsX7_refine_r2 : List Nat := [265, 266, 267, 46, 190, 387, 286, 287, 288, 47, 388, 389, 390, 391, 392, 2, 393, 394, 395, 396, 397, 398, 399, 400]
set_option maxRecDepth 20000 in
theorem tie_wsX7_refine_r2 : wsX7_refine_r2 = tk ix_wsX7_refine_r2 := rfl
abbrev ix_wsX7_refine_r3 : List Nat := [401, 310, 311, 227, 220, 221, 222, 45, 402, 224, 225, 226, 403, 404, 405, 406]
set_option maxRecDepth 20000 in
theorem tie_wsX7_refine_r3 : wsX7_refine_r3 = tk ix_wsX7_refine_r3 := rfl
abbrev ix_wsX7_refine : List Nat := 375 :: ((((ix_wsX7_refine_r1) ++ ((ix_wsX7_refine_r2) ++ (ix_wsX7_refine_r3))) ++ (ix_wsX70)) ++ (ix_wsX20))
set_option maxRecDepth 20000 in
theorem tie_wsX7_refine : wsX7_refine = tk ix_wsX7_refine := tk_co rfl (tk_ap (tk_ap (tk_ap (tie_wsX7_refine_r1) (tk_ap (tie_wsX7_refine_r2) (tie_wsX7_refine_r3))) (tie_wsX70)) (tie_wsX20))
abbrev ix_wsX2_size : List Nat := 147 :: (([148]) ++ (ix_wsX20))
set_option maxRecDepth 20000 in
theorem tie_wsX2_size : wsX2_size = tk ix_wsX2_size := tk_co rfl (tk_ap (rfl) (tie_wsX20))
abbrev ix_wsX7_split_r1 : List Nat := [62, 61, 381, 191, 192, 14, 193, 148, 382, 383, 384, 23, 385, 63, 386, 265, 266, 267, 46, 190, 387, 286, 287, 288]
set_option maxRecDepth 20000 in
theorem tie_wsX7_split_r1 : wsX7_split_r1 = tk ix_wsX7_split_r1 := rfl
abbrev ix_wsX7_split_r2 : List Nat := [47, 388, 389, 390, 391, 60, 392, 2, 393, 394, 395, 396, 397, 398, 399, 400, 401, 310, 311, 227, 220, 221, 222, 45]
set_option maxRecDepth 20000 in
theorem tie_wsX7_split_r2 : wsX7_split_r2 = tk ix_wsX7_split_r2 := rfl
abbrev ix_wsX7_split_r3 : List Nat := [402, 224, 225, 226, 403, 404, 405, 406]
set_option maxRecDepth 20000 in
theorem tie_wsX7_split_r3 : wsX7_split_r3 = tk ix_wsX7_split_r3 := rfl
abbrev ix_wsX7_split : List Nat := 380 :: ((((ix_wsX7_split_r1) ++ ((ix_wsX7_split_r2) ++ (ix_wsX7_split_r3))) ++ (ix_wsX70)) ++ (ix_wsX20))
set_option maxRecDepth 20000 in
theorem tie_wsX7_split : wsX7_split = tk ix_wsX7_split := tk_co rfl (tk_ap (tk_ap (tk_ap (tie_wsX7_split_r1) (tk_ap (tie_wsX7_split_r2) (tie_wsX7_split_r3))) (tie_wsX70)) (tie_wsX20))
abbrev ix_wsX7_isAlike_r1 : List Nat := [62, 63, 386, 265, 266, 14, 267, 46, 190, 191, 192, 193, 148, 387, 286, 287, 288, 47, 388, 389, 390, 23, 391, 60]
set_option maxRecDepth 20000 in
theorem tie_wsX7_isAlike_r1 : wsX7_isAlike_r1 = tk ix_wsX7_isAlike_r1 := rfl
abbrev ix_wsX7_isAlike_r2 : List Nat := [392, 2, 393, 394, 395, 396, 397, 381, 398, 399, 400, 401, 310, 311, 227, 220, 221, 222, 45, 402, 224, 225, 226, 403]
set_option maxRecDepth 20000 in
theorem tie_wsX7_isAlike_r2 : wsX7_isAlike_r2 = tk ix_wsX7_isAlike_r2 := rfl
abbrev ix_wsX7_isAlike_r3 : List Nat := [404, 405, 406]
set_option maxRecDepth 20000 in
theorem tie_wsX7_isAlike_r3 : wsX7_isAlike_r3 = tk ix_wsX7_isAlike_r3 := rfl
abbrev ix_wsX7_isAlike : List Nat := 385 :: ((((ix_wsX7_isAlike_r1) ++ ((ix_wsX7_isAlike_r2) ++ (ix_wsX7_isAlike_r3))) ++ (ix_wsX70)) ++ (ix_wsX20))
set_option maxRecDepth 20000 in
theorem tie_wsX7_isAlike : wsX7_isAlike = tk ix_wsX7_isAlike := tk_co rfl (tk_ap (tk_ap (tk_ap (tie_wsX7_isAlike_r1) (tk_ap (tie_wsX7_isAlike_r2) (tie_wsX7_isAlike_r3))) (tie_wsX70)) (tie_wsX20))
abbrev ix_wsX80 : List Nat := [1425, 1426, 1427, 1428, 1429, 1430]
theorem tie_wsX80 : wsX80 = tk ix_wsX80 := by decide +kernel
abbrev ix_wsX8_init : List Nat := 66 :: ((([67, 10, 11, 68, 69, 70, 71, 72, 73, 74, 75, 76, 77, 78, 79, 80, 81]) ++ (ix_wsX30)) ++ (ix_wsX80))
set_option maxRecDepth 20000 in
theorem tie_wsX8_init : wsX8_init = tk ix_wsX8_init := tk_co rfl (tk_ap (tk_ap (rfl) (tie_wsX30)) (tie_wsX80))
abbrev ix_wsX3_init : List Nat := 79 :: (([80, 10, 11, 72, 81]) ++ (ix_wsX30))
set_option maxRecDepth 20000 in
theorem tie_wsX3_init : wsX3_init = tk ix_wsX3_init := tk_co rfl (tk_ap (rfl) (tie_wsX30))
abbrev ix_wsX8_part : List Nat := 473 :: (([73, 74, 392, 2, 393]) ++ (ix_wsX80))
set_option maxRecDepth 20000 in
theorem tie_wsX8_part : wsX8_part = tk ix_wsX8_part := tk_co rfl (tk_ap (rfl) (tie_wsX80))
abbrev ix_wsX8_isInfinite : List Nat := 1245 :: (([74, 392, 2, 393]) ++ (ix_wsX80))
set_option maxRecDepth 20000 in
theorem tie_wsX8_isInfinite : wsX8_isInfinite = tk ix_wsX8_isInfinite := tk_co rfl (tk_ap (rfl) (tie_wsX80))
abbrev ix_wsX10 : List Nat := [1457, 1458, 1459, 1460]
theorem tie_wsX10 : wsX10 = tk ix_wsX10 := by decide +kernel
abbrev ix_wsX8_fulfilling : List Nat := 1066 :: (((([77, 73, 74, 991, 191, 192, 14, 193, 148, 1067, 1068, 1069, 763, 1070, 779, 778, 777, 776]) ++ (ix_wsX80)) ++ (ix_wsX20)) ++ (ix_wsX10))
set_option maxRecDepth 20000 in
theorem tie_wsX8_fulfilling : wsX8_fulfilling = tk ix_wsX8_fulfilling := tk_co rfl (tk_ap (tk_ap (tk_ap (rfl) (tie_wsX80)) (tie_wsX20)) (tie_wsX10))
abbrev ix_wsX1_admits : List Nat := 1070 :: (([779, 778, 777, 776]) ++ (ix_wsX10))
set_option maxRecDepth 20000 in
theorem tie_wsX1_admits : wsX1_admits = tk ix_wsX1_admits := tk_co rfl (tk_ap (rfl) (tie_wsX10))
abbrev ix_wsX8_refuses_r1 : List Nat := [77, 945, 946, 947, 948, 14, 949, 148, 950, 404, 405, 406, 402, 224, 225, 226, 227, 220, 221, 222, 45, 951, 2, 952]
set_option maxRecDepth 20000 in
theorem tie_wsX8_refuses_r1 : wsX8_refuses_r1 = tk ix_wsX8_refuses_r1 := rfl
abbrev ix_wsX8_refuses_r2 : List Nat := [953, 468, 469]
set_option maxRecDepth 20000 in
theorem tie_wsX8_refuses_r2 : wsX8_refuses_r2 = tk ix_wsX8_refuses_r2 := rfl
abbrev ix_wsX8_refuses : List Nat := 944 :: ((((ix_wsX8_refuses_r1) ++ (ix_wsX8_refuses_r2)) ++ (ix_wsX80)) ++ (ix_wsX20))
set_option maxRecDepth 20000 in
theorem tie_wsX8_refuses : wsX8_refuses = tk ix_wsX8_refuses := tk_co rfl (tk_ap (tk_ap (tk_ap (tie_wsX8_refuses_r1) (tie_wsX8_refuses_r2)) (tie_wsX80)) (tie_wsX20))
abbrev ix_wsX8_solveStep_r1 : List Nat := [77, 462, 399, 400, 14, 401, 148, 310, 2, 311, 227, 220, 221, 222, 45, 402, 224, 225, 226, 463, 404, 405, 406, 464]
set_option maxRecDepth 20000 in
theorem tie_wsX8_solveStep_r1 : wsX8_solveStep_r1 = tk ix_wsX8_solveStep_r1 := rfl
abbrev ix_wsX8_solveStep_r2 : List Nat := [465, 466, 27, 467, 73, 74, 468, 469, 392, 393]
set_option maxRecDepth 20000 in
theorem tie_wsX8_solveStep_r2 : wsX8_solveStep_r2 = tk ix_wsX8_solveStep_r2 := rfl
abbrev ix_wsX8_solveStep : List Nat := 461 :: ((((ix_wsX8_solveStep_r1) ++ (ix_wsX8_solveStep_r2)) ++ (ix_wsX80)) ++ (ix_wsX20))
set_option maxRecDepth 20000 in
theorem tie_wsX8_solveStep : wsX8_solveStep = tk ix_wsX8_solveStep := tk_co rfl (tk_ap (tk_ap (tk_ap (tie_wsX8_solveStep_r1) (tie_wsX8_solveStep_r2)) (tie_wsX80)) (tie_wsX20))
abbrev ix_wsX8_put : List Nat := 467 :: (([73, 74, 468, 2, 469, 392, 393]) ++ (ix_wsX80))
set_option maxRecDepth 20000 in
theorem tie_wsX8_put : wsX8_put = tk ix_wsX8_put := tk_co rfl (tk_ap (rfl) (tie_wsX80))
abbrev ix_wsX8_solveUntil_r1 : List Nat := [77, 71, 971, 972, 973, 14, 974, 148, 310, 2, 311, 312, 313, 314, 315, 227, 220, 221, 222, 45, 975, 976, 977, 70]
set_option maxRecDepth 20000 in
theorem tie_wsX8_solveUntil_r1 : wsX8_solveUntil_r1 = tk ix_wsX8_solveUntil_r1 := rfl
abbrev ix_wsX8_solveUntil_r2 : List Nat := [978, 979, 980, 981, 982, 983, 984, 985, 986, 81, 987, 988, 989, 27, 990, 991, 191, 192, 193, 992, 463, 404, 405, 406]
set_option maxRecDepth 20000 in
theorem tie_wsX8_solveUntil_r2 : wsX8_solveUntil_r2 = tk ix_wsX8_solveUntil_r2 := rfl
abbrev ix_wsX8_solveUntil_r3 : List Nat := [402, 224, 225, 226, 993, 994, 995, 996, 997, 998, 999, 1000, 1001, 1002, 1003, 1004, 1005, 1006, 1007, 1008, 1009, 1010, 1011, 1012]
set_option maxRecDepth 20000 in
theorem tie_wsX8_solveUntil_r3 : wsX8_solveUntil_r3 = tk ix_wsX8_solveUntil_r3 := rfl
abbrev ix_wsX8_solveUntil_r4 : List Nat := [1013, 1014, 1015, 1016, 1017, 1018, 1019, 1020, 1021, 1022, 1023, 1024, 1025, 464, 465, 466, 467, 73, 74, 468, 469, 392, 393]
set_option maxRecDepth 20000 in
theorem tie_wsX8_solveUntil_r4 : wsX8_solveUntil_r4 = tk ix_wsX8_solveUntil_r4 := rfl
abbrev ix_wsX8_solveUntil : List Nat := 970 :: (((((ix_wsX8_solveUntil_r1) ++ ((ix_wsX8_solveUntil_r2) ++ ((ix_wsX8_solveUntil_r3) ++ (ix_wsX8_solveUntil_r4)))) ++ (ix_wsX80)) ++ (ix_wsX20)) ++ (ix_wsX30))
set_option maxRecDepth 20000 in
theorem tie_wsX8_solveUntil : wsX8_solveUntil = tk ix_wsX8_solveUntil := tk_co rfl (tk_ap (tk_ap (tk_ap (tk_ap (tie_wsX8_solveUntil_r1) (tk_ap (tie_wsX8_solveUntil_r2) (tk_ap (tie_wsX8_solveUntil_r3) (tie_wsX8_solveUntil_r4)))) (tie_wsX80)) (tie_wsX20)) (tie_wsX30))
abbrev ix_wsX8_balance_r1 : List Nat := [77, 71, 991, 191, 192, 14, 193, 148, 992, 980, 981, 70, 982, 983, 984, 985, 986, 81, 463, 404, 405, 406, 402, 224]
set_option maxRecDepth 20000 in
theorem tie_wsX8_balance_r1 : wsX8_balance_r1 = tk ix_wsX8_balance_r1 := rfl
abbrev ix_wsX8_balance_r2 : List Nat := [225, 226, 227, 220, 221, 222, 45, 993, 994, 995, 996, 997, 998, 999, 1000, 1001, 1002, 1003, 1004, 1005]
set_option maxRecDepth 20000 in
theorem tie_wsX8_balance_r2 : wsX8_balance_r2 = tk ix_wsX8_balance_r2 := rfl
abbrev ix_wsX8_balance : List Nat := 990 :: (((((ix_wsX8_balance_r1) ++ (ix_wsX8_balance_r2)) ++ (ix_wsX80)) ++ (ix_wsX20)) ++ (ix_wsX30))
set_option maxRecDepth 20000 in
theorem tie_wsX8_balance : wsX8_balance = tk ix_wsX8_balance := tk_co rfl (tk_ap (tk_ap (tk_ap (tk_ap (tie_wsX8_balance_r1) (tie_wsX8_balance_r2)) (tie_wsX80)) (tie_wsX20)) (tie_wsX30))
abbrev ix_wsX8_complement : List Nat := 1029 :: (([74, 73, 464, 465, 466, 27, 467, 468, 2, 469, 392, 393]) ++ (ix_wsX80))
set_option maxRecDepth 20000 in
theorem tie_wsX8_complement : wsX8_complement = tk ix_wsX8_complement := tk_co rfl (tk_ap (rfl) (tie_wsX80))
abbrev ix_wsX8_countWithin_r1 : List Nat := [77, 75, 76, 946, 947, 948, 14, 949, 148, 950, 404, 405, 406, 402, 224, 225, 226, 227, 220, 221, 222, 45, 951, 2]
set_option maxRecDepth 20000 in
theorem tie_wsX8_countWithin_r1 : wsX8_countWithin_r1 = tk ix_wsX8_countWithin_r1 := rfl
abbrev ix_wsX8_countWithin_r2 : List Nat := [952, 953, 468, 469, 310, 311, 1034, 1035, 1036, 27, 1037, 463, 994, 995, 996, 997, 464, 465, 466, 467, 73, 74, 392, 393]
set_option maxRecDepth 20000 in
theorem tie_wsX8_countWithin_r2 : wsX8_countWithin_r2 = tk ix_wsX8_countWithin_r2 := rfl
abbrev ix_wsX8_countWithin : List Nat := 1033 :: ((((ix_wsX8_countWithin_r1) ++ (ix_wsX8_countWithin_r2)) ++ (ix_wsX80)) ++ (ix_wsX20))
set_option maxRecDepth 20000 in
theorem tie_wsX8_countWithin : wsX8_countWithin = tk ix_wsX8_countWithin := tk_co rfl (tk_ap (tk_ap (tk_ap (tie_wsX8_countWithin_r1) (tie_wsX8_countWithin_r2)) (tie_wsX80)) (tie_wsX20))
abbrev ix_wsX8_countBefore : List Nat := 1037 :: ((([77, 75, 463, 404, 405, 14, 406, 402, 224, 225, 226, 148, 227, 220, 221, 222, 45, 994, 995, 996, 997]) ++ (ix_wsX80)) ++ (ix_wsX20))
set_option maxRecDepth 20000 in
theorem tie_wsX8_countBefore : wsX8_countBefore = tk ix_wsX8_countBefore := tk_co rfl (tk_ap (tk_ap (rfl) (tie_wsX80)) (tie_wsX20))
abbrev ix_wsX8_solveExpected_r1 : List Nat := [77, 71, 1056, 357, 358, 14, 359, 148, 1057, 1058, 1059, 1060, 356, 1061, 972, 973, 974, 310, 2, 311, 312, 313, 314, 315]
set_option maxRecDepth 20000 in
theorem tie_wsX8_solveExpected_r1 : wsX8_solveExpected_r1 = tk ix_wsX8_solveExpected_r1 := rfl
abbrev ix_wsX8_solveExpected_r2 : List Nat := [227, 220, 221, 222, 45, 975, 976, 977, 70, 978, 979, 980, 981, 982, 983, 984, 985, 986, 81, 987, 988, 989, 27, 990]
set_option maxRecDepth 20000 in
theorem tie_wsX8_solveExpected_r2 : wsX8_solveExpected_r2 = tk ix_wsX8_solveExpected_r2 := rfl
abbrev ix_wsX8_solveExpected_r3 : List Nat := [991, 191, 192, 193, 992, 463, 404, 405, 406, 402, 224, 225, 226, 993, 994, 995, 996, 997, 998, 999, 1000, 1001, 1002, 1003]
set_option maxRecDepth 20000 in
theorem tie_wsX8_solveExpected_r3 : wsX8_solveExpected_r3 = tk ix_wsX8_solveExpected_r3 := rfl
abbrev ix_wsX8_solveExpected_r4 : List Nat := [1004, 1005, 1062, 286, 287, 288, 47, 190, 1006, 1007, 1008, 1009, 1010, 1011, 1012, 1013, 1014, 1015, 1016, 1017, 1018, 1019, 1020, 1021]
set_option maxRecDepth 20000 in
theorem tie_wsX8_solveExpected_r4 : wsX8_solveExpected_r4 = tk ix_wsX8_solveExpected_r4 := rfl
abbrev ix_wsX8_solveExpected_r5 : List Nat := [1022, 1023, 1024, 1025, 464, 465, 466, 467, 73, 74, 468, 469, 392, 393]
set_option maxRecDepth 20000 in
theorem tie_wsX8_solveExpected_r5 : wsX8_solveExpected_r5 = tk ix_wsX8_solveExpected_r5 := rfl
abbrev ix_wsX8_solveExpected : List Nat := 1055 :: (((((ix_wsX8_solveExpected_r1) ++ ((ix_wsX8_solveExpected_r2) ++ ((ix_wsX8_solveExpected_r3) ++ ((ix_wsX8_solveExpected_r4) ++ (ix_wsX8_solveExpected_r5))))) ++ (ix_wsX80)) ++ (ix_wsX20)) ++ (ix_wsX30))
set_option maxRecDepth 20000 in
theorem tie_wsX8_solveExpected : wsX8_solveExpected = tk ix_wsX8_solveExpected := tk_co rfl (tk_ap (tk_ap (tk_ap (tk_ap (tie_wsX8_solveExpected_r1) (tk_ap (tie_wsX8_solveExpected_r2) (tk_ap (tie_wsX8_solveExpected_r3) (tk_ap (tie_wsX8_solveExpected_r4) (tie_wsX8_solveExpected_r5))))) (tie_wsX80)) (tie_wsX20)) (tie_wsX30))
abbrev ix_wsX8_solveSteady_r1 : List Nat := [77, 74, 71, 73, 1042, 353, 354, 14, 355, 148, 356, 357, 358, 359, 339, 307, 308, 309, 310, 2, 311, 312, 313, 314]
set_option maxRecDepth 20000 in
theorem tie_wsX8_solveSteady_r1 : wsX8_solveSteady_r1 = tk ix_wsX8_solveSteady_r1 := rfl
abbrev ix_wsX8_solveSteady_r2 : List Nat := [315, 227, 220, 221, 222, 45, 1043, 1044, 1045, 1046, 27, 1047, 975, 976, 977, 70, 978, 979, 980, 981, 982, 983, 984, 985]
set_option maxRecDepth 20000 in
theorem tie_wsX8_solveSteady_r2 : wsX8_solveSteady_r2 = tk ix_wsX8_solveSteady_r2 := rfl
abbrev ix_wsX8_solveSteady_r3 : List Nat := [986, 81, 463, 404, 405, 406, 402, 224, 225, 226, 993, 994, 995, 996, 997, 998, 999, 1000, 1001, 1002, 1003, 1004, 1005, 1006]
set_option maxRecDepth 20000 in
theorem tie_wsX8_solveSteady_r3 : wsX8_solveSteady_r3 = tk ix_wsX8_solveSteady_r3 := rfl
abbrev ix_wsX8_solveSteady_r4 : List Nat := [1007, 1008, 1009, 1010, 1011, 1012, 1013, 1014, 1015, 1016, 1017, 1048, 1049, 1050, 1051, 1018, 1019, 1020, 1021, 464, 465, 466, 467, 468]
set_option maxRecDepth 20000 in
theorem tie_wsX8_solveSteady_r4 : wsX8_solveSteady_r4 = tk ix_wsX8_solveSteady_r4 := rfl
abbrev ix_wsX8_solveSteady_r5 : List Nat := [469, 392, 393, 951, 952, 953, 987, 988, 989, 990, 991, 191, 192, 193, 992, 1022, 1023, 1024, 1025]
set_option maxRecDepth 20000 in
theorem tie_wsX8_solveSteady_r5 : wsX8_solveSteady_r5 = tk ix_wsX8_solveSteady_r5 := rfl
abbrev ix_wsX8_solveSteady : List Nat := 1041 :: (((((ix_wsX8_solveSteady_r1) ++ ((ix_wsX8_solveSteady_r2) ++ ((ix_wsX8_solveSteady_r3) ++ ((ix_wsX8_solveSteady_r4) ++ (ix_wsX8_solveSteady_r5))))) ++ (ix_wsX80)) ++ (ix_wsX20)) ++ (ix_wsX30))
set_option maxRecDepth 20000 in
theorem tie_wsX8_solveSteady : wsX8_solveSteady = tk ix_wsX8_solveSteady := tk_co rfl (tk_ap (tk_ap (tk_ap (tk_ap (tie_wsX8_solveSteady_r1) (tk_ap (tie_wsX8_solveSteady_r2) (tk_ap (tie_wsX8_solveSteady_r3) (tk_ap (tie_wsX8_solveSteady_r4) (tie_wsX8_solveSteady_r5))))) (tie_wsX80)) (tie_wsX20)) (tie_wsX30))
abbrev ix_wsX8_solveFlow_r1 : List Nat := [71, 77, 975, 976, 977, 70, 978, 979, 980, 981, 982, 983, 984, 985, 986, 81, 310, 2, 311, 463, 404, 405, 14, 406]
set_option maxRecDepth 20000 in
theorem tie_wsX8_solveFlow_r1 : wsX8_solveFlow_r1 = tk ix_wsX8_solveFlow_r1 := rfl
abbrev ix_wsX8_solveFlow_r2 : List Nat := [402, 224, 225, 226, 148, 227, 220, 221, 222, 45, 993, 994, 995, 996, 997, 998, 999, 1000, 1001, 1002, 1003, 1004, 1005, 1006]
set_option maxRecDepth 20000 in
theorem tie_wsX8_solveFlow_r2 : wsX8_solveFlow_r2 = tk ix_wsX8_solveFlow_r2 := rfl
abbrev ix_wsX8_solveFlow_r3 : List Nat := [1007, 1008, 1009, 1010, 1011, 1012, 1013, 1014, 1015, 1016, 1017]
set_option maxRecDepth 20000 in
theorem tie_wsX8_solveFlow_r3 : wsX8_solveFlow_r3 = tk ix_wsX8_solveFlow_r3 := rfl
abbrev ix_wsX8_solveFlow : List Nat := 1047 :: (((((ix_wsX8_solveFlow_r1) ++ ((ix_wsX8_solveFlow_r2) ++ (ix_wsX8_solveFlow_r3))) ++ (ix_wsX80)) ++ (ix_wsX30)) ++ (ix_wsX20))
set_option maxRecDepth 20000 in
theorem tie_wsX8_solveFlow : wsX8_solveFlow = tk ix_wsX8_solveFlow := tk_co rfl (tk_ap (tk_ap (tk_ap (tk_ap (tie_wsX8_solveFlow_r1) (tk_ap (tie_wsX8_solveFlow_r2) (tie_wsX8_solveFlow_r3))) (tie_wsX80)) (tie_wsX30)) (tie_wsX20))
abbrev ix_wsX8_shareOut_r1 : List Nat := [77, 71, 310, 2, 311, 463, 404, 405, 14, 406, 402, 224, 225, 226, 148, 227, 220, 221, 222, 45, 1018, 1019, 1020, 70]
set_option maxRecDepth 20000 in
theorem tie_wsX8_shareOut_r1 : wsX8_shareOut_r1 = tk ix_wsX8_shareOut_r1 := rfl
abbrev ix_wsX8_shareOut_r2 : List Nat := [1021, 1002, 1003, 1004, 1005, 81, 464, 465, 466, 27, 467, 73, 74, 468, 469, 392, 393]
set_option maxRecDepth 20000 in
theorem tie_wsX8_shareOut_r2 : wsX8_shareOut_r2 = tk ix_wsX8_shareOut_r2 := rfl
abbrev ix_wsX8_shareOut : List Nat := 1051 :: (((((ix_wsX8_shareOut_r1) ++ (ix_wsX8_shareOut_r2)) ++ (ix_wsX80)) ++ (ix_wsX20)) ++ (ix_wsX30))
set_option maxRecDepth 20000 in
theorem tie_wsX8_shareOut : wsX8_shareOut = tk ix_wsX8_shareOut := tk_co rfl (tk_ap (tk_ap (tk_ap (tk_ap (tie_wsX8_shareOut_r1) (tie_wsX8_shareOut_r2)) (tie_wsX80)) (tie_wsX20)) (tie_wsX30))
abbrev ix_wsX100 : List Nat := [1441, 1442, 1443]
theorem tie_wsX100 : wsX100 = tk ix_wsX100 := by decide +kernel
abbrev ix_wsX10_isDone : List Nat := 791 :: ((([694, 693, 692, 705, 706, 707, 579, 708, 632, 709, 710, 711, 712, 633, 631]) ++ (ix_wsX100)) ++ (ix_wsJ00))
set_option maxRecDepth 20000 in
theorem tie_wsX10_isDone : wsX10_isDone = tk ix_wsX10_isDone := tk_co rfl (tk_ap (tk_ap (rfl) (tie_wsX100)) (tie_wsJ00))
abbrev ix_wsX10_readFormula_r1 : List Nat := [693, 698, 699, 700, 694, 701, 702, 703, 615, 704, 692, 705, 706, 707, 579, 708, 632, 709, 710, 711, 712, 633, 631, 713]
set_option maxRecDepth 20000 in
theorem tie_wsX10_readFormula_r1 : wsX10_readFormula_r1 = tk ix_wsX10_readFormula_r1 := rfl
abbrev ix_wsX10_readFormula_r2 : List Nat := [714, 715, 716, 717, 718, 719, 720, 721, 722, 558, 723, 724, 599, 600, 581, 601, 602, 584, 603, 725, 726, 105, 727, 595]
set_option maxRecDepth 20000 in
theorem tie_wsX10_readFormula_r2 : wsX10_readFormula_r2 = tk ix_wsX10_readFormula_r2 := rfl
abbrev ix_wsX10_readFormula_r3 : List Nat := [596, 597, 574, 575, 576, 598, 659, 660, 661, 589, 590, 591, 728, 729, 730, 731, 10, 11, 732, 733, 734, 735, 736, 737]
set_option maxRecDepth 20000 in
theorem tie_wsX10_readFormula_r3 : wsX10_readFormula_r3 = tk ix_wsX10_readFormula_r3 := rfl
abbrev ix_wsX10_readFormula_r4 : List Nat := [738, 436, 437, 438, 739, 740, 741, 742, 743, 744, 745, 746, 747, 748, 749, 750, 751, 752, 753, 754, 755, 756, 757, 758]
set_option maxRecDepth 20000 in
theorem tie_wsX10_readFormula_r4 : wsX10_readFormula_r4 = tk ix_wsX10_readFormula_r4 := rfl
abbrev ix_wsX10_readFormula_r5 : List Nat := [759, 760, 761, 762, 763, 764, 765, 766, 767, 768, 769, 770, 771, 772, 773, 774, 775, 776, 777, 778, 779, 780, 695, 696]
set_option maxRecDepth 20000 in
theorem tie_wsX10_readFormula_r5 : wsX10_readFormula_r5 = tk ix_wsX10_readFormula_r5 := rfl
abbrev ix_wsX10_readFormula_r6 : List Nat := [781, 782, 783, 784, 785, 786, 787]
set_option maxRecDepth 20000 in
theorem tie_wsX10_readFormula_r6 : wsX10_readFormula_r6 = tk ix_wsX10_readFormula_r6 := rfl
abbrev ix_wsX90 : List Nat := [1450, 1451, 1452, 1453, 1454, 1455, 1456]
theorem tie_wsX90 : wsX90 = tk ix_wsX90 := by decide +kernel
abbrev ix_wsX10_readFormula : List Nat := 697 :: ((((((ix_wsX10_readFormula_r1) ++ ((ix_wsX10_readFormula_r2) ++ ((ix_wsX10_readFormula_r3) ++ ((ix_wsX10_readFormula_r4) ++ ((ix_wsX10_readFormula_r5) ++ (ix_wsX10_readFormula_r6)))))) ++ (ix_wsX90)) ++ (ix_wsX100)) ++ (ix_wsX10)) ++ (ix_wsJ00))
set_option maxRecDepth 20000 in
theorem tie_wsX10_readFormula : wsX10_readFormula = tk ix_wsX10_readFormula := tk_co rfl (tk_ap (tk_ap (tk_ap (tk_ap (tk_ap (tie_wsX10_readFormula_r1) (tk_ap (tie_wsX10_readFormula_r2) (tk_ap (tie_wsX10_readFormula_r3) (tk_ap (tie_wsX10_readFormula_r4) (tk_ap (tie_wsX10_readFormula_r5) (tie_wsX10_readFormula_r6)))))) (tie_wsX90)) (tie_wsX100)) (tie_wsX10)) (tie_wsJ00))
