abbrev ix_wsX0_search_r1 : List Nat := [100, 96, 97, 98, 320, 2, 321, 1273, 1274, 1275, 35, 1276, 99, 1277, 1278, 1279, 1280, 1281, 1005, 1006, 14, 1007, 412, 234]
set_option maxRecDepth 20000 in
theorem tie_wsX0_search_r1 : wsX0_search_r1 = tk ix_wsX0_search_r1 := rfl
abbrev ix_wsX0_search_r2 : List Nat := [235, 236, 158, 237, 230, 231, 232, 49, 1282, 1283, 1284, 1285, 402, 403, 1286, 1287, 1288, 1289, 1290, 414, 415, 416]
set_option maxRecDepth 20000 in
theorem tie_wsX0_search_r2 : wsX0_search_r2 = tk ix_wsX0_search_r2 := rfl
abbrev ix_wsX00 : List Nat := [1448, 1449, 1450, 1451, 1452]
theorem tie_wsX00 : wsX00 = tk ix_wsX00 := by decide +kernel
abbrev ix_wsX20 : List Nat := [1429, 1430, 1431, 1432]
theorem tie_wsX20 : wsX20 = tk ix_wsX20 := by decide +kernel
abbrev ix_wsX0_search : List Nat := 1272 :: ((((ix_wsX0_search_r1) ++ (ix_wsX0_search_r2)) ++ (ix_wsX00)) ++ (ix_wsX20))
set_option maxRecDepth 20000 in
theorem tie_wsX0_search : wsX0_search = tk ix_wsX0_search := tk_co rfl (tk_ap (tk_ap (tk_ap (tie_wsX0_search_r1) (tie_wsX0_search_r2)) (tie_wsX00)) (tie_wsX20))
abbrev ix_wsX11_contains : List Nat := 321 :: (([] : List Nat))
set_option maxRecDepth 20000 in
theorem tie_wsX11_contains : wsX11_contains = tk ix_wsX11_contains := tk_co rfl (rfl)
abbrev ix_wsX0_improve_r1 : List Nat := [98, 96, 99, 97, 1277, 1278, 1279, 35, 1280, 100, 320, 2, 321, 1281, 1005, 1006, 14, 1007, 412, 234, 235, 236, 158, 237]
set_option maxRecDepth 20000 in
theorem tie_wsX0_improve_r1 : wsX0_improve_r1 = tk ix_wsX0_improve_r1 := rfl
abbrev ix_wsX0_improve_r2 : List Nat := [230, 231, 232, 49, 1282, 1283, 1284, 1285, 402, 403, 1286, 1287, 1288, 1289, 1290, 414, 415, 416]
set_option maxRecDepth 20000 in
theorem tie_wsX0_improve_r2 : wsX0_improve_r2 = tk ix_wsX0_improve_r2 := rfl
abbrev ix_wsX0_improve : List Nat := 1276 :: ((((ix_wsX0_improve_r1) ++ (ix_wsX0_improve_r2)) ++ (ix_wsX00)) ++ (ix_wsX20))
set_option maxRecDepth 20000 in
theorem tie_wsX0_improve : wsX0_improve = tk ix_wsX0_improve := tk_co rfl (tk_ap (tk_ap (tk_ap (tie_wsX0_improve_r1) (tie_wsX0_improve_r2)) (tie_wsX00)) (tie_wsX20))
abbrev ix_wsX0_lengthFrom : List Nat := 1285 :: (([98, 402, 2, 403]) ++ (ix_wsX00))
set_option maxRecDepth 20000 in
theorem tie_wsX0_lengthFrom : wsX0_lengthFrom = tk ix_wsX0_lengthFrom := tk_co rfl (tk_ap (rfl) (tie_wsX00))
abbrev ix_wsX11_isIndex : List Nat := 403 :: (([] : List Nat))
set_option maxRecDepth 20000 in
theorem tie_wsX11_isIndex : wsX11_isIndex = tk ix_wsX11_isIndex := tk_co rfl (rfl)
abbrev ix_wsX0_product : List Nat := 1324 :: (([96, 97, 402, 2, 403, 478, 479]) ++ (ix_wsX00))
set_option maxRecDepth 20000 in
theorem tie_wsX0_product : wsX0_product = tk ix_wsX0_product := tk_co rfl (tk_ap (rfl) (tie_wsX00))
abbrev ix_wsX11_commonDivisor : List Nat := 479 :: (([] : List Nat))
set_option maxRecDepth 20000 in
theorem tie_wsX11_commonDivisor : wsX11_commonDivisor = tk ix_wsX11_commonDivisor := tk_co rfl (rfl)
abbrev ix_wsX0_stateAt_r1 : List Nat := [1296, 1297, 1298, 35, 1299, 98, 1277, 1278, 1279, 1280, 100, 99, 320, 2, 321, 1281, 1005, 1006, 14, 1007, 412, 234, 235, 236]
set_option maxRecDepth 20000 in
theorem tie_wsX0_stateAt_r1 : wsX0_stateAt_r1 = tk ix_wsX0_stateAt_r1 := rfl
abbrev ix_wsX0_stateAt_r2 : List Nat := [158, 237, 230, 231, 232, 49, 1282, 1283, 1284, 1285, 402, 403, 1286, 1287, 1288, 1289, 96, 97, 1290, 414, 415, 416]
set_option maxRecDepth 20000 in
theorem tie_wsX0_stateAt_r2 : wsX0_stateAt_r2 = tk ix_wsX0_stateAt_r2 := rfl
abbrev ix_wsX0_stateAt : List Nat := 1295 :: ((((ix_wsX0_stateAt_r1) ++ (ix_wsX0_stateAt_r2)) ++ (ix_wsX00)) ++ (ix_wsX20))
set_option maxRecDepth 20000 in
theorem tie_wsX0_stateAt : wsX0_stateAt = tk ix_wsX0_stateAt := tk_co rfl (tk_ap (tk_ap (tk_ap (tie_wsX0_stateAt_r1) (tie_wsX0_stateAt_r2)) (tie_wsX00)) (tie_wsX20))
abbrev ix_wsX0_following_r1 : List Nat := [98, 1277, 1278, 1279, 35, 1280, 100, 99, 320, 2, 321, 1281, 1005, 1006, 14, 1007, 412, 234, 235, 236, 158, 237, 230, 231]
set_option maxRecDepth 20000 in
theorem tie_wsX0_following_r1 : wsX0_following_r1 = tk ix_wsX0_following_r1 := rfl
abbrev ix_wsX0_following_r2 : List Nat := [232, 49, 1282, 1283, 1284, 1285, 402, 403, 1286, 1287, 1288, 1289, 96, 97, 1290, 414, 415, 416]
set_option maxRecDepth 20000 in
theorem tie_wsX0_following_r2 : wsX0_following_r2 = tk ix_wsX0_following_r2 := rfl
abbrev ix_wsX0_following : List Nat := 1299 :: ((((ix_wsX0_following_r1) ++ (ix_wsX0_following_r2)) ++ (ix_wsX00)) ++ (ix_wsX20))
set_option maxRecDepth 20000 in
theorem tie_wsX0_following : wsX0_following = tk ix_wsX0_following := tk_co rfl (tk_ap (tk_ap (tk_ap (tie_wsX0_following_r1) (tie_wsX0_following_r2)) (tie_wsX00)) (tie_wsX20))
abbrev ix_wsX0_isStep_r1 : List Nat := [100, 99, 320, 2, 321, 1281, 1005, 1006, 14, 1007, 412, 234, 235, 236, 158, 237, 230, 231, 232, 49, 1282, 1283, 1284, 35]
set_option maxRecDepth 20000 in
theorem tie_wsX0_isStep_r1 : wsX0_isStep_r1 = tk ix_wsX0_isStep_r1 := rfl
abbrev ix_wsX0_isStep_r2 : List Nat := [1285, 98, 402, 403]
set_option maxRecDepth 20000 in
theorem tie_wsX0_isStep_r2 : wsX0_isStep_r2 = tk ix_wsX0_isStep_r2 := rfl
abbrev ix_wsX0_isStep : List Nat := 1280 :: ((((ix_wsX0_isStep_r1) ++ (ix_wsX0_isStep_r2)) ++ (ix_wsX00)) ++ (ix_wsX20))
set_option maxRecDepth 20000 in
theorem tie_wsX0_isStep : wsX0_isStep = tk ix_wsX0_isStep := tk_co rfl (tk_ap (tk_ap (tk_ap (tie_wsX0_isStep_r1) (tie_wsX0_isStep_r2)) (tie_wsX00)) (tie_wsX20))
abbrev ix_wsX0_gainOf_r1 : List Nat := [99, 96, 97, 402, 2, 403, 1281, 1005, 1006, 14, 1007, 412, 234, 235, 236, 158, 237, 230, 231, 232, 49, 1290, 414, 415]
set_option maxRecDepth 20000 in
theorem tie_wsX0_gainOf_r1 : wsX0_gainOf_r1 = tk ix_wsX0_gainOf_r1 := rfl
abbrev ix_wsX0_gainOf_r2 : List Nat := [416]
set_option maxRecDepth 20000 in
theorem tie_wsX0_gainOf_r2 : wsX0_gainOf_r2 = tk ix_wsX0_gainOf_r2 := rfl
abbrev ix_wsX0_gainOf : List Nat := 1289 :: ((((ix_wsX0_gainOf_r1) ++ (ix_wsX0_gainOf_r2)) ++ (ix_wsX00)) ++ (ix_wsX20))
set_option maxRecDepth 20000 in
theorem tie_wsX0_gainOf : wsX0_gainOf = tk ix_wsX0_gainOf := tk_co rfl (tk_ap (tk_ap (tk_ap (tie_wsX0_gainOf_r1) (tie_wsX0_gainOf_r2)) (tie_wsX00)) (tie_wsX20))
abbrev ix_wsX2_stepWeight : List Nat := 1007 :: (([412, 234, 235, 14, 236, 158, 237, 230, 231, 232, 49]) ++ (ix_wsX20))
set_option maxRecDepth 20000 in
theorem tie_wsX2_stepWeight : wsX2_stepWeight = tk ix_wsX2_stepWeight := tk_co rfl (tk_ap (rfl) (tie_wsX20))
abbrev ix_wsX2_divisorOf : List Nat := 416 :: (([412, 234, 235, 14, 236, 158, 237, 230, 231, 232, 49]) ++ (ix_wsX20))
set_option maxRecDepth 20000 in
theorem tie_wsX2_divisorOf : wsX2_divisorOf = tk ix_wsX2_divisorOf := tk_co rfl (tk_ap (rfl) (tie_wsX20))
abbrev ix_wsX2_shrink : List Nat := 195 :: (([158, 196, 197, 198, 14, 199, 49, 200, 201, 202, 203, 204, 205, 206, 207, 50, 208, 209, 210, 211, 51]) ++ (ix_wsX20))
set_option maxRecDepth 20000 in
theorem tie_wsX2_shrink : wsX2_shrink = tk ix_wsX2_shrink := tk_co rfl (tk_ap (rfl) (tie_wsX20))
abbrev ix_wsX2_putWeight : List Nat := 199 :: (([49, 200, 201, 202, 14, 203, 158]) ++ (ix_wsX20))
set_option maxRecDepth 20000 in
theorem tie_wsX2_putWeight : wsX2_putWeight = tk ix_wsX2_putWeight := tk_co rfl (tk_ap (rfl) (tie_wsX20))
abbrev ix_wsX2_putLabels : List Nat := 207 :: (([50, 200, 201, 202, 14, 203, 158]) ++ (ix_wsX20))
set_option maxRecDepth 20000 in
theorem tie_wsX2_putLabels : wsX2_putLabels = tk ix_wsX2_putLabels := tk_co rfl (tk_ap (rfl) (tie_wsX20))
abbrev ix_wsX2_putReward : List Nat := 211 :: (([51, 200, 201, 202, 14, 203, 158]) ++ (ix_wsX20))
set_option maxRecDepth 20000 in
theorem tie_wsX2_putReward : wsX2_putReward = tk ix_wsX2_putReward := tk_co rfl (tk_ap (rfl) (tie_wsX20))
abbrev ix_wsX2_has : List Nat := 203 :: (([158]) ++ (ix_wsX20))
set_option maxRecDepth 20000 in
theorem tie_wsX2_has : wsX2_has = tk ix_wsX2_has := tk_co rfl (tk_ap (rfl) (tie_wsX20))
abbrev ix_wsX2_labelsOf : List Nat := 277 :: (([50, 200, 201, 202, 14, 203, 158]) ++ (ix_wsX20))
set_option maxRecDepth 20000 in
theorem tie_wsX2_labelsOf : wsX2_labelsOf = tk ix_wsX2_labelsOf := tk_co rfl (tk_ap (rfl) (tie_wsX20))
abbrev ix_wsX2_rewardOf : List Nat := 298 :: (([51, 200, 201, 202, 14, 203, 158]) ++ (ix_wsX20))
set_option maxRecDepth 20000 in
theorem tie_wsX2_rewardOf : wsX2_rewardOf = tk ix_wsX2_rewardOf := tk_co rfl (tk_ap (rfl) (tie_wsX20))
abbrev ix_wsX2_sumOf : List Nat := 236 :: (([158, 237, 230, 231, 14, 232, 49]) ++ (ix_wsX20))
set_option maxRecDepth 20000 in
theorem tie_wsX2_sumOf : wsX2_sumOf = tk ix_wsX2_sumOf := tk_co rfl (tk_ap (rfl) (tie_wsX20))
abbrev ix_wsX2_weightOf : List Nat := 232 :: (([49]) ++ (ix_wsX20))
set_option maxRecDepth 20000 in
theorem tie_wsX2_weightOf : wsX2_weightOf = tk ix_wsX2_weightOf := tk_co rfl (tk_ap (rfl) (tie_wsX20))
abbrev ix_wsX2_stepWeightInto : List Nat := 411 :: (([158, 320, 2, 321, 237, 230, 231, 14, 232, 49, 412, 234, 235, 236]) ++ (ix_wsX20))
set_option maxRecDepth 20000 in
theorem tie_wsX2_stepWeightInto : wsX2_stepWeightInto = tk ix_wsX2_stepWeightInto := tk_co rfl (tk_ap (rfl) (tie_wsX20))
abbrev ix_wsX2_successorsOf : List Nat := 325 :: (([158, 237, 230, 231, 14, 232, 49]) ++ (ix_wsX20))
set_option maxRecDepth 20000 in
theorem tie_wsX2_successorsOf : wsX2_successorsOf = tk ix_wsX2_successorsOf := tk_co rfl (tk_ap (rfl) (tie_wsX20))
abbrev ix_wsX2_labelled : List Nat := 974 :: (([158, 975, 275, 276, 14, 277, 50, 200, 201, 202, 203, 320, 2, 321]) ++ (ix_wsX20))
set_option maxRecDepth 20000 in
theorem tie_wsX2_labelled : wsX2_labelled = tk ix_wsX2_labelled := tk_co rfl (tk_ap (rfl) (tie_wsX20))
abbrev ix_wsX2_reachedFrom : List Nat := 319 :: (([158, 320, 2, 321, 322, 323, 324, 14, 325, 237, 230, 231, 232, 49]) ++ (ix_wsX20))
set_option maxRecDepth 20000 in
theorem tie_wsX2_reachedFrom : wsX2_reachedFrom = tk ix_wsX2_reachedFrom := tk_co rfl (tk_ap (rfl) (tie_wsX20))
abbrev ix_wsX2_componentOf : List Nat := 348 :: (([158, 349, 317, 318, 14, 319, 320, 2, 321, 322, 323, 324, 325, 237, 230, 231, 232, 49]) ++ (ix_wsX20))
set_option maxRecDepth 20000 in
theorem tie_wsX2_componentOf : wsX2_componentOf = tk ix_wsX2_componentOf := tk_co rfl (tk_ap (rfl) (tie_wsX20))
abbrev ix_wsX2_bottomStates : List Nat := 365 :: (([158, 366, 367, 368, 14, 369, 349, 317, 318, 319, 320, 2, 321, 322, 323, 324, 325, 237, 230, 231, 232, 49]) ++ (ix_wsX20))
set_option maxRecDepth 20000 in
theorem tie_wsX2_bottomStates : wsX2_bottomStates = tk ix_wsX2_bottomStates := tk_co rfl (tk_ap (rfl) (tie_wsX20))
abbrev ix_wsX2_all : List Nat := 369 :: (([158]) ++ (ix_wsX20))
set_option maxRecDepth 20000 in
theorem tie_wsX2_all : wsX2_all = tk ix_wsX2_all := tk_co rfl (tk_ap (rfl) (tie_wsX20))
abbrev ix_wsX2_canReach : List Nat := 984 :: (([158, 320, 2, 321, 322, 323, 324, 14, 325, 237, 230, 231, 232, 49]) ++ (ix_wsX20))
set_option maxRecDepth 20000 in
theorem tie_wsX2_canReach : wsX2_canReach = tk ix_wsX2_canReach := tk_co rfl (tk_ap (rfl) (tie_wsX20))
abbrev ix_wsX2_neverUntil : List Nat := 1215 :: (([366, 367, 368, 14, 369, 158, 1071, 982, 983, 984, 320, 2, 321, 322, 323, 324, 325, 237, 230, 231, 232, 49]) ++ (ix_wsX20))
set_option maxRecDepth 20000 in
theorem tie_wsX2_neverUntil : wsX2_neverUntil = tk ix_wsX2_neverUntil := tk_co rfl (tk_ap (rfl) (tie_wsX20))
abbrev ix_wsX2_surelyUntil : List Nat := 1070 :: (([366, 367, 368, 14, 369, 158, 1071, 982, 983, 984, 320, 2, 321, 322, 323, 324, 325, 237, 230, 231, 232, 49]) ++ (ix_wsX20))
set_option maxRecDepth 20000 in
theorem tie_wsX2_surelyUntil : wsX2_surelyUntil = tk ix_wsX2_surelyUntil := tk_co rfl (tk_ap (rfl) (tie_wsX20))
abbrev ix_wsX2_commonDivisors : List Nat := 956 :: (([158, 957, 414, 415, 14, 416, 412, 234, 235, 236, 237, 230, 231, 232, 49, 958, 2, 959, 960, 478, 479]) ++ (ix_wsX20))
set_option maxRecDepth 20000 in
theorem tie_wsX2_commonDivisors : wsX2_commonDivisors = tk ix_wsX2_commonDivisors := tk_co rfl (tk_ap (rfl) (tie_wsX20))
abbrev ix_wsX11_commonMultiple : List Nat := 959 :: [960, 478, 2, 479]
set_option maxRecDepth 20000 in
theorem tie_wsX11_commonMultiple : wsX11_commonMultiple = tk ix_wsX11_commonMultiple := tk_co rfl (rfl)
abbrev ix_wsX2_drawn : List Nat := 1338 :: (([158, 412, 234, 235, 14, 236, 237, 230, 231, 232, 49]) ++ (ix_wsX20))
set_option maxRecDepth 20000 in
theorem tie_wsX2_drawn : wsX2_drawn = tk ix_wsX2_drawn := tk_co rfl (tk_ap (rfl) (tie_wsX20))
abbrev ix_wsX30 : List Nat := [1457]
theorem tie_wsX30 : wsX30 = tk ix_wsX30 := by decide +kernel
abbrev ix_wsX3_clear : List Nat := 988 :: (([989, 990, 991, 58, 992, 993, 994, 995, 996, 69]) ++ (ix_wsX30))
set_option maxRecDepth 20000 in
theorem tie_wsX3_clear : wsX3_clear = tk ix_wsX3_clear := tk_co rfl (tk_ap (rfl) (tie_wsX30))
abbrev ix_wsX3_clearRow : List Nat := 992 :: (([993, 994, 995, 58, 996, 69]) ++ (ix_wsX30))
set_option maxRecDepth 20000 in
theorem tie_wsX3_clearRow : wsX3_clearRow = tk ix_wsX3_clearRow := tk_co rfl (tk_ap (rfl) (tie_wsX30))
abbrev ix_wsX3_put : List Nat := 996 :: (([69]) ++ (ix_wsX30))
set_option maxRecDepth 20000 in
theorem tie_wsX3_put : wsX3_put = tk ix_wsX3_put := tk_co rfl (tk_ap (rfl) (tie_wsX30))
abbrev ix_wsX3_add : List Nat := 1011 :: (([1012, 1013, 1014, 58, 1015, 69, 993, 994, 995, 996]) ++ (ix_wsX30))
set_option maxRecDepth 20000 in
theorem tie_wsX3_add : wsX3_add = tk ix_wsX3_add := tk_co rfl (tk_ap (rfl) (tie_wsX30))
abbrev ix_wsX3_get : List Nat := 1015 :: (([69]) ++ (ix_wsX30))
set_option maxRecDepth 20000 in
theorem tie_wsX3_get : wsX3_get = tk ix_wsX3_get := tk_co rfl (tk_ap (rfl) (tie_wsX30))
abbrev ix_wsX3_putRight : List Nat := 1019 :: (([993, 994, 995, 58, 996, 69]) ++ (ix_wsX30))
set_option maxRecDepth 20000 in
theorem tie_wsX3_putRight : wsX3_putRight = tk ix_wsX3_putRight := tk_co rfl (tk_ap (rfl) (tie_wsX30))
abbrev ix_wsX3_solve : List Nat := 1023 :: (([1024, 1025, 1026, 58, 1027, 1012, 1013, 1014, 1015, 69, 993, 994, 995, 996]) ++ (ix_wsX30))
set_option maxRecDepth 20000 in
theorem tie_wsX3_solve : wsX3_solve = tk ix_wsX3_solve := tk_co rfl (tk_ap (rfl) (tie_wsX30))
abbrev ix_wsX3_eliminate : List Nat := 1027 :: (([1012, 1013, 1014, 58, 1015, 69, 993, 994, 995, 996]) ++ (ix_wsX30))
set_option maxRecDepth 20000 in
theorem tie_wsX3_eliminate : wsX3_eliminate = tk ix_wsX3_eliminate := tk_co rfl (tk_ap (rfl) (tie_wsX30))
abbrev ix_wsX3_solution : List Nat := 1031 :: (([1012, 1013, 1014, 58, 1015, 69]) ++ (ix_wsX30))
set_option maxRecDepth 20000 in
theorem tie_wsX3_solution : wsX3_solution = tk ix_wsX3_solution := tk_co rfl (tk_ap (rfl) (tie_wsX30))
abbrev ix_wsX3_determinant : List Nat := 1035 :: (([1012, 1013, 1014, 58, 1015, 69]) ++ (ix_wsX30))
set_option maxRecDepth 20000 in
theorem tie_wsX3_determinant : wsX3_determinant = tk ix_wsX3_determinant := tk_co rfl (tk_ap (rfl) (tie_wsX30))
abbrev ix_wsX4_statesOf_r1 : List Nat := [90, 91, 969, 966, 967, 31, 970, 367, 368, 14, 369, 158, 971, 972, 973, 974, 975, 275, 276, 277, 50, 200, 201, 202]
set_option maxRecDepth 20000 in
theorem tie_wsX4_statesOf_r1 : wsX4_statesOf_r1 = tk ix_wsX4_statesOf_r1 := rfl
abbrev ix_wsX4_statesOf_r2 : List Nat := [203, 320, 2, 321, 976, 469, 470, 17, 471, 65, 472, 409, 410, 411, 237, 230, 231, 232, 49, 412, 234, 235, 236, 473]
set_option maxRecDepth 20000 in
theorem tie_wsX4_statesOf_r2 : wsX4_statesOf_r2 = tk ix_wsX4_statesOf_r2 := rfl
abbrev ix_wsX4_statesOf_r3 : List Nat := [414, 415, 416, 474, 475, 476, 477, 61, 62, 478, 479, 402, 403, 977, 978, 979, 980, 59, 981, 982, 983, 984, 322, 323]
set_option maxRecDepth 20000 in
theorem tie_wsX4_statesOf_r3 : wsX4_statesOf_r3 = tk ix_wsX4_statesOf_r3 := rfl
abbrev ix_wsX4_statesOf_r4 : List Nat := [324, 325, 985, 986, 987, 58, 988, 989, 990, 991, 992, 993, 994, 995, 996, 69, 997, 998, 999, 1000, 1001, 1002, 1003, 1004]
set_option maxRecDepth 20000 in
theorem tie_wsX4_statesOf_r4 : wsX4_statesOf_r4 = tk ix_wsX4_statesOf_r4 := rfl
abbrev ix_wsX4_statesOf_r5 : List Nat := [1005, 1006, 1007, 1008, 1009, 1010, 1011, 1012, 1013, 1014, 1015, 1016, 1017, 1018, 1019, 1020, 1021, 1022, 1023, 1024, 1025, 1026, 1027, 1028]
set_option maxRecDepth 20000 in
theorem tie_wsX4_statesOf_r5 : wsX4_statesOf_r5 = tk ix_wsX4_statesOf_r5 := rfl
abbrev ix_wsX4_statesOf_r6 : List Nat := [1029, 1030, 1031, 1032, 1033, 1034, 1035, 1036, 1037, 1038, 1039, 1040, 1041, 1042, 1043, 63, 64, 953, 954, 955, 956, 957, 958, 959]
set_option maxRecDepth 20000 in
theorem tie_wsX4_statesOf_r6 : wsX4_statesOf_r6 = tk ix_wsX4_statesOf_r6 := rfl
abbrev ix_wsX4_statesOf_r7 : List Nat := [960, 1044, 1045, 1046, 1047, 1048, 1049, 1050, 1051, 1052, 363, 364, 365, 366, 349, 317, 318, 319, 1053, 1054, 1055, 1056, 1057, 1058]
set_option maxRecDepth 20000 in
theorem tie_wsX4_statesOf_r7 : wsX4_statesOf_r7 = tk ix_wsX4_statesOf_r7 := rfl
abbrev ix_wsX4_statesOf_r8 : List Nat := [1059, 1060, 1061, 1062, 1063, 1064, 1065, 1066, 1067, 1068, 1069, 1070, 1071, 1072, 296, 297, 298, 51, 1073, 1074, 1075, 1076, 1077, 1078]
set_option maxRecDepth 20000 in
theorem tie_wsX4_statesOf_r8 : wsX4_statesOf_r8 = tk ix_wsX4_statesOf_r8 := rfl
abbrev ix_wsX4_statesOf_r9 : List Nat := [1079, 772, 1080, 788, 787, 786, 785]
set_option maxRecDepth 20000 in
theorem tie_wsX4_statesOf_r9 : wsX4_statesOf_r9 = tk ix_wsX4_statesOf_r9 := rfl
abbrev ix_wsX90 : List Nat := [1467, 1468, 1469, 1470, 1471, 1472, 1473]
theorem tie_wsX90 : wsX90 = tk ix_wsX90 := by decide +kernel
abbrev ix_wsX40 : List Nat := [1446, 1447]
theorem tie_wsX40 : wsX40 = tk ix_wsX40 := by decide +kernel
abbrev ix_wsX80 : List Nat := [1433, 1434, 1435, 1436, 1437, 1438]
theorem tie_wsX80 : wsX80 = tk ix_wsX80 := by decide +kernel
abbrev ix_wsX10 : List Nat := [1474, 1475, 1476, 1477]
theorem tie_wsX10 : wsX10 = tk ix_wsX10 := by decide +kernel
abbrev ix_wsX4_statesOf : List Nat := 968 :: ((((((((ix_wsX4_statesOf_r1) ++ ((ix_wsX4_statesOf_r2) ++ ((ix_wsX4_statesOf_r3) ++ ((ix_wsX4_statesOf_r4) ++ ((ix_wsX4_statesOf_r5) ++ ((ix_wsX4_statesOf_r6) ++ ((ix_wsX4_statesOf_r7) ++ ((ix_wsX4_statesOf_r8) ++ (ix_wsX4_statesOf_r9))))))))) ++ (ix_wsX90)) ++ (ix_wsX40)) ++ (ix_wsX20)) ++ (ix_wsX80)) ++ (ix_wsX30)) ++ (ix_wsX10))
set_option maxRecDepth 20000 in
theorem tie_wsX4_statesOf : wsX4_statesOf = tk ix_wsX4_statesOf := tk_co rfl (tk_ap (tk_ap (tk_ap (tk_ap (tk_ap (tk_ap (tk_ap (tie_wsX4_statesOf_r1) (tk_ap (tie_wsX4_statesOf_r2) (tk_ap (tie_wsX4_statesOf_r3) (tk_ap (tie_wsX4_statesOf_r4) (tk_ap (tie_wsX4_statesOf_r5) (tk_ap (tie_wsX4_statesOf_r6) (tk_ap (tie_wsX4_statesOf_r7) (tk_ap (tie_wsX4_statesOf_r8) (tie_wsX4_statesOf_r9))))))))) (tie_wsX90)) (tie_wsX40)) (tie_wsX20)) (tie_wsX80)) (tie_wsX30)) (tie_wsX10))
abbrev ix_wsX8_solveStep_r1 : List Nat := [65, 472, 409, 410, 14, 411, 158, 320, 2, 321, 237, 230, 231, 232, 49, 412, 234, 235, 236, 473, 414, 415, 416, 474]
set_option maxRecDepth 20000 in
theorem tie_wsX8_solveStep_r1 : wsX8_solveStep_r1 = tk ix_wsX8_solveStep_r1 := rfl
abbrev ix_wsX8_solveStep_r2 : List Nat := [475, 476, 17, 477, 61, 62, 478, 479, 402, 403]
set_option maxRecDepth 20000 in
theorem tie_wsX8_solveStep_r2 : wsX8_solveStep_r2 = tk ix_wsX8_solveStep_r2 := rfl
abbrev ix_wsX8_solveStep : List Nat := 471 :: ((((ix_wsX8_solveStep_r1) ++ (ix_wsX8_solveStep_r2)) ++ (ix_wsX80)) ++ (ix_wsX20))
set_option maxRecDepth 20000 in
theorem tie_wsX8_solveStep : wsX8_solveStep = tk ix_wsX8_solveStep := tk_co rfl (tk_ap (tk_ap (tk_ap (tie_wsX8_solveStep_r1) (tie_wsX8_solveStep_r2)) (tie_wsX80)) (tie_wsX20))
abbrev ix_wsX8_solveUntil_r1 : List Nat := [65, 59, 981, 982, 983, 14, 984, 158, 320, 2, 321, 322, 323, 324, 325, 237, 230, 231, 232, 49, 985, 986, 987, 58]
set_option maxRecDepth 20000 in
theorem tie_wsX8_solveUntil_r1 : wsX8_solveUntil_r1 = tk ix_wsX8_solveUntil_r1 := rfl
abbrev ix_wsX8_solveUntil_r2 : List Nat := [988, 989, 990, 991, 992, 993, 994, 995, 996, 69, 997, 998, 999, 17, 1000, 1001, 201, 202, 203, 1002, 473, 414, 415, 416]
set_option maxRecDepth 20000 in
theorem tie_wsX8_solveUntil_r2 : wsX8_solveUntil_r2 = tk ix_wsX8_solveUntil_r2 := rfl
abbrev ix_wsX8_solveUntil_r3 : List Nat := [412, 234, 235, 236, 1003, 1004, 1005, 1006, 1007, 1008, 1009, 1010, 1011, 1012, 1013, 1014, 1015, 1016, 1017, 1018, 1019, 1020, 1021, 1022]
set_option maxRecDepth 20000 in
theorem tie_wsX8_solveUntil_r3 : wsX8_solveUntil_r3 = tk ix_wsX8_solveUntil_r3 := rfl
abbrev ix_wsX8_solveUntil_r4 : List Nat := [1023, 1024, 1025, 1026, 1027, 1028, 1029, 1030, 1031, 1032, 1033, 1034, 1035, 474, 475, 476, 477, 61, 62, 478, 479, 402, 403]
set_option maxRecDepth 20000 in
theorem tie_wsX8_solveUntil_r4 : wsX8_solveUntil_r4 = tk ix_wsX8_solveUntil_r4 := rfl
abbrev ix_wsX8_solveUntil : List Nat := 980 :: (((((ix_wsX8_solveUntil_r1) ++ ((ix_wsX8_solveUntil_r2) ++ ((ix_wsX8_solveUntil_r3) ++ (ix_wsX8_solveUntil_r4)))) ++ (ix_wsX80)) ++ (ix_wsX20)) ++ (ix_wsX30))
set_option maxRecDepth 20000 in
theorem tie_wsX8_solveUntil : wsX8_solveUntil = tk ix_wsX8_solveUntil := tk_co rfl (tk_ap (tk_ap (tk_ap (tk_ap (tie_wsX8_solveUntil_r1) (tk_ap (tie_wsX8_solveUntil_r2) (tk_ap (tie_wsX8_solveUntil_r3) (tie_wsX8_solveUntil_r4)))) (tie_wsX80)) (tie_wsX20)) (tie_wsX30))
abbrev ix_wsX8_complement : List Nat := 1039 :: (([62, 61, 474, 475, 476, 17, 477, 478, 2, 479, 402, 403]) ++ (ix_wsX80))
set_option maxRecDepth 20000 in
theorem tie_wsX8_complement : wsX8_complement = tk ix_wsX8_complement := tk_co rfl (tk_ap (rfl) (tie_wsX80))
abbrev ix_wsX8_countWithin_r1 : List Nat := [65, 63, 64, 953, 954, 955, 14, 956, 158, 957, 414, 415, 416, 412, 234, 235, 236, 237, 230, 231, 232, 49, 958, 2]
set_option maxRecDepth 20000 in
theorem tie_wsX8_countWithin_r1 : wsX8_countWithin_r1 = tk ix_wsX8_countWithin_r1 := rfl
abbrev ix_wsX8_countWithin_r2 : List Nat := [959, 960, 478, 479, 320, 321, 1044, 1045, 1046, 17, 1047, 473, 1004, 1005, 1006, 1007, 474, 475, 476, 477, 61, 62, 402, 403]
set_option maxRecDepth 20000 in
theorem tie_wsX8_countWithin_r2 : wsX8_countWithin_r2 = tk ix_wsX8_countWithin_r2 := rfl
abbrev ix_wsX8_countWithin : List Nat := 1043 :: ((((ix_wsX8_countWithin_r1) ++ (ix_wsX8_countWithin_r2)) ++ (ix_wsX80)) ++ (ix_wsX20))
set_option maxRecDepth 20000 in
theorem tie_wsX8_countWithin : wsX8_countWithin = tk ix_wsX8_countWithin := tk_co rfl (tk_ap (tk_ap (tk_ap (tie_wsX8_countWithin_r1) (tie_wsX8_countWithin_r2)) (tie_wsX80)) (tie_wsX20))
abbrev ix_wsX8_solveSteady_r1 : List Nat := [65, 62, 59, 61, 1052, 363, 364, 14, 365, 158, 366, 367, 368, 369, 349, 317, 318, 319, 320, 2, 321, 322, 323, 324]
set_option maxRecDepth 20000 in
theorem tie_wsX8_solveSteady_r1 : wsX8_solveSteady_r1 = tk ix_wsX8_solveSteady_r1 := rfl
abbrev ix_wsX8_solveSteady_r2 : List Nat := [325, 237, 230, 231, 232, 49, 1053, 1054, 1055, 1056, 17, 1057, 985, 986, 987, 58, 988, 989, 990, 991, 992, 993, 994, 995]
set_option maxRecDepth 20000 in
theorem tie_wsX8_solveSteady_r2 : wsX8_solveSteady_r2 = tk ix_wsX8_solveSteady_r2 := rfl
abbrev ix_wsX8_solveSteady_r3 : List Nat := [996, 69, 473, 414, 415, 416, 412, 234, 235, 236, 1003, 1004, 1005, 1006, 1007, 1008, 1009, 1010, 1011, 1012, 1013, 1014, 1015, 1016]
set_option maxRecDepth 20000 in
theorem tie_wsX8_solveSteady_r3 : wsX8_solveSteady_r3 = tk ix_wsX8_solveSteady_r3 := rfl
abbrev ix_wsX8_solveSteady_r4 : List Nat := [1017, 1018, 1019, 1020, 1021, 1022, 1023, 1024, 1025, 1026, 1027, 1058, 1059, 1060, 1061, 1028, 1029, 1030, 1031, 474, 475, 476, 477, 478]
set_option maxRecDepth 20000 in
theorem tie_wsX8_solveSteady_r4 : wsX8_solveSteady_r4 = tk ix_wsX8_solveSteady_r4 := rfl
abbrev ix_wsX8_solveSteady_r5 : List Nat := [479, 402, 403, 958, 959, 960, 997, 998, 999, 1000, 1001, 201, 202, 203, 1002, 1032, 1033, 1034, 1035]
set_option maxRecDepth 20000 in
theorem tie_wsX8_solveSteady_r5 : wsX8_solveSteady_r5 = tk ix_wsX8_solveSteady_r5 := rfl
abbrev ix_wsX8_solveSteady : List Nat := 1051 :: (((((ix_wsX8_solveSteady_r1) ++ ((ix_wsX8_solveSteady_r2) ++ ((ix_wsX8_solveSteady_r3) ++ ((ix_wsX8_solveSteady_r4) ++ (ix_wsX8_solveSteady_r5))))) ++ (ix_wsX80)) ++ (ix_wsX20)) ++ (ix_wsX30))
set_option maxRecDepth 20000 in
theorem tie_wsX8_solveSteady : wsX8_solveSteady = tk ix_wsX8_solveSteady := tk_co rfl (tk_ap (tk_ap (tk_ap (tk_ap (tie_wsX8_solveSteady_r1) (tk_ap (tie_wsX8_solveSteady_r2) (tk_ap (tie_wsX8_solveSteady_r3) (tk_ap (tie_wsX8_solveSteady_r4) (tie_wsX8_solveSteady_r5))))) (tie_wsX80)) (tie_wsX20)) (tie_wsX30))
abbrev ix_wsX8_solveExpected_r1 : List Nat := [65, 59, 1066, 367, 368, 14, 369, 158, 1067, 1068, 1069, 1070, 366, 1071, 982, 983, 984, 320, 2, 321, 322, 323, 324, 325]
set_option maxRecDepth 20000 in
theorem tie_wsX8_solveExpected_r1 : wsX8_solveExpected_r1 = tk ix_wsX8_solveExpected_r1 := rfl
abbrev ix_wsX8_solveExpected_r2 : List Nat := [237, 230, 231, 232, 49, 985, 986, 987, 58, 988, 989, 990, 991, 992, 993, 994, 995, 996, 69, 997, 998, 999, 17, 1000]
set_option maxRecDepth 20000 in
theorem tie_wsX8_solveExpected_r2 : wsX8_solveExpected_r2 = tk ix_wsX8_solveExpected_r2 := rfl
abbrev ix_wsX8_solveExpected_r3 : List Nat := [1001, 201, 202, 203, 1002, 473, 414, 415, 416, 412, 234, 235, 236, 1003, 1004, 1005, 1006, 1007, 1008, 1009, 1010, 1011, 1012, 1013]
set_option maxRecDepth 20000 in
theorem tie_wsX8_solveExpected_r3 : wsX8_solveExpected_r3 = tk ix_wsX8_solveExpected_r3 := rfl
abbrev ix_wsX8_solveExpected_r4 : List Nat := [1014, 1015, 1072, 296, 297, 298, 51, 200, 1016, 1017, 1018, 1019, 1020, 1021, 1022, 1023, 1024, 1025, 1026, 1027, 1028, 1029, 1030, 1031]
set_option maxRecDepth 20000 in
theorem tie_wsX8_solveExpected_r4 : wsX8_solveExpected_r4 = tk ix_wsX8_solveExpected_r4 := rfl
abbrev ix_wsX8_solveExpected_r5 : List Nat := [1032, 1033, 1034, 1035, 474, 475, 476, 477, 61, 62, 478, 479, 402, 403]
set_option maxRecDepth 20000 in
theorem tie_wsX8_solveExpected_r5 : wsX8_solveExpected_r5 = tk ix_wsX8_solveExpected_r5 := rfl
abbrev ix_wsX8_solveExpected : List Nat := 1065 :: (((((ix_wsX8_solveExpected_r1) ++ ((ix_wsX8_solveExpected_r2) ++ ((ix_wsX8_solveExpected_r3) ++ ((ix_wsX8_solveExpected_r4) ++ (ix_wsX8_solveExpected_r5))))) ++ (ix_wsX80)) ++ (ix_wsX20)) ++ (ix_wsX30))
set_option maxRecDepth 20000 in
theorem tie_wsX8_solveExpected : wsX8_solveExpected = tk ix_wsX8_solveExpected := tk_co rfl (tk_ap (tk_ap (tk_ap (tk_ap (tie_wsX8_solveExpected_r1) (tk_ap (tie_wsX8_solveExpected_r2) (tk_ap (tie_wsX8_solveExpected_r3) (tk_ap (tie_wsX8_solveExpected_r4) (tie_wsX8_solveExpected_r5))))) (tie_wsX80)) (tie_wsX20)) (tie_wsX30))
abbrev ix_wsX8_fulfilling : List Nat := 1076 :: (((([65, 61, 62, 1001, 201, 202, 14, 203, 158, 1077, 1078, 1079, 772, 1080, 788, 787, 786, 785]) ++ (ix_wsX80)) ++ (ix_wsX20)) ++ (ix_wsX10))
set_option maxRecDepth 20000 in
theorem tie_wsX8_fulfilling : wsX8_fulfilling = tk ix_wsX8_fulfilling := tk_co rfl (tk_ap (tk_ap (tk_ap (rfl) (tie_wsX80)) (tie_wsX20)) (tie_wsX10))
abbrev ix_wsX5_letterAt_r1 : List Nat := [807, 900, 717, 718, 589, 719, 642, 720, 721, 722, 723, 643, 641, 901, 725, 726, 727, 728, 729, 730, 731, 732, 733, 568]
set_option maxRecDepth 20000 in
theorem tie_wsX5_letterAt_r1 : wsX5_letterAt_r1 = tk ix_wsX5_letterAt_r1 := rfl
abbrev ix_wsX5_letterAt_r2 : List Nat := [734, 735, 609, 610, 591, 611, 612, 594, 613, 736, 737, 115, 738, 605, 606, 607, 584, 585, 586, 608, 669, 670, 671, 599]
set_option maxRecDepth 20000 in
theorem tie_wsX5_letterAt_r2 : wsX5_letterAt_r2 = tk ix_wsX5_letterAt_r2 := rfl
abbrev ix_wsX5_letterAt_r3 : List Nat := [600, 601]
set_option maxRecDepth 20000 in
theorem tie_wsX5_letterAt_r3 : wsX5_letterAt_r3 = tk ix_wsX5_letterAt_r3 := rfl
abbrev ix_wsX50 : List Nat := [1461, 1462]
theorem tie_wsX50 : wsX50 = tk ix_wsX50 := by decide +kernel
abbrev ix_wsJ00 : List Nat := [1463, 1464, 1465, 1466]
theorem tie_wsJ00 : wsJ00 = tk ix_wsJ00 := by decide +kernel
abbrev ix_wsX5_letterAt : List Nat := 899 :: ((((ix_wsX5_letterAt_r1) ++ ((ix_wsX5_letterAt_r2) ++ (ix_wsX5_letterAt_r3))) ++ (ix_wsX50)) ++ (ix_wsJ00))
set_option maxRecDepth 20000 in
theorem tie_wsX5_letterAt : wsX5_letterAt = tk ix_wsX5_letterAt := tk_co rfl (tk_ap (tk_ap (tk_ap (tie_wsX5_letterAt_r1) (tk_ap (tie_wsX5_letterAt_r2) (tie_wsX5_letterAt_r3))) (tie_wsX50)) (tie_wsJ00))
abbrev ix_wsJ0_length_8abf5 : List Nat := 719 :: (([642, 720, 721, 722, 589, 723, 643, 641]) ++ (ix_wsJ00))
set_option maxRecDepth 20000 in
theorem tie_wsJ0_length_8abf5 : wsJ0_length_8abf5 = tk ix_wsJ0_length_8abf5 := tk_co rfl (tk_ap (rfl) (tie_wsJ00))
abbrev ix_wsJ0_charAt_5068e_r1 : List Nat := [642, 728, 729, 730, 589, 731, 643, 641, 732, 733, 568, 734, 735, 609, 610, 591, 611, 612, 594, 613, 736, 737, 115, 738]
set_option maxRecDepth 20000 in
theorem tie_wsJ0_charAt_5068e_r1 : wsJ0_charAt_5068e_r1 = tk ix_wsJ0_charAt_5068e_r1 := rfl
abbrev ix_wsJ0_charAt_5068e_r2 : List Nat := [605, 606, 607, 584, 585, 586, 608, 669, 670, 671, 599, 600, 601]
set_option maxRecDepth 20000 in
theorem tie_wsJ0_charAt_5068e_r2 : wsJ0_charAt_5068e_r2 = tk ix_wsJ0_charAt_5068e_r2 := rfl
abbrev ix_wsJ0_charAt_5068e : List Nat := 727 :: (((ix_wsJ0_charAt_5068e_r1) ++ (ix_wsJ0_charAt_5068e_r2)) ++ (ix_wsJ00))
set_option maxRecDepth 20000 in
theorem tie_wsJ0_charAt_5068e : wsJ0_charAt_5068e = tk ix_wsJ0_charAt_5068e := tk_co rfl (tk_ap (tk_ap (tie_wsJ0_charAt_5068e_r1) (tie_wsJ0_charAt_5068e_r2)) (tie_wsJ00))
abbrev ix_wsX60 : List Nat := [1439, 1440, 1441]
theorem tie_wsX60 : wsX60 = tk ix_wsX60 := by decide +kernel
abbrev ix_wsX6_init : List Nat := 72 :: ((([73, 10, 11, 74, 75, 13, 14, 76, 77, 45, 46, 47, 48, 49, 50, 51]) ++ (ix_wsX60)) ++ (ix_wsX20))
set_option maxRecDepth 20000 in
theorem tie_wsX6_init : wsX6_init = tk ix_wsX6_init := tk_co rfl (tk_ap (tk_ap (rfl) (tie_wsX60)) (tie_wsX20))
abbrev ix_wsX2_init : List Nat := 46 :: (([47, 10, 11, 48, 49, 50, 51]) ++ (ix_wsX20))
set_option maxRecDepth 20000 in
theorem tie_wsX2_init : wsX2_init = tk ix_wsX2_init := tk_co rfl (tk_ap (rfl) (tie_wsX20))
abbrev ix_wsX6_record : List Nat := 162 :: ((([76, 77, 163, 164, 165, 22, 166, 75, 167, 168, 169, 14, 170, 49, 50, 51, 158]) ++ (ix_wsX60)) ++ (ix_wsX20))
set_option maxRecDepth 20000 in
theorem tie_wsX6_record : wsX6_record = tk ix_wsX6_record := tk_co rfl (tk_ap (tk_ap (rfl) (tie_wsX60)) (tie_wsX20))
abbrev ix_wsX6_slotAt : List Nat := 166 :: (([75]) ++ (ix_wsX60))
set_option maxRecDepth 20000 in
theorem tie_wsX6_slotAt : wsX6_slotAt = tk ix_wsX6_slotAt := tk_co rfl (tk_ap (rfl) (tie_wsX60))
abbrev ix_wsX2_copyFrom : List Nat := 170 :: (([49, 50, 51, 158]) ++ (ix_wsX20))
set_option maxRecDepth 20000 in
theorem tie_wsX2_copyFrom : wsX2_copyFrom = tk ix_wsX2_copyFrom := tk_co rfl (tk_ap (rfl) (tie_wsX20))
abbrev ix_wsX6_takeBack : List Nat := 1369 :: ((([77, 76, 163, 164, 165, 22, 166, 75, 167, 168, 169, 14, 170, 49, 50, 51, 158]) ++ (ix_wsX60)) ++ (ix_wsX20))
set_option maxRecDepth 20000 in
theorem tie_wsX6_takeBack : wsX6_takeBack = tk ix_wsX6_takeBack := tk_co rfl (tk_ap (tk_ap (rfl) (tie_wsX60)) (tie_wsX20))
abbrev ix_wsX70 : List Nat := [1442, 1443, 1444, 1445]
theorem tie_wsX70 : wsX70 = tk ix_wsX70 := by decide +kernel
abbrev ix_wsX7_numberOf : List Nat := 401 :: (([82, 402, 2, 403]) ++ (ix_wsX70))
set_option maxRecDepth 20000 in
theorem tie_wsX7_numberOf : wsX7_numberOf = tk ix_wsX7_numberOf := tk_co rfl (tk_ap (rfl) (tie_wsX70))
abbrev ix_wsX7_members : List Nat := 407 :: ((([84, 82, 391, 201, 202, 14, 203, 158]) ++ (ix_wsX70)) ++ (ix_wsX20))
set_option maxRecDepth 20000 in
theorem tie_wsX7_members : wsX7_members = tk ix_wsX7_members := tk_co rfl (tk_ap (tk_ap (rfl) (tie_wsX70)) (tie_wsX20))
abbrev ix_wsX7_refine_r1 : List Nat := [82, 85, 84, 83, 386, 155, 156, 14, 157, 158, 387, 388, 389, 26, 390, 391, 201, 202, 203, 392, 393, 394, 395, 396]
set_option maxRecDepth 20000 in
theorem tie_wsX7_refine_r1 : wsX7_refine_r1 = tk ix_wsX7_refine_r1 := rfl
abbrev ix_wsX7_refine_r2 : List Nat := [275, 276, 277, 50, 200, 397, 296, 297, 298, 51, 398, 399, 400, 401, 402, 2, 403, 404, 405, 406, 407, 408, 409, 410]
set_option maxRecDepth 20000 in
theorem tie_wsX7_refine_r2 : wsX7_refine_r2 = tk ix_wsX7_refine_r2 := rfl
abbrev ix_wsX7_refine_r3 : List Nat := [411, 320, 321, 237, 230, 231, 232, 49, 412, 234, 235, 236, 413, 414, 415, 416]
set_option maxRecDepth 20000 in
theorem tie_wsX7_refine_r3 : wsX7_refine_r3 = tk ix_wsX7_refine_r3 := rfl
abbrev ix_wsX7_refine : List Nat := 385 :: ((((ix_wsX7_refine_r1) ++ ((ix_wsX7_refine_r2) ++ (ix_wsX7_refine_r3))) ++ (ix_wsX70)) ++ (ix_wsX20))
set_option maxRecDepth 20000 in
theorem tie_wsX7_refine : wsX7_refine = tk ix_wsX7_refine := tk_co rfl (tk_ap (tk_ap (tk_ap (tie_wsX7_refine_r1) (tk_ap (tie_wsX7_refine_r2) (tie_wsX7_refine_r3))) (tie_wsX70)) (tie_wsX20))
abbrev ix_wsX2_size : List Nat := 157 :: (([158]) ++ (ix_wsX20))
set_option maxRecDepth 20000 in
theorem tie_wsX2_size : wsX2_size = tk ix_wsX2_size := tk_co rfl (tk_ap (rfl) (tie_wsX20))
abbrev ix_wsX7_split_r1 : List Nat := [84, 83, 391, 201, 202, 14, 203, 158, 392, 393, 394, 26, 395, 85, 396, 275, 276, 277, 50, 200, 397, 296, 297, 298]
set_option maxRecDepth 20000 in
theorem tie_wsX7_split_r1 : wsX7_split_r1 = tk ix_wsX7_split_r1 := rfl
abbrev ix_wsX7_split_r2 : List Nat := [51, 398, 399, 400, 401, 82, 402, 2, 403, 404, 405, 406, 407, 408, 409, 410, 411, 320, 321, 237, 230, 231, 232, 49]
set_option maxRecDepth 20000 in
theorem tie_wsX7_split_r2 : wsX7_split_r2 = tk ix_wsX7_split_r2 := rfl
abbrev ix_wsX7_split_r3 : List Nat := [412, 234, 235, 236, 413, 414, 415, 416]
set_option maxRecDepth 20000 in
theorem tie_wsX7_split_r3 : wsX7_split_r3 = tk ix_wsX7_split_r3 := rfl
abbrev ix_wsX7_split : List Nat := 390 :: ((((ix_wsX7_split_r1) ++ ((ix_wsX7_split_r2) ++ (ix_wsX7_split_r3))) ++ (ix_wsX70)) ++ (ix_wsX20))
set_option maxRecDepth 20000 in
theorem tie_wsX7_split : wsX7_split = tk ix_wsX7_split := tk_co rfl (tk_ap (tk_ap (tk_ap (tie_wsX7_split_r1) (tk_ap (tie_wsX7_split_r2) (tie_wsX7_split_r3))) (tie_wsX70)) (tie_wsX20))
abbrev ix_wsX7_isAlike_r1 : List Nat := [84, 85, 396, 275, 276, 14, 277, 50, 200, 201, 202, 203, 158, 397, 296, 297, 298, 51, 398, 399, 400, 26, 401, 82]
set_option maxRecDepth 20000 in
theorem tie_wsX7_isAlike_r1 : wsX7_isAlike_r1 = tk ix_wsX7_isAlike_r1 := rfl
abbrev ix_wsX7_isAlike_r2 : List Nat := [402, 2, 403, 404, 405, 406, 407, 391, 408, 409, 410, 411, 320, 321, 237, 230, 231, 232, 49, 412, 234, 235, 236, 413]
set_option maxRecDepth 20000 in
theorem tie_wsX7_isAlike_r2 : wsX7_isAlike_r2 = tk ix_wsX7_isAlike_r2 := rfl
abbrev ix_wsX7_isAlike_r3 : List Nat := [414, 415, 416]
set_option maxRecDepth 20000 in
theorem tie_wsX7_isAlike_r3 : wsX7_isAlike_r3 = tk ix_wsX7_isAlike_r3 := rfl
abbrev ix_wsX7_isAlike : List Nat := 395 :: ((((ix_wsX7_isAlike_r1) ++ ((ix_wsX7_isAlike_r2) ++ (ix_wsX7_isAlike_r3))) ++ (ix_wsX70)) ++ (ix_wsX20))
set_option maxRecDepth 20000 in
theorem tie_wsX7_isAlike : wsX7_isAlike = tk ix_wsX7_isAlike := tk_co rfl (tk_ap (tk_ap (tk_ap (tie_wsX7_isAlike_r1) (tk_ap (tie_wsX7_isAlike_r2) (tie_wsX7_isAlike_r3))) (tie_wsX70)) (tie_wsX20))
abbrev ix_wsX8_init : List Nat := 54 :: ((([55, 10, 11, 56, 57, 58, 59, 60, 61, 62, 63, 64, 65, 66, 67, 68, 69]) ++ (ix_wsX30)) ++ (ix_wsX80))
set_option maxRecDepth 20000 in
theorem tie_wsX8_init : wsX8_init = tk ix_wsX8_init := tk_co rfl (tk_ap (tk_ap (rfl) (tie_wsX30)) (tie_wsX80))
abbrev ix_wsX3_init : List Nat := 67 :: (([68, 10, 11, 60, 69]) ++ (ix_wsX30))
set_option maxRecDepth 20000 in
theorem tie_wsX3_init : wsX3_init = tk ix_wsX3_init := tk_co rfl (tk_ap (rfl) (tie_wsX30))
abbrev ix_wsX8_part : List Nat := 483 :: (([61, 62, 402, 2, 403]) ++ (ix_wsX80))
set_option maxRecDepth 20000 in
theorem tie_wsX8_part : wsX8_part = tk ix_wsX8_part := tk_co rfl (tk_ap (rfl) (tie_wsX80))
abbrev ix_wsX8_isInfinite : List Nat := 1259 :: (([62, 402, 2, 403]) ++ (ix_wsX80))
set_option maxRecDepth 20000 in
theorem tie_wsX8_isInfinite : wsX8_isInfinite = tk ix_wsX8_isInfinite := tk_co rfl (tk_ap (rfl) (tie_wsX80))
abbrev ix_wsX1_admits : List Nat := 1080 :: (([788, 787, 786, 785]) ++ (ix_wsX10))
set_option maxRecDepth 20000 in
theorem tie_wsX1_admits : wsX1_admits = tk ix_wsX1_admits := tk_co rfl (tk_ap (rfl) (tie_wsX10))
abbrev ix_wsX8_refuses_r1 : List Nat := [65, 952, 953, 954, 955, 14, 956, 158, 957, 414, 415, 416, 412, 234, 235, 236, 237, 230, 231, 232, 49, 958, 2, 959]
set_option maxRecDepth 20000 in
theorem tie_wsX8_refuses_r1 : wsX8_refuses_r1 = tk ix_wsX8_refuses_r1 := rfl
abbrev ix_wsX8_refuses_r2 : List Nat := [960, 478, 479]
set_option maxRecDepth 20000 in
theorem tie_wsX8_refuses_r2 : wsX8_refuses_r2 = tk ix_wsX8_refuses_r2 := rfl
abbrev ix_wsX8_refuses : List Nat := 951 :: ((((ix_wsX8_refuses_r1) ++ (ix_wsX8_refuses_r2)) ++ (ix_wsX80)) ++ (ix_wsX20))
set_option maxRecDepth 20000 in
theorem tie_wsX8_refuses : wsX8_refuses = tk ix_wsX8_refuses := tk_co rfl (tk_ap (tk_ap (tk_ap (tie_wsX8_refuses_r1) (tie_wsX8_refuses_r2)) (tie_wsX80)) (tie_wsX20))
abbrev ix_wsX8_put : List Nat := 477 :: (([61, 62, 478, 2, 479, 402, 403]) ++ (ix_wsX80))
set_option maxRecDepth 20000 in
theorem tie_wsX8_put : wsX8_put = tk ix_wsX8_put := tk_co rfl (tk_ap (rfl) (tie_wsX80))
abbrev ix_wsX8_balance_r1 : List Nat := [65, 59, 1001, 201, 202, 14, 203, 158, 1002, 990, 991, 58, 992, 993, 994, 995, 996, 69, 473, 414, 415, 416, 412, 234]
set_option maxRecDepth 20000 in
theorem tie_wsX8_balance_r1 : wsX8_balance_r1 = tk ix_wsX8_balance_r1 := rfl
abbrev ix_wsX8_balance_r2 : List Nat := [235, 236, 237, 230, 231, 232, 49, 1003, 1004, 1005, 1006, 1007, 1008, 1009, 1010, 1011, 1012, 1013, 1014, 1015]
set_option maxRecDepth 20000 in
theorem tie_wsX8_balance_r2 : wsX8_balance_r2 = tk ix_wsX8_balance_r2 := rfl
abbrev ix_wsX8_balance : List Nat := 1000 :: (((((ix_wsX8_balance_r1) ++ (ix_wsX8_balance_r2)) ++ (ix_wsX80)) ++ (ix_wsX20)) ++ (ix_wsX30))
set_option maxRecDepth 20000 in
theorem tie_wsX8_balance : wsX8_balance = tk ix_wsX8_balance := tk_co rfl (tk_ap (tk_ap (tk_ap (tk_ap (tie_wsX8_balance_r1) (tie_wsX8_balance_r2)) (tie_wsX80)) (tie_wsX20)) (tie_wsX30))
abbrev ix_wsX8_countBefore : List Nat := 1047 :: ((([65, 63, 473, 414, 415, 14, 416, 412, 234, 235, 236, 158, 237, 230, 231, 232, 49, 1004, 1005, 1006, 1007]) ++ (ix_wsX80)) ++ (ix_wsX20))
set_option maxRecDepth 20000 in
theorem tie_wsX8_countBefore : wsX8_countBefore = tk ix_wsX8_countBefore := tk_co rfl (tk_ap (tk_ap (rfl) (tie_wsX80)) (tie_wsX20))
abbrev ix_wsX8_solveFlow_r1 : List Nat := [59, 65, 985, 986, 987, 58, 988, 989, 990, 991, 992, 993, 994, 995, 996, 69, 320, 2, 321, 473, 414, 415, 14, 416]
set_option maxRecDepth 20000 in
theorem tie_wsX8_solveFlow_r1 : wsX8_solveFlow_r1 = tk ix_wsX8_solveFlow_r1 := rfl
abbrev ix_wsX8_solveFlow_r2 : List Nat := [412, 234, 235, 236, 158, 237, 230, 231, 232, 49, 1003, 1004, 1005, 1006, 1007, 1008, 1009, 1010, 1011, 1012, 1013, 1014, 1015, 1016]
set_option maxRecDepth 20000 in
theorem tie_wsX8_solveFlow_r2 : wsX8_solveFlow_r2 = tk ix_wsX8_solveFlow_r2 := rfl
abbrev ix_wsX8_solveFlow_r3 : List Nat := [1017, 1018, 1019, 1020, 1021, 1022, 1023, 1024, 1025, 1026, 1027]
set_option maxRecDepth 20000 in
theorem tie_wsX8_solveFlow_r3 : wsX8_solveFlow_r3 = tk ix_wsX8_solveFlow_r3 := rfl
abbrev ix_wsX8_solveFlow : List Nat := 1057 :: (((((ix_wsX8_solveFlow_r1) ++ ((ix_wsX8_solveFlow_r2) ++ (ix_wsX8_solveFlow_r3))) ++ (ix_wsX80)) ++ (ix_wsX30)) ++ (ix_wsX20))
set_option maxRecDepth 20000 in
theorem tie_wsX8_solveFlow : wsX8_solveFlow = tk ix_wsX8_solveFlow := tk_co rfl (tk_ap (tk_ap (tk_ap (tk_ap (tie_wsX8_solveFlow_r1) (tk_ap (tie_wsX8_solveFlow_r2) (tie_wsX8_solveFlow_r3))) (tie_wsX80)) (tie_wsX30)) (tie_wsX20))
abbrev ix_wsX8_shareOut_r1 : List Nat := [65, 59, 320, 2, 321, 473, 414, 415, 14, 416, 412, 234, 235, 236, 158, 237, 230, 231, 232, 49, 1028, 1029, 1030, 58]
set_option maxRecDepth 20000 in
theorem tie_wsX8_shareOut_r1 : wsX8_shareOut_r1 = tk ix_wsX8_shareOut_r1 := rfl
