abbrev ix_wsX11_bestProduct_r8 : List Nat := [1024, 1025, 1026, 1027, 1028, 1029, 1030, 1031, 1032, 1033, 75, 76, 1034, 1035, 1036, 1037, 1038, 1039, 1040, 1041, 1042, 353, 354, 355]
set_option maxRecDepth 20000 in
theorem tie_wsX11_bestProduct_r8 : wsX11_bestProduct_r8 = tk ix_wsX11_bestProduct_r8 := rfl
abbrev ix_wsX11_bestProduct_r9 : List Nat := [356, 339, 307, 308, 309, 1043, 1044, 1045, 1046, 1047, 1048, 1049, 1050, 1051, 1052, 1053, 1054, 1055, 1056, 1057, 1058, 1059, 1060, 1061]
set_option maxRecDepth 20000 in
theorem tie_wsX11_bestProduct_r9 : wsX11_bestProduct_r9 = tk ix_wsX11_bestProduct_r9 := rfl
abbrev ix_wsX11_bestProduct_r10 : List Nat := [1062, 286, 287, 288, 47, 1063, 1064, 1065, 1066, 1067, 1068, 1069, 763, 1070, 779, 778, 777, 776, 1255, 1256, 1257, 31, 1258, 90]
set_option maxRecDepth 20000 in
theorem tie_wsX11_bestProduct_r10 : wsX11_bestProduct_r10 = tk ix_wsX11_bestProduct_r10 := rfl
abbrev ix_wsX11_bestProduct_r11 : List Nat := [86, 87, 88, 1259, 1260, 1261, 1262, 89, 1263, 1264, 1265, 1266, 1267, 1268, 1269, 1270, 1271, 1272, 1273, 1274, 1275, 1276, 1277, 1307]
set_option maxRecDepth 20000 in
theorem tie_wsX11_bestProduct_r11 : wsX11_bestProduct_r11 = tk ix_wsX11_bestProduct_r11 := rfl
abbrev ix_wsX11_bestProduct_r12 : List Nat := [1308, 1309, 1310]
set_option maxRecDepth 20000 in
theorem tie_wsX11_bestProduct_r12 : wsX11_bestProduct_r12 = tk ix_wsX11_bestProduct_r12 := rfl
abbrev ix_wsX11_bestProduct : List Nat := 1305 :: ((((((((((ix_wsX11_bestProduct_r1) ++ ((ix_wsX11_bestProduct_r2) ++ ((ix_wsX11_bestProduct_r3) ++ ((ix_wsX11_bestProduct_r4) ++ ((ix_wsX11_bestProduct_r5) ++ ((ix_wsX11_bestProduct_r6) ++ ((ix_wsX11_bestProduct_r7) ++ ((ix_wsX11_bestProduct_r8) ++ ((ix_wsX11_bestProduct_r9) ++ ((ix_wsX11_bestProduct_r10) ++ ((ix_wsX11_bestProduct_r11) ++ (ix_wsX11_bestProduct_r12)))))))))))) ++ (ix_wsX110)) ++ (ix_wsX20)) ++ (ix_wsX50)) ++ (ix_wsX90)) ++ (ix_wsX80)) ++ (ix_wsX30)) ++ (ix_wsX10)) ++ (ix_wsX00))
set_option maxRecDepth 20000 in
theorem tie_wsX11_bestProduct : wsX11_bestProduct = tk ix_wsX11_bestProduct := tk_co rfl (tk_ap (tk_ap (tk_ap (tk_ap (tk_ap (tk_ap (tk_ap (tk_ap (tk_ap (tie_wsX11_bestProduct_r1) (tk_ap (tie_wsX11_bestProduct_r2) (tk_ap (tie_wsX11_bestProduct_r3) (tk_ap (tie_wsX11_bestProduct_r4) (tk_ap (tie_wsX11_bestProduct_r5) (tk_ap (tie_wsX11_bestProduct_r6) (tk_ap (tie_wsX11_bestProduct_r7) (tk_ap (tie_wsX11_bestProduct_r8) (tk_ap (tie_wsX11_bestProduct_r9) (tk_ap (tie_wsX11_bestProduct_r10) (tk_ap (tie_wsX11_bestProduct_r11) (tie_wsX11_bestProduct_r12)))))))))))) (tie_wsX110)) (tie_wsX20)) (tie_wsX50)) (tie_wsX90)) (tie_wsX80)) (tie_wsX30)) (tie_wsX10)) (tie_wsX00))
abbrev ix_wsX11_walk : List Nat := 1319 :: ((([15, 1320, 218, 191, 192, 14, 193, 148, 1321, 1322, 1323, 1324, 402, 224, 225, 226, 227, 220, 221, 222, 45]) ++ (ix_wsX110)) ++ (ix_wsX20))
set_option maxRecDepth 20000 in
theorem tie_wsX11_walk : wsX11_walk = tk ix_wsX11_walk := tk_co rfl (tk_ap (tk_ap (rfl) (tie_wsX110)) (tie_wsX20))
abbrev ix_wsX11_save : List Nat := 1333 :: ((([16, 15, 40, 1334, 158, 159, 14, 160, 45, 46, 47, 148, 144, 145, 146, 147]) ++ (ix_wsX110)) ++ (ix_wsX20))
set_option maxRecDepth 20000 in
theorem tie_wsX11_save : wsX11_save = tk ix_wsX11_save := tk_co rfl (tk_ap (tk_ap (rfl) (tie_wsX110)) (tie_wsX20))
abbrev ix_wsX11_restore_r1 : List Nat := [40, 20, 15, 16, 149, 150, 151, 19, 152, 54, 55, 153, 154, 155, 156, 53, 157, 158, 159, 14, 160, 45, 46, 47]
set_option maxRecDepth 20000 in
theorem tie_wsX11_restore_r1 : wsX11_restore_r1 = tk ix_wsX11_restore_r1 := rfl
abbrev ix_wsX11_restore_r2 : List Nat := [148, 1334, 144, 145, 146, 147]
set_option maxRecDepth 20000 in
theorem tie_wsX11_restore_r2 : wsX11_restore_r2 = tk ix_wsX11_restore_r2 := rfl
abbrev ix_wsX11_restore : List Nat := 1343 :: (((((ix_wsX11_restore_r1) ++ (ix_wsX11_restore_r2)) ++ (ix_wsX110)) ++ (ix_wsX60)) ++ (ix_wsX20))
set_option maxRecDepth 20000 in
theorem tie_wsX11_restore : wsX11_restore = tk ix_wsX11_restore := tk_co rfl (tk_ap (tk_ap (tk_ap (tk_ap (tie_wsX11_restore_r1) (tie_wsX11_restore_r2)) (tie_wsX110)) (tie_wsX60)) (tie_wsX20))
abbrev ix_wsX11_undo_r1 : List Nat := [20, 15, 1352, 1353, 1354, 19, 1355, 55, 54, 153, 154, 155, 156, 53, 157, 158, 159, 14, 160, 45, 46, 47, 148, 1356]
set_option maxRecDepth 20000 in
theorem tie_wsX11_undo_r1 : wsX11_undo_r1 = tk ix_wsX11_undo_r1 := rfl
abbrev ix_wsX11_undo_r2 : List Nat := [1357, 1358, 1359]
set_option maxRecDepth 20000 in
theorem tie_wsX11_undo_r2 : wsX11_undo_r2 = tk ix_wsX11_undo_r2 := rfl
abbrev ix_wsX11_undo : List Nat := 1351 :: (((((ix_wsX11_undo_r1) ++ (ix_wsX11_undo_r2)) ++ (ix_wsX110)) ++ (ix_wsX60)) ++ (ix_wsX20))
set_option maxRecDepth 20000 in
theorem tie_wsX11_undo : wsX11_undo = tk ix_wsX11_undo := tk_co rfl (tk_ap (tk_ap (tk_ap (tk_ap (tie_wsX11_undo_r1) (tie_wsX11_undo_r2)) (tie_wsX110)) (tie_wsX60)) (tie_wsX20))
abbrev ix_wsX6_total : List Nat := 1359 :: (([55]) ++ (ix_wsX60))
set_option maxRecDepth 20000 in
theorem tie_wsX6_total : wsX6_total = tk ix_wsX6_total := tk_co rfl (tk_ap (rfl) (tie_wsX60))
abbrev ix_wsX5_longest : List Nat := 940 :: ((([801]) ++ (ix_wsX50)) ++ (ix_wsX90))
set_option maxRecDepth 20000 in
theorem tie_wsX5_longest : wsX5_longest = tk ix_wsX5_longest := tk_co rfl (tk_ap (tk_ap (rfl) (tie_wsX50)) (tie_wsX90))
abbrev ix_wsX120 : List Nat := [1374, 1375, 1376, 1377, 1378, 1379, 1380, 1381, 1382, 1383, 1384, 1385, 1386, 1387, 1388, 1389, 1390, 1391, 1392, 1393, 1394, 1395, 1396, 1397, 1398, 1399, 1400, 1401, 1402, 1403, 1404, 1405, 1406, 1407, 1408, 1409, 1410, 1411, 1412, 1413]
theorem tie_wsX120 : wsX120 = tk ix_wsX120 := by decide +kernel
abbrev ix_wsX12_isState : List Nat := 236 :: (([115, 237, 238, 5, 239]) ++ (ix_wsX120))
set_option maxRecDepth 20000 in
theorem tie_wsX12_isState : wsX12_isState = tk ix_wsX12_isState := tk_co rfl (tk_ap (rfl) (tie_wsX120))
abbrev ix_wsX12_in : List Nat := 239 :: (([] : List Nat))
set_option maxRecDepth 20000 in
theorem tie_wsX12_in : wsX12_in = tk ix_wsX12_in := tk_co rfl (rfl)
abbrev ix_wsX12_addState : List Nat := 168 :: (([115, 169, 170, 171, 5, 172, 173, 117, 174, 175, 176, 177]) ++ (ix_wsX120))
set_option maxRecDepth 20000 in
theorem tie_wsX12_addState : wsX12_addState = tk ix_wsX12_addState := tk_co rfl (tk_ap (rfl) (tie_wsX120))
abbrev ix_wsX12_change : List Nat := 172 :: (([173, 117, 174, 175, 176, 177, 115]) ++ (ix_wsX120))
set_option maxRecDepth 20000 in
theorem tie_wsX12_change : wsX12_change = tk ix_wsX12_change := tk_co rfl (tk_ap (rfl) (tie_wsX120))
abbrev ix_wsX12_removeState : List Nat := 205 :: (([115, 169, 170, 171, 5, 172, 173, 117, 174, 175, 176, 177]) ++ (ix_wsX120))
set_option maxRecDepth 20000 in
theorem tie_wsX12_removeState : wsX12_removeState = tk ix_wsX12_removeState := tk_co rfl (tk_ap (rfl) (tie_wsX120))
abbrev ix_wsX12_setWeight : List Nat := 232 :: (([115, 233, 234, 235, 5, 236, 237, 238, 239, 240, 241, 242, 243, 169, 170, 171, 172, 173, 117, 174, 175, 176, 177]) ++ (ix_wsX120))
set_option maxRecDepth 20000 in
theorem tie_wsX12_setWeight : wsX12_setWeight = tk ix_wsX12_setWeight := tk_co rfl (tk_ap (rfl) (tie_wsX120))
abbrev ix_wsX12_toldSum : List Nat := 243 :: (([115]) ++ (ix_wsX120))
set_option maxRecDepth 20000 in
theorem tie_wsX12_toldSum : wsX12_toldSum = tk ix_wsX12_toldSum := tk_co rfl (tk_ap (rfl) (tie_wsX120))
abbrev ix_wsX12_weight : List Nat := 251 :: (([115, 233, 234, 235, 5, 236, 237, 238, 239]) ++ (ix_wsX120))
set_option maxRecDepth 20000 in
theorem tie_wsX12_weight : wsX12_weight = tk ix_wsX12_weight := tk_co rfl (tk_ap (rfl) (tie_wsX120))
abbrev ix_wsX12_sum : List Nat := 259 :: (([233, 234, 235, 5, 236, 115, 237, 238, 239, 240, 241, 242, 243]) ++ (ix_wsX120))
set_option maxRecDepth 20000 in
theorem tie_wsX12_sum : wsX12_sum = tk ix_wsX12_sum := tk_co rfl (tk_ap (rfl) (tie_wsX120))
abbrev ix_wsX12_setLabels : List Nat := 272 :: (([115, 233, 234, 235, 5, 236, 237, 238, 239, 169, 170, 171, 172, 173, 117, 174, 175, 176, 177]) ++ (ix_wsX120))
set_option maxRecDepth 20000 in
theorem tie_wsX12_setLabels : wsX12_setLabels = tk ix_wsX12_setLabels := tk_co rfl (tk_ap (rfl) (tie_wsX120))
abbrev ix_wsX12_labels : List Nat := 280 :: (([115, 233, 234, 235, 5, 236, 237, 238, 239]) ++ (ix_wsX120))
set_option maxRecDepth 20000 in
theorem tie_wsX12_labels : wsX12_labels = tk ix_wsX12_labels := tk_co rfl (tk_ap (rfl) (tie_wsX120))
abbrev ix_wsX12_setReward : List Nat := 293 :: (([115, 233, 234, 235, 5, 236, 237, 238, 239, 169, 170, 171, 172, 173, 117, 174, 175, 176, 177]) ++ (ix_wsX120))
set_option maxRecDepth 20000 in
theorem tie_wsX12_setReward : wsX12_setReward = tk ix_wsX12_setReward := tk_co rfl (tk_ap (rfl) (tie_wsX120))
abbrev ix_wsX12_reward : List Nat := 301 :: (([115, 233, 234, 235, 5, 236, 237, 238, 239]) ++ (ix_wsX120))
set_option maxRecDepth 20000 in
theorem tie_wsX12_reward : wsX12_reward = tk ix_wsX12_reward := tk_co rfl (tk_ap (rfl) (tie_wsX120))
abbrev ix_wsX12_restore : List Nat := 1347 :: (([1339, 116, 115, 174, 175, 176, 177, 169, 170, 171, 5, 172, 173, 117]) ++ (ix_wsX120))
set_option maxRecDepth 20000 in
theorem tie_wsX12_restore : wsX12_restore = tk ix_wsX12_restore := tk_co rfl (tk_ap (rfl) (tie_wsX120))
abbrev ix_wsX12_sumOf : List Nat := 434 :: (([435, 436, 437, 438, 240, 241, 242, 5, 243, 115]) ++ (ix_wsX120))
set_option maxRecDepth 20000 in
theorem tie_wsX12_sumOf : wsX12_sumOf = tk ix_wsX12_sumOf := tk_co rfl (tk_ap (rfl) (tie_wsX120))
abbrev ix_wsX12_weightOf : List Nat := 330 :: (([115, 240, 241, 242, 5, 243]) ++ (ix_wsX120))
set_option maxRecDepth 20000 in
theorem tie_wsX12_weightOf : wsX12_weightOf = tk ix_wsX12_weightOf := tk_co rfl (tk_ap (rfl) (tie_wsX120))
abbrev ix_wsX12_weightInto : List Nat := 430 :: (([115, 324, 325, 5, 326, 327, 328, 329, 330, 240, 241, 242, 243]) ++ (ix_wsX120))
set_option maxRecDepth 20000 in
theorem tie_wsX12_weightInto : wsX12_weightInto = tk ix_wsX12_weightInto := tk_co rfl (tk_ap (rfl) (tie_wsX120))
abbrev ix_wsX12_has : List Nat := 326 :: (([] : List Nat))
set_option maxRecDepth 20000 in
theorem tie_wsX12_has : wsX12_has = tk ix_wsX12_has := tk_co rfl (rfl)
abbrev ix_wsX12_reachOf : List Nat := 323 :: (([115, 324, 325, 5, 326, 327, 328, 329, 330, 240, 241, 242, 243]) ++ (ix_wsX120))
set_option maxRecDepth 20000 in
theorem tie_wsX12_reachOf : wsX12_reachOf = tk ix_wsX12_reachOf := tk_co rfl (tk_ap (rfl) (tie_wsX120))
abbrev ix_wsX12_reaches : List Nat := 319 :: (([233, 234, 235, 5, 236, 115, 237, 238, 239, 320, 321, 322, 323, 324, 325, 326, 327, 328, 329, 330, 240, 241, 242, 243]) ++ (ix_wsX120))
set_option maxRecDepth 20000 in
theorem tie_wsX12_reaches : wsX12_reaches = tk ix_wsX12_reaches := tk_co rfl (tk_ap (rfl) (tie_wsX120))
abbrev ix_wsX12_componentOf : List Nat := 347 :: (([115, 320, 321, 322, 5, 323, 324, 325, 326, 327, 328, 329, 330, 240, 241, 242, 243]) ++ (ix_wsX120))
set_option maxRecDepth 20000 in
theorem tie_wsX12_componentOf : wsX12_componentOf = tk ix_wsX12_componentOf := tk_co rfl (tk_ap (rfl) (tie_wsX120))
abbrev ix_wsX12_component_r1 : List Nat := [233, 234, 235, 5, 236, 115, 237, 238, 239, 344, 345, 346, 347, 320, 321, 322, 323, 324, 325, 326, 327, 328, 329, 330]
set_option maxRecDepth 20000 in
theorem tie_wsX12_component_r1 : wsX12_component_r1 = tk ix_wsX12_component_r1 := rfl
abbrev ix_wsX12_component_r2 : List Nat := [240, 241, 242, 243]
set_option maxRecDepth 20000 in
theorem tie_wsX12_component_r2 : wsX12_component_r2 = tk ix_wsX12_component_r2 := rfl
abbrev ix_wsX12_component : List Nat := 343 :: (((ix_wsX12_component_r1) ++ (ix_wsX12_component_r2)) ++ (ix_wsX120))
set_option maxRecDepth 20000 in
theorem tie_wsX12_component : wsX12_component = tk ix_wsX12_component := tk_co rfl (tk_ap (tk_ap (tie_wsX12_component_r1) (tie_wsX12_component_r2)) (tie_wsX120))
abbrev ix_wsX12_isBottom : List Nat := 367 :: (([344, 345, 346, 5, 347, 115, 320, 321, 322, 323, 324, 325, 326, 327, 328, 329, 330, 240, 241, 242, 243]) ++ (ix_wsX120))
set_option maxRecDepth 20000 in
theorem tie_wsX12_isBottom : wsX12_isBottom = tk ix_wsX12_isBottom := tk_co rfl (tk_ap (rfl) (tie_wsX120))
abbrev ix_wsX12_bottoms_r1 : List Nat := [115, 364, 365, 366, 5, 367, 344, 345, 346, 347, 320, 321, 322, 323, 324, 325, 326, 327, 328, 329, 330, 240, 241, 242]
set_option maxRecDepth 20000 in
theorem tie_wsX12_bottoms_r1 : wsX12_bottoms_r1 = tk ix_wsX12_bottoms_r1 := rfl
abbrev ix_wsX12_bottoms_r2 : List Nat := [243]
set_option maxRecDepth 20000 in
theorem tie_wsX12_bottoms_r2 : wsX12_bottoms_r2 = tk ix_wsX12_bottoms_r2 := rfl
abbrev ix_wsX12_bottoms : List Nat := 363 :: (((ix_wsX12_bottoms_r1) ++ (ix_wsX12_bottoms_r2)) ++ (ix_wsX120))
set_option maxRecDepth 20000 in
theorem tie_wsX12_bottoms : wsX12_bottoms = tk ix_wsX12_bottoms := tk_co rfl (tk_ap (tk_ap (tie_wsX12_bottoms_r1) (tie_wsX12_bottoms_r2)) (tie_wsX120))
abbrev ix_wsX12_stepAlike_r1 : List Nat := [118, 423, 424, 425, 5, 426, 115, 427, 428, 429, 430, 324, 325, 326, 327, 328, 329, 330, 240, 241, 242, 243, 431, 432]
set_option maxRecDepth 20000 in
theorem tie_wsX12_stepAlike_r1 : wsX12_stepAlike_r1 = tk ix_wsX12_stepAlike_r1 := rfl
abbrev ix_wsX12_stepAlike_r2 : List Nat := [433, 434, 435, 436, 437, 438]
set_option maxRecDepth 20000 in
theorem tie_wsX12_stepAlike_r2 : wsX12_stepAlike_r2 = tk ix_wsX12_stepAlike_r2 := rfl
abbrev ix_wsX12_stepAlike : List Nat := 422 :: (((ix_wsX12_stepAlike_r1) ++ (ix_wsX12_stepAlike_r2)) ++ (ix_wsX120))
set_option maxRecDepth 20000 in
theorem tie_wsX12_stepAlike : wsX12_stepAlike = tk ix_wsX12_stepAlike := tk_co rfl (tk_ap (tk_ap (tie_wsX12_stepAlike_r1) (tie_wsX12_stepAlike_r2)) (tie_wsX120))
abbrev ix_wsX12_statesOf : List Nat := 426 :: (([115, 118]) ++ (ix_wsX120))
set_option maxRecDepth 20000 in
theorem tie_wsX12_statesOf : wsX12_statesOf = tk ix_wsX12_statesOf := tk_co rfl (tk_ap (rfl) (tie_wsX120))
abbrev ix_wsX12_findClasses_r1 : List Nat := [115, 118, 119, 174, 175, 176, 177, 419, 420, 421, 5, 422, 423, 424, 425, 426, 427, 428, 429, 430, 324, 325, 326, 327]
set_option maxRecDepth 20000 in
theorem tie_wsX12_findClasses_r1 : wsX12_findClasses_r1 = tk ix_wsX12_findClasses_r1 := rfl
abbrev ix_wsX12_findClasses_r2 : List Nat := [328, 329, 330, 240, 241, 242, 243, 431, 432, 433, 434, 435, 436, 437, 438]
set_option maxRecDepth 20000 in
theorem tie_wsX12_findClasses_r2 : wsX12_findClasses_r2 = tk ix_wsX12_findClasses_r2 := rfl
abbrev ix_wsX12_findClasses : List Nat := 418 :: (((ix_wsX12_findClasses_r1) ++ (ix_wsX12_findClasses_r2)) ++ (ix_wsX120))
set_option maxRecDepth 20000 in
theorem tie_wsX12_findClasses : wsX12_findClasses = tk ix_wsX12_findClasses := tk_co rfl (tk_ap (tk_ap (tie_wsX12_findClasses_r1) (tie_wsX12_findClasses_r2)) (tie_wsX120))
abbrev ix_wsX12_classCount_r1 : List Nat := [415, 416, 417, 5, 418, 115, 118, 119, 174, 175, 176, 177, 419, 420, 421, 422, 423, 424, 425, 426, 427, 428, 429, 430]
set_option maxRecDepth 20000 in
theorem tie_wsX12_classCount_r1 : wsX12_classCount_r1 = tk ix_wsX12_classCount_r1 := rfl
abbrev ix_wsX12_classCount_r2 : List Nat := [324, 325, 326, 327, 328, 329, 330, 240, 241, 242, 243, 431, 432, 433, 434, 435, 436, 437, 438]
set_option maxRecDepth 20000 in
theorem tie_wsX12_classCount_r2 : wsX12_classCount_r2 = tk ix_wsX12_classCount_r2 := rfl
abbrev ix_wsX12_classCount : List Nat := 414 :: (((ix_wsX12_classCount_r1) ++ (ix_wsX12_classCount_r2)) ++ (ix_wsX120))
set_option maxRecDepth 20000 in
theorem tie_wsX12_classCount : wsX12_classCount = tk ix_wsX12_classCount := tk_co rfl (tk_ap (tk_ap (tie_wsX12_classCount_r1) (tie_wsX12_classCount_r2)) (tie_wsX120))
abbrev ix_wsX12_classOf_r1 : List Nat := [118, 233, 234, 235, 5, 236, 115, 237, 238, 239, 415, 416, 417, 418, 119, 174, 175, 176, 177, 419, 420, 421, 422, 423]
set_option maxRecDepth 20000 in
theorem tie_wsX12_classOf_r1 : wsX12_classOf_r1 = tk ix_wsX12_classOf_r1 := rfl
abbrev ix_wsX12_classOf_r2 : List Nat := [424, 425, 426, 427, 428, 429, 430, 324, 325, 326, 327, 328, 329, 330, 240, 241, 242, 243, 431, 432, 433, 434, 435, 436]
set_option maxRecDepth 20000 in
theorem tie_wsX12_classOf_r2 : wsX12_classOf_r2 = tk ix_wsX12_classOf_r2 := rfl
abbrev ix_wsX12_classOf_r3 : List Nat := [437, 438]
set_option maxRecDepth 20000 in
theorem tie_wsX12_classOf_r3 : wsX12_classOf_r3 = tk ix_wsX12_classOf_r3 := rfl
abbrev ix_wsX12_classOf : List Nat := 447 :: (((ix_wsX12_classOf_r1) ++ ((ix_wsX12_classOf_r2) ++ (ix_wsX12_classOf_r3))) ++ (ix_wsX120))
set_option maxRecDepth 20000 in
theorem tie_wsX12_classOf : wsX12_classOf = tk ix_wsX12_classOf := tk_co rfl (tk_ap (tk_ap (tie_wsX12_classOf_r1) (tk_ap (tie_wsX12_classOf_r2) (tie_wsX12_classOf_r3))) (tie_wsX120))
abbrev ix_wsX12_isPart : List Nat := 481 :: [237, 238, 5, 239]
set_option maxRecDepth 20000 in
theorem tie_wsX12_isPart : wsX12_isPart = tk ix_wsX12_isPart := tk_co rfl (rfl)
abbrev ix_wsX12_give : List Nat := 485 :: (([486, 487, 488, 489, 5, 490]) ++ (ix_wsX120))
set_option maxRecDepth 20000 in
theorem tie_wsX12_give : wsX12_give = tk ix_wsX12_give := tk_co rfl (tk_ap (rfl) (tie_wsX120))
abbrev ix_wsX12_common : List Nat := 490 :: (([] : List Nat))
set_option maxRecDepth 20000 in
theorem tie_wsX12_common : wsX12_common = tk ix_wsX12_common := tk_co rfl (rfl)
abbrev ix_wsX12_lumped_r1 : List Nat := [478, 233, 234, 235, 5, 236, 115, 237, 238, 239, 479, 480, 481, 415, 416, 417, 418, 118, 119, 174, 175, 176, 177, 419]
set_option maxRecDepth 20000 in
theorem tie_wsX12_lumped_r1 : wsX12_lumped_r1 = tk ix_wsX12_lumped_r1 := rfl
abbrev ix_wsX12_lumped_r2 : List Nat := [420, 421, 422, 423, 424, 425, 426, 427, 428, 429, 430, 324, 325, 326, 327, 328, 329, 330, 240, 241, 242, 243, 431, 432]
set_option maxRecDepth 20000 in
theorem tie_wsX12_lumped_r2 : wsX12_lumped_r2 = tk ix_wsX12_lumped_r2 := rfl
abbrev ix_wsX12_lumped_r3 : List Nat := [433, 434, 435, 436, 437, 438, 482, 483, 484, 485, 486, 487, 488, 489, 490, 491, 492, 493, 494]
set_option maxRecDepth 20000 in
theorem tie_wsX12_lumped_r3 : wsX12_lumped_r3 = tk ix_wsX12_lumped_r3 := rfl
abbrev ix_wsX12_lumped : List Nat := 477 :: (((ix_wsX12_lumped_r1) ++ ((ix_wsX12_lumped_r2) ++ (ix_wsX12_lumped_r3))) ++ (ix_wsX120))
set_option maxRecDepth 20000 in
theorem tie_wsX12_lumped : wsX12_lumped = tk ix_wsX12_lumped := tk_co rfl (tk_ap (tk_ap (tie_wsX12_lumped_r1) (tk_ap (tie_wsX12_lumped_r2) (tie_wsX12_lumped_r3))) (tie_wsX120))
abbrev ix_wsX12_part : List Nat := 494 :: (([486, 487]) ++ (ix_wsX120))
set_option maxRecDepth 20000 in
theorem tie_wsX12_part : wsX12_part = tk ix_wsX12_part := tk_co rfl (tk_ap (rfl) (tie_wsX120))
abbrev ix_wsX12_solve : List Nat := 1124 :: (([1125, 1104, 120, 1126, 1127, 1128, 5, 1129]) ++ (ix_wsX120))
set_option maxRecDepth 20000 in
theorem tie_wsX12_solve : wsX12_solve = tk ix_wsX12_solve := tk_co rfl (tk_ap (rfl) (tie_wsX120))
abbrev ix_wsX12_at : List Nat := 1129 :: (([120]) ++ (ix_wsX120))
set_option maxRecDepth 20000 in
theorem tie_wsX12_at : wsX12_at = tk ix_wsX12_at := tk_co rfl (tk_ap (rfl) (tie_wsX120))
abbrev ix_wsX12_begin : List Nat := 1112 :: (([1104, 115, 121, 120, 324, 325, 5, 326, 327, 328, 329, 330, 240, 241, 242, 243, 431, 432, 433, 434, 435, 436, 437, 438]) ++ (ix_wsX120))
set_option maxRecDepth 20000 in
theorem tie_wsX12_begin : wsX12_begin = tk ix_wsX12_begin := tk_co rfl (tk_ap (rfl) (tie_wsX120))
abbrev ix_wsX12_giveSolved_r1 : List Nat := [1121, 1122, 1123, 5, 1124, 1125, 1104, 120, 1126, 1127, 1128, 1129, 1130, 1131, 1132, 1133, 121, 482, 483, 484, 485, 486, 487, 488]
set_option maxRecDepth 20000 in
theorem tie_wsX12_giveSolved_r1 : wsX12_giveSolved_r1 = tk ix_wsX12_giveSolved_r1 := rfl
abbrev ix_wsX12_giveSolved_r2 : List Nat := [489, 490]
set_option maxRecDepth 20000 in
theorem tie_wsX12_giveSolved_r2 : wsX12_giveSolved_r2 = tk ix_wsX12_giveSolved_r2 := rfl
abbrev ix_wsX12_giveSolved : List Nat := 1120 :: (((ix_wsX12_giveSolved_r1) ++ (ix_wsX12_giveSolved_r2)) ++ (ix_wsX120))
set_option maxRecDepth 20000 in
theorem tie_wsX12_giveSolved : wsX12_giveSolved = tk ix_wsX12_giveSolved := tk_co rfl (tk_ap (tk_ap (tie_wsX12_giveSolved_r1) (tie_wsX12_giveSolved_r2)) (tie_wsX120))
abbrev ix_wsX12_placeOf : List Nat := 1133 :: (([121]) ++ (ix_wsX120))
set_option maxRecDepth 20000 in
theorem tie_wsX12_placeOf : wsX12_placeOf = tk ix_wsX12_placeOf := tk_co rfl (tk_ap (rfl) (tie_wsX120))
abbrev ix_wsX12_neverOf : List Nat := 1108 :: (([115, 324, 325, 5, 326, 427, 428, 429, 430, 327, 328, 329, 330, 240, 241, 242, 243, 1092, 1093, 1094, 1095]) ++ (ix_wsX120))
set_option maxRecDepth 20000 in
theorem tie_wsX12_neverOf : wsX12_neverOf = tk ix_wsX12_neverOf := tk_co rfl (tk_ap (rfl) (tie_wsX120))
abbrev ix_wsX12_all : List Nat := 1095 :: (([115]) ++ (ix_wsX120))
set_option maxRecDepth 20000 in
theorem tie_wsX12_all : wsX12_all = tk ix_wsX12_all := tk_co rfl (tk_ap (rfl) (tie_wsX120))
abbrev ix_wsX12_surelyOf_r1 : List Nat := [115, 1105, 1106, 1107, 5, 1108, 324, 325, 326, 427, 428, 429, 430, 327, 328, 329, 330, 240, 241, 242, 243, 1092, 1093, 1094]
set_option maxRecDepth 20000 in
theorem tie_wsX12_surelyOf_r1 : wsX12_surelyOf_r1 = tk ix_wsX12_surelyOf_r1 := rfl
abbrev ix_wsX12_surelyOf_r2 : List Nat := [1095]
set_option maxRecDepth 20000 in
theorem tie_wsX12_surelyOf_r2 : wsX12_surelyOf_r2 = tk ix_wsX12_surelyOf_r2 := rfl
abbrev ix_wsX12_surelyOf : List Nat := 1153 :: (((ix_wsX12_surelyOf_r1) ++ (ix_wsX12_surelyOf_r2)) ++ (ix_wsX120))
set_option maxRecDepth 20000 in
theorem tie_wsX12_surelyOf : wsX12_surelyOf = tk ix_wsX12_surelyOf := tk_co rfl (tk_ap (tk_ap (tie_wsX12_surelyOf_r1) (tie_wsX12_surelyOf_r2)) (tie_wsX120))
abbrev ix_wsX12_findUntil_r1 : List Nat := [1104, 121, 1105, 1106, 1107, 5, 1108, 115, 324, 325, 326, 427, 428, 429, 430, 327, 328, 329, 330, 240, 241, 242, 243, 1092]
set_option maxRecDepth 20000 in
theorem tie_wsX12_findUntil_r1 : wsX12_findUntil_r1 = tk ix_wsX12_findUntil_r1 := rfl
abbrev ix_wsX12_findUntil_r2 : List Nat := [1093, 1094, 1095, 482, 483, 484, 485, 486, 487, 488, 489, 490, 1109, 1110, 1111, 1112, 120, 431, 432, 433, 434, 435, 436, 437]
set_option maxRecDepth 20000 in
theorem tie_wsX12_findUntil_r2 : wsX12_findUntil_r2 = tk ix_wsX12_findUntil_r2 := rfl
abbrev ix_wsX12_findUntil_r3 : List Nat := [438, 1113, 1114, 1115, 1116, 1117, 1118, 1119, 1120, 1121, 1122, 1123, 1124, 1125, 1126, 1127, 1128, 1129, 1130, 1131, 1132, 1133]
set_option maxRecDepth 20000 in
theorem tie_wsX12_findUntil_r3 : wsX12_findUntil_r3 = tk ix_wsX12_findUntil_r3 := rfl
abbrev ix_wsX12_findUntil : List Nat := 1103 :: (((ix_wsX12_findUntil_r1) ++ ((ix_wsX12_findUntil_r2) ++ (ix_wsX12_findUntil_r3))) ++ (ix_wsX120))
set_option maxRecDepth 20000 in
theorem tie_wsX12_findUntil : wsX12_findUntil = tk ix_wsX12_findUntil := tk_co rfl (tk_ap (tk_ap (tie_wsX12_findUntil_r1) (tk_ap (tie_wsX12_findUntil_r2) (tie_wsX12_findUntil_r3))) (tie_wsX120))
abbrev ix_wsX12_right : List Nat := 1116 :: (([120]) ++ (ix_wsX120))
set_option maxRecDepth 20000 in
theorem tie_wsX12_right : wsX12_right = tk ix_wsX12_right := tk_co rfl (tk_ap (rfl) (tie_wsX120))
abbrev ix_wsX12_multiple : List Nat := 1087 :: (([115, 431, 432, 433, 5, 434, 435, 436, 437, 438, 240, 241, 242, 243, 488, 489, 490]) ++ (ix_wsX120))
set_option maxRecDepth 20000 in
theorem tie_wsX12_multiple : wsX12_multiple = tk ix_wsX12_multiple := tk_co rfl (tk_ap (rfl) (tie_wsX120))
abbrev ix_wsX12_isRefused : List Nat := 1082 :: (([1083, 1084, 1085, 1086, 5, 1087, 115, 431, 432, 433, 434, 435, 436, 437, 438, 240, 241, 242, 243, 488, 489, 490]) ++ (ix_wsX120))
set_option maxRecDepth 20000 in
theorem tie_wsX12_isRefused : wsX12_isRefused = tk ix_wsX12_isRefused := tk_co rfl (tk_ap (rfl) (tie_wsX120))
abbrev ix_wsX12_findWithin_r1 : List Nat := [115, 122, 123, 174, 175, 176, 177, 1084, 1085, 1086, 5, 1087, 431, 432, 433, 434, 435, 436, 437, 438, 240, 241, 242, 243]
set_option maxRecDepth 20000 in
theorem tie_wsX12_findWithin_r1 : wsX12_findWithin_r1 = tk ix_wsX12_findWithin_r1 := rfl
abbrev ix_wsX12_findWithin_r2 : List Nat := [488, 489, 490, 324, 325, 326, 327, 328, 329, 330, 482, 483, 484, 485, 486, 487]
set_option maxRecDepth 20000 in
theorem tie_wsX12_findWithin_r2 : wsX12_findWithin_r2 = tk ix_wsX12_findWithin_r2 := rfl
abbrev ix_wsX12_findWithin : List Nat := 1137 :: (((ix_wsX12_findWithin_r1) ++ (ix_wsX12_findWithin_r2)) ++ (ix_wsX120))
set_option maxRecDepth 20000 in
theorem tie_wsX12_findWithin : wsX12_findWithin = tk ix_wsX12_findWithin := tk_co rfl (tk_ap (tk_ap (tie_wsX12_findWithin_r1) (tie_wsX12_findWithin_r2)) (tie_wsX120))
abbrev ix_wsX12_findShares_r1 : List Nat := [115, 124, 1125, 324, 325, 5, 326, 1109, 1110, 1111, 1112, 1104, 121, 120, 327, 328, 329, 330, 240, 241, 242, 243, 431, 432]
set_option maxRecDepth 20000 in
theorem tie_wsX12_findShares_r1 : wsX12_findShares_r1 = tk ix_wsX12_findShares_r1 := rfl
abbrev ix_wsX12_findShares_r2 : List Nat := [433, 434, 435, 436, 437, 438, 1121, 1122, 1123, 1124, 1126, 1127, 1128, 1129]
set_option maxRecDepth 20000 in
theorem tie_wsX12_findShares_r2 : wsX12_findShares_r2 = tk ix_wsX12_findShares_r2 := rfl
abbrev ix_wsX12_findShares : List Nat := 1145 :: (((ix_wsX12_findShares_r1) ++ (ix_wsX12_findShares_r2)) ++ (ix_wsX120))
set_option maxRecDepth 20000 in
theorem tie_wsX12_findShares : wsX12_findShares = tk ix_wsX12_findShares := tk_co rfl (tk_ap (tk_ap (tie_wsX12_findShares_r1) (tie_wsX12_findShares_r2)) (tie_wsX120))
abbrev ix_wsX12_findSteady_r1 : List Nat := [115, 486, 487, 124, 364, 365, 366, 5, 367, 344, 345, 346, 347, 320, 321, 322, 323, 324, 325, 326, 327, 328, 329, 330]
set_option maxRecDepth 20000 in
theorem tie_wsX12_findSteady_r1 : wsX12_findSteady_r1 = tk ix_wsX12_findSteady_r1 := rfl
abbrev ix_wsX12_findSteady_r2 : List Nat := [240, 241, 242, 243, 1092, 1093, 1094, 1095, 1100, 1101, 1102, 1103, 1104, 121, 1105, 1106, 1107, 1108, 427, 428, 429, 430, 482, 483]
set_option maxRecDepth 20000 in
theorem tie_wsX12_findSteady_r2 : wsX12_findSteady_r2 = tk ix_wsX12_findSteady_r2 := rfl
abbrev ix_wsX12_findSteady_r3 : List Nat := [484, 485, 488, 489, 490, 1109, 1110, 1111, 1112, 120, 431, 432, 433, 434, 435, 436, 437, 438, 1113, 1114, 1115, 1116, 1117, 1118]
set_option maxRecDepth 20000 in
theorem tie_wsX12_findSteady_r3 : wsX12_findSteady_r3 = tk ix_wsX12_findSteady_r3 := rfl
abbrev ix_wsX12_findSteady_r4 : List Nat := [1119, 1120, 1121, 1122, 1123, 1124, 1125, 1126, 1127, 1128, 1129, 1130, 1131, 1132, 1133, 1142, 1143, 1144, 1145]
set_option maxRecDepth 20000 in
theorem tie_wsX12_findSteady_r4 : wsX12_findSteady_r4 = tk ix_wsX12_findSteady_r4 := rfl
abbrev ix_wsX12_findSteady : List Nat := 1141 :: (((ix_wsX12_findSteady_r1) ++ ((ix_wsX12_findSteady_r2) ++ ((ix_wsX12_findSteady_r3) ++ (ix_wsX12_findSteady_r4)))) ++ (ix_wsX120))
set_option maxRecDepth 20000 in
theorem tie_wsX12_findSteady : wsX12_findSteady = tk ix_wsX12_findSteady := tk_co rfl (tk_ap (tk_ap (tie_wsX12_findSteady_r1) (tk_ap (tie_wsX12_findSteady_r2) (tk_ap (tie_wsX12_findSteady_r3) (tie_wsX12_findSteady_r4)))) (tie_wsX120))
abbrev ix_wsX12_findExpected_r1 : List Nat := [1104, 121, 115, 1092, 1093, 1094, 5, 1095, 1150, 1151, 1152, 1153, 1105, 1106, 1107, 1108, 324, 325, 326, 427, 428, 429, 430, 327]
set_option maxRecDepth 20000 in
theorem tie_wsX12_findExpected_r1 : wsX12_findExpected_r1 = tk ix_wsX12_findExpected_r1 := rfl
abbrev ix_wsX12_findExpected_r2 : List Nat := [328, 329, 330, 240, 241, 242, 243, 482, 483, 484, 485, 486, 487, 488, 489, 490, 1109, 1110, 1111, 1112, 120, 431, 432, 433]
set_option maxRecDepth 20000 in
theorem tie_wsX12_findExpected_r2 : wsX12_findExpected_r2 = tk ix_wsX12_findExpected_r2 := rfl
abbrev ix_wsX12_findExpected_r3 : List Nat := [434, 435, 436, 437, 438, 1113, 1114, 1115, 1116, 1117, 1118, 1119, 1120, 1121, 1122, 1123, 1124, 1125, 1126, 1127, 1128, 1129, 1130, 1131]
set_option maxRecDepth 20000 in
theorem tie_wsX12_findExpected_r3 : wsX12_findExpected_r3 = tk ix_wsX12_findExpected_r3 := rfl
abbrev ix_wsX12_findExpected_r4 : List Nat := [1132, 1133]
set_option maxRecDepth 20000 in
theorem tie_wsX12_findExpected_r4 : wsX12_findExpected_r4 = tk ix_wsX12_findExpected_r4 := rfl
abbrev ix_wsX12_findExpected : List Nat := 1149 :: (((ix_wsX12_findExpected_r1) ++ ((ix_wsX12_findExpected_r2) ++ ((ix_wsX12_findExpected_r3) ++ (ix_wsX12_findExpected_r4)))) ++ (ix_wsX120))
set_option maxRecDepth 20000 in
theorem tie_wsX12_findExpected : wsX12_findExpected = tk ix_wsX12_findExpected := tk_co rfl (tk_ap (tk_ap (tie_wsX12_findExpected_r1) (tk_ap (tie_wsX12_findExpected_r2) (tk_ap (tie_wsX12_findExpected_r3) (tie_wsX12_findExpected_r4)))) (tie_wsX120))
abbrev ix_wsX12_feed : List Nat := 607 :: (([608, 136, 237, 238, 5, 239]) ++ (ix_wsX120))
set_option maxRecDepth 20000 in
theorem tie_wsX12_feed : wsX12_feed = tk ix_wsX12_feed := tk_co rfl (tk_ap (rfl) (tie_wsX120))
abbrev ix_wsX12_isDigit : List Nat := 841 :: (([815, 816, 817, 5, 818, 806, 608, 136, 237, 238, 239]) ++ (ix_wsX120))
set_option maxRecDepth 20000 in
theorem tie_wsX12_isDigit : wsX12_isDigit = tk ix_wsX12_isDigit := tk_co rfl (tk_ap (rfl) (tie_wsX120))
abbrev ix_wsX12_here : List Nat := 818 :: (([806, 608, 136]) ++ (ix_wsX120))
set_option maxRecDepth 20000 in
theorem tie_wsX12_here : wsX12_here = tk ix_wsX12_here := tk_co rfl (tk_ap (rfl) (tie_wsX120))
abbrev ix_wsX12_wants : List Nat := 845 :: (([808, 806, 815, 816, 817, 5, 818, 608, 136]) ++ (ix_wsX120))
set_option maxRecDepth 20000 in
theorem tie_wsX12_wants : wsX12_wants = tk ix_wsX12_wants := tk_co rfl (tk_ap (rfl) (tie_wsX120))
abbrev ix_wsX12_readNumber : List Nat := 837 :: (([808, 806, 838, 839, 840, 5, 841, 815, 816, 817, 818, 608, 136, 237, 238, 239]) ++ (ix_wsX120))
set_option maxRecDepth 20000 in
theorem tie_wsX12_readNumber : wsX12_readNumber = tk ix_wsX12_readNumber := tk_co rfl (tk_ap (rfl) (tie_wsX120))
abbrev ix_wsX12_readBound : List Nat := 833 :: (([808, 806, 827, 828, 829, 815, 816, 817, 5, 818, 608, 136, 834, 835, 836, 837, 838, 839, 840, 841, 237, 238, 239]) ++ (ix_wsX120))
set_option maxRecDepth 20000 in
theorem tie_wsX12_readBound : wsX12_readBound = tk ix_wsX12_readBound := tk_co rfl (tk_ap (rfl) (tie_wsX120))
abbrev ix_wsX12_readWay_r1 : List Nat := [808, 806, 128, 815, 816, 817, 5, 818, 608, 136, 237, 238, 239, 811, 812, 813, 842, 843, 844, 845, 819, 820, 821, 822]
set_option maxRecDepth 20000 in
theorem tie_wsX12_readWay_r1 : wsX12_readWay_r1 = tk ix_wsX12_readWay_r1 := rfl
abbrev ix_wsX12_readWay_r2 : List Nat := [125, 809, 126, 127, 826, 827, 828, 829, 129, 130, 131, 830, 831, 832, 833, 834, 835, 836, 837, 838, 839, 840, 841, 846]
set_option maxRecDepth 20000 in
theorem tie_wsX12_readWay_r2 : wsX12_readWay_r2 = tk ix_wsX12_readWay_r2 := rfl
abbrev ix_wsX12_readWay_r3 : List Nat := [847, 848, 814, 807, 823, 824, 825, 849, 850, 851, 852]
set_option maxRecDepth 20000 in
theorem tie_wsX12_readWay_r3 : wsX12_readWay_r3 = tk ix_wsX12_readWay_r3 := rfl
abbrev ix_wsX12_readWay : List Nat := 853 :: (((ix_wsX12_readWay_r1) ++ ((ix_wsX12_readWay_r2) ++ (ix_wsX12_readWay_r3))) ++ (ix_wsX120))
set_option maxRecDepth 20000 in
theorem tie_wsX12_readWay : wsX12_readWay = tk ix_wsX12_readWay := tk_co rfl (tk_ap (tk_ap (tie_wsX12_readWay_r1) (tk_ap (tie_wsX12_readWay_r2) (tie_wsX12_readWay_r3))) (tie_wsX120))
abbrev ix_wsX12_readFormula_r1 : List Nat := [808, 806, 128, 807, 815, 816, 817, 5, 818, 608, 136, 237, 238, 239, 819, 820, 821, 822, 125, 809, 126, 127, 823, 824]
set_option maxRecDepth 20000 in
theorem tie_wsX12_readFormula_r1 : wsX12_readFormula_r1 = tk ix_wsX12_readFormula_r1 := rfl
abbrev ix_wsX12_readFormula_r2 : List Nat := [825, 826, 827, 828, 829, 129, 130, 131, 830, 831, 832, 833, 834, 835, 836, 837, 838, 839, 840, 841, 842, 843, 844, 845]
set_option maxRecDepth 20000 in
theorem tie_wsX12_readFormula_r2 : wsX12_readFormula_r2 = tk ix_wsX12_readFormula_r2 := rfl
abbrev ix_wsX12_readFormula_r3 : List Nat := [846, 847, 848, 811, 812, 813, 849, 850, 851, 852, 853]
set_option maxRecDepth 20000 in
theorem tie_wsX12_readFormula_r3 : wsX12_readFormula_r3 = tk ix_wsX12_readFormula_r3 := rfl
abbrev ix_wsX12_readFormula : List Nat := 814 :: (((ix_wsX12_readFormula_r1) ++ ((ix_wsX12_readFormula_r2) ++ (ix_wsX12_readFormula_r3))) ++ (ix_wsX120))
set_option maxRecDepth 20000 in
theorem tie_wsX12_readFormula : wsX12_readFormula = tk ix_wsX12_readFormula := tk_co rfl (tk_ap (tk_ap (tie_wsX12_readFormula_r1) (tk_ap (tie_wsX12_readFormula_r2) (tie_wsX12_readFormula_r3))) (tie_wsX120))
abbrev ix_wsX12_node : List Nat := 822 :: (([808, 125, 809, 126, 127, 128]) ++ (ix_wsX120))
set_option maxRecDepth 20000 in
theorem tie_wsX12_node : wsX12_node = tk ix_wsX12_node := tk_co rfl (tk_ap (rfl) (tie_wsX120))
abbrev ix_wsX12_readBounded_r1 : List Nat := [806, 827, 828, 829, 808, 129, 130, 131, 830, 831, 832, 5, 833, 815, 816, 817, 818, 608, 136, 834, 835, 836, 837, 838]
set_option maxRecDepth 20000 in
theorem tie_wsX12_readBounded_r1 : wsX12_readBounded_r1 = tk ix_wsX12_readBounded_r1 := rfl
abbrev ix_wsX12_readBounded_r2 : List Nat := [839, 840, 841, 237, 238, 239, 842, 843, 844, 845, 846, 847, 848, 811, 812, 813, 819, 820, 821, 822, 125, 809, 126, 127]
set_option maxRecDepth 20000 in
theorem tie_wsX12_readBounded_r2 : wsX12_readBounded_r2 = tk ix_wsX12_readBounded_r2 := rfl
abbrev ix_wsX12_readBounded_r3 : List Nat := [128, 814, 807, 823, 824, 825, 849, 850, 851, 852, 853]
set_option maxRecDepth 20000 in
theorem tie_wsX12_readBounded_r3 : wsX12_readBounded_r3 = tk ix_wsX12_readBounded_r3 := rfl
abbrev ix_wsX12_readBounded : List Nat := 826 :: (((ix_wsX12_readBounded_r1) ++ ((ix_wsX12_readBounded_r2) ++ (ix_wsX12_readBounded_r3))) ++ (ix_wsX120))
set_option maxRecDepth 20000 in
theorem tie_wsX12_readBounded : wsX12_readBounded = tk ix_wsX12_readBounded := tk_co rfl (tk_ap (tk_ap (tie_wsX12_readBounded_r1) (tk_ap (tie_wsX12_readBounded_r2) (tie_wsX12_readBounded_r3))) (tie_wsX120))
abbrev ix_wsX12_readNested_r1 : List Nat := [806, 808, 811, 812, 813, 5, 819, 820, 821, 822, 125, 809, 126, 127, 128, 850, 851, 852, 815, 816, 817, 818, 608, 136]
set_option maxRecDepth 20000 in
theorem tie_wsX12_readNested_r1 : wsX12_readNested_r1 = tk ix_wsX12_readNested_r1 := rfl
abbrev ix_wsX12_readNested_r2 : List Nat := [842, 843, 844, 845, 826, 827, 828, 829, 129, 130, 131, 830, 831, 832, 833, 834, 835, 836, 837, 838, 839, 840, 841, 237]
set_option maxRecDepth 20000 in
theorem tie_wsX12_readNested_r2 : wsX12_readNested_r2 = tk ix_wsX12_readNested_r2 := rfl
abbrev ix_wsX12_readNested_r3 : List Nat := [238, 239, 846, 847, 848, 814, 807, 823, 824, 825, 853]
set_option maxRecDepth 20000 in
theorem tie_wsX12_readNested_r3 : wsX12_readNested_r3 = tk ix_wsX12_readNested_r3 := rfl
abbrev ix_wsX12_readNested : List Nat := 849 :: (((ix_wsX12_readNested_r1) ++ ((ix_wsX12_readNested_r2) ++ (ix_wsX12_readNested_r3))) ++ (ix_wsX120))
set_option maxRecDepth 20000 in
theorem tie_wsX12_readNested : wsX12_readNested = tk ix_wsX12_readNested := tk_co rfl (tk_ap (tk_ap (tie_wsX12_readNested_r1) (tk_ap (tie_wsX12_readNested_r2) (tie_wsX12_readNested_r3))) (tie_wsX120))
abbrev ix_wsX12_addFormula_r1 : List Nat := [806, 807, 808, 809, 608, 810, 136, 134, 174, 175, 176, 177, 135, 132, 811, 812, 813, 5, 814, 128, 815, 816, 817, 818]
set_option maxRecDepth 20000 in
theorem tie_wsX12_addFormula_r1 : wsX12_addFormula_r1 = tk ix_wsX12_addFormula_r1 := rfl
abbrev ix_wsX12_addFormula_r2 : List Nat := [237, 238, 239, 819, 820, 821, 822, 125, 126, 127, 823, 824, 825, 826, 827, 828, 829, 129, 130, 131, 830, 831, 832, 833]
set_option maxRecDepth 20000 in
theorem tie_wsX12_addFormula_r2 : wsX12_addFormula_r2 = tk ix_wsX12_addFormula_r2 := rfl
abbrev ix_wsX12_addFormula_r3 : List Nat := [834, 835, 836, 837, 838, 839, 840, 841, 842, 843, 844, 845, 846, 847, 848, 849, 850, 851, 852, 853, 854, 855, 856, 857]
set_option maxRecDepth 20000 in
theorem tie_wsX12_addFormula_r3 : wsX12_addFormula_r3 = tk ix_wsX12_addFormula_r3 := rfl
abbrev ix_wsX12_addFormula_r4 : List Nat := [44, 858, 859, 860, 861, 862, 863, 864]
set_option maxRecDepth 20000 in
theorem tie_wsX12_addFormula_r4 : wsX12_addFormula_r4 = tk ix_wsX12_addFormula_r4 := rfl
abbrev ix_wsX12_addFormula : List Nat := 805 :: (((ix_wsX12_addFormula_r1) ++ ((ix_wsX12_addFormula_r2) ++ ((ix_wsX12_addFormula_r3) ++ (ix_wsX12_addFormula_r4)))) ++ (ix_wsX120))
set_option maxRecDepth 20000 in
theorem tie_wsX12_addFormula : wsX12_addFormula = tk ix_wsX12_addFormula := tk_co rfl (tk_ap (tk_ap (tie_wsX12_addFormula_r1) (tk_ap (tie_wsX12_addFormula_r2) (tk_ap (tie_wsX12_addFormula_r3) (tie_wsX12_addFormula_r4)))) (tie_wsX120))
abbrev ix_wsX12_tryFormula_r1 : List Nat := [44, 809, 858, 859, 860, 5, 861, 125, 126, 127, 128, 129, 130, 131, 862, 863, 864, 174, 175, 176, 177, 811, 812, 813]
set_option maxRecDepth 20000 in
theorem tie_wsX12_tryFormula_r1 : wsX12_tryFormula_r1 = tk ix_wsX12_tryFormula_r1 := rfl
abbrev ix_wsX12_tryFormula_r2 : List Nat := [814, 808, 806, 807, 815, 816, 817, 818, 608, 136, 237, 238, 239, 819, 820, 821, 822, 823, 824, 825, 826, 827, 828, 829]
set_option maxRecDepth 20000 in
theorem tie_wsX12_tryFormula_r2 : wsX12_tryFormula_r2 = tk ix_wsX12_tryFormula_r2 := rfl
abbrev ix_wsX12_tryFormula_r3 : List Nat := [830, 831, 832, 833, 834, 835, 836, 837, 838, 839, 840, 841, 842, 843, 844, 845, 846, 847, 848, 849, 850, 851, 852, 853]
set_option maxRecDepth 20000 in
theorem tie_wsX12_tryFormula_r3 : wsX12_tryFormula_r3 = tk ix_wsX12_tryFormula_r3 := rfl
abbrev ix_wsX12_tryFormula : List Nat := 857 :: (((ix_wsX12_tryFormula_r1) ++ ((ix_wsX12_tryFormula_r2) ++ (ix_wsX12_tryFormula_r3))) ++ (ix_wsX120))
set_option maxRecDepth 20000 in
theorem tie_wsX12_tryFormula : wsX12_tryFormula = tk ix_wsX12_tryFormula := tk_co rfl (tk_ap (tk_ap (tie_wsX12_tryFormula_r1) (tk_ap (tie_wsX12_tryFormula_r2) (tie_wsX12_tryFormula_r3))) (tie_wsX120))
abbrev ix_wsX12_keep : List Nat := 861 :: (([125, 126, 127, 128, 129, 130, 131, 862, 863, 5, 864, 174, 175, 176, 177]) ++ (ix_wsX120))
set_option maxRecDepth 20000 in
theorem tie_wsX12_keep : wsX12_keep = tk ix_wsX12_keep := tk_co rfl (tk_ap (rfl) (tie_wsX120))
abbrev ix_wsX12_move : List Nat := 864 :: [174, 175, 176, 177]
set_option maxRecDepth 20000 in
theorem tie_wsX12_move : wsX12_move = tk ix_wsX12_move := tk_co rfl (rfl)
abbrev ix_wsX12_isFormula : List Nat := 902 :: (([810, 237, 238, 5, 239]) ++ (ix_wsX120))
set_option maxRecDepth 20000 in
theorem tie_wsX12_isFormula : wsX12_isFormula = tk ix_wsX12_isFormula := tk_co rfl (tk_ap (rfl) (tie_wsX120))
abbrev ix_wsX12_letter : List Nat := 898 :: (([135, 134, 899, 900, 901, 5, 902, 810, 237, 238, 239]) ++ (ix_wsX120))
set_option maxRecDepth 20000 in
theorem tie_wsX12_letter : wsX12_letter = tk ix_wsX12_letter := tk_co rfl (tk_ap (rfl) (tie_wsX120))
abbrev ix_wsX12_isBounded : List Nat := 927 :: [237, 238, 5, 239]
set_option maxRecDepth 20000 in
theorem tie_wsX12_isBounded : wsX12_isBounded = tk ix_wsX12_isBounded := tk_co rfl (rfl)
abbrev ix_wsX12_depthOf : List Nat := 918 :: (([125, 126, 127, 435, 436, 437, 438, 919, 920, 5, 921, 915, 916, 917, 922, 923, 924, 925, 926, 927, 237, 238, 239]) ++ (ix_wsX120))
set_option maxRecDepth 20000 in
theorem tie_wsX12_depthOf : wsX12_depthOf = tk ix_wsX12_depthOf := tk_co rfl (tk_ap (rfl) (tie_wsX120))
abbrev ix_wsX12_hasOne : List Nat := 921 :: (([] : List Nat))
set_option maxRecDepth 20000 in
theorem tie_wsX12_hasOne : wsX12_hasOne = tk ix_wsX12_hasOne := tk_co rfl (rfl)
abbrev ix_wsX12_hasTwo : List Nat := 924 :: (([] : List Nat))
set_option maxRecDepth 20000 in
theorem tie_wsX12_hasTwo : wsX12_hasTwo = tk ix_wsX12_hasTwo := tk_co rfl (rfl)
abbrev ix_wsX12_depth_r1 : List Nat := [132, 899, 900, 901, 5, 902, 810, 237, 238, 239, 915, 916, 917, 918, 125, 126, 127, 435, 436, 437, 438, 919, 920, 921]
set_option maxRecDepth 20000 in
theorem tie_wsX12_depth_r1 : wsX12_depth_r1 = tk ix_wsX12_depth_r1 := rfl
abbrev ix_wsX12_depth_r2 : List Nat := [922, 923, 924, 925, 926, 927]
set_option maxRecDepth 20000 in
theorem tie_wsX12_depth_r2 : wsX12_depth_r2 = tk ix_wsX12_depth_r2 := rfl
abbrev ix_wsX12_depth : List Nat := 914 :: (((ix_wsX12_depth_r1) ++ (ix_wsX12_depth_r2)) ++ (ix_wsX120))
set_option maxRecDepth 20000 in
theorem tie_wsX12_depth : wsX12_depth = tk ix_wsX12_depth := tk_co rfl (tk_ap (tk_ap (tie_wsX12_depth_r1) (tie_wsX12_depth_r2)) (tie_wsX120))
abbrev ix_wsX12_isRefusedNode_r1 : List Nat := [125, 128, 126, 127, 1079, 1080, 1081, 5, 1082, 1083, 1084, 1085, 1086, 1087, 115, 431, 432, 433, 434, 435, 436, 437, 438, 240]
set_option maxRecDepth 20000 in
theorem tie_wsX12_isRefusedNode_r1 : wsX12_isRefusedNode_r1 = tk ix_wsX12_isRefusedNode_r1 := rfl
abbrev ix_wsX12_isRefusedNode_r2 : List Nat := [241, 242, 243, 488, 489, 490, 919, 920, 921, 1075, 1076, 1077, 922, 923, 924]
set_option maxRecDepth 20000 in
theorem tie_wsX12_isRefusedNode_r2 : wsX12_isRefusedNode_r2 = tk ix_wsX12_isRefusedNode_r2 := rfl
abbrev ix_wsX12_isRefusedNode : List Nat := 1078 :: (((ix_wsX12_isRefusedNode_r1) ++ (ix_wsX12_isRefusedNode_r2)) ++ (ix_wsX120))
set_option maxRecDepth 20000 in
theorem tie_wsX12_isRefusedNode : wsX12_isRefusedNode = tk ix_wsX12_isRefusedNode := tk_co rfl (tk_ap (tk_ap (tie_wsX12_isRefusedNode_r1) (tie_wsX12_isRefusedNode_r2)) (tie_wsX120))
abbrev ix_wsX12_find_r1 : List Nat := [125, 487, 486, 128, 427, 428, 429, 5, 430, 115, 324, 325, 326, 327, 328, 329, 330, 240, 241, 242, 243, 431, 432, 433]
set_option maxRecDepth 20000 in
theorem tie_wsX12_find_r1 : wsX12_find_r1 = tk ix_wsX12_find_r1 := rfl
abbrev ix_wsX12_find_r2 : List Nat := [434, 435, 436, 437, 438, 482, 483, 484, 485, 488, 489, 490, 1092, 1093, 1094, 1095, 1100, 1101, 1102, 1103, 1104, 121, 1105, 1106]
set_option maxRecDepth 20000 in
theorem tie_wsX12_find_r2 : wsX12_find_r2 = tk ix_wsX12_find_r2 := rfl
