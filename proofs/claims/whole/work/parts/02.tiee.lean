abbrev ix_wsX11_bestProduct_r9 : List Nat := [1050, 1051, 1052, 363, 364, 365, 366, 349, 317, 318, 319, 1053, 1054, 1055, 1056, 1057, 1058, 1059, 1060, 1061, 1062, 1063, 1064, 1065]
set_option maxRecDepth 20000 in
theorem tie_wsX11_bestProduct_r9 : wsX11_bestProduct_r9 = tk ix_wsX11_bestProduct_r9 := rfl
abbrev ix_wsX11_bestProduct_r10 : List Nat := [1066, 1067, 1068, 1069, 1070, 1071, 1072, 296, 297, 298, 51, 1073, 1074, 1075, 1076, 1077, 1078, 1079, 772, 1080, 788, 787, 786, 785]
set_option maxRecDepth 20000 in
theorem tie_wsX11_bestProduct_r10 : wsX11_bestProduct_r10 = tk ix_wsX11_bestProduct_r10 := rfl
abbrev ix_wsX11_bestProduct_r11 : List Nat := [1269, 1270, 1271, 35, 1272, 100, 96, 97, 98, 1273, 1274, 1275, 1276, 99, 1277, 1278, 1279, 1280, 1281, 1282, 1283, 1284, 1285, 1286]
set_option maxRecDepth 20000 in
theorem tie_wsX11_bestProduct_r11 : wsX11_bestProduct_r11 = tk ix_wsX11_bestProduct_r11 := rfl
abbrev ix_wsX11_bestProduct_r12 : List Nat := [1287, 1288, 1289, 1290, 1291, 1321, 1322, 1323, 1324]
set_option maxRecDepth 20000 in
theorem tie_wsX11_bestProduct_r12 : wsX11_bestProduct_r12 = tk ix_wsX11_bestProduct_r12 := rfl
abbrev ix_wsX11_bestProduct : List Nat := 1319 :: (((((((((((ix_wsX11_bestProduct_r1) ++ ((ix_wsX11_bestProduct_r2) ++ ((ix_wsX11_bestProduct_r3) ++ ((ix_wsX11_bestProduct_r4) ++ ((ix_wsX11_bestProduct_r5) ++ ((ix_wsX11_bestProduct_r6) ++ ((ix_wsX11_bestProduct_r7) ++ ((ix_wsX11_bestProduct_r8) ++ ((ix_wsX11_bestProduct_r9) ++ ((ix_wsX11_bestProduct_r10) ++ ((ix_wsX11_bestProduct_r11) ++ (ix_wsX11_bestProduct_r12)))))))))))) ++ (ix_wsX110)) ++ (ix_wsX20)) ++ (ix_wsX50)) ++ (ix_wsX90)) ++ (ix_wsX80)) ++ (ix_wsX40)) ++ (ix_wsX30)) ++ (ix_wsX10)) ++ (ix_wsX00))
set_option maxRecDepth 20000 in
theorem tie_wsX11_bestProduct : wsX11_bestProduct = tk ix_wsX11_bestProduct := tk_co rfl (tk_ap (tk_ap (tk_ap (tk_ap (tk_ap (tk_ap (tk_ap (tk_ap (tk_ap (tk_ap (tie_wsX11_bestProduct_r1) (tk_ap (tie_wsX11_bestProduct_r2) (tk_ap (tie_wsX11_bestProduct_r3) (tk_ap (tie_wsX11_bestProduct_r4) (tk_ap (tie_wsX11_bestProduct_r5) (tk_ap (tie_wsX11_bestProduct_r6) (tk_ap (tie_wsX11_bestProduct_r7) (tk_ap (tie_wsX11_bestProduct_r8) (tk_ap (tie_wsX11_bestProduct_r9) (tk_ap (tie_wsX11_bestProduct_r10) (tk_ap (tie_wsX11_bestProduct_r11) (tie_wsX11_bestProduct_r12)))))))))))) (tie_wsX110)) (tie_wsX20)) (tie_wsX50)) (tie_wsX90)) (tie_wsX80)) (tie_wsX40)) (tie_wsX30)) (tie_wsX10)) (tie_wsX00))
abbrev ix_wsX11_walk : List Nat := 1333 :: ((([18, 1334, 228, 201, 202, 14, 203, 158, 1335, 1336, 1337, 1338, 412, 234, 235, 236, 237, 230, 231, 232, 49]) ++ (ix_wsX110)) ++ (ix_wsX20))
set_option maxRecDepth 20000 in
theorem tie_wsX11_walk : wsX11_walk = tk ix_wsX11_walk := tk_co rfl (tk_ap (tk_ap (rfl) (tie_wsX110)) (tie_wsX20))
abbrev ix_wsX11_save : List Nat := 1347 :: ((([19, 18, 44, 1348, 168, 169, 14, 170, 49, 50, 51, 158, 154, 155, 156, 157]) ++ (ix_wsX110)) ++ (ix_wsX20))
set_option maxRecDepth 20000 in
theorem tie_wsX11_save : wsX11_save = tk ix_wsX11_save := tk_co rfl (tk_ap (tk_ap (rfl) (tie_wsX110)) (tie_wsX20))
abbrev ix_wsX11_restore_r1 : List Nat := [44, 23, 18, 19, 159, 160, 161, 22, 162, 76, 77, 163, 164, 165, 166, 75, 167, 168, 169, 14, 170, 49, 50, 51]
set_option maxRecDepth 20000 in
theorem tie_wsX11_restore_r1 : wsX11_restore_r1 = tk ix_wsX11_restore_r1 := rfl
abbrev ix_wsX11_restore_r2 : List Nat := [158, 1348, 154, 155, 156, 157]
set_option maxRecDepth 20000 in
theorem tie_wsX11_restore_r2 : wsX11_restore_r2 = tk ix_wsX11_restore_r2 := rfl
abbrev ix_wsX11_restore : List Nat := 1357 :: (((((ix_wsX11_restore_r1) ++ (ix_wsX11_restore_r2)) ++ (ix_wsX110)) ++ (ix_wsX60)) ++ (ix_wsX20))
set_option maxRecDepth 20000 in
theorem tie_wsX11_restore : wsX11_restore = tk ix_wsX11_restore := tk_co rfl (tk_ap (tk_ap (tk_ap (tk_ap (tie_wsX11_restore_r1) (tie_wsX11_restore_r2)) (tie_wsX110)) (tie_wsX60)) (tie_wsX20))
abbrev ix_wsX11_undo_r1 : List Nat := [23, 18, 1366, 1367, 1368, 22, 1369, 77, 76, 163, 164, 165, 166, 75, 167, 168, 169, 14, 170, 49, 50, 51, 158, 1370]
set_option maxRecDepth 20000 in
theorem tie_wsX11_undo_r1 : wsX11_undo_r1 = tk ix_wsX11_undo_r1 := rfl
abbrev ix_wsX11_undo_r2 : List Nat := [1371, 1372, 1373]
set_option maxRecDepth 20000 in
theorem tie_wsX11_undo_r2 : wsX11_undo_r2 = tk ix_wsX11_undo_r2 := rfl
abbrev ix_wsX11_undo : List Nat := 1365 :: (((((ix_wsX11_undo_r1) ++ (ix_wsX11_undo_r2)) ++ (ix_wsX110)) ++ (ix_wsX60)) ++ (ix_wsX20))
set_option maxRecDepth 20000 in
theorem tie_wsX11_undo : wsX11_undo = tk ix_wsX11_undo := tk_co rfl (tk_ap (tk_ap (tk_ap (tk_ap (tie_wsX11_undo_r1) (tie_wsX11_undo_r2)) (tie_wsX110)) (tie_wsX60)) (tie_wsX20))
abbrev ix_wsX6_total : List Nat := 1373 :: (([77]) ++ (ix_wsX60))
set_option maxRecDepth 20000 in
theorem tie_wsX6_total : wsX6_total = tk ix_wsX6_total := tk_co rfl (tk_ap (rfl) (tie_wsX60))
abbrev ix_wsX5_longest : List Nat := 947 :: ((([808]) ++ (ix_wsX50)) ++ (ix_wsX90))
set_option maxRecDepth 20000 in
theorem tie_wsX5_longest : wsX5_longest = tk ix_wsX5_longest := tk_co rfl (tk_ap (tk_ap (rfl) (tie_wsX50)) (tie_wsX90))
abbrev ix_wsX120 : List Nat := [1389, 1390, 1391, 1392, 1393, 1394, 1395, 1396, 1397, 1398, 1399, 1400, 1401, 1402, 1403, 1404, 1405, 1406, 1407, 1408, 1409, 1410, 1411, 1412, 1413, 1414, 1415, 1416, 1417, 1418, 1419, 1420, 1421, 1422, 1423, 1424, 1425, 1426, 1427, 1428]
theorem tie_wsX120 : wsX120 = tk ix_wsX120 := by decide +kernel
abbrev ix_wsX12_isState : List Nat := 246 :: (([125, 247, 248, 5, 249]) ++ (ix_wsX120))
set_option maxRecDepth 20000 in
theorem tie_wsX12_isState : wsX12_isState = tk ix_wsX12_isState := tk_co rfl (tk_ap (rfl) (tie_wsX120))
abbrev ix_wsX12_in : List Nat := 249 :: (([] : List Nat))
set_option maxRecDepth 20000 in
theorem tie_wsX12_in : wsX12_in = tk ix_wsX12_in := tk_co rfl (rfl)
abbrev ix_wsX12_addState : List Nat := 178 :: (([125, 179, 180, 181, 5, 182, 183, 127, 184, 185, 186, 187]) ++ (ix_wsX120))
set_option maxRecDepth 20000 in
theorem tie_wsX12_addState : wsX12_addState = tk ix_wsX12_addState := tk_co rfl (tk_ap (rfl) (tie_wsX120))
abbrev ix_wsX12_change : List Nat := 182 :: (([183, 127, 184, 185, 186, 187, 125]) ++ (ix_wsX120))
set_option maxRecDepth 20000 in
theorem tie_wsX12_change : wsX12_change = tk ix_wsX12_change := tk_co rfl (tk_ap (rfl) (tie_wsX120))
abbrev ix_wsX12_removeState : List Nat := 215 :: (([125, 179, 180, 181, 5, 182, 183, 127, 184, 185, 186, 187]) ++ (ix_wsX120))
set_option maxRecDepth 20000 in
theorem tie_wsX12_removeState : wsX12_removeState = tk ix_wsX12_removeState := tk_co rfl (tk_ap (rfl) (tie_wsX120))
abbrev ix_wsX12_setWeight : List Nat := 242 :: (([125, 243, 244, 245, 5, 246, 247, 248, 249, 250, 251, 252, 253, 179, 180, 181, 182, 183, 127, 184, 185, 186, 187]) ++ (ix_wsX120))
set_option maxRecDepth 20000 in
theorem tie_wsX12_setWeight : wsX12_setWeight = tk ix_wsX12_setWeight := tk_co rfl (tk_ap (rfl) (tie_wsX120))
abbrev ix_wsX12_toldSum : List Nat := 253 :: (([125]) ++ (ix_wsX120))
set_option maxRecDepth 20000 in
theorem tie_wsX12_toldSum : wsX12_toldSum = tk ix_wsX12_toldSum := tk_co rfl (tk_ap (rfl) (tie_wsX120))
abbrev ix_wsX12_weight : List Nat := 261 :: (([125, 243, 244, 245, 5, 246, 247, 248, 249]) ++ (ix_wsX120))
set_option maxRecDepth 20000 in
theorem tie_wsX12_weight : wsX12_weight = tk ix_wsX12_weight := tk_co rfl (tk_ap (rfl) (tie_wsX120))
abbrev ix_wsX12_sum : List Nat := 269 :: (([243, 244, 245, 5, 246, 125, 247, 248, 249, 250, 251, 252, 253]) ++ (ix_wsX120))
set_option maxRecDepth 20000 in
theorem tie_wsX12_sum : wsX12_sum = tk ix_wsX12_sum := tk_co rfl (tk_ap (rfl) (tie_wsX120))
abbrev ix_wsX12_setLabels : List Nat := 282 :: (([125, 243, 244, 245, 5, 246, 247, 248, 249, 179, 180, 181, 182, 183, 127, 184, 185, 186, 187]) ++ (ix_wsX120))
set_option maxRecDepth 20000 in
theorem tie_wsX12_setLabels : wsX12_setLabels = tk ix_wsX12_setLabels := tk_co rfl (tk_ap (rfl) (tie_wsX120))
abbrev ix_wsX12_labels : List Nat := 290 :: (([125, 243, 244, 245, 5, 246, 247, 248, 249]) ++ (ix_wsX120))
set_option maxRecDepth 20000 in
theorem tie_wsX12_labels : wsX12_labels = tk ix_wsX12_labels := tk_co rfl (tk_ap (rfl) (tie_wsX120))
abbrev ix_wsX12_setReward : List Nat := 303 :: (([125, 243, 244, 245, 5, 246, 247, 248, 249, 179, 180, 181, 182, 183, 127, 184, 185, 186, 187]) ++ (ix_wsX120))
set_option maxRecDepth 20000 in
theorem tie_wsX12_setReward : wsX12_setReward = tk ix_wsX12_setReward := tk_co rfl (tk_ap (rfl) (tie_wsX120))
abbrev ix_wsX12_reward : List Nat := 311 :: (([125, 243, 244, 245, 5, 246, 247, 248, 249]) ++ (ix_wsX120))
set_option maxRecDepth 20000 in
theorem tie_wsX12_reward : wsX12_reward = tk ix_wsX12_reward := tk_co rfl (tk_ap (rfl) (tie_wsX120))
abbrev ix_wsX12_restore : List Nat := 1361 :: (([1353, 126, 125, 184, 185, 186, 187, 179, 180, 181, 5, 182, 183, 127]) ++ (ix_wsX120))
set_option maxRecDepth 20000 in
theorem tie_wsX12_restore : wsX12_restore = tk ix_wsX12_restore := tk_co rfl (tk_ap (rfl) (tie_wsX120))
abbrev ix_wsX12_sumOf : List Nat := 444 :: (([445, 446, 447, 448, 250, 251, 252, 5, 253, 125]) ++ (ix_wsX120))
set_option maxRecDepth 20000 in
theorem tie_wsX12_sumOf : wsX12_sumOf = tk ix_wsX12_sumOf := tk_co rfl (tk_ap (rfl) (tie_wsX120))
abbrev ix_wsX12_weightOf : List Nat := 340 :: (([125, 250, 251, 252, 5, 253]) ++ (ix_wsX120))
set_option maxRecDepth 20000 in
theorem tie_wsX12_weightOf : wsX12_weightOf = tk ix_wsX12_weightOf := tk_co rfl (tk_ap (rfl) (tie_wsX120))
abbrev ix_wsX12_weightInto : List Nat := 440 :: (([125, 334, 335, 5, 336, 337, 338, 339, 340, 250, 251, 252, 253]) ++ (ix_wsX120))
set_option maxRecDepth 20000 in
theorem tie_wsX12_weightInto : wsX12_weightInto = tk ix_wsX12_weightInto := tk_co rfl (tk_ap (rfl) (tie_wsX120))
abbrev ix_wsX12_has : List Nat := 336 :: (([] : List Nat))
set_option maxRecDepth 20000 in
theorem tie_wsX12_has : wsX12_has = tk ix_wsX12_has := tk_co rfl (rfl)
abbrev ix_wsX12_reachOf : List Nat := 333 :: (([125, 334, 335, 5, 336, 337, 338, 339, 340, 250, 251, 252, 253]) ++ (ix_wsX120))
set_option maxRecDepth 20000 in
theorem tie_wsX12_reachOf : wsX12_reachOf = tk ix_wsX12_reachOf := tk_co rfl (tk_ap (rfl) (tie_wsX120))
abbrev ix_wsX12_reaches : List Nat := 329 :: (([243, 244, 245, 5, 246, 125, 247, 248, 249, 330, 331, 332, 333, 334, 335, 336, 337, 338, 339, 340, 250, 251, 252, 253]) ++ (ix_wsX120))
set_option maxRecDepth 20000 in
theorem tie_wsX12_reaches : wsX12_reaches = tk ix_wsX12_reaches := tk_co rfl (tk_ap (rfl) (tie_wsX120))
abbrev ix_wsX12_componentOf : List Nat := 357 :: (([125, 330, 331, 332, 5, 333, 334, 335, 336, 337, 338, 339, 340, 250, 251, 252, 253]) ++ (ix_wsX120))
set_option maxRecDepth 20000 in
theorem tie_wsX12_componentOf : wsX12_componentOf = tk ix_wsX12_componentOf := tk_co rfl (tk_ap (rfl) (tie_wsX120))
abbrev ix_wsX12_component_r1 : List Nat := [243, 244, 245, 5, 246, 125, 247, 248, 249, 354, 355, 356, 357, 330, 331, 332, 333, 334, 335, 336, 337, 338, 339, 340]
set_option maxRecDepth 20000 in
theorem tie_wsX12_component_r1 : wsX12_component_r1 = tk ix_wsX12_component_r1 := rfl
abbrev ix_wsX12_component_r2 : List Nat := [250, 251, 252, 253]
set_option maxRecDepth 20000 in
theorem tie_wsX12_component_r2 : wsX12_component_r2 = tk ix_wsX12_component_r2 := rfl
abbrev ix_wsX12_component : List Nat := 353 :: (((ix_wsX12_component_r1) ++ (ix_wsX12_component_r2)) ++ (ix_wsX120))
set_option maxRecDepth 20000 in
theorem tie_wsX12_component : wsX12_component = tk ix_wsX12_component := tk_co rfl (tk_ap (tk_ap (tie_wsX12_component_r1) (tie_wsX12_component_r2)) (tie_wsX120))
abbrev ix_wsX12_isBottom : List Nat := 377 :: (([354, 355, 356, 5, 357, 125, 330, 331, 332, 333, 334, 335, 336, 337, 338, 339, 340, 250, 251, 252, 253]) ++ (ix_wsX120))
set_option maxRecDepth 20000 in
theorem tie_wsX12_isBottom : wsX12_isBottom = tk ix_wsX12_isBottom := tk_co rfl (tk_ap (rfl) (tie_wsX120))
abbrev ix_wsX12_bottoms_r1 : List Nat := [125, 374, 375, 376, 5, 377, 354, 355, 356, 357, 330, 331, 332, 333, 334, 335, 336, 337, 338, 339, 340, 250, 251, 252]
set_option maxRecDepth 20000 in
theorem tie_wsX12_bottoms_r1 : wsX12_bottoms_r1 = tk ix_wsX12_bottoms_r1 := rfl
abbrev ix_wsX12_bottoms_r2 : List Nat := [253]
set_option maxRecDepth 20000 in
theorem tie_wsX12_bottoms_r2 : wsX12_bottoms_r2 = tk ix_wsX12_bottoms_r2 := rfl
abbrev ix_wsX12_bottoms : List Nat := 373 :: (((ix_wsX12_bottoms_r1) ++ (ix_wsX12_bottoms_r2)) ++ (ix_wsX120))
set_option maxRecDepth 20000 in
theorem tie_wsX12_bottoms : wsX12_bottoms = tk ix_wsX12_bottoms := tk_co rfl (tk_ap (tk_ap (tie_wsX12_bottoms_r1) (tie_wsX12_bottoms_r2)) (tie_wsX120))
abbrev ix_wsX12_stepAlike_r1 : List Nat := [128, 433, 434, 435, 5, 436, 125, 437, 438, 439, 440, 334, 335, 336, 337, 338, 339, 340, 250, 251, 252, 253, 441, 442]
set_option maxRecDepth 20000 in
theorem tie_wsX12_stepAlike_r1 : wsX12_stepAlike_r1 = tk ix_wsX12_stepAlike_r1 := rfl
abbrev ix_wsX12_stepAlike_r2 : List Nat := [443, 444, 445, 446, 447, 448]
set_option maxRecDepth 20000 in
theorem tie_wsX12_stepAlike_r2 : wsX12_stepAlike_r2 = tk ix_wsX12_stepAlike_r2 := rfl
abbrev ix_wsX12_stepAlike : List Nat := 432 :: (((ix_wsX12_stepAlike_r1) ++ (ix_wsX12_stepAlike_r2)) ++ (ix_wsX120))
set_option maxRecDepth 20000 in
theorem tie_wsX12_stepAlike : wsX12_stepAlike = tk ix_wsX12_stepAlike := tk_co rfl (tk_ap (tk_ap (tie_wsX12_stepAlike_r1) (tie_wsX12_stepAlike_r2)) (tie_wsX120))
abbrev ix_wsX12_statesOf : List Nat := 436 :: (([125, 128]) ++ (ix_wsX120))
set_option maxRecDepth 20000 in
theorem tie_wsX12_statesOf : wsX12_statesOf = tk ix_wsX12_statesOf := tk_co rfl (tk_ap (rfl) (tie_wsX120))
abbrev ix_wsX12_findClasses_r1 : List Nat := [125, 128, 129, 184, 185, 186, 187, 429, 430, 431, 5, 432, 433, 434, 435, 436, 437, 438, 439, 440, 334, 335, 336, 337]
set_option maxRecDepth 20000 in
theorem tie_wsX12_findClasses_r1 : wsX12_findClasses_r1 = tk ix_wsX12_findClasses_r1 := rfl
abbrev ix_wsX12_findClasses_r2 : List Nat := [338, 339, 340, 250, 251, 252, 253, 441, 442, 443, 444, 445, 446, 447, 448]
set_option maxRecDepth 20000 in
theorem tie_wsX12_findClasses_r2 : wsX12_findClasses_r2 = tk ix_wsX12_findClasses_r2 := rfl
abbrev ix_wsX12_findClasses : List Nat := 428 :: (((ix_wsX12_findClasses_r1) ++ (ix_wsX12_findClasses_r2)) ++ (ix_wsX120))
set_option maxRecDepth 20000 in
theorem tie_wsX12_findClasses : wsX12_findClasses = tk ix_wsX12_findClasses := tk_co rfl (tk_ap (tk_ap (tie_wsX12_findClasses_r1) (tie_wsX12_findClasses_r2)) (tie_wsX120))
abbrev ix_wsX12_classCount_r1 : List Nat := [425, 426, 427, 5, 428, 125, 128, 129, 184, 185, 186, 187, 429, 430, 431, 432, 433, 434, 435, 436, 437, 438, 439, 440]
set_option maxRecDepth 20000 in
theorem tie_wsX12_classCount_r1 : wsX12_classCount_r1 = tk ix_wsX12_classCount_r1 := rfl
abbrev ix_wsX12_classCount_r2 : List Nat := [334, 335, 336, 337, 338, 339, 340, 250, 251, 252, 253, 441, 442, 443, 444, 445, 446, 447, 448]
set_option maxRecDepth 20000 in
theorem tie_wsX12_classCount_r2 : wsX12_classCount_r2 = tk ix_wsX12_classCount_r2 := rfl
abbrev ix_wsX12_classCount : List Nat := 424 :: (((ix_wsX12_classCount_r1) ++ (ix_wsX12_classCount_r2)) ++ (ix_wsX120))
set_option maxRecDepth 20000 in
theorem tie_wsX12_classCount : wsX12_classCount = tk ix_wsX12_classCount := tk_co rfl (tk_ap (tk_ap (tie_wsX12_classCount_r1) (tie_wsX12_classCount_r2)) (tie_wsX120))
abbrev ix_wsX12_classOf_r1 : List Nat := [128, 243, 244, 245, 5, 246, 125, 247, 248, 249, 425, 426, 427, 428, 129, 184, 185, 186, 187, 429, 430, 431, 432, 433]
set_option maxRecDepth 20000 in
theorem tie_wsX12_classOf_r1 : wsX12_classOf_r1 = tk ix_wsX12_classOf_r1 := rfl
abbrev ix_wsX12_classOf_r2 : List Nat := [434, 435, 436, 437, 438, 439, 440, 334, 335, 336, 337, 338, 339, 340, 250, 251, 252, 253, 441, 442, 443, 444, 445, 446]
set_option maxRecDepth 20000 in
theorem tie_wsX12_classOf_r2 : wsX12_classOf_r2 = tk ix_wsX12_classOf_r2 := rfl
abbrev ix_wsX12_classOf_r3 : List Nat := [447, 448]
set_option maxRecDepth 20000 in
theorem tie_wsX12_classOf_r3 : wsX12_classOf_r3 = tk ix_wsX12_classOf_r3 := rfl
abbrev ix_wsX12_classOf : List Nat := 457 :: (((ix_wsX12_classOf_r1) ++ ((ix_wsX12_classOf_r2) ++ (ix_wsX12_classOf_r3))) ++ (ix_wsX120))
set_option maxRecDepth 20000 in
theorem tie_wsX12_classOf : wsX12_classOf = tk ix_wsX12_classOf := tk_co rfl (tk_ap (tk_ap (tie_wsX12_classOf_r1) (tk_ap (tie_wsX12_classOf_r2) (tie_wsX12_classOf_r3))) (tie_wsX120))
abbrev ix_wsX12_isPart : List Nat := 491 :: [247, 248, 5, 249]
set_option maxRecDepth 20000 in
theorem tie_wsX12_isPart : wsX12_isPart = tk ix_wsX12_isPart := tk_co rfl (rfl)
abbrev ix_wsX12_give : List Nat := 495 :: (([496, 497, 498, 499, 5, 500]) ++ (ix_wsX120))
set_option maxRecDepth 20000 in
theorem tie_wsX12_give : wsX12_give = tk ix_wsX12_give := tk_co rfl (tk_ap (rfl) (tie_wsX120))
abbrev ix_wsX12_common : List Nat := 500 :: (([] : List Nat))
set_option maxRecDepth 20000 in
theorem tie_wsX12_common : wsX12_common = tk ix_wsX12_common := tk_co rfl (rfl)
abbrev ix_wsX12_lumped_r1 : List Nat := [488, 243, 244, 245, 5, 246, 125, 247, 248, 249, 489, 490, 491, 425, 426, 427, 428, 128, 129, 184, 185, 186, 187, 429]
set_option maxRecDepth 20000 in
theorem tie_wsX12_lumped_r1 : wsX12_lumped_r1 = tk ix_wsX12_lumped_r1 := rfl
abbrev ix_wsX12_lumped_r2 : List Nat := [430, 431, 432, 433, 434, 435, 436, 437, 438, 439, 440, 334, 335, 336, 337, 338, 339, 340, 250, 251, 252, 253, 441, 442]
set_option maxRecDepth 20000 in
theorem tie_wsX12_lumped_r2 : wsX12_lumped_r2 = tk ix_wsX12_lumped_r2 := rfl
abbrev ix_wsX12_lumped_r3 : List Nat := [443, 444, 445, 446, 447, 448, 492, 493, 494, 495, 496, 497, 498, 499, 500, 501, 502, 503, 504]
set_option maxRecDepth 20000 in
theorem tie_wsX12_lumped_r3 : wsX12_lumped_r3 = tk ix_wsX12_lumped_r3 := rfl
abbrev ix_wsX12_lumped : List Nat := 487 :: (((ix_wsX12_lumped_r1) ++ ((ix_wsX12_lumped_r2) ++ (ix_wsX12_lumped_r3))) ++ (ix_wsX120))
set_option maxRecDepth 20000 in
theorem tie_wsX12_lumped : wsX12_lumped = tk ix_wsX12_lumped := tk_co rfl (tk_ap (tk_ap (tie_wsX12_lumped_r1) (tk_ap (tie_wsX12_lumped_r2) (tie_wsX12_lumped_r3))) (tie_wsX120))
abbrev ix_wsX12_part : List Nat := 504 :: (([496, 497]) ++ (ix_wsX120))
set_option maxRecDepth 20000 in
theorem tie_wsX12_part : wsX12_part = tk ix_wsX12_part := tk_co rfl (tk_ap (rfl) (tie_wsX120))
abbrev ix_wsX12_solve : List Nat := 1134 :: (([1135, 1114, 130, 1136, 1137, 1138, 5, 1139]) ++ (ix_wsX120))
set_option maxRecDepth 20000 in
theorem tie_wsX12_solve : wsX12_solve = tk ix_wsX12_solve := tk_co rfl (tk_ap (rfl) (tie_wsX120))
abbrev ix_wsX12_at : List Nat := 1139 :: (([130]) ++ (ix_wsX120))
set_option maxRecDepth 20000 in
theorem tie_wsX12_at : wsX12_at = tk ix_wsX12_at := tk_co rfl (tk_ap (rfl) (tie_wsX120))
abbrev ix_wsX12_begin : List Nat := 1122 :: (([1114, 125, 131, 130, 334, 335, 5, 336, 337, 338, 339, 340, 250, 251, 252, 253, 441, 442, 443, 444, 445, 446, 447, 448]) ++ (ix_wsX120))
set_option maxRecDepth 20000 in
theorem tie_wsX12_begin : wsX12_begin = tk ix_wsX12_begin := tk_co rfl (tk_ap (rfl) (tie_wsX120))
abbrev ix_wsX12_giveSolved_r1 : List Nat := [1131, 1132, 1133, 5, 1134, 1135, 1114, 130, 1136, 1137, 1138, 1139, 1140, 1141, 1142, 1143, 131, 492, 493, 494, 495, 496, 497, 498]
set_option maxRecDepth 20000 in
theorem tie_wsX12_giveSolved_r1 : wsX12_giveSolved_r1 = tk ix_wsX12_giveSolved_r1 := rfl
abbrev ix_wsX12_giveSolved_r2 : List Nat := [499, 500]
set_option maxRecDepth 20000 in
theorem tie_wsX12_giveSolved_r2 : wsX12_giveSolved_r2 = tk ix_wsX12_giveSolved_r2 := rfl
abbrev ix_wsX12_giveSolved : List Nat := 1130 :: (((ix_wsX12_giveSolved_r1) ++ (ix_wsX12_giveSolved_r2)) ++ (ix_wsX120))
set_option maxRecDepth 20000 in
theorem tie_wsX12_giveSolved : wsX12_giveSolved = tk ix_wsX12_giveSolved := tk_co rfl (tk_ap (tk_ap (tie_wsX12_giveSolved_r1) (tie_wsX12_giveSolved_r2)) (tie_wsX120))
abbrev ix_wsX12_placeOf : List Nat := 1143 :: (([131]) ++ (ix_wsX120))
set_option maxRecDepth 20000 in
theorem tie_wsX12_placeOf : wsX12_placeOf = tk ix_wsX12_placeOf := tk_co rfl (tk_ap (rfl) (tie_wsX120))
abbrev ix_wsX12_neverOf : List Nat := 1118 :: (([125, 334, 335, 5, 336, 437, 438, 439, 440, 337, 338, 339, 340, 250, 251, 252, 253, 1102, 1103, 1104, 1105]) ++ (ix_wsX120))
set_option maxRecDepth 20000 in
theorem tie_wsX12_neverOf : wsX12_neverOf = tk ix_wsX12_neverOf := tk_co rfl (tk_ap (rfl) (tie_wsX120))
abbrev ix_wsX12_all : List Nat := 1105 :: (([125]) ++ (ix_wsX120))
set_option maxRecDepth 20000 in
theorem tie_wsX12_all : wsX12_all = tk ix_wsX12_all := tk_co rfl (tk_ap (rfl) (tie_wsX120))
abbrev ix_wsX12_surelyOf_r1 : List Nat := [125, 1115, 1116, 1117, 5, 1118, 334, 335, 336, 437, 438, 439, 440, 337, 338, 339, 340, 250, 251, 252, 253, 1102, 1103, 1104]
set_option maxRecDepth 20000 in
theorem tie_wsX12_surelyOf_r1 : wsX12_surelyOf_r1 = tk ix_wsX12_surelyOf_r1 := rfl
abbrev ix_wsX12_surelyOf_r2 : List Nat := [1105]
set_option maxRecDepth 20000 in
theorem tie_wsX12_surelyOf_r2 : wsX12_surelyOf_r2 = tk ix_wsX12_surelyOf_r2 := rfl
abbrev ix_wsX12_surelyOf : List Nat := 1163 :: (((ix_wsX12_surelyOf_r1) ++ (ix_wsX12_surelyOf_r2)) ++ (ix_wsX120))
set_option maxRecDepth 20000 in
theorem tie_wsX12_surelyOf : wsX12_surelyOf = tk ix_wsX12_surelyOf := tk_co rfl (tk_ap (tk_ap (tie_wsX12_surelyOf_r1) (tie_wsX12_surelyOf_r2)) (tie_wsX120))
abbrev ix_wsX12_findUntil_r1 : List Nat := [1114, 131, 1115, 1116, 1117, 5, 1118, 125, 334, 335, 336, 437, 438, 439, 440, 337, 338, 339, 340, 250, 251, 252, 253, 1102]
set_option maxRecDepth 20000 in
theorem tie_wsX12_findUntil_r1 : wsX12_findUntil_r1 = tk ix_wsX12_findUntil_r1 := rfl
abbrev ix_wsX12_findUntil_r2 : List Nat := [1103, 1104, 1105, 492, 493, 494, 495, 496, 497, 498, 499, 500, 1119, 1120, 1121, 1122, 130, 441, 442, 443, 444, 445, 446, 447]
set_option maxRecDepth 20000 in
theorem tie_wsX12_findUntil_r2 : wsX12_findUntil_r2 = tk ix_wsX12_findUntil_r2 := rfl
abbrev ix_wsX12_findUntil_r3 : List Nat := [448, 1123, 1124, 1125, 1126, 1127, 1128, 1129, 1130, 1131, 1132, 1133, 1134, 1135, 1136, 1137, 1138, 1139, 1140, 1141, 1142, 1143]
set_option maxRecDepth 20000 in
theorem tie_wsX12_findUntil_r3 : wsX12_findUntil_r3 = tk ix_wsX12_findUntil_r3 := rfl
abbrev ix_wsX12_findUntil : List Nat := 1113 :: (((ix_wsX12_findUntil_r1) ++ ((ix_wsX12_findUntil_r2) ++ (ix_wsX12_findUntil_r3))) ++ (ix_wsX120))
set_option maxRecDepth 20000 in
theorem tie_wsX12_findUntil : wsX12_findUntil = tk ix_wsX12_findUntil := tk_co rfl (tk_ap (tk_ap (tie_wsX12_findUntil_r1) (tk_ap (tie_wsX12_findUntil_r2) (tie_wsX12_findUntil_r3))) (tie_wsX120))
abbrev ix_wsX12_right : List Nat := 1126 :: (([130]) ++ (ix_wsX120))
set_option maxRecDepth 20000 in
theorem tie_wsX12_right : wsX12_right = tk ix_wsX12_right := tk_co rfl (tk_ap (rfl) (tie_wsX120))
abbrev ix_wsX12_multiple : List Nat := 1097 :: (([125, 441, 442, 443, 5, 444, 445, 446, 447, 448, 250, 251, 252, 253, 498, 499, 500]) ++ (ix_wsX120))
set_option maxRecDepth 20000 in
theorem tie_wsX12_multiple : wsX12_multiple = tk ix_wsX12_multiple := tk_co rfl (tk_ap (rfl) (tie_wsX120))
abbrev ix_wsX12_isRefused : List Nat := 1092 :: (([1093, 1094, 1095, 1096, 5, 1097, 125, 441, 442, 443, 444, 445, 446, 447, 448, 250, 251, 252, 253, 498, 499, 500]) ++ (ix_wsX120))
set_option maxRecDepth 20000 in
theorem tie_wsX12_isRefused : wsX12_isRefused = tk ix_wsX12_isRefused := tk_co rfl (tk_ap (rfl) (tie_wsX120))
abbrev ix_wsX12_findWithin_r1 : List Nat := [125, 132, 133, 184, 185, 186, 187, 1094, 1095, 1096, 5, 1097, 441, 442, 443, 444, 445, 446, 447, 448, 250, 251, 252, 253]
set_option maxRecDepth 20000 in
theorem tie_wsX12_findWithin_r1 : wsX12_findWithin_r1 = tk ix_wsX12_findWithin_r1 := rfl
abbrev ix_wsX12_findWithin_r2 : List Nat := [498, 499, 500, 334, 335, 336, 337, 338, 339, 340, 492, 493, 494, 495, 496, 497]
set_option maxRecDepth 20000 in
theorem tie_wsX12_findWithin_r2 : wsX12_findWithin_r2 = tk ix_wsX12_findWithin_r2 := rfl
abbrev ix_wsX12_findWithin : List Nat := 1147 :: (((ix_wsX12_findWithin_r1) ++ (ix_wsX12_findWithin_r2)) ++ (ix_wsX120))
set_option maxRecDepth 20000 in
theorem tie_wsX12_findWithin : wsX12_findWithin = tk ix_wsX12_findWithin := tk_co rfl (tk_ap (tk_ap (tie_wsX12_findWithin_r1) (tie_wsX12_findWithin_r2)) (tie_wsX120))
abbrev ix_wsX12_findShares_r1 : List Nat := [125, 134, 1135, 334, 335, 5, 336, 1119, 1120, 1121, 1122, 1114, 131, 130, 337, 338, 339, 340, 250, 251, 252, 253, 441, 442]
set_option maxRecDepth 20000 in
theorem tie_wsX12_findShares_r1 : wsX12_findShares_r1 = tk ix_wsX12_findShares_r1 := rfl
abbrev ix_wsX12_findShares_r2 : List Nat := [443, 444, 445, 446, 447, 448, 1131, 1132, 1133, 1134, 1136, 1137, 1138, 1139]
set_option maxRecDepth 20000 in
theorem tie_wsX12_findShares_r2 : wsX12_findShares_r2 = tk ix_wsX12_findShares_r2 := rfl
abbrev ix_wsX12_findShares : List Nat := 1155 :: (((ix_wsX12_findShares_r1) ++ (ix_wsX12_findShares_r2)) ++ (ix_wsX120))
set_option maxRecDepth 20000 in
theorem tie_wsX12_findShares : wsX12_findShares = tk ix_wsX12_findShares := tk_co rfl (tk_ap (tk_ap (tie_wsX12_findShares_r1) (tie_wsX12_findShares_r2)) (tie_wsX120))
abbrev ix_wsX12_findSteady_r1 : List Nat := [125, 496, 497, 134, 374, 375, 376, 5, 377, 354, 355, 356, 357, 330, 331, 332, 333, 334, 335, 336, 337, 338, 339, 340]
set_option maxRecDepth 20000 in
theorem tie_wsX12_findSteady_r1 : wsX12_findSteady_r1 = tk ix_wsX12_findSteady_r1 := rfl
abbrev ix_wsX12_findSteady_r2 : List Nat := [250, 251, 252, 253, 1102, 1103, 1104, 1105, 1110, 1111, 1112, 1113, 1114, 131, 1115, 1116, 1117, 1118, 437, 438, 439, 440, 492, 493]
set_option maxRecDepth 20000 in
theorem tie_wsX12_findSteady_r2 : wsX12_findSteady_r2 = tk ix_wsX12_findSteady_r2 := rfl
abbrev ix_wsX12_findSteady_r3 : List Nat := [494, 495, 498, 499, 500, 1119, 1120, 1121, 1122, 130, 441, 442, 443, 444, 445, 446, 447, 448, 1123, 1124, 1125, 1126, 1127, 1128]
set_option maxRecDepth 20000 in
theorem tie_wsX12_findSteady_r3 : wsX12_findSteady_r3 = tk ix_wsX12_findSteady_r3 := rfl
abbrev ix_wsX12_findSteady_r4 : List Nat := [1129, 1130, 1131, 1132, 1133, 1134, 1135, 1136, 1137, 1138, 1139, 1140, 1141, 1142, 1143, 1152, 1153, 1154, 1155]
set_option maxRecDepth 20000 in
theorem tie_wsX12_findSteady_r4 : wsX12_findSteady_r4 = tk ix_wsX12_findSteady_r4 := rfl
abbrev ix_wsX12_findSteady : List Nat := 1151 :: (((ix_wsX12_findSteady_r1) ++ ((ix_wsX12_findSteady_r2) ++ ((ix_wsX12_findSteady_r3) ++ (ix_wsX12_findSteady_r4)))) ++ (ix_wsX120))
set_option maxRecDepth 20000 in
theorem tie_wsX12_findSteady : wsX12_findSteady = tk ix_wsX12_findSteady := tk_co rfl (tk_ap (tk_ap (tie_wsX12_findSteady_r1) (tk_ap (tie_wsX12_findSteady_r2) (tk_ap (tie_wsX12_findSteady_r3) (tie_wsX12_findSteady_r4)))) (tie_wsX120))
abbrev ix_wsX12_findExpected_r1 : List Nat := [1114, 131, 125, 1102, 1103, 1104, 5, 1105, 1160, 1161, 1162, 1163, 1115, 1116, 1117, 1118, 334, 335, 336, 437, 438, 439, 440, 337]
set_option maxRecDepth 20000 in
theorem tie_wsX12_findExpected_r1 : wsX12_findExpected_r1 = tk ix_wsX12_findExpected_r1 := rfl
abbrev ix_wsX12_findExpected_r2 : List Nat := [338, 339, 340, 250, 251, 252, 253, 492, 493, 494, 495, 496, 497, 498, 499, 500, 1119, 1120, 1121, 1122, 130, 441, 442, 443]
set_option maxRecDepth 20000 in
theorem tie_wsX12_findExpected_r2 : wsX12_findExpected_r2 = tk ix_wsX12_findExpected_r2 := rfl
abbrev ix_wsX12_findExpected_r3 : List Nat := [444, 445, 446, 447, 448, 1123, 1124, 1125, 1126, 1127, 1128, 1129, 1130, 1131, 1132, 1133, 1134, 1135, 1136, 1137, 1138, 1139, 1140, 1141]
set_option maxRecDepth 20000 in
theorem tie_wsX12_findExpected_r3 : wsX12_findExpected_r3 = tk ix_wsX12_findExpected_r3 := rfl
abbrev ix_wsX12_findExpected_r4 : List Nat := [1142, 1143]
set_option maxRecDepth 20000 in
theorem tie_wsX12_findExpected_r4 : wsX12_findExpected_r4 = tk ix_wsX12_findExpected_r4 := rfl
abbrev ix_wsX12_findExpected : List Nat := 1159 :: (((ix_wsX12_findExpected_r1) ++ ((ix_wsX12_findExpected_r2) ++ ((ix_wsX12_findExpected_r3) ++ (ix_wsX12_findExpected_r4)))) ++ (ix_wsX120))
set_option maxRecDepth 20000 in
theorem tie_wsX12_findExpected : wsX12_findExpected = tk ix_wsX12_findExpected := tk_co rfl (tk_ap (tk_ap (tie_wsX12_findExpected_r1) (tk_ap (tie_wsX12_findExpected_r2) (tk_ap (tie_wsX12_findExpected_r3) (tie_wsX12_findExpected_r4)))) (tie_wsX120))
abbrev ix_wsX12_feed : List Nat := 617 :: (([618, 146, 247, 248, 5, 249]) ++ (ix_wsX120))
set_option maxRecDepth 20000 in
theorem tie_wsX12_feed : wsX12_feed = tk ix_wsX12_feed := tk_co rfl (tk_ap (rfl) (tie_wsX120))
abbrev ix_wsX12_isDigit : List Nat := 848 :: (([822, 823, 824, 5, 825, 813, 618, 146, 247, 248, 249]) ++ (ix_wsX120))
set_option maxRecDepth 20000 in
theorem tie_wsX12_isDigit : wsX12_isDigit = tk ix_wsX12_isDigit := tk_co rfl (tk_ap (rfl) (tie_wsX120))
abbrev ix_wsX12_here : List Nat := 825 :: (([813, 618, 146]) ++ (ix_wsX120))
set_option maxRecDepth 20000 in
theorem tie_wsX12_here : wsX12_here = tk ix_wsX12_here := tk_co rfl (tk_ap (rfl) (tie_wsX120))
abbrev ix_wsX12_wants : List Nat := 852 :: (([815, 813, 822, 823, 824, 5, 825, 618, 146]) ++ (ix_wsX120))
set_option maxRecDepth 20000 in
theorem tie_wsX12_wants : wsX12_wants = tk ix_wsX12_wants := tk_co rfl (tk_ap (rfl) (tie_wsX120))
abbrev ix_wsX12_readNumber : List Nat := 844 :: (([815, 813, 845, 846, 847, 5, 848, 822, 823, 824, 825, 618, 146, 247, 248, 249]) ++ (ix_wsX120))
set_option maxRecDepth 20000 in
theorem tie_wsX12_readNumber : wsX12_readNumber = tk ix_wsX12_readNumber := tk_co rfl (tk_ap (rfl) (tie_wsX120))
abbrev ix_wsX12_readBound : List Nat := 840 :: (([815, 813, 834, 835, 836, 822, 823, 824, 5, 825, 618, 146, 841, 842, 843, 844, 845, 846, 847, 848, 247, 248, 249]) ++ (ix_wsX120))
set_option maxRecDepth 20000 in
theorem tie_wsX12_readBound : wsX12_readBound = tk ix_wsX12_readBound := tk_co rfl (tk_ap (rfl) (tie_wsX120))
abbrev ix_wsX12_readWay_r1 : List Nat := [815, 813, 138, 822, 823, 824, 5, 825, 618, 146, 247, 248, 249, 818, 819, 820, 849, 850, 851, 852, 826, 827, 828, 829]
set_option maxRecDepth 20000 in
theorem tie_wsX12_readWay_r1 : wsX12_readWay_r1 = tk ix_wsX12_readWay_r1 := rfl
abbrev ix_wsX12_readWay_r2 : List Nat := [135, 816, 136, 137, 833, 834, 835, 836, 139, 140, 141, 837, 838, 839, 840, 841, 842, 843, 844, 845, 846, 847, 848, 853]
set_option maxRecDepth 20000 in
theorem tie_wsX12_readWay_r2 : wsX12_readWay_r2 = tk ix_wsX12_readWay_r2 := rfl
abbrev ix_wsX12_readWay_r3 : List Nat := [854, 855, 821, 814, 830, 831, 832, 856, 857, 858, 859]
set_option maxRecDepth 20000 in
theorem tie_wsX12_readWay_r3 : wsX12_readWay_r3 = tk ix_wsX12_readWay_r3 := rfl
abbrev ix_wsX12_readWay : List Nat := 860 :: (((ix_wsX12_readWay_r1) ++ ((ix_wsX12_readWay_r2) ++ (ix_wsX12_readWay_r3))) ++ (ix_wsX120))
set_option maxRecDepth 20000 in
theorem tie_wsX12_readWay : wsX12_readWay = tk ix_wsX12_readWay := tk_co rfl (tk_ap (tk_ap (tie_wsX12_readWay_r1) (tk_ap (tie_wsX12_readWay_r2) (tie_wsX12_readWay_r3))) (tie_wsX120))
abbrev ix_wsX12_readFormula_r1 : List Nat := [815, 813, 138, 814, 822, 823, 824, 5, 825, 618, 146, 247, 248, 249, 826, 827, 828, 829, 135, 816, 136, 137, 830, 831]
set_option maxRecDepth 20000 in
theorem tie_wsX12_readFormula_r1 : wsX12_readFormula_r1 = tk ix_wsX12_readFormula_r1 := rfl
abbrev ix_wsX12_readFormula_r2 : List Nat := [832, 833, 834, 835, 836, 139, 140, 141, 837, 838, 839, 840, 841, 842, 843, 844, 845, 846, 847, 848, 849, 850, 851, 852]
set_option maxRecDepth 20000 in
theorem tie_wsX12_readFormula_r2 : wsX12_readFormula_r2 = tk ix_wsX12_readFormula_r2 := rfl
abbrev ix_wsX12_readFormula_r3 : List Nat := [853, 854, 855, 818, 819, 820, 856, 857, 858, 859, 860]
set_option maxRecDepth 20000 in
theorem tie_wsX12_readFormula_r3 : wsX12_readFormula_r3 = tk ix_wsX12_readFormula_r3 := rfl
abbrev ix_wsX12_readFormula : List Nat := 821 :: (((ix_wsX12_readFormula_r1) ++ ((ix_wsX12_readFormula_r2) ++ (ix_wsX12_readFormula_r3))) ++ (ix_wsX120))
set_option maxRecDepth 20000 in
theorem tie_wsX12_readFormula : wsX12_readFormula = tk ix_wsX12_readFormula := tk_co rfl (tk_ap (tk_ap (tie_wsX12_readFormula_r1) (tk_ap (tie_wsX12_readFormula_r2) (tie_wsX12_readFormula_r3))) (tie_wsX120))
abbrev ix_wsX12_node : List Nat := 829 :: (([815, 135, 816, 136, 137, 138]) ++ (ix_wsX120))
set_option maxRecDepth 20000 in
theorem tie_wsX12_node : wsX12_node = tk ix_wsX12_node := tk_co rfl (tk_ap (rfl) (tie_wsX120))
abbrev ix_wsX12_readBounded_r1 : List Nat := [813, 834, 835, 836, 815, 139, 140, 141, 837, 838, 839, 5, 840, 822, 823, 824, 825, 618, 146, 841, 842, 843, 844, 845]
set_option maxRecDepth 20000 in
theorem tie_wsX12_readBounded_r1 : wsX12_readBounded_r1 = tk ix_wsX12_readBounded_r1 := rfl
abbrev ix_wsX12_readBounded_r2 : List Nat := [846, 847, 848, 247, 248, 249, 849, 850, 851, 852, 853, 854, 855, 818, 819, 820, 826, 827, 828, 829, 135, 816, 136, 137]
set_option maxRecDepth 20000 in
theorem tie_wsX12_readBounded_r2 : wsX12_readBounded_r2 = tk ix_wsX12_readBounded_r2 := rfl
abbrev ix_wsX12_readBounded_r3 : List Nat := [138, 821, 814, 830, 831, 832, 856, 857, 858, 859, 860]
set_option maxRecDepth 20000 in
theorem tie_wsX12_readBounded_r3 : wsX12_readBounded_r3 = tk ix_wsX12_readBounded_r3 := rfl
abbrev ix_wsX12_readBounded : List Nat := 833 :: (((ix_wsX12_readBounded_r1) ++ ((ix_wsX12_readBounded_r2) ++ (ix_wsX12_readBounded_r3))) ++ (ix_wsX120))
set_option maxRecDepth 20000 in
theorem tie_wsX12_readBounded : wsX12_readBounded = tk ix_wsX12_readBounded := tk_co rfl (tk_ap (tk_ap (tie_wsX12_readBounded_r1) (tk_ap (tie_wsX12_readBounded_r2) (tie_wsX12_readBounded_r3))) (tie_wsX120))
abbrev ix_wsX12_readNested_r1 : List Nat := [813, 815, 818, 819, 820, 5, 826, 827, 828, 829, 135, 816, 136, 137, 138, 857, 858, 859, 822, 823, 824, 825, 618, 146]
set_option maxRecDepth 20000 in
theorem tie_wsX12_readNested_r1 : wsX12_readNested_r1 = tk ix_wsX12_readNested_r1 := rfl
abbrev ix_wsX12_readNested_r2 : List Nat := [849, 850, 851, 852, 833, 834, 835, 836, 139, 140, 141, 837, 838, 839, 840, 841, 842, 843, 844, 845, 846, 847, 848, 247]
set_option maxRecDepth 20000 in
theorem tie_wsX12_readNested_r2 : wsX12_readNested_r2 = tk ix_wsX12_readNested_r2 := rfl
abbrev ix_wsX12_readNested_r3 : List Nat := [248, 249, 853, 854, 855, 821, 814, 830, 831, 832, 860]
set_option maxRecDepth 20000 in
theorem tie_wsX12_readNested_r3 : wsX12_readNested_r3 = tk ix_wsX12_readNested_r3 := rfl
abbrev ix_wsX12_readNested : List Nat := 856 :: (((ix_wsX12_readNested_r1) ++ ((ix_wsX12_readNested_r2) ++ (ix_wsX12_readNested_r3))) ++ (ix_wsX120))
set_option maxRecDepth 20000 in
theorem tie_wsX12_readNested : wsX12_readNested = tk ix_wsX12_readNested := tk_co rfl (tk_ap (tk_ap (tie_wsX12_readNested_r1) (tk_ap (tie_wsX12_readNested_r2) (tie_wsX12_readNested_r3))) (tie_wsX120))
abbrev ix_wsX12_addFormula_r1 : List Nat := [813, 814, 815, 816, 618, 817, 146, 144, 184, 185, 186, 187, 145, 142, 818, 819, 820, 5, 821, 138, 822, 823, 824, 825]
set_option maxRecDepth 20000 in
theorem tie_wsX12_addFormula_r1 : wsX12_addFormula_r1 = tk ix_wsX12_addFormula_r1 := rfl
abbrev ix_wsX12_addFormula_r2 : List Nat := [247, 248, 249, 826, 827, 828, 829, 135, 136, 137, 830, 831, 832, 833, 834, 835, 836, 139, 140, 141, 837, 838, 839, 840]
set_option maxRecDepth 20000 in
theorem tie_wsX12_addFormula_r2 : wsX12_addFormula_r2 = tk ix_wsX12_addFormula_r2 := rfl
abbrev ix_wsX12_addFormula_r3 : List Nat := [841, 842, 843, 844, 845, 846, 847, 848, 849, 850, 851, 852, 853, 854, 855, 856, 857, 858, 859, 860, 861, 862, 863, 864]
set_option maxRecDepth 20000 in
theorem tie_wsX12_addFormula_r3 : wsX12_addFormula_r3 = tk ix_wsX12_addFormula_r3 := rfl
abbrev ix_wsX12_addFormula_r4 : List Nat := [48, 865, 866, 867, 868, 869, 870, 871]
set_option maxRecDepth 20000 in
theorem tie_wsX12_addFormula_r4 : wsX12_addFormula_r4 = tk ix_wsX12_addFormula_r4 := rfl
abbrev ix_wsX12_addFormula : List Nat := 812 :: (((ix_wsX12_addFormula_r1) ++ ((ix_wsX12_addFormula_r2) ++ ((ix_wsX12_addFormula_r3) ++ (ix_wsX12_addFormula_r4)))) ++ (ix_wsX120))
set_option maxRecDepth 20000 in
theorem tie_wsX12_addFormula : wsX12_addFormula = tk ix_wsX12_addFormula := tk_co rfl (tk_ap (tk_ap (tie_wsX12_addFormula_r1) (tk_ap (tie_wsX12_addFormula_r2) (tk_ap (tie_wsX12_addFormula_r3) (tie_wsX12_addFormula_r4)))) (tie_wsX120))
abbrev ix_wsX12_tryFormula_r1 : List Nat := [48, 816, 865, 866, 867, 5, 868, 135, 136, 137, 138, 139, 140, 141, 869, 870, 871, 184, 185, 186, 187, 818, 819, 820]
set_option maxRecDepth 20000 in
theorem tie_wsX12_tryFormula_r1 : wsX12_tryFormula_r1 = tk ix_wsX12_tryFormula_r1 := rfl
abbrev ix_wsX12_tryFormula_r2 : List Nat := [821, 815, 813, 814, 822, 823, 824, 825, 618, 146, 247, 248, 249, 826, 827, 828, 829, 830, 831, 832, 833, 834, 835, 836]
set_option maxRecDepth 20000 in
theorem tie_wsX12_tryFormula_r2 : wsX12_tryFormula_r2 = tk ix_wsX12_tryFormula_r2 := rfl
abbrev ix_wsX12_tryFormula_r3 : List Nat := [837, 838, 839, 840, 841, 842, 843, 844, 845, 846, 847, 848, 849, 850, 851, 852, 853, 854, 855, 856, 857, 858, 859, 860]
set_option maxRecDepth 20000 in
theorem tie_wsX12_tryFormula_r3 : wsX12_tryFormula_r3 = tk ix_wsX12_tryFormula_r3 := rfl
abbrev ix_wsX12_tryFormula : List Nat := 864 :: (((ix_wsX12_tryFormula_r1) ++ ((ix_wsX12_tryFormula_r2) ++ (ix_wsX12_tryFormula_r3))) ++ (ix_wsX120))
set_option maxRecDepth 20000 in
theorem tie_wsX12_tryFormula : wsX12_tryFormula = tk ix_wsX12_tryFormula := tk_co rfl (tk_ap (tk_ap (tie_wsX12_tryFormula_r1) (tk_ap (tie_wsX12_tryFormula_r2) (tie_wsX12_tryFormula_r3))) (tie_wsX120))
abbrev ix_wsX12_keep : List Nat := 868 :: (([135, 136, 137, 138, 139, 140, 141, 869, 870, 5, 871, 184, 185, 186, 187]) ++ (ix_wsX120))
set_option maxRecDepth 20000 in
theorem tie_wsX12_keep : wsX12_keep = tk ix_wsX12_keep := tk_co rfl (tk_ap (rfl) (tie_wsX120))
abbrev ix_wsX12_move : List Nat := 871 :: [184, 185, 186, 187]
set_option maxRecDepth 20000 in
theorem tie_wsX12_move : wsX12_move = tk ix_wsX12_move := tk_co rfl (rfl)
abbrev ix_wsX12_isFormula : List Nat := 909 :: (([817, 247, 248, 5, 249]) ++ (ix_wsX120))
set_option maxRecDepth 20000 in
theorem tie_wsX12_isFormula : wsX12_isFormula = tk ix_wsX12_isFormula := tk_co rfl (tk_ap (rfl) (tie_wsX120))
abbrev ix_wsX12_letter : List Nat := 905 :: (([145, 144, 906, 907, 908, 5, 909, 817, 247, 248, 249]) ++ (ix_wsX120))
set_option maxRecDepth 20000 in
theorem tie_wsX12_letter : wsX12_letter = tk ix_wsX12_letter := tk_co rfl (tk_ap (rfl) (tie_wsX120))
abbrev ix_wsX12_isBounded : List Nat := 934 :: [247, 248, 5, 249]
set_option maxRecDepth 20000 in
theorem tie_wsX12_isBounded : wsX12_isBounded = tk ix_wsX12_isBounded := tk_co rfl (rfl)
abbrev ix_wsX12_depthOf : List Nat := 925 :: (([135, 136, 137, 445, 446, 447, 448, 926, 927, 5, 928, 922, 923, 924, 929, 930, 931, 932, 933, 934, 247, 248, 249]) ++ (ix_wsX120))
set_option maxRecDepth 20000 in
theorem tie_wsX12_depthOf : wsX12_depthOf = tk ix_wsX12_depthOf := tk_co rfl (tk_ap (rfl) (tie_wsX120))
abbrev ix_wsX12_hasOne : List Nat := 928 :: (([] : List Nat))
set_option maxRecDepth 20000 in
theorem tie_wsX12_hasOne : wsX12_hasOne = tk ix_wsX12_hasOne := tk_co rfl (rfl)
abbrev ix_wsX12_hasTwo : List Nat := 931 :: (([] : List Nat))
set_option maxRecDepth 20000 in
theorem tie_wsX12_hasTwo : wsX12_hasTwo = tk ix_wsX12_hasTwo := tk_co rfl (rfl)
abbrev ix_wsX12_depth_r1 : List Nat := [142, 906, 907, 908, 5, 909, 817, 247, 248, 249, 922, 923, 924, 925, 135, 136, 137, 445, 446, 447, 448, 926, 927, 928]
set_option maxRecDepth 20000 in
theorem tie_wsX12_depth_r1 : wsX12_depth_r1 = tk ix_wsX12_depth_r1 := rfl
abbrev ix_wsX12_depth_r2 : List Nat := [929, 930, 931, 932, 933, 934]
set_option maxRecDepth 20000 in
theorem tie_wsX12_depth_r2 : wsX12_depth_r2 = tk ix_wsX12_depth_r2 := rfl
abbrev ix_wsX12_depth : List Nat := 921 :: (((ix_wsX12_depth_r1) ++ (ix_wsX12_depth_r2)) ++ (ix_wsX120))
set_option maxRecDepth 20000 in
theorem tie_wsX12_depth : wsX12_depth = tk ix_wsX12_depth := tk_co rfl (tk_ap (tk_ap (tie_wsX12_depth_r1) (tie_wsX12_depth_r2)) (tie_wsX120))
abbrev ix_wsX12_isRefusedNode_r1 : List Nat := [135, 138, 136, 137, 1089, 1090, 1091, 5, 1092, 1093, 1094, 1095, 1096, 1097, 125, 441, 442, 443, 444, 445, 446, 447, 448, 250]
set_option maxRecDepth 20000 in
theorem tie_wsX12_isRefusedNode_r1 : wsX12_isRefusedNode_r1 = tk ix_wsX12_isRefusedNode_r1 := rfl
abbrev ix_wsX12_isRefusedNode_r2 : List Nat := [251, 252, 253, 498, 499, 500, 926, 927, 928, 1085, 1086, 1087, 929, 930, 931]
set_option maxRecDepth 20000 in
theorem tie_wsX12_isRefusedNode_r2 : wsX12_isRefusedNode_r2 = tk ix_wsX12_isRefusedNode_r2 := rfl
abbrev ix_wsX12_isRefusedNode : List Nat := 1088 :: (((ix_wsX12_isRefusedNode_r1) ++ (ix_wsX12_isRefusedNode_r2)) ++ (ix_wsX120))
set_option maxRecDepth 20000 in
theorem tie_wsX12_isRefusedNode : wsX12_isRefusedNode = tk ix_wsX12_isRefusedNode := tk_co rfl (tk_ap (tk_ap (tie_wsX12_isRefusedNode_r1) (tie_wsX12_isRefusedNode_r2)) (tie_wsX120))
abbrev ix_wsX12_find_r1 : List Nat := [135, 497, 496, 138, 437, 438, 439, 5, 440, 125, 334, 335, 336, 337, 338, 339, 340, 250, 251, 252, 253, 441, 442, 443]
set_option maxRecDepth 20000 in
theorem tie_wsX12_find_r1 : wsX12_find_r1 = tk ix_wsX12_find_r1 := rfl
abbrev ix_wsX12_find_r2 : List Nat := [444, 445, 446, 447, 448, 492, 493, 494, 495, 498, 499, 500, 1102, 1103, 1104, 1105, 1110, 1111, 1112, 1113, 1114, 131, 1115, 1116]
set_option maxRecDepth 20000 in
theorem tie_wsX12_find_r2 : wsX12_find_r2 = tk ix_wsX12_find_r2 := rfl
abbrev ix_wsX12_find_r3 : List Nat := [1117, 1118, 1119, 1120, 1121, 1122, 130, 1123, 1124, 1125, 1126, 1127, 1128, 1129, 1130, 1131, 1132, 1133, 1134, 1135, 1136, 1137, 1138, 1139]
set_option maxRecDepth 20000 in
theorem tie_wsX12_find_r3 : wsX12_find_r3 = tk ix_wsX12_find_r3 := rfl
