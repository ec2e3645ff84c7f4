abbrev ix_wsX12_find_r4 : List Nat := [1140, 1141, 1142, 1143, 1144, 1145, 1146, 1147, 132, 133, 184, 185, 186, 187, 1094, 1095, 1096, 1097, 1148, 1149, 1150, 1151, 134, 374]
set_option maxRecDepth 20000 in
theorem tie_wsX12_find_r4 : wsX12_find_r4 = tk ix_wsX12_find_r4 := rfl
abbrev ix_wsX12_find_r5 : List Nat := [375, 376, 377, 354, 355, 356, 357, 330, 331, 332, 333, 1152, 1153, 1154, 1155, 1156, 1157, 1158, 1159, 1160, 1161, 1162, 1163]
set_option maxRecDepth 20000 in
theorem tie_wsX12_find_r5 : wsX12_find_r5 = tk ix_wsX12_find_r5 := rfl
abbrev ix_wsX12_find : List Nat := 1109 :: (((ix_wsX12_find_r1) ++ ((ix_wsX12_find_r2) ++ ((ix_wsX12_find_r3) ++ ((ix_wsX12_find_r4) ++ (ix_wsX12_find_r5))))) ++ (ix_wsX120))
set_option maxRecDepth 20000 in
theorem tie_wsX12_find : wsX12_find = tk ix_wsX12_find := tk_co rfl (tk_ap (tk_ap (tie_wsX12_find_r1) (tk_ap (tie_wsX12_find_r2) (tk_ap (tie_wsX12_find_r3) (tk_ap (tie_wsX12_find_r4) (tie_wsX12_find_r5))))) (tie_wsX120))
abbrev ix_wsX12_setOf_r1 : List Nat := [135, 125, 138, 136, 137, 139, 1102, 1103, 1104, 5, 1105, 334, 335, 336, 1098, 1099, 1100, 929, 930, 931, 932, 933, 934, 247]
set_option maxRecDepth 20000 in
theorem tie_wsX12_setOf_r1 : wsX12_setOf_r1 = tk ix_wsX12_setOf_r1 := rfl
abbrev ix_wsX12_setOf_r2 : List Nat := [248, 249, 1106, 1107, 1108, 1109, 497, 496, 437, 438, 439, 440, 337, 338, 339, 340, 250, 251, 252, 253, 441, 442, 443, 444]
set_option maxRecDepth 20000 in
theorem tie_wsX12_setOf_r2 : wsX12_setOf_r2 = tk ix_wsX12_setOf_r2 := rfl
abbrev ix_wsX12_setOf_r3 : List Nat := [445, 446, 447, 448, 492, 493, 494, 495, 498, 499, 500, 1110, 1111, 1112, 1113, 1114, 131, 1115, 1116, 1117, 1118, 1119, 1120, 1121]
set_option maxRecDepth 20000 in
theorem tie_wsX12_setOf_r3 : wsX12_setOf_r3 = tk ix_wsX12_setOf_r3 := rfl
abbrev ix_wsX12_setOf_r4 : List Nat := [1122, 130, 1123, 1124, 1125, 1126, 1127, 1128, 1129, 1130, 1131, 1132, 1133, 1134, 1135, 1136, 1137, 1138, 1139, 1140, 1141, 1142, 1143, 1144]
set_option maxRecDepth 20000 in
theorem tie_wsX12_setOf_r4 : wsX12_setOf_r4 = tk ix_wsX12_setOf_r4 := rfl
abbrev ix_wsX12_setOf_r5 : List Nat := [1145, 1146, 1147, 132, 133, 184, 185, 186, 187, 1094, 1095, 1096, 1097, 1148, 1149, 1150, 1151, 134, 374, 375, 376, 377, 354, 355]
set_option maxRecDepth 20000 in
theorem tie_wsX12_setOf_r5 : wsX12_setOf_r5 = tk ix_wsX12_setOf_r5 := rfl
abbrev ix_wsX12_setOf_r6 : List Nat := [356, 357, 330, 331, 332, 333, 1152, 1153, 1154, 1155, 1156, 1157, 1158, 1159, 1160, 1161, 1162, 1163, 1164, 1165, 1166, 1167, 141, 140]
set_option maxRecDepth 20000 in
theorem tie_wsX12_setOf_r6 : wsX12_setOf_r6 = tk ix_wsX12_setOf_r6 := rfl
abbrev ix_wsX12_setOf : List Nat := 1101 :: (((ix_wsX12_setOf_r1) ++ ((ix_wsX12_setOf_r2) ++ ((ix_wsX12_setOf_r3) ++ ((ix_wsX12_setOf_r4) ++ ((ix_wsX12_setOf_r5) ++ (ix_wsX12_setOf_r6)))))) ++ (ix_wsX120))
set_option maxRecDepth 20000 in
theorem tie_wsX12_setOf : wsX12_setOf = tk ix_wsX12_setOf := tk_co rfl (tk_ap (tk_ap (tie_wsX12_setOf_r1) (tk_ap (tie_wsX12_setOf_r2) (tk_ap (tie_wsX12_setOf_r3) (tk_ap (tie_wsX12_setOf_r4) (tk_ap (tie_wsX12_setOf_r5) (tie_wsX12_setOf_r6)))))) (tie_wsX120))
abbrev ix_wsX12_fulfils : List Nat := 1167 :: (([496, 141, 497, 140, 139]) ++ (ix_wsX120))
set_option maxRecDepth 20000 in
theorem tie_wsX12_fulfils : wsX12_fulfils = tk ix_wsX12_fulfils := tk_co rfl (tk_ap (rfl) (tie_wsX120))
abbrev ix_wsX12_holdsIn_r1 : List Nat := [142, 906, 907, 908, 5, 909, 817, 247, 248, 249, 1085, 1086, 1087, 1088, 135, 138, 136, 137, 1089, 1090, 1091, 1092, 1093, 1094]
set_option maxRecDepth 20000 in
theorem tie_wsX12_holdsIn_r1 : wsX12_holdsIn_r1 = tk ix_wsX12_holdsIn_r1 := rfl
abbrev ix_wsX12_holdsIn_r2 : List Nat := [1095, 1096, 1097, 125, 441, 442, 443, 444, 445, 446, 447, 448, 250, 251, 252, 253, 498, 499, 500, 926, 927, 928, 929, 930]
set_option maxRecDepth 20000 in
theorem tie_wsX12_holdsIn_r2 : wsX12_holdsIn_r2 = tk ix_wsX12_holdsIn_r2 := rfl
abbrev ix_wsX12_holdsIn_r3 : List Nat := [931, 1098, 1099, 1100, 1101, 139, 1102, 1103, 1104, 1105, 334, 335, 336, 932, 933, 934, 1106, 1107, 1108, 1109, 497, 496, 437, 438]
set_option maxRecDepth 20000 in
theorem tie_wsX12_holdsIn_r3 : wsX12_holdsIn_r3 = tk ix_wsX12_holdsIn_r3 := rfl
abbrev ix_wsX12_holdsIn_r4 : List Nat := [439, 440, 337, 338, 339, 340, 492, 493, 494, 495, 1110, 1111, 1112, 1113, 1114, 131, 1115, 1116, 1117, 1118, 1119, 1120, 1121, 1122]
set_option maxRecDepth 20000 in
theorem tie_wsX12_holdsIn_r4 : wsX12_holdsIn_r4 = tk ix_wsX12_holdsIn_r4 := rfl
abbrev ix_wsX12_holdsIn_r5 : List Nat := [130, 1123, 1124, 1125, 1126, 1127, 1128, 1129, 1130, 1131, 1132, 1133, 1134, 1135, 1136, 1137, 1138, 1139, 1140, 1141, 1142, 1143, 1144, 1145]
set_option maxRecDepth 20000 in
theorem tie_wsX12_holdsIn_r5 : wsX12_holdsIn_r5 = tk ix_wsX12_holdsIn_r5 := rfl
abbrev ix_wsX12_holdsIn_r6 : List Nat := [1146, 1147, 132, 133, 184, 185, 186, 187, 1148, 1149, 1150, 1151, 134, 374, 375, 376, 377, 354, 355, 356, 357, 330, 331, 332]
set_option maxRecDepth 20000 in
theorem tie_wsX12_holdsIn_r6 : wsX12_holdsIn_r6 = tk ix_wsX12_holdsIn_r6 := rfl
abbrev ix_wsX12_holdsIn_r7 : List Nat := [333, 1152, 1153, 1154, 1155, 1156, 1157, 1158, 1159, 1160, 1161, 1162, 1163, 1164, 1165, 1166, 1167, 141, 140]
set_option maxRecDepth 20000 in
theorem tie_wsX12_holdsIn_r7 : wsX12_holdsIn_r7 = tk ix_wsX12_holdsIn_r7 := rfl
abbrev ix_wsX12_holdsIn : List Nat := 1084 :: (((ix_wsX12_holdsIn_r1) ++ ((ix_wsX12_holdsIn_r2) ++ ((ix_wsX12_holdsIn_r3) ++ ((ix_wsX12_holdsIn_r4) ++ ((ix_wsX12_holdsIn_r5) ++ ((ix_wsX12_holdsIn_r6) ++ (ix_wsX12_holdsIn_r7))))))) ++ (ix_wsX120))
set_option maxRecDepth 20000 in
theorem tie_wsX12_holdsIn : wsX12_holdsIn = tk ix_wsX12_holdsIn := tk_co rfl (tk_ap (tk_ap (tie_wsX12_holdsIn_r1) (tk_ap (tie_wsX12_holdsIn_r2) (tk_ap (tie_wsX12_holdsIn_r3) (tk_ap (tie_wsX12_holdsIn_r4) (tk_ap (tie_wsX12_holdsIn_r5) (tk_ap (tie_wsX12_holdsIn_r6) (tie_wsX12_holdsIn_r7))))))) (tie_wsX120))
abbrev ix_wsX12_holds_r1 : List Nat := [142, 906, 907, 908, 5, 909, 817, 247, 248, 249, 243, 244, 245, 246, 125, 1085, 1086, 1087, 1088, 135, 138, 136, 137, 1089]
set_option maxRecDepth 20000 in
theorem tie_wsX12_holds_r1 : wsX12_holds_r1 = tk ix_wsX12_holds_r1 := rfl
abbrev ix_wsX12_holds_r2 : List Nat := [1090, 1091, 1092, 1093, 1094, 1095, 1096, 1097, 441, 442, 443, 444, 445, 446, 447, 448, 250, 251, 252, 253, 498, 499, 500, 926]
set_option maxRecDepth 20000 in
theorem tie_wsX12_holds_r2 : wsX12_holds_r2 = tk ix_wsX12_holds_r2 := rfl
abbrev ix_wsX12_holds_r3 : List Nat := [927, 928, 929, 930, 931, 1098, 1099, 1100, 1101, 139, 1102, 1103, 1104, 1105, 334, 335, 336, 932, 933, 934, 1106, 1107, 1108, 1109]
set_option maxRecDepth 20000 in
theorem tie_wsX12_holds_r3 : wsX12_holds_r3 = tk ix_wsX12_holds_r3 := rfl
abbrev ix_wsX12_holds_r4 : List Nat := [497, 496, 437, 438, 439, 440, 337, 338, 339, 340, 492, 493, 494, 495, 1110, 1111, 1112, 1113, 1114, 131, 1115, 1116, 1117, 1118]
set_option maxRecDepth 20000 in
theorem tie_wsX12_holds_r4 : wsX12_holds_r4 = tk ix_wsX12_holds_r4 := rfl
abbrev ix_wsX12_holds_r5 : List Nat := [1119, 1120, 1121, 1122, 130, 1123, 1124, 1125, 1126, 1127, 1128, 1129, 1130, 1131, 1132, 1133, 1134, 1135, 1136, 1137, 1138, 1139, 1140, 1141]
set_option maxRecDepth 20000 in
theorem tie_wsX12_holds_r5 : wsX12_holds_r5 = tk ix_wsX12_holds_r5 := rfl
abbrev ix_wsX12_holds_r6 : List Nat := [1142, 1143, 1144, 1145, 1146, 1147, 132, 133, 184, 185, 186, 187, 1148, 1149, 1150, 1151, 134, 374, 375, 376, 377, 354, 355, 356]
set_option maxRecDepth 20000 in
theorem tie_wsX12_holds_r6 : wsX12_holds_r6 = tk ix_wsX12_holds_r6 := rfl
abbrev ix_wsX12_holds_r7 : List Nat := [357, 330, 331, 332, 333, 1152, 1153, 1154, 1155, 1156, 1157, 1158, 1159, 1160, 1161, 1162, 1163, 1164, 1165, 1166, 1167, 141, 140]
set_option maxRecDepth 20000 in
theorem tie_wsX12_holds_r7 : wsX12_holds_r7 = tk ix_wsX12_holds_r7 := rfl
abbrev ix_wsX12_holds : List Nat := 1176 :: (((ix_wsX12_holds_r1) ++ ((ix_wsX12_holds_r2) ++ ((ix_wsX12_holds_r3) ++ ((ix_wsX12_holds_r4) ++ ((ix_wsX12_holds_r5) ++ ((ix_wsX12_holds_r6) ++ (ix_wsX12_holds_r7))))))) ++ (ix_wsX120))
set_option maxRecDepth 20000 in
theorem tie_wsX12_holds : wsX12_holds = tk ix_wsX12_holds := tk_co rfl (tk_ap (tk_ap (tie_wsX12_holds_r1) (tk_ap (tie_wsX12_holds_r2) (tk_ap (tie_wsX12_holds_r3) (tk_ap (tie_wsX12_holds_r4) (tk_ap (tie_wsX12_holds_r5) (tk_ap (tie_wsX12_holds_r6) (tie_wsX12_holds_r7))))))) (tie_wsX120))
abbrev ix_wsX12_hinders_r1 : List Nat := [142, 906, 907, 908, 5, 909, 817, 247, 248, 249, 243, 244, 245, 246, 125, 489, 490, 491, 1085, 1086, 1087, 1088, 135, 138]
set_option maxRecDepth 20000 in
theorem tie_wsX12_hinders_r1 : wsX12_hinders_r1 = tk ix_wsX12_hinders_r1 := rfl
abbrev ix_wsX12_hinders_r2 : List Nat := [136, 137, 1089, 1090, 1091, 1092, 1093, 1094, 1095, 1096, 1097, 441, 442, 443, 444, 445, 446, 447, 448, 250, 251, 252, 253, 498]
set_option maxRecDepth 20000 in
theorem tie_wsX12_hinders_r2 : wsX12_hinders_r2 = tk ix_wsX12_hinders_r2 := rfl
abbrev ix_wsX12_hinders_r3 : List Nat := [499, 500, 926, 927, 928, 929, 930, 931]
set_option maxRecDepth 20000 in
theorem tie_wsX12_hinders_r3 : wsX12_hinders_r3 = tk ix_wsX12_hinders_r3 := rfl
abbrev ix_wsX12_hinders : List Nat := 1188 :: (((ix_wsX12_hinders_r1) ++ ((ix_wsX12_hinders_r2) ++ (ix_wsX12_hinders_r3))) ++ (ix_wsX120))
set_option maxRecDepth 20000 in
theorem tie_wsX12_hinders : wsX12_hinders = tk ix_wsX12_hinders := tk_co rfl (tk_ap (tk_ap (tie_wsX12_hinders_r1) (tk_ap (tie_wsX12_hinders_r2) (tie_wsX12_hinders_r3))) (tie_wsX120))
abbrev ix_wsX12_next_r1 : List Nat := [142, 1185, 1186, 1187, 5, 1188, 906, 907, 908, 909, 817, 247, 248, 249, 243, 244, 245, 246, 125, 489, 490, 491, 1085, 1086]
set_option maxRecDepth 20000 in
theorem tie_wsX12_next_r1 : wsX12_next_r1 = tk ix_wsX12_next_r1 := rfl
abbrev ix_wsX12_next_r2 : List Nat := [1087, 1088, 135, 138, 136, 137, 1089, 1090, 1091, 1092, 1093, 1094, 1095, 1096, 1097, 441, 442, 443, 444, 445, 446, 447, 448, 250]
set_option maxRecDepth 20000 in
theorem tie_wsX12_next_r2 : wsX12_next_r2 = tk ix_wsX12_next_r2 := rfl
abbrev ix_wsX12_next_r3 : List Nat := [251, 252, 253, 498, 499, 500, 926, 927, 928, 929, 930, 931, 1098, 1099, 1100, 1101, 139, 1102, 1103, 1104, 1105, 334, 335, 336]
set_option maxRecDepth 20000 in
theorem tie_wsX12_next_r3 : wsX12_next_r3 = tk ix_wsX12_next_r3 := rfl
abbrev ix_wsX12_next_r4 : List Nat := [932, 933, 934, 1106, 1107, 1108, 1109, 497, 496, 437, 438, 439, 440, 337, 338, 339, 340, 492, 493, 494, 495, 1110, 1111, 1112]
set_option maxRecDepth 20000 in
theorem tie_wsX12_next_r4 : wsX12_next_r4 = tk ix_wsX12_next_r4 := rfl
abbrev ix_wsX12_next_r5 : List Nat := [1113, 1114, 131, 1115, 1116, 1117, 1118, 1119, 1120, 1121, 1122, 130, 1123, 1124, 1125, 1126, 1127, 1128, 1129, 1130, 1131, 1132, 1133, 1134]
set_option maxRecDepth 20000 in
theorem tie_wsX12_next_r5 : wsX12_next_r5 = tk ix_wsX12_next_r5 := rfl
abbrev ix_wsX12_next_r6 : List Nat := [1135, 1136, 1137, 1138, 1139, 1140, 1141, 1142, 1143, 1144, 1145, 1146, 1147, 132, 133, 184, 185, 186, 187, 1148, 1149, 1150, 1151, 134]
set_option maxRecDepth 20000 in
theorem tie_wsX12_next_r6 : wsX12_next_r6 = tk ix_wsX12_next_r6 := rfl
abbrev ix_wsX12_next_r7 : List Nat := [374, 375, 376, 377, 354, 355, 356, 357, 330, 331, 332, 333, 1152, 1153, 1154, 1155, 1156, 1157, 1158, 1159, 1160, 1161, 1162, 1163]
set_option maxRecDepth 20000 in
theorem tie_wsX12_next_r7 : wsX12_next_r7 = tk ix_wsX12_next_r7 := rfl
abbrev ix_wsX12_next_r8 : List Nat := [1164, 1165, 1166, 1167, 141, 140, 501, 502, 503, 504]
set_option maxRecDepth 20000 in
theorem tie_wsX12_next_r8 : wsX12_next_r8 = tk ix_wsX12_next_r8 := rfl
abbrev ix_wsX12_next : List Nat := 1184 :: (((ix_wsX12_next_r1) ++ ((ix_wsX12_next_r2) ++ ((ix_wsX12_next_r3) ++ ((ix_wsX12_next_r4) ++ ((ix_wsX12_next_r5) ++ ((ix_wsX12_next_r6) ++ ((ix_wsX12_next_r7) ++ (ix_wsX12_next_r8)))))))) ++ (ix_wsX120))
set_option maxRecDepth 20000 in
theorem tie_wsX12_next : wsX12_next = tk ix_wsX12_next := tk_co rfl (tk_ap (tk_ap (tie_wsX12_next_r1) (tk_ap (tie_wsX12_next_r2) (tk_ap (tie_wsX12_next_r3) (tk_ap (tie_wsX12_next_r4) (tk_ap (tie_wsX12_next_r5) (tk_ap (tie_wsX12_next_r6) (tk_ap (tie_wsX12_next_r7) (tie_wsX12_next_r8)))))))) (tie_wsX120))
abbrev ix_wsX12_until_r1 : List Nat := [142, 1185, 1186, 1187, 5, 1188, 906, 907, 908, 909, 817, 247, 248, 249, 243, 244, 245, 246, 125, 489, 490, 491, 1085, 1086]
set_option maxRecDepth 20000 in
theorem tie_wsX12_until_r1 : wsX12_until_r1 = tk ix_wsX12_until_r1 := rfl
abbrev ix_wsX12_until_r2 : List Nat := [1087, 1088, 135, 138, 136, 137, 1089, 1090, 1091, 1092, 1093, 1094, 1095, 1096, 1097, 441, 442, 443, 444, 445, 446, 447, 448, 250]
set_option maxRecDepth 20000 in
theorem tie_wsX12_until_r2 : wsX12_until_r2 = tk ix_wsX12_until_r2 := rfl
abbrev ix_wsX12_until_r3 : List Nat := [251, 252, 253, 498, 499, 500, 926, 927, 928, 929, 930, 931, 1098, 1099, 1100, 1101, 139, 1102, 1103, 1104, 1105, 334, 335, 336]
set_option maxRecDepth 20000 in
theorem tie_wsX12_until_r3 : wsX12_until_r3 = tk ix_wsX12_until_r3 := rfl
abbrev ix_wsX12_until_r4 : List Nat := [932, 933, 934, 1106, 1107, 1108, 1109, 497, 496, 437, 438, 439, 440, 337, 338, 339, 340, 492, 493, 494, 495, 1110, 1111, 1112]
set_option maxRecDepth 20000 in
theorem tie_wsX12_until_r4 : wsX12_until_r4 = tk ix_wsX12_until_r4 := rfl
abbrev ix_wsX12_until_r5 : List Nat := [1113, 1114, 131, 1115, 1116, 1117, 1118, 1119, 1120, 1121, 1122, 130, 1123, 1124, 1125, 1126, 1127, 1128, 1129, 1130, 1131, 1132, 1133, 1134]
set_option maxRecDepth 20000 in
theorem tie_wsX12_until_r5 : wsX12_until_r5 = tk ix_wsX12_until_r5 := rfl
abbrev ix_wsX12_until_r6 : List Nat := [1135, 1136, 1137, 1138, 1139, 1140, 1141, 1142, 1143, 1144, 1145, 1146, 1147, 132, 133, 184, 185, 186, 187, 1148, 1149, 1150, 1151, 134]
set_option maxRecDepth 20000 in
theorem tie_wsX12_until_r6 : wsX12_until_r6 = tk ix_wsX12_until_r6 := rfl
abbrev ix_wsX12_until_r7 : List Nat := [374, 375, 376, 377, 354, 355, 356, 357, 330, 331, 332, 333, 1152, 1153, 1154, 1155, 1156, 1157, 1158, 1159, 1160, 1161, 1162, 1163]
set_option maxRecDepth 20000 in
theorem tie_wsX12_until_r7 : wsX12_until_r7 = tk ix_wsX12_until_r7 := rfl
abbrev ix_wsX12_until_r8 : List Nat := [1164, 1165, 1166, 1167, 141, 140, 501, 502, 503, 504]
set_option maxRecDepth 20000 in
theorem tie_wsX12_until_r8 : wsX12_until_r8 = tk ix_wsX12_until_r8 := rfl
abbrev ix_wsX12_until : List Nat := 1197 :: (((ix_wsX12_until_r1) ++ ((ix_wsX12_until_r2) ++ ((ix_wsX12_until_r3) ++ ((ix_wsX12_until_r4) ++ ((ix_wsX12_until_r5) ++ ((ix_wsX12_until_r6) ++ ((ix_wsX12_until_r7) ++ (ix_wsX12_until_r8)))))))) ++ (ix_wsX120))
set_option maxRecDepth 20000 in
theorem tie_wsX12_until : wsX12_until = tk ix_wsX12_until := tk_co rfl (tk_ap (tk_ap (tie_wsX12_until_r1) (tk_ap (tie_wsX12_until_r2) (tk_ap (tie_wsX12_until_r3) (tk_ap (tie_wsX12_until_r4) (tk_ap (tie_wsX12_until_r5) (tk_ap (tie_wsX12_until_r6) (tk_ap (tie_wsX12_until_r7) (tie_wsX12_until_r8)))))))) (tie_wsX120))
abbrev ix_wsX12_within_r1 : List Nat := [142, 247, 248, 5, 249, 1185, 1186, 1187, 1188, 906, 907, 908, 909, 817, 243, 244, 245, 246, 125, 489, 490, 491, 1085, 1086]
set_option maxRecDepth 20000 in
theorem tie_wsX12_within_r1 : wsX12_within_r1 = tk ix_wsX12_within_r1 := rfl
abbrev ix_wsX12_within_r2 : List Nat := [1087, 1088, 135, 138, 136, 137, 1089, 1090, 1091, 1092, 1093, 1094, 1095, 1096, 1097, 441, 442, 443, 444, 445, 446, 447, 448, 250]
set_option maxRecDepth 20000 in
theorem tie_wsX12_within_r2 : wsX12_within_r2 = tk ix_wsX12_within_r2 := rfl
abbrev ix_wsX12_within_r3 : List Nat := [251, 252, 253, 498, 499, 500, 926, 927, 928, 929, 930, 931, 1098, 1099, 1100, 1101, 139, 1102, 1103, 1104, 1105, 334, 335, 336]
set_option maxRecDepth 20000 in
theorem tie_wsX12_within_r3 : wsX12_within_r3 = tk ix_wsX12_within_r3 := rfl
abbrev ix_wsX12_within_r4 : List Nat := [932, 933, 934, 1106, 1107, 1108, 1109, 497, 496, 437, 438, 439, 440, 337, 338, 339, 340, 492, 493, 494, 495, 1110, 1111, 1112]
set_option maxRecDepth 20000 in
theorem tie_wsX12_within_r4 : wsX12_within_r4 = tk ix_wsX12_within_r4 := rfl
abbrev ix_wsX12_within_r5 : List Nat := [1113, 1114, 131, 1115, 1116, 1117, 1118, 1119, 1120, 1121, 1122, 130, 1123, 1124, 1125, 1126, 1127, 1128, 1129, 1130, 1131, 1132, 1133, 1134]
set_option maxRecDepth 20000 in
theorem tie_wsX12_within_r5 : wsX12_within_r5 = tk ix_wsX12_within_r5 := rfl
abbrev ix_wsX12_within_r6 : List Nat := [1135, 1136, 1137, 1138, 1139, 1140, 1141, 1142, 1143, 1144, 1145, 1146, 1147, 132, 133, 184, 185, 186, 187, 1148, 1149, 1150, 1151, 134]
set_option maxRecDepth 20000 in
theorem tie_wsX12_within_r6 : wsX12_within_r6 = tk ix_wsX12_within_r6 := rfl
abbrev ix_wsX12_within_r7 : List Nat := [374, 375, 376, 377, 354, 355, 356, 357, 330, 331, 332, 333, 1152, 1153, 1154, 1155, 1156, 1157, 1158, 1159, 1160, 1161, 1162, 1163]
set_option maxRecDepth 20000 in
theorem tie_wsX12_within_r7 : wsX12_within_r7 = tk ix_wsX12_within_r7 := rfl
abbrev ix_wsX12_within_r8 : List Nat := [1164, 1165, 1166, 1167, 141, 140, 501, 502, 503, 504]
set_option maxRecDepth 20000 in
theorem tie_wsX12_within_r8 : wsX12_within_r8 = tk ix_wsX12_within_r8 := rfl
abbrev ix_wsX12_within : List Nat := 1207 :: (((ix_wsX12_within_r1) ++ ((ix_wsX12_within_r2) ++ ((ix_wsX12_within_r3) ++ ((ix_wsX12_within_r4) ++ ((ix_wsX12_within_r5) ++ ((ix_wsX12_within_r6) ++ ((ix_wsX12_within_r7) ++ (ix_wsX12_within_r8)))))))) ++ (ix_wsX120))
set_option maxRecDepth 20000 in
theorem tie_wsX12_within : wsX12_within = tk ix_wsX12_within := tk_co rfl (tk_ap (tk_ap (tie_wsX12_within_r1) (tk_ap (tie_wsX12_within_r2) (tk_ap (tie_wsX12_within_r3) (tk_ap (tie_wsX12_within_r4) (tk_ap (tie_wsX12_within_r5) (tk_ap (tie_wsX12_within_r6) (tk_ap (tie_wsX12_within_r7) (tie_wsX12_within_r8)))))))) (tie_wsX120))
abbrev ix_wsX12_hindersSets_r1 : List Nat := [142, 906, 907, 908, 5, 909, 817, 247, 248, 249, 1085, 1086, 1087, 1088, 135, 138, 136, 137, 1089, 1090, 1091, 1092, 1093, 1094]
set_option maxRecDepth 20000 in
theorem tie_wsX12_hindersSets_r1 : wsX12_hindersSets_r1 = tk ix_wsX12_hindersSets_r1 := rfl
abbrev ix_wsX12_hindersSets_r2 : List Nat := [1095, 1096, 1097, 125, 441, 442, 443, 444, 445, 446, 447, 448, 250, 251, 252, 253, 498, 499, 500, 926, 927, 928, 929, 930]
set_option maxRecDepth 20000 in
theorem tie_wsX12_hindersSets_r2 : wsX12_hindersSets_r2 = tk ix_wsX12_hindersSets_r2 := rfl
abbrev ix_wsX12_hindersSets_r3 : List Nat := [931]
set_option maxRecDepth 20000 in
theorem tie_wsX12_hindersSets_r3 : wsX12_hindersSets_r3 = tk ix_wsX12_hindersSets_r3 := rfl
abbrev ix_wsX12_hindersSets : List Nat := 1223 :: (((ix_wsX12_hindersSets_r1) ++ ((ix_wsX12_hindersSets_r2) ++ (ix_wsX12_hindersSets_r3))) ++ (ix_wsX120))
set_option maxRecDepth 20000 in
theorem tie_wsX12_hindersSets : wsX12_hindersSets = tk ix_wsX12_hindersSets := tk_co rfl (tk_ap (tk_ap (tie_wsX12_hindersSets_r1) (tk_ap (tie_wsX12_hindersSets_r2) (tie_wsX12_hindersSets_r3))) (tie_wsX120))
abbrev ix_wsX12_never_r1 : List Nat := [142, 1220, 1221, 1222, 5, 1223, 906, 907, 908, 909, 817, 247, 248, 249, 1085, 1086, 1087, 1088, 135, 138, 136, 137, 1089, 1090]
set_option maxRecDepth 20000 in
theorem tie_wsX12_never_r1 : wsX12_never_r1 = tk ix_wsX12_never_r1 := rfl
abbrev ix_wsX12_never_r2 : List Nat := [1091, 1092, 1093, 1094, 1095, 1096, 1097, 125, 441, 442, 443, 444, 445, 446, 447, 448, 250, 251, 252, 253, 498, 499, 500, 926]
set_option maxRecDepth 20000 in
theorem tie_wsX12_never_r2 : wsX12_never_r2 = tk ix_wsX12_never_r2 := rfl
abbrev ix_wsX12_never_r3 : List Nat := [927, 928, 929, 930, 931, 1098, 1099, 1100, 1101, 139, 1102, 1103, 1104, 1105, 334, 335, 336, 932, 933, 934, 1106, 1107, 1108, 1109]
set_option maxRecDepth 20000 in
theorem tie_wsX12_never_r3 : wsX12_never_r3 = tk ix_wsX12_never_r3 := rfl
abbrev ix_wsX12_never_r4 : List Nat := [497, 496, 437, 438, 439, 440, 337, 338, 339, 340, 492, 493, 494, 495, 1110, 1111, 1112, 1113, 1114, 131, 1115, 1116, 1117, 1118]
set_option maxRecDepth 20000 in
theorem tie_wsX12_never_r4 : wsX12_never_r4 = tk ix_wsX12_never_r4 := rfl
abbrev ix_wsX12_never_r5 : List Nat := [1119, 1120, 1121, 1122, 130, 1123, 1124, 1125, 1126, 1127, 1128, 1129, 1130, 1131, 1132, 1133, 1134, 1135, 1136, 1137, 1138, 1139, 1140, 1141]
set_option maxRecDepth 20000 in
theorem tie_wsX12_never_r5 : wsX12_never_r5 = tk ix_wsX12_never_r5 := rfl
abbrev ix_wsX12_never_r6 : List Nat := [1142, 1143, 1144, 1145, 1146, 1147, 132, 133, 184, 185, 186, 187, 1148, 1149, 1150, 1151, 134, 374, 375, 376, 377, 354, 355, 356]
set_option maxRecDepth 20000 in
theorem tie_wsX12_never_r6 : wsX12_never_r6 = tk ix_wsX12_never_r6 := rfl
abbrev ix_wsX12_never_r7 : List Nat := [357, 330, 331, 332, 333, 1152, 1153, 1154, 1155, 1156, 1157, 1158, 1159, 1160, 1161, 1162, 1163, 1164, 1165, 1166, 1167, 141, 140]
set_option maxRecDepth 20000 in
theorem tie_wsX12_never_r7 : wsX12_never_r7 = tk ix_wsX12_never_r7 := rfl
abbrev ix_wsX12_never : List Nat := 1219 :: (((ix_wsX12_never_r1) ++ ((ix_wsX12_never_r2) ++ ((ix_wsX12_never_r3) ++ ((ix_wsX12_never_r4) ++ ((ix_wsX12_never_r5) ++ ((ix_wsX12_never_r6) ++ (ix_wsX12_never_r7))))))) ++ (ix_wsX120))
set_option maxRecDepth 20000 in
theorem tie_wsX12_never : wsX12_never = tk ix_wsX12_never := tk_co rfl (tk_ap (tk_ap (tie_wsX12_never_r1) (tk_ap (tie_wsX12_never_r2) (tk_ap (tie_wsX12_never_r3) (tk_ap (tie_wsX12_never_r4) (tk_ap (tie_wsX12_never_r5) (tk_ap (tie_wsX12_never_r6) (tie_wsX12_never_r7))))))) (tie_wsX120))
abbrev ix_wsX12_surely_r1 : List Nat := [142, 1220, 1221, 1222, 5, 1223, 906, 907, 908, 909, 817, 247, 248, 249, 1085, 1086, 1087, 1088, 135, 138, 136, 137, 1089, 1090]
set_option maxRecDepth 20000 in
theorem tie_wsX12_surely_r1 : wsX12_surely_r1 = tk ix_wsX12_surely_r1 := rfl
abbrev ix_wsX12_surely_r2 : List Nat := [1091, 1092, 1093, 1094, 1095, 1096, 1097, 125, 441, 442, 443, 444, 445, 446, 447, 448, 250, 251, 252, 253, 498, 499, 500, 926]
set_option maxRecDepth 20000 in
theorem tie_wsX12_surely_r2 : wsX12_surely_r2 = tk ix_wsX12_surely_r2 := rfl
abbrev ix_wsX12_surely_r3 : List Nat := [927, 928, 929, 930, 931, 1098, 1099, 1100, 1101, 139, 1102, 1103, 1104, 1105, 334, 335, 336, 932, 933, 934, 1106, 1107, 1108, 1109]
set_option maxRecDepth 20000 in
theorem tie_wsX12_surely_r3 : wsX12_surely_r3 = tk ix_wsX12_surely_r3 := rfl
abbrev ix_wsX12_surely_r4 : List Nat := [497, 496, 437, 438, 439, 440, 337, 338, 339, 340, 492, 493, 494, 495, 1110, 1111, 1112, 1113, 1114, 131, 1115, 1116, 1117, 1118]
set_option maxRecDepth 20000 in
theorem tie_wsX12_surely_r4 : wsX12_surely_r4 = tk ix_wsX12_surely_r4 := rfl
abbrev ix_wsX12_surely_r5 : List Nat := [1119, 1120, 1121, 1122, 130, 1123, 1124, 1125, 1126, 1127, 1128, 1129, 1130, 1131, 1132, 1133, 1134, 1135, 1136, 1137, 1138, 1139, 1140, 1141]
set_option maxRecDepth 20000 in
theorem tie_wsX12_surely_r5 : wsX12_surely_r5 = tk ix_wsX12_surely_r5 := rfl
abbrev ix_wsX12_surely_r6 : List Nat := [1142, 1143, 1144, 1145, 1146, 1147, 132, 133, 184, 185, 186, 187, 1148, 1149, 1150, 1151, 134, 374, 375, 376, 377, 354, 355, 356]
set_option maxRecDepth 20000 in
theorem tie_wsX12_surely_r6 : wsX12_surely_r6 = tk ix_wsX12_surely_r6 := rfl
abbrev ix_wsX12_surely_r7 : List Nat := [357, 330, 331, 332, 333, 1152, 1153, 1154, 1155, 1156, 1157, 1158, 1159, 1160, 1161, 1162, 1163, 1164, 1165, 1166, 1167, 141, 140]
set_option maxRecDepth 20000 in
theorem tie_wsX12_surely_r7 : wsX12_surely_r7 = tk ix_wsX12_surely_r7 := rfl
abbrev ix_wsX12_surely : List Nat := 1232 :: (((ix_wsX12_surely_r1) ++ ((ix_wsX12_surely_r2) ++ ((ix_wsX12_surely_r3) ++ ((ix_wsX12_surely_r4) ++ ((ix_wsX12_surely_r5) ++ ((ix_wsX12_surely_r6) ++ (ix_wsX12_surely_r7))))))) ++ (ix_wsX120))
set_option maxRecDepth 20000 in
theorem tie_wsX12_surely : wsX12_surely = tk ix_wsX12_surely := tk_co rfl (tk_ap (tk_ap (tie_wsX12_surely_r1) (tk_ap (tie_wsX12_surely_r2) (tk_ap (tie_wsX12_surely_r3) (tk_ap (tie_wsX12_surely_r4) (tk_ap (tie_wsX12_surely_r5) (tk_ap (tie_wsX12_surely_r6) (tie_wsX12_surely_r7))))))) (tie_wsX120))
abbrev ix_wsX12_steady_r1 : List Nat := [142, 1185, 1186, 1187, 5, 1188, 906, 907, 908, 909, 817, 247, 248, 249, 243, 244, 245, 246, 125, 489, 490, 491, 1085, 1086]
set_option maxRecDepth 20000 in
theorem tie_wsX12_steady_r1 : wsX12_steady_r1 = tk ix_wsX12_steady_r1 := rfl
abbrev ix_wsX12_steady_r2 : List Nat := [1087, 1088, 135, 138, 136, 137, 1089, 1090, 1091, 1092, 1093, 1094, 1095, 1096, 1097, 441, 442, 443, 444, 445, 446, 447, 448, 250]
set_option maxRecDepth 20000 in
theorem tie_wsX12_steady_r2 : wsX12_steady_r2 = tk ix_wsX12_steady_r2 := rfl
abbrev ix_wsX12_steady_r3 : List Nat := [251, 252, 253, 498, 499, 500, 926, 927, 928, 929, 930, 931, 1098, 1099, 1100, 1101, 139, 1102, 1103, 1104, 1105, 334, 335, 336]
set_option maxRecDepth 20000 in
theorem tie_wsX12_steady_r3 : wsX12_steady_r3 = tk ix_wsX12_steady_r3 := rfl
abbrev ix_wsX12_steady_r4 : List Nat := [932, 933, 934, 1106, 1107, 1108, 1109, 497, 496, 437, 438, 439, 440, 337, 338, 339, 340, 492, 493, 494, 495, 1110, 1111, 1112]
set_option maxRecDepth 20000 in
theorem tie_wsX12_steady_r4 : wsX12_steady_r4 = tk ix_wsX12_steady_r4 := rfl
abbrev ix_wsX12_steady_r5 : List Nat := [1113, 1114, 131, 1115, 1116, 1117, 1118, 1119, 1120, 1121, 1122, 130, 1123, 1124, 1125, 1126, 1127, 1128, 1129, 1130, 1131, 1132, 1133, 1134]
set_option maxRecDepth 20000 in
theorem tie_wsX12_steady_r5 : wsX12_steady_r5 = tk ix_wsX12_steady_r5 := rfl
abbrev ix_wsX12_steady_r6 : List Nat := [1135, 1136, 1137, 1138, 1139, 1140, 1141, 1142, 1143, 1144, 1145, 1146, 1147, 132, 133, 184, 185, 186, 187, 1148, 1149, 1150, 1151, 134]
set_option maxRecDepth 20000 in
theorem tie_wsX12_steady_r6 : wsX12_steady_r6 = tk ix_wsX12_steady_r6 := rfl
abbrev ix_wsX12_steady_r7 : List Nat := [374, 375, 376, 377, 354, 355, 356, 357, 330, 331, 332, 333, 1152, 1153, 1154, 1155, 1156, 1157, 1158, 1159, 1160, 1161, 1162, 1163]
set_option maxRecDepth 20000 in
theorem tie_wsX12_steady_r7 : wsX12_steady_r7 = tk ix_wsX12_steady_r7 := rfl
abbrev ix_wsX12_steady_r8 : List Nat := [1164, 1165, 1166, 1167, 141, 140, 501, 502, 503, 504]
set_option maxRecDepth 20000 in
theorem tie_wsX12_steady_r8 : wsX12_steady_r8 = tk ix_wsX12_steady_r8 := rfl
abbrev ix_wsX12_steady : List Nat := 1241 :: (((ix_wsX12_steady_r1) ++ ((ix_wsX12_steady_r2) ++ ((ix_wsX12_steady_r3) ++ ((ix_wsX12_steady_r4) ++ ((ix_wsX12_steady_r5) ++ ((ix_wsX12_steady_r6) ++ ((ix_wsX12_steady_r7) ++ (ix_wsX12_steady_r8)))))))) ++ (ix_wsX120))
set_option maxRecDepth 20000 in
theorem tie_wsX12_steady : wsX12_steady = tk ix_wsX12_steady := tk_co rfl (tk_ap (tk_ap (tie_wsX12_steady_r1) (tk_ap (tie_wsX12_steady_r2) (tk_ap (tie_wsX12_steady_r3) (tk_ap (tie_wsX12_steady_r4) (tk_ap (tie_wsX12_steady_r5) (tk_ap (tie_wsX12_steady_r6) (tk_ap (tie_wsX12_steady_r7) (tie_wsX12_steady_r8)))))))) (tie_wsX120))
abbrev ix_wsX12_share_r1 : List Nat := [488, 243, 244, 245, 5, 246, 125, 247, 248, 249, 489, 490, 491, 1148, 1149, 1150, 1151, 496, 497, 134, 374, 375, 376, 377]
set_option maxRecDepth 20000 in
theorem tie_wsX12_share_r1 : wsX12_share_r1 = tk ix_wsX12_share_r1 := rfl
abbrev ix_wsX12_share_r2 : List Nat := [354, 355, 356, 357, 330, 331, 332, 333, 334, 335, 336, 337, 338, 339, 340, 250, 251, 252, 253, 1102, 1103, 1104, 1105, 1110]
set_option maxRecDepth 20000 in
theorem tie_wsX12_share_r2 : wsX12_share_r2 = tk ix_wsX12_share_r2 := rfl
abbrev ix_wsX12_share_r3 : List Nat := [1111, 1112, 1113, 1114, 131, 1115, 1116, 1117, 1118, 437, 438, 439, 440, 492, 493, 494, 495, 498, 499, 500, 1119, 1120, 1121, 1122]
set_option maxRecDepth 20000 in
theorem tie_wsX12_share_r3 : wsX12_share_r3 = tk ix_wsX12_share_r3 := rfl
abbrev ix_wsX12_share_r4 : List Nat := [130, 441, 442, 443, 444, 445, 446, 447, 448, 1123, 1124, 1125, 1126, 1127, 1128, 1129, 1130, 1131, 1132, 1133, 1134, 1135, 1136, 1137]
set_option maxRecDepth 20000 in
theorem tie_wsX12_share_r4 : wsX12_share_r4 = tk ix_wsX12_share_r4 := rfl
abbrev ix_wsX12_share_r5 : List Nat := [1138, 1139, 1140, 1141, 1142, 1143, 1152, 1153, 1154, 1155, 501, 502, 503, 504]
set_option maxRecDepth 20000 in
theorem tie_wsX12_share_r5 : wsX12_share_r5 = tk ix_wsX12_share_r5 := rfl
abbrev ix_wsX12_share : List Nat := 1249 :: (((ix_wsX12_share_r1) ++ ((ix_wsX12_share_r2) ++ ((ix_wsX12_share_r3) ++ ((ix_wsX12_share_r4) ++ (ix_wsX12_share_r5))))) ++ (ix_wsX120))
set_option maxRecDepth 20000 in
theorem tie_wsX12_share : wsX12_share = tk ix_wsX12_share := tk_co rfl (tk_ap (tk_ap (tie_wsX12_share_r1) (tk_ap (tie_wsX12_share_r2) (tk_ap (tie_wsX12_share_r3) (tk_ap (tie_wsX12_share_r4) (tie_wsX12_share_r5))))) (tie_wsX120))
abbrev ix_wsX12_expected_r1 : List Nat := [142, 1264, 1185, 1186, 1187, 5, 1188, 906, 907, 908, 909, 817, 247, 248, 249, 243, 244, 245, 246, 125, 489, 490, 491, 1085]
set_option maxRecDepth 20000 in
theorem tie_wsX12_expected_r1 : wsX12_expected_r1 = tk ix_wsX12_expected_r1 := rfl
abbrev ix_wsX12_expected_r2 : List Nat := [1086, 1087, 1088, 135, 138, 136, 137, 1089, 1090, 1091, 1092, 1093, 1094, 1095, 1096, 1097, 441, 442, 443, 444, 445, 446, 447, 448]
set_option maxRecDepth 20000 in
theorem tie_wsX12_expected_r2 : wsX12_expected_r2 = tk ix_wsX12_expected_r2 := rfl
abbrev ix_wsX12_expected_r3 : List Nat := [250, 251, 252, 253, 498, 499, 500, 926, 927, 928, 929, 930, 931, 1098, 1099, 1100, 1101, 139, 1102, 1103, 1104, 1105, 334, 335]
set_option maxRecDepth 20000 in
theorem tie_wsX12_expected_r3 : wsX12_expected_r3 = tk ix_wsX12_expected_r3 := rfl
abbrev ix_wsX12_expected_r4 : List Nat := [336, 932, 933, 934, 1106, 1107, 1108, 1109, 497, 496, 437, 438, 439, 440, 337, 338, 339, 340, 492, 493, 494, 495, 1110, 1111]
set_option maxRecDepth 20000 in
theorem tie_wsX12_expected_r4 : wsX12_expected_r4 = tk ix_wsX12_expected_r4 := rfl
abbrev ix_wsX12_expected_r5 : List Nat := [1112, 1113, 1114, 131, 1115, 1116, 1117, 1118, 1119, 1120, 1121, 1122, 130, 1123, 1124, 1125, 1126, 1127, 1128, 1129, 1130, 1131, 1132, 1133]
set_option maxRecDepth 20000 in
theorem tie_wsX12_expected_r5 : wsX12_expected_r5 = tk ix_wsX12_expected_r5 := rfl
abbrev ix_wsX12_expected_r6 : List Nat := [1134, 1135, 1136, 1137, 1138, 1139, 1140, 1141, 1142, 1143, 1144, 1145, 1146, 1147, 132, 133, 184, 185, 186, 187, 1148, 1149, 1150, 1151]
set_option maxRecDepth 20000 in
theorem tie_wsX12_expected_r6 : wsX12_expected_r6 = tk ix_wsX12_expected_r6 := rfl
abbrev ix_wsX12_expected_r7 : List Nat := [134, 374, 375, 376, 377, 354, 355, 356, 357, 330, 331, 332, 333, 1152, 1153, 1154, 1155, 1156, 1157, 1158, 1159, 1160, 1161, 1162]
set_option maxRecDepth 20000 in
theorem tie_wsX12_expected_r7 : wsX12_expected_r7 = tk ix_wsX12_expected_r7 := rfl
abbrev ix_wsX12_expected_r8 : List Nat := [1163, 1164, 1165, 1166, 1167, 141, 140, 501, 502, 503, 504]
set_option maxRecDepth 20000 in
theorem tie_wsX12_expected_r8 : wsX12_expected_r8 = tk ix_wsX12_expected_r8 := rfl
abbrev ix_wsX12_expected : List Nat := 1263 :: (((ix_wsX12_expected_r1) ++ ((ix_wsX12_expected_r2) ++ ((ix_wsX12_expected_r3) ++ ((ix_wsX12_expected_r4) ++ ((ix_wsX12_expected_r5) ++ ((ix_wsX12_expected_r6) ++ ((ix_wsX12_expected_r7) ++ (ix_wsX12_expected_r8)))))))) ++ (ix_wsX120))
set_option maxRecDepth 20000 in
theorem tie_wsX12_expected : wsX12_expected = tk ix_wsX12_expected := tk_co rfl (tk_ap (tk_ap (tie_wsX12_expected_r1) (tk_ap (tie_wsX12_expected_r2) (tk_ap (tie_wsX12_expected_r3) (tk_ap (tie_wsX12_expected_r4) (tk_ap (tie_wsX12_expected_r5) (tk_ap (tie_wsX12_expected_r6) (tk_ap (tie_wsX12_expected_r7) (tie_wsX12_expected_r8)))))))) (tie_wsX120))
abbrev ix_wsX12_compared : List Nat := 1311 :: (([147, 148, 149, 337, 338, 339, 5, 340, 125, 250, 251, 252, 253, 441, 442, 443, 444, 445, 446, 447, 448]) ++ (ix_wsX120))
set_option maxRecDepth 20000 in
theorem tie_wsX12_compared : wsX12_compared = tk ix_wsX12_compared := tk_co rfl (tk_ap (rfl) (tie_wsX120))
abbrev ix_wsX12_findBest_r1 : List Nat := [125, 147, 148, 149, 496, 497, 334, 335, 5, 336, 337, 338, 339, 340, 250, 251, 252, 253, 1308, 1309, 1310, 1311, 441, 442]
set_option maxRecDepth 20000 in
theorem tie_wsX12_findBest_r1 : wsX12_findBest_r1 = tk ix_wsX12_findBest_r1 := rfl
abbrev ix_wsX12_findBest_r2 : List Nat := [443, 444, 445, 446, 447, 448, 492, 493, 494, 495, 498, 499, 500]
set_option maxRecDepth 20000 in
theorem tie_wsX12_findBest_r2 : wsX12_findBest_r2 = tk ix_wsX12_findBest_r2 := rfl
abbrev ix_wsX12_findBest : List Nat := 1307 :: (((ix_wsX12_findBest_r1) ++ (ix_wsX12_findBest_r2)) ++ (ix_wsX120))
set_option maxRecDepth 20000 in
theorem tie_wsX12_findBest : wsX12_findBest = tk ix_wsX12_findBest := tk_co rfl (tk_ap (tk_ap (tie_wsX12_findBest_r1) (tie_wsX12_findBest_r2)) (tie_wsX120))
abbrev ix_wsX12_nextOnBest_r1 : List Nat := [147, 337, 338, 339, 5, 340, 125, 250, 251, 252, 253, 1308, 1309, 1310, 1311, 148, 149, 441, 442, 443, 444, 445, 446, 447]
set_option maxRecDepth 20000 in
theorem tie_wsX12_nextOnBest_r1 : wsX12_nextOnBest_r1 = tk ix_wsX12_nextOnBest_r1 := rfl
abbrev ix_wsX12_nextOnBest_r2 : List Nat := [448]
set_option maxRecDepth 20000 in
theorem tie_wsX12_nextOnBest_r2 : wsX12_nextOnBest_r2 = tk ix_wsX12_nextOnBest_r2 := rfl
abbrev ix_wsX12_nextOnBest : List Nat := 1315 :: (((ix_wsX12_nextOnBest_r1) ++ (ix_wsX12_nextOnBest_r2)) ++ (ix_wsX120))
set_option maxRecDepth 20000 in
theorem tie_wsX12_nextOnBest : wsX12_nextOnBest = tk ix_wsX12_nextOnBest := tk_co rfl (tk_ap (tk_ap (tie_wsX12_nextOnBest_r1) (tie_wsX12_nextOnBest_r2)) (tie_wsX120))
abbrev ix_wsX12_bestPath_r1 : List Nat := [142, 147, 149, 243, 244, 245, 5, 246, 125, 247, 248, 249, 1220, 1221, 1222, 1223, 906, 907, 908, 909, 817, 1085, 1086, 1087]
set_option maxRecDepth 20000 in
theorem tie_wsX12_bestPath_r1 : wsX12_bestPath_r1 = tk ix_wsX12_bestPath_r1 := rfl
abbrev ix_wsX12_bestPath_r2 : List Nat := [1088, 135, 138, 136, 137, 1089, 1090, 1091, 1092, 1093, 1094, 1095, 1096, 1097, 441, 442, 443, 444, 445, 446, 447, 448, 250, 251]
set_option maxRecDepth 20000 in
theorem tie_wsX12_bestPath_r2 : wsX12_bestPath_r2 = tk ix_wsX12_bestPath_r2 := rfl
abbrev ix_wsX12_bestPath_r3 : List Nat := [252, 253, 498, 499, 500, 926, 927, 928, 929, 930, 931, 1098, 1099, 1100, 1101, 139, 1102, 1103, 1104, 1105, 334, 335, 336, 932]
set_option maxRecDepth 20000 in
theorem tie_wsX12_bestPath_r3 : wsX12_bestPath_r3 = tk ix_wsX12_bestPath_r3 := rfl
abbrev ix_wsX12_bestPath_r4 : List Nat := [933, 934, 1106, 1107, 1108, 1109, 497, 496, 437, 438, 439, 440, 337, 338, 339, 340, 492, 493, 494, 495, 1110, 1111, 1112, 1113]
set_option maxRecDepth 20000 in
theorem tie_wsX12_bestPath_r4 : wsX12_bestPath_r4 = tk ix_wsX12_bestPath_r4 := rfl
abbrev ix_wsX12_bestPath_r5 : List Nat := [1114, 131, 1115, 1116, 1117, 1118, 1119, 1120, 1121, 1122, 130, 1123, 1124, 1125, 1126, 1127, 1128, 1129, 1130, 1131, 1132, 1133, 1134, 1135]
set_option maxRecDepth 20000 in
theorem tie_wsX12_bestPath_r5 : wsX12_bestPath_r5 = tk ix_wsX12_bestPath_r5 := rfl
abbrev ix_wsX12_bestPath_r6 : List Nat := [1136, 1137, 1138, 1139, 1140, 1141, 1142, 1143, 1144, 1145, 1146, 1147, 132, 133, 184, 185, 186, 187, 1148, 1149, 1150, 1151, 134, 374]
set_option maxRecDepth 20000 in
theorem tie_wsX12_bestPath_r6 : wsX12_bestPath_r6 = tk ix_wsX12_bestPath_r6 := rfl
abbrev ix_wsX12_bestPath_r7 : List Nat := [375, 376, 377, 354, 355, 356, 357, 330, 331, 332, 333, 1152, 1153, 1154, 1155, 1156, 1157, 1158, 1159, 1160, 1161, 1162, 1163, 1164]
set_option maxRecDepth 20000 in
theorem tie_wsX12_bestPath_r7 : wsX12_bestPath_r7 = tk ix_wsX12_bestPath_r7 := rfl
abbrev ix_wsX12_bestPath_r8 : List Nat := [1165, 1166, 1167, 141, 140, 1304, 1305, 1306, 1307, 148, 1308, 1309, 1310, 1311, 1312, 1313, 1314, 1315]
set_option maxRecDepth 20000 in
theorem tie_wsX12_bestPath_r8 : wsX12_bestPath_r8 = tk ix_wsX12_bestPath_r8 := rfl
abbrev ix_wsX12_bestPath : List Nat := 1303 :: (((ix_wsX12_bestPath_r1) ++ ((ix_wsX12_bestPath_r2) ++ ((ix_wsX12_bestPath_r3) ++ ((ix_wsX12_bestPath_r4) ++ ((ix_wsX12_bestPath_r5) ++ ((ix_wsX12_bestPath_r6) ++ ((ix_wsX12_bestPath_r7) ++ (ix_wsX12_bestPath_r8)))))))) ++ (ix_wsX120))
set_option maxRecDepth 20000 in
theorem tie_wsX12_bestPath : wsX12_bestPath = tk ix_wsX12_bestPath := tk_co rfl (tk_ap (tk_ap (tie_wsX12_bestPath_r1) (tk_ap (tie_wsX12_bestPath_r2) (tk_ap (tie_wsX12_bestPath_r3) (tk_ap (tie_wsX12_bestPath_r4) (tk_ap (tie_wsX12_bestPath_r5) (tk_ap (tie_wsX12_bestPath_r6) (tk_ap (tie_wsX12_bestPath_r7) (tie_wsX12_bestPath_r8)))))))) (tie_wsX120))
abbrev ix_wsX12_bestProduct_r1 : List Nat := [142, 147, 1329, 148, 1185, 1186, 1187, 5, 1188, 906, 907, 908, 909, 817, 247, 248, 249, 243, 244, 245, 246, 125, 489, 490]
set_option maxRecDepth 20000 in
theorem tie_wsX12_bestProduct_r1 : wsX12_bestProduct_r1 = tk ix_wsX12_bestProduct_r1 := rfl
abbrev ix_wsX12_bestProduct_r2 : List Nat := [491, 1085, 1086, 1087, 1088, 135, 138, 136, 137, 1089, 1090, 1091, 1092, 1093, 1094, 1095, 1096, 1097, 441, 442, 443, 444, 445, 446]
set_option maxRecDepth 20000 in
theorem tie_wsX12_bestProduct_r2 : wsX12_bestProduct_r2 = tk ix_wsX12_bestProduct_r2 := rfl
abbrev ix_wsX12_bestProduct_r3 : List Nat := [447, 448, 250, 251, 252, 253, 498, 499, 500, 926, 927, 928, 929, 930, 931, 1098, 1099, 1100, 1101, 139, 1102, 1103, 1104, 1105]
set_option maxRecDepth 20000 in
theorem tie_wsX12_bestProduct_r3 : wsX12_bestProduct_r3 = tk ix_wsX12_bestProduct_r3 := rfl
abbrev ix_wsX12_bestProduct_r4 : List Nat := [334, 335, 336, 932, 933, 934, 1106, 1107, 1108, 1109, 497, 496, 437, 438, 439, 440, 337, 338, 339, 340, 492, 493, 494, 495]
set_option maxRecDepth 20000 in
theorem tie_wsX12_bestProduct_r4 : wsX12_bestProduct_r4 = tk ix_wsX12_bestProduct_r4 := rfl
abbrev ix_wsX12_bestProduct_r5 : List Nat := [1110, 1111, 1112, 1113, 1114, 131, 1115, 1116, 1117, 1118, 1119, 1120, 1121, 1122, 130, 1123, 1124, 1125, 1126, 1127, 1128, 1129, 1130, 1131]
set_option maxRecDepth 20000 in
theorem tie_wsX12_bestProduct_r5 : wsX12_bestProduct_r5 = tk ix_wsX12_bestProduct_r5 := rfl
abbrev ix_wsX12_bestProduct_r6 : List Nat := [1132, 1133, 1134, 1135, 1136, 1137, 1138, 1139, 1140, 1141, 1142, 1143, 1144, 1145, 1146, 1147, 132, 133, 184, 185, 186, 187, 1148, 1149]
set_option maxRecDepth 20000 in
theorem tie_wsX12_bestProduct_r6 : wsX12_bestProduct_r6 = tk ix_wsX12_bestProduct_r6 := rfl
abbrev ix_wsX12_bestProduct_r7 : List Nat := [1150, 1151, 134, 374, 375, 376, 377, 354, 355, 356, 357, 330, 331, 332, 333, 1152, 1153, 1154, 1155, 1156, 1157, 1158, 1159, 1160]
set_option maxRecDepth 20000 in
theorem tie_wsX12_bestProduct_r7 : wsX12_bestProduct_r7 = tk ix_wsX12_bestProduct_r7 := rfl
abbrev ix_wsX12_bestProduct_r8 : List Nat := [1161, 1162, 1163, 1164, 1165, 1166, 1167, 141, 140, 1304, 1305, 1306, 1307, 149, 1308, 1309, 1310, 1311]
set_option maxRecDepth 20000 in
theorem tie_wsX12_bestProduct_r8 : wsX12_bestProduct_r8 = tk ix_wsX12_bestProduct_r8 := rfl
abbrev ix_wsX12_bestProduct : List Nat := 1328 :: (((ix_wsX12_bestProduct_r1) ++ ((ix_wsX12_bestProduct_r2) ++ ((ix_wsX12_bestProduct_r3) ++ ((ix_wsX12_bestProduct_r4) ++ ((ix_wsX12_bestProduct_r5) ++ ((ix_wsX12_bestProduct_r6) ++ ((ix_wsX12_bestProduct_r7) ++ (ix_wsX12_bestProduct_r8)))))))) ++ (ix_wsX120))
set_option maxRecDepth 20000 in
theorem tie_wsX12_bestProduct : wsX12_bestProduct = tk ix_wsX12_bestProduct := tk_co rfl (tk_ap (tk_ap (tie_wsX12_bestProduct_r1) (tk_ap (tie_wsX12_bestProduct_r2) (tk_ap (tie_wsX12_bestProduct_r3) (tk_ap (tie_wsX12_bestProduct_r4) (tk_ap (tie_wsX12_bestProduct_r5) (tk_ap (tie_wsX12_bestProduct_r6) (tk_ap (tie_wsX12_bestProduct_r7) (tie_wsX12_bestProduct_r8)))))))) (tie_wsX120))
abbrev ix_wsX12_walk_r1 : List Nat := [1343, 243, 244, 245, 5, 246, 125, 247, 248, 249, 441, 442, 443, 444, 445, 446, 447, 448, 250, 251, 252, 253, 337, 338]
set_option maxRecDepth 20000 in
theorem tie_wsX12_walk_r1 : wsX12_walk_r1 = tk ix_wsX12_walk_r1 := rfl
abbrev ix_wsX12_walk_r2 : List Nat := [339, 340]
set_option maxRecDepth 20000 in
theorem tie_wsX12_walk_r2 : wsX12_walk_r2 = tk ix_wsX12_walk_r2 := rfl
abbrev ix_wsX12_walk : List Nat := 1342 :: (((ix_wsX12_walk_r1) ++ (ix_wsX12_walk_r2)) ++ (ix_wsX120))
set_option maxRecDepth 20000 in
theorem tie_wsX12_walk : wsX12_walk = tk ix_wsX12_walk := tk_co rfl (tk_ap (tk_ap (tie_wsX12_walk_r1) (tie_wsX12_walk_r2)) (tie_wsX120))
abbrev ix_wsJ5_init_d00df : List Nat := 107 :: (([108, 10, 11, 109, 110, 111, 112, 113, 114, 115, 116, 117, 118, 119, 120]) ++ (ix_wsJ40))
set_option maxRecDepth 20000 in
theorem tie_wsJ5_init_d00df : wsJ5_init_d00df = tk ix_wsJ5_init_d00df := tk_co rfl (tk_ap (rfl) (tie_wsJ40))
abbrev ix_wsJ2_newBytesFor_77867 : List Nat := 116 :: [110, 117, 118, 115, 119, 120]
set_option maxRecDepth 20000 in
theorem tie_wsJ2_newBytesFor_77867 : wsJ2_newBytesFor_77867 = tk ix_wsJ2_newBytesFor_77867 := tk_co rfl (rfl)
abbrev ix_wsJ5_ensureCapacityInternal_d00df_r1 : List Nat := [111, 112, 532, 533, 534, 535, 106, 536, 537, 538, 539, 540, 541, 542, 446, 447, 448, 543, 544, 545, 546, 547, 548, 549]
set_option maxRecDepth 20000 in
theorem tie_wsJ5_ensureCapacityInternal_d00df_r1 : wsJ5_ensureCapacityInternal_d00df_r1 = tk ix_wsJ5_ensureCapacityInternal_d00df_r1 := rfl
abbrev ix_wsJ5_ensureCapacityInternal_d00df_r2 : List Nat := [550, 551, 552, 553, 554, 555, 556, 110, 557, 558, 559, 560, 185, 186, 187]
set_option maxRecDepth 20000 in
theorem tie_wsJ5_ensureCapacityInternal_d00df_r2 : wsJ5_ensureCapacityInternal_d00df_r2 = tk ix_wsJ5_ensureCapacityInternal_d00df_r2 := rfl
abbrev ix_wsJ5_ensureCapacityInternal_d00df : List Nat := 531 :: (((ix_wsJ5_ensureCapacityInternal_d00df_r1) ++ (ix_wsJ5_ensureCapacityInternal_d00df_r2)) ++ (ix_wsJ40))
set_option maxRecDepth 20000 in
theorem tie_wsJ5_ensureCapacityInternal_d00df : wsJ5_ensureCapacityInternal_d00df = tk ix_wsJ5_ensureCapacityInternal_d00df := tk_co rfl (tk_ap (tk_ap (tie_wsJ5_ensureCapacityInternal_d00df_r1) (tie_wsJ5_ensureCapacityInternal_d00df_r2)) (tie_wsJ40))
abbrev ix_wsJ5_newCapacity_0f7a4 : List Nat := 536 :: (([111, 112, 537, 538, 539, 540, 541, 542, 446, 447, 448, 543, 544, 545, 546]) ++ (ix_wsJ40))
set_option maxRecDepth 20000 in
theorem tie_wsJ5_newCapacity_0f7a4 : wsJ5_newCapacity_0f7a4 = tk ix_wsJ5_newCapacity_0f7a4 := tk_co rfl (tk_ap (rfl) (tie_wsJ40))
abbrev ix_wsJ7_copyOf_9075b : List Nat := 550 :: [551, 552, 553, 554, 555, 556, 110, 557, 558, 447, 559, 560, 185, 186, 187]
set_option maxRecDepth 20000 in
theorem tie_wsJ7_copyOf_9075b : wsJ7_copyOf_9075b = tk ix_wsJ7_copyOf_9075b := tk_co rfl (rfl)
abbrev ix_wsJ8_newLength_cabcc : List Nat := 541 :: [542, 446, 447, 448, 543, 544, 545, 540, 546]
set_option maxRecDepth 20000 in
theorem tie_wsJ8_newLength_cabcc : wsJ8_newLength_cabcc = tk ix_wsJ8_newLength_cabcc := tk_co rfl (rfl)
abbrev ix_wsJ5_inflate_da8c8_r1 : List Nat := [111, 518, 112, 561, 562, 563, 564, 106, 565, 109, 113, 114, 115, 116, 110, 117, 118, 119, 120, 575, 576, 568, 577, 578]
set_option maxRecDepth 20000 in
theorem tie_wsJ5_inflate_da8c8_r1 : wsJ5_inflate_da8c8_r1 = tk ix_wsJ5_inflate_da8c8_r1 := rfl
abbrev ix_wsJ5_inflate_da8c8_r2 : List Nat := [579, 580, 581, 582, 583, 584, 585, 586, 587, 588, 589, 590, 591, 592, 593, 594, 595, 596, 597, 598, 599, 600, 601]
set_option maxRecDepth 20000 in
theorem tie_wsJ5_inflate_da8c8_r2 : wsJ5_inflate_da8c8_r2 = tk ix_wsJ5_inflate_da8c8_r2 := rfl
abbrev ix_wsJ5_inflate_da8c8 : List Nat := 574 :: (((ix_wsJ5_inflate_da8c8_r1) ++ (ix_wsJ5_inflate_da8c8_r2)) ++ (ix_wsJ40))
set_option maxRecDepth 20000 in
theorem tie_wsJ5_inflate_da8c8 : wsJ5_inflate_da8c8 = tk ix_wsJ5_inflate_da8c8 := tk_co rfl (tk_ap (tk_ap (tie_wsJ5_inflate_da8c8_r1) (tie_wsJ5_inflate_da8c8_r2)) (tie_wsJ40))
abbrev ix_wsJ5_isLatin1_aae02 : List Nat := 565 :: (([109, 112]) ++ (ix_wsJ40))
set_option maxRecDepth 20000 in
theorem tie_wsJ5_isLatin1_aae02 : wsJ5_isLatin1_aae02 = tk ix_wsJ5_isLatin1_aae02 := tk_co rfl (tk_ap (rfl) (tie_wsJ40))
abbrev ix_wsJ1_inflate_0e8fd_r1 : List Nat := [578, 579, 115, 580, 581, 582, 583, 584, 585, 586, 587, 588, 589, 590, 591, 592, 593, 594, 595, 596, 597, 598, 599, 600]
set_option maxRecDepth 20000 in
theorem tie_wsJ1_inflate_0e8fd_r1 : wsJ1_inflate_0e8fd_r1 = tk ix_wsJ1_inflate_0e8fd_r1 := rfl
abbrev ix_wsJ1_inflate_0e8fd_r2 : List Nat := [601]
set_option maxRecDepth 20000 in
theorem tie_wsJ1_inflate_0e8fd_r2 : wsJ1_inflate_0e8fd_r2 = tk ix_wsJ1_inflate_0e8fd_r2 := rfl
abbrev ix_wsJ1_inflate_0e8fd : List Nat := 577 :: ((ix_wsJ1_inflate_0e8fd_r1) ++ (ix_wsJ1_inflate_0e8fd_r2))
set_option maxRecDepth 20000 in
theorem tie_wsJ1_inflate_0e8fd : wsJ1_inflate_0e8fd = tk ix_wsJ1_inflate_0e8fd := tk_co rfl (tk_ap (tie_wsJ1_inflate_0e8fd_r1) (tie_wsJ1_inflate_0e8fd_r2))
abbrev ix_wsJ5_setLength_d00df_r1 : List Nat := [518, 111, 684, 527, 528, 529, 530, 106, 531, 112, 532, 533, 534, 535, 536, 537, 538, 539, 540, 541, 542, 446, 447, 448]
set_option maxRecDepth 20000 in
theorem tie_wsJ5_setLength_d00df_r1 : wsJ5_setLength_d00df_r1 = tk ix_wsJ5_setLength_d00df_r1 := rfl
abbrev ix_wsJ5_setLength_d00df_r2 : List Nat := [543, 544, 545, 546, 547, 548, 549, 550, 551, 552, 553, 554, 555, 556, 110, 557, 558, 559, 560, 185, 186, 187, 561, 562]
set_option maxRecDepth 20000 in
theorem tie_wsJ5_setLength_d00df_r2 : wsJ5_setLength_d00df_r2 = tk ix_wsJ5_setLength_d00df_r2 := rfl
abbrev ix_wsJ5_setLength_d00df_r3 : List Nat := [563, 564, 565, 109, 685, 686, 568, 687, 688, 689, 690, 691, 692, 693, 694, 695, 115, 696, 697]
set_option maxRecDepth 20000 in
theorem tie_wsJ5_setLength_d00df_r3 : wsJ5_setLength_d00df_r3 = tk ix_wsJ5_setLength_d00df_r3 := rfl
abbrev ix_wsJ5_setLength_d00df : List Nat := 683 :: (((ix_wsJ5_setLength_d00df_r1) ++ ((ix_wsJ5_setLength_d00df_r2) ++ (ix_wsJ5_setLength_d00df_r3))) ++ (ix_wsJ40))
set_option maxRecDepth 20000 in
theorem tie_wsJ5_setLength_d00df : wsJ5_setLength_d00df = tk ix_wsJ5_setLength_d00df := tk_co rfl (tk_ap (tk_ap (tie_wsJ5_setLength_d00df_r1) (tk_ap (tie_wsJ5_setLength_d00df_r2) (tie_wsJ5_setLength_d00df_r3))) (tie_wsJ40))
abbrev ix_wsJ1_fillNull_b72d1 : List Nat := 687 :: [688, 689, 549, 690, 691, 692, 693]
set_option maxRecDepth 20000 in
theorem tie_wsJ1_fillNull_b72d1 : wsJ1_fillNull_b72d1 = tk ix_wsJ1_fillNull_b72d1 := tk_co rfl (rfl)
