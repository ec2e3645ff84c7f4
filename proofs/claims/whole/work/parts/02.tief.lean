abbrev ix_wsX12_find_r3 : List Nat := [1107, 1108, 1109, 1110, 1111, 1112, 120, 1113, 1114, 1115, 1116, 1117, 1118, 1119, 1120, 1121, 1122, 1123, 1124, 1125, 1126, 1127, 1128, 1129]
set_option maxRecDepth 20000 in
theorem tie_wsX12_find_r3 : wsX12_find_r3 = tk ix_wsX12_find_r3 := rfl
abbrev ix_wsX12_find_r4 : List Nat := [1130, 1131, 1132, 1133, 1134, 1135, 1136, 1137, 122, 123, 174, 175, 176, 177, 1084, 1085, 1086, 1087, 1138, 1139, 1140, 1141, 124, 364]
set_option maxRecDepth 20000 in
theorem tie_wsX12_find_r4 : wsX12_find_r4 = tk ix_wsX12_find_r4 := rfl
abbrev ix_wsX12_find_r5 : List Nat := [365, 366, 367, 344, 345, 346, 347, 320, 321, 322, 323, 1142, 1143, 1144, 1145, 1146, 1147, 1148, 1149, 1150, 1151, 1152, 1153]
set_option maxRecDepth 20000 in
theorem tie_wsX12_find_r5 : wsX12_find_r5 = tk ix_wsX12_find_r5 := rfl
abbrev ix_wsX12_find : List Nat := 1099 :: (((ix_wsX12_find_r1) ++ ((ix_wsX12_find_r2) ++ ((ix_wsX12_find_r3) ++ ((ix_wsX12_find_r4) ++ (ix_wsX12_find_r5))))) ++ (ix_wsX120))
set_option maxRecDepth 20000 in
theorem tie_wsX12_find : wsX12_find = tk ix_wsX12_find := tk_co rfl (tk_ap (tk_ap (tie_wsX12_find_r1) (tk_ap (tie_wsX12_find_r2) (tk_ap (tie_wsX12_find_r3) (tk_ap (tie_wsX12_find_r4) (tie_wsX12_find_r5))))) (tie_wsX120))
abbrev ix_wsX12_setOf_r1 : List Nat := [125, 115, 128, 126, 127, 129, 1092, 1093, 1094, 5, 1095, 324, 325, 326, 1088, 1089, 1090, 922, 923, 924, 925, 926, 927, 237]
set_option maxRecDepth 20000 in
theorem tie_wsX12_setOf_r1 : wsX12_setOf_r1 = tk ix_wsX12_setOf_r1 := rfl
abbrev ix_wsX12_setOf_r2 : List Nat := [238, 239, 1096, 1097, 1098, 1099, 487, 486, 427, 428, 429, 430, 327, 328, 329, 330, 240, 241, 242, 243, 431, 432, 433, 434]
set_option maxRecDepth 20000 in
theorem tie_wsX12_setOf_r2 : wsX12_setOf_r2 = tk ix_wsX12_setOf_r2 := rfl
abbrev ix_wsX12_setOf_r3 : List Nat := [435, 436, 437, 438, 482, 483, 484, 485, 488, 489, 490, 1100, 1101, 1102, 1103, 1104, 121, 1105, 1106, 1107, 1108, 1109, 1110, 1111]
set_option maxRecDepth 20000 in
theorem tie_wsX12_setOf_r3 : wsX12_setOf_r3 = tk ix_wsX12_setOf_r3 := rfl
abbrev ix_wsX12_setOf_r4 : List Nat := [1112, 120, 1113, 1114, 1115, 1116, 1117, 1118, 1119, 1120, 1121, 1122, 1123, 1124, 1125, 1126, 1127, 1128, 1129, 1130, 1131, 1132, 1133, 1134]
set_option maxRecDepth 20000 in
theorem tie_wsX12_setOf_r4 : wsX12_setOf_r4 = tk ix_wsX12_setOf_r4 := rfl
abbrev ix_wsX12_setOf_r5 : List Nat := [1135, 1136, 1137, 122, 123, 174, 175, 176, 177, 1084, 1085, 1086, 1087, 1138, 1139, 1140, 1141, 124, 364, 365, 366, 367, 344, 345]
set_option maxRecDepth 20000 in
theorem tie_wsX12_setOf_r5 : wsX12_setOf_r5 = tk ix_wsX12_setOf_r5 := rfl
abbrev ix_wsX12_setOf_r6 : List Nat := [346, 347, 320, 321, 322, 323, 1142, 1143, 1144, 1145, 1146, 1147, 1148, 1149, 1150, 1151, 1152, 1153, 1154, 1155, 1156, 1157, 131, 130]
set_option maxRecDepth 20000 in
theorem tie_wsX12_setOf_r6 : wsX12_setOf_r6 = tk ix_wsX12_setOf_r6 := rfl
abbrev ix_wsX12_setOf : List Nat := 1091 :: (((ix_wsX12_setOf_r1) ++ ((ix_wsX12_setOf_r2) ++ ((ix_wsX12_setOf_r3) ++ ((ix_wsX12_setOf_r4) ++ ((ix_wsX12_setOf_r5) ++ (ix_wsX12_setOf_r6)))))) ++ (ix_wsX120))
set_option maxRecDepth 20000 in
theorem tie_wsX12_setOf : wsX12_setOf = tk ix_wsX12_setOf := tk_co rfl (tk_ap (tk_ap (tie_wsX12_setOf_r1) (tk_ap (tie_wsX12_setOf_r2) (tk_ap (tie_wsX12_setOf_r3) (tk_ap (tie_wsX12_setOf_r4) (tk_ap (tie_wsX12_setOf_r5) (tie_wsX12_setOf_r6)))))) (tie_wsX120))
abbrev ix_wsX12_fulfils : List Nat := 1157 :: (([486, 131, 487, 130, 129]) ++ (ix_wsX120))
set_option maxRecDepth 20000 in
theorem tie_wsX12_fulfils : wsX12_fulfils = tk ix_wsX12_fulfils := tk_co rfl (tk_ap (rfl) (tie_wsX120))
abbrev ix_wsX12_holdsIn_r1 : List Nat := [132, 899, 900, 901, 5, 902, 810, 237, 238, 239, 1075, 1076, 1077, 1078, 125, 128, 126, 127, 1079, 1080, 1081, 1082, 1083, 1084]
set_option maxRecDepth 20000 in
theorem tie_wsX12_holdsIn_r1 : wsX12_holdsIn_r1 = tk ix_wsX12_holdsIn_r1 := rfl
abbrev ix_wsX12_holdsIn_r2 : List Nat := [1085, 1086, 1087, 115, 431, 432, 433, 434, 435, 436, 437, 438, 240, 241, 242, 243, 488, 489, 490, 919, 920, 921, 922, 923]
set_option maxRecDepth 20000 in
theorem tie_wsX12_holdsIn_r2 : wsX12_holdsIn_r2 = tk ix_wsX12_holdsIn_r2 := rfl
abbrev ix_wsX12_holdsIn_r3 : List Nat := [924, 1088, 1089, 1090, 1091, 129, 1092, 1093, 1094, 1095, 324, 325, 326, 925, 926, 927, 1096, 1097, 1098, 1099, 487, 486, 427, 428]
set_option maxRecDepth 20000 in
theorem tie_wsX12_holdsIn_r3 : wsX12_holdsIn_r3 = tk ix_wsX12_holdsIn_r3 := rfl
abbrev ix_wsX12_holdsIn_r4 : List Nat := [429, 430, 327, 328, 329, 330, 482, 483, 484, 485, 1100, 1101, 1102, 1103, 1104, 121, 1105, 1106, 1107, 1108, 1109, 1110, 1111, 1112]
set_option maxRecDepth 20000 in
theorem tie_wsX12_holdsIn_r4 : wsX12_holdsIn_r4 = tk ix_wsX12_holdsIn_r4 := rfl
abbrev ix_wsX12_holdsIn_r5 : List Nat := [120, 1113, 1114, 1115, 1116, 1117, 1118, 1119, 1120, 1121, 1122, 1123, 1124, 1125, 1126, 1127, 1128, 1129, 1130, 1131, 1132, 1133, 1134, 1135]
set_option maxRecDepth 20000 in
theorem tie_wsX12_holdsIn_r5 : wsX12_holdsIn_r5 = tk ix_wsX12_holdsIn_r5 := rfl
abbrev ix_wsX12_holdsIn_r6 : List Nat := [1136, 1137, 122, 123, 174, 175, 176, 177, 1138, 1139, 1140, 1141, 124, 364, 365, 366, 367, 344, 345, 346, 347, 320, 321, 322]
set_option maxRecDepth 20000 in
theorem tie_wsX12_holdsIn_r6 : wsX12_holdsIn_r6 = tk ix_wsX12_holdsIn_r6 := rfl
abbrev ix_wsX12_holdsIn_r7 : List Nat := [323, 1142, 1143, 1144, 1145, 1146, 1147, 1148, 1149, 1150, 1151, 1152, 1153, 1154, 1155, 1156, 1157, 131, 130]
set_option maxRecDepth 20000 in
theorem tie_wsX12_holdsIn_r7 : wsX12_holdsIn_r7 = tk ix_wsX12_holdsIn_r7 := rfl
abbrev ix_wsX12_holdsIn : List Nat := 1074 :: (((ix_wsX12_holdsIn_r1) ++ ((ix_wsX12_holdsIn_r2) ++ ((ix_wsX12_holdsIn_r3) ++ ((ix_wsX12_holdsIn_r4) ++ ((ix_wsX12_holdsIn_r5) ++ ((ix_wsX12_holdsIn_r6) ++ (ix_wsX12_holdsIn_r7))))))) ++ (ix_wsX120))
set_option maxRecDepth 20000 in
theorem tie_wsX12_holdsIn : wsX12_holdsIn = tk ix_wsX12_holdsIn := tk_co rfl (tk_ap (tk_ap (tie_wsX12_holdsIn_r1) (tk_ap (tie_wsX12_holdsIn_r2) (tk_ap (tie_wsX12_holdsIn_r3) (tk_ap (tie_wsX12_holdsIn_r4) (tk_ap (tie_wsX12_holdsIn_r5) (tk_ap (tie_wsX12_holdsIn_r6) (tie_wsX12_holdsIn_r7))))))) (tie_wsX120))
abbrev ix_wsX12_holds_r1 : List Nat := [132, 899, 900, 901, 5, 902, 810, 237, 238, 239, 233, 234, 235, 236, 115, 1075, 1076, 1077, 1078, 125, 128, 126, 127, 1079]
set_option maxRecDepth 20000 in
theorem tie_wsX12_holds_r1 : wsX12_holds_r1 = tk ix_wsX12_holds_r1 := rfl
abbrev ix_wsX12_holds_r2 : List Nat := [1080, 1081, 1082, 1083, 1084, 1085, 1086, 1087, 431, 432, 433, 434, 435, 436, 437, 438, 240, 241, 242, 243, 488, 489, 490, 919]
set_option maxRecDepth 20000 in
theorem tie_wsX12_holds_r2 : wsX12_holds_r2 = tk ix_wsX12_holds_r2 := rfl
abbrev ix_wsX12_holds_r3 : List Nat := [920, 921, 922, 923, 924, 1088, 1089, 1090, 1091, 129, 1092, 1093, 1094, 1095, 324, 325, 326, 925, 926, 927, 1096, 1097, 1098, 1099]
set_option maxRecDepth 20000 in
theorem tie_wsX12_holds_r3 : wsX12_holds_r3 = tk ix_wsX12_holds_r3 := rfl
abbrev ix_wsX12_holds_r4 : List Nat := [487, 486, 427, 428, 429, 430, 327, 328, 329, 330, 482, 483, 484, 485, 1100, 1101, 1102, 1103, 1104, 121, 1105, 1106, 1107, 1108]
set_option maxRecDepth 20000 in
theorem tie_wsX12_holds_r4 : wsX12_holds_r4 = tk ix_wsX12_holds_r4 := rfl
abbrev ix_wsX12_holds_r5 : List Nat := [1109, 1110, 1111, 1112, 120, 1113, 1114, 1115, 1116, 1117, 1118, 1119, 1120, 1121, 1122, 1123, 1124, 1125, 1126, 1127, 1128, 1129, 1130, 1131]
set_option maxRecDepth 20000 in
theorem tie_wsX12_holds_r5 : wsX12_holds_r5 = tk ix_wsX12_holds_r5 := rfl
abbrev ix_wsX12_holds_r6 : List Nat := [1132, 1133, 1134, 1135, 1136, 1137, 122, 123, 174, 175, 176, 177, 1138, 1139, 1140, 1141, 124, 364, 365, 366, 367, 344, 345, 346]
set_option maxRecDepth 20000 in
theorem tie_wsX12_holds_r6 : wsX12_holds_r6 = tk ix_wsX12_holds_r6 := rfl
abbrev ix_wsX12_holds_r7 : List Nat := [347, 320, 321, 322, 323, 1142, 1143, 1144, 1145, 1146, 1147, 1148, 1149, 1150, 1151, 1152, 1153, 1154, 1155, 1156, 1157, 131, 130]
set_option maxRecDepth 20000 in
theorem tie_wsX12_holds_r7 : wsX12_holds_r7 = tk ix_wsX12_holds_r7 := rfl
abbrev ix_wsX12_holds : List Nat := 1166 :: (((ix_wsX12_holds_r1) ++ ((ix_wsX12_holds_r2) ++ ((ix_wsX12_holds_r3) ++ ((ix_wsX12_holds_r4) ++ ((ix_wsX12_holds_r5) ++ ((ix_wsX12_holds_r6) ++ (ix_wsX12_holds_r7))))))) ++ (ix_wsX120))
set_option maxRecDepth 20000 in
theorem tie_wsX12_holds : wsX12_holds = tk ix_wsX12_holds := tk_co rfl (tk_ap (tk_ap (tie_wsX12_holds_r1) (tk_ap (tie_wsX12_holds_r2) (tk_ap (tie_wsX12_holds_r3) (tk_ap (tie_wsX12_holds_r4) (tk_ap (tie_wsX12_holds_r5) (tk_ap (tie_wsX12_holds_r6) (tie_wsX12_holds_r7))))))) (tie_wsX120))
abbrev ix_wsX12_hinders_r1 : List Nat := [132, 899, 900, 901, 5, 902, 810, 237, 238, 239, 233, 234, 235, 236, 115, 479, 480, 481, 1075, 1076, 1077, 1078, 125, 128]
set_option maxRecDepth 20000 in
theorem tie_wsX12_hinders_r1 : wsX12_hinders_r1 = tk ix_wsX12_hinders_r1 := rfl
abbrev ix_wsX12_hinders_r2 : List Nat := [126, 127, 1079, 1080, 1081, 1082, 1083, 1084, 1085, 1086, 1087, 431, 432, 433, 434, 435, 436, 437, 438, 240, 241, 242, 243, 488]
set_option maxRecDepth 20000 in
theorem tie_wsX12_hinders_r2 : wsX12_hinders_r2 = tk ix_wsX12_hinders_r2 := rfl
abbrev ix_wsX12_hinders_r3 : List Nat := [489, 490, 919, 920, 921, 922, 923, 924]
set_option maxRecDepth 20000 in
theorem tie_wsX12_hinders_r3 : wsX12_hinders_r3 = tk ix_wsX12_hinders_r3 := rfl
abbrev ix_wsX12_hinders : List Nat := 1178 :: (((ix_wsX12_hinders_r1) ++ ((ix_wsX12_hinders_r2) ++ (ix_wsX12_hinders_r3))) ++ (ix_wsX120))
set_option maxRecDepth 20000 in
theorem tie_wsX12_hinders : wsX12_hinders = tk ix_wsX12_hinders := tk_co rfl (tk_ap (tk_ap (tie_wsX12_hinders_r1) (tk_ap (tie_wsX12_hinders_r2) (tie_wsX12_hinders_r3))) (tie_wsX120))
abbrev ix_wsX12_next_r1 : List Nat := [132, 1175, 1176, 1177, 5, 1178, 899, 900, 901, 902, 810, 237, 238, 239, 233, 234, 235, 236, 115, 479, 480, 481, 1075, 1076]
set_option maxRecDepth 20000 in
theorem tie_wsX12_next_r1 : wsX12_next_r1 = tk ix_wsX12_next_r1 := rfl
abbrev ix_wsX12_next_r2 : List Nat := [1077, 1078, 125, 128, 126, 127, 1079, 1080, 1081, 1082, 1083, 1084, 1085, 1086, 1087, 431, 432, 433, 434, 435, 436, 437, 438, 240]
set_option maxRecDepth 20000 in
theorem tie_wsX12_next_r2 : wsX12_next_r2 = tk ix_wsX12_next_r2 := rfl
abbrev ix_wsX12_next_r3 : List Nat := [241, 242, 243, 488, 489, 490, 919, 920, 921, 922, 923, 924, 1088, 1089, 1090, 1091, 129, 1092, 1093, 1094, 1095, 324, 325, 326]
set_option maxRecDepth 20000 in
theorem tie_wsX12_next_r3 : wsX12_next_r3 = tk ix_wsX12_next_r3 := rfl
abbrev ix_wsX12_next_r4 : List Nat := [925, 926, 927, 1096, 1097, 1098, 1099, 487, 486, 427, 428, 429, 430, 327, 328, 329, 330, 482, 483, 484, 485, 1100, 1101, 1102]
set_option maxRecDepth 20000 in
theorem tie_wsX12_next_r4 : wsX12_next_r4 = tk ix_wsX12_next_r4 := rfl
abbrev ix_wsX12_next_r5 : List Nat := [1103, 1104, 121, 1105, 1106, 1107, 1108, 1109, 1110, 1111, 1112, 120, 1113, 1114, 1115, 1116, 1117, 1118, 1119, 1120, 1121, 1122, 1123, 1124]
set_option maxRecDepth 20000 in
theorem tie_wsX12_next_r5 : wsX12_next_r5 = tk ix_wsX12_next_r5 := rfl
abbrev ix_wsX12_next_r6 : List Nat := [1125, 1126, 1127, 1128, 1129, 1130, 1131, 1132, 1133, 1134, 1135, 1136, 1137, 122, 123, 174, 175, 176, 177, 1138, 1139, 1140, 1141, 124]
set_option maxRecDepth 20000 in
theorem tie_wsX12_next_r6 : wsX12_next_r6 = tk ix_wsX12_next_r6 := rfl
abbrev ix_wsX12_next_r7 : List Nat := [364, 365, 366, 367, 344, 345, 346, 347, 320, 321, 322, 323, 1142, 1143, 1144, 1145, 1146, 1147, 1148, 1149, 1150, 1151, 1152, 1153]
set_option maxRecDepth 20000 in
theorem tie_wsX12_next_r7 : wsX12_next_r7 = tk ix_wsX12_next_r7 := rfl
abbrev ix_wsX12_next_r8 : List Nat := [1154, 1155, 1156, 1157, 131, 130, 491, 492, 493, 494]
set_option maxRecDepth 20000 in
theorem tie_wsX12_next_r8 : wsX12_next_r8 = tk ix_wsX12_next_r8 := rfl
abbrev ix_wsX12_next : List Nat := 1174 :: (((ix_wsX12_next_r1) ++ ((ix_wsX12_next_r2) ++ ((ix_wsX12_next_r3) ++ ((ix_wsX12_next_r4) ++ ((ix_wsX12_next_r5) ++ ((ix_wsX12_next_r6) ++ ((ix_wsX12_next_r7) ++ (ix_wsX12_next_r8)))))))) ++ (ix_wsX120))
set_option maxRecDepth 20000 in
theorem tie_wsX12_next : wsX12_next = tk ix_wsX12_next := tk_co rfl (tk_ap (tk_ap (tie_wsX12_next_r1) (tk_ap (tie_wsX12_next_r2) (tk_ap (tie_wsX12_next_r3) (tk_ap (tie_wsX12_next_r4) (tk_ap (tie_wsX12_next_r5) (tk_ap (tie_wsX12_next_r6) (tk_ap (tie_wsX12_next_r7) (tie_wsX12_next_r8)))))))) (tie_wsX120))
abbrev ix_wsX12_until_r1 : List Nat := [132, 1175, 1176, 1177, 5, 1178, 899, 900, 901, 902, 810, 237, 238, 239, 233, 234, 235, 236, 115, 479, 480, 481, 1075, 1076]
set_option maxRecDepth 20000 in
theorem tie_wsX12_until_r1 : wsX12_until_r1 = tk ix_wsX12_until_r1 := rfl
abbrev ix_wsX12_until_r2 : List Nat := [1077, 1078, 125, 128, 126, 127, 1079, 1080, 1081, 1082, 1083, 1084, 1085, 1086, 1087, 431, 432, 433, 434, 435, 436, 437, 438, 240]
set_option maxRecDepth 20000 in
theorem tie_wsX12_until_r2 : wsX12_until_r2 = tk ix_wsX12_until_r2 := rfl
abbrev ix_wsX12_until_r3 : List Nat := [241, 242, 243, 488, 489, 490, 919, 920, 921, 922, 923, 924, 1088, 1089, 1090, 1091, 129, 1092, 1093, 1094, 1095, 324, 325, 326]
set_option maxRecDepth 20000 in
theorem tie_wsX12_until_r3 : wsX12_until_r3 = tk ix_wsX12_until_r3 := rfl
abbrev ix_wsX12_until_r4 : List Nat := [925, 926, 927, 1096, 1097, 1098, 1099, 487, 486, 427, 428, 429, 430, 327, 328, 329, 330, 482, 483, 484, 485, 1100, 1101, 1102]
set_option maxRecDepth 20000 in
theorem tie_wsX12_until_r4 : wsX12_until_r4 = tk ix_wsX12_until_r4 := rfl
abbrev ix_wsX12_until_r5 : List Nat := [1103, 1104, 121, 1105, 1106, 1107, 1108, 1109, 1110, 1111, 1112, 120, 1113, 1114, 1115, 1116, 1117, 1118, 1119, 1120, 1121, 1122, 1123, 1124]
set_option maxRecDepth 20000 in
theorem tie_wsX12_until_r5 : wsX12_until_r5 = tk ix_wsX12_until_r5 := rfl
abbrev ix_wsX12_until_r6 : List Nat := [1125, 1126, 1127, 1128, 1129, 1130, 1131, 1132, 1133, 1134, 1135, 1136, 1137, 122, 123, 174, 175, 176, 177, 1138, 1139, 1140, 1141, 124]
set_option maxRecDepth 20000 in
theorem tie_wsX12_until_r6 : wsX12_until_r6 = tk ix_wsX12_until_r6 := rfl
abbrev ix_wsX12_until_r7 : List Nat := [364, 365, 366, 367, 344, 345, 346, 347, 320, 321, 322, 323, 1142, 1143, 1144, 1145, 1146, 1147, 1148, 1149, 1150, 1151, 1152, 1153]
set_option maxRecDepth 20000 in
theorem tie_wsX12_until_r7 : wsX12_until_r7 = tk ix_wsX12_until_r7 := rfl
abbrev ix_wsX12_until_r8 : List Nat := [1154, 1155, 1156, 1157, 131, 130, 491, 492, 493, 494]
set_option maxRecDepth 20000 in
theorem tie_wsX12_until_r8 : wsX12_until_r8 = tk ix_wsX12_until_r8 := rfl
abbrev ix_wsX12_until : List Nat := 1186 :: (((ix_wsX12_until_r1) ++ ((ix_wsX12_until_r2) ++ ((ix_wsX12_until_r3) ++ ((ix_wsX12_until_r4) ++ ((ix_wsX12_until_r5) ++ ((ix_wsX12_until_r6) ++ ((ix_wsX12_until_r7) ++ (ix_wsX12_until_r8)))))))) ++ (ix_wsX120))
set_option maxRecDepth 20000 in
theorem tie_wsX12_until : wsX12_until = tk ix_wsX12_until := tk_co rfl (tk_ap (tk_ap (tie_wsX12_until_r1) (tk_ap (tie_wsX12_until_r2) (tk_ap (tie_wsX12_until_r3) (tk_ap (tie_wsX12_until_r4) (tk_ap (tie_wsX12_until_r5) (tk_ap (tie_wsX12_until_r6) (tk_ap (tie_wsX12_until_r7) (tie_wsX12_until_r8)))))))) (tie_wsX120))
abbrev ix_wsX12_within_r1 : List Nat := [132, 237, 238, 5, 239, 1175, 1176, 1177, 1178, 899, 900, 901, 902, 810, 233, 234, 235, 236, 115, 479, 480, 481, 1075, 1076]
set_option maxRecDepth 20000 in
theorem tie_wsX12_within_r1 : wsX12_within_r1 = tk ix_wsX12_within_r1 := rfl
abbrev ix_wsX12_within_r2 : List Nat := [1077, 1078, 125, 128, 126, 127, 1079, 1080, 1081, 1082, 1083, 1084, 1085, 1086, 1087, 431, 432, 433, 434, 435, 436, 437, 438, 240]
set_option maxRecDepth 20000 in
theorem tie_wsX12_within_r2 : wsX12_within_r2 = tk ix_wsX12_within_r2 := rfl
abbrev ix_wsX12_within_r3 : List Nat := [241, 242, 243, 488, 489, 490, 919, 920, 921, 922, 923, 924, 1088, 1089, 1090, 1091, 129, 1092, 1093, 1094, 1095, 324, 325, 326]
set_option maxRecDepth 20000 in
theorem tie_wsX12_within_r3 : wsX12_within_r3 = tk ix_wsX12_within_r3 := rfl
abbrev ix_wsX12_within_r4 : List Nat := [925, 926, 927, 1096, 1097, 1098, 1099, 487, 486, 427, 428, 429, 430, 327, 328, 329, 330, 482, 483, 484, 485, 1100, 1101, 1102]
set_option maxRecDepth 20000 in
theorem tie_wsX12_within_r4 : wsX12_within_r4 = tk ix_wsX12_within_r4 := rfl
abbrev ix_wsX12_within_r5 : List Nat := [1103, 1104, 121, 1105, 1106, 1107, 1108, 1109, 1110, 1111, 1112, 120, 1113, 1114, 1115, 1116, 1117, 1118, 1119, 1120, 1121, 1122, 1123, 1124]
set_option maxRecDepth 20000 in
theorem tie_wsX12_within_r5 : wsX12_within_r5 = tk ix_wsX12_within_r5 := rfl
abbrev ix_wsX12_within_r6 : List Nat := [1125, 1126, 1127, 1128, 1129, 1130, 1131, 1132, 1133, 1134, 1135, 1136, 1137, 122, 123, 174, 175, 176, 177, 1138, 1139, 1140, 1141, 124]
set_option maxRecDepth 20000 in
theorem tie_wsX12_within_r6 : wsX12_within_r6 = tk ix_wsX12_within_r6 := rfl
abbrev ix_wsX12_within_r7 : List Nat := [364, 365, 366, 367, 344, 345, 346, 347, 320, 321, 322, 323, 1142, 1143, 1144, 1145, 1146, 1147, 1148, 1149, 1150, 1151, 1152, 1153]
set_option maxRecDepth 20000 in
theorem tie_wsX12_within_r7 : wsX12_within_r7 = tk ix_wsX12_within_r7 := rfl
abbrev ix_wsX12_within_r8 : List Nat := [1154, 1155, 1156, 1157, 131, 130, 491, 492, 493, 494]
set_option maxRecDepth 20000 in
theorem tie_wsX12_within_r8 : wsX12_within_r8 = tk ix_wsX12_within_r8 := rfl
abbrev ix_wsX12_within : List Nat := 1195 :: (((ix_wsX12_within_r1) ++ ((ix_wsX12_within_r2) ++ ((ix_wsX12_within_r3) ++ ((ix_wsX12_within_r4) ++ ((ix_wsX12_within_r5) ++ ((ix_wsX12_within_r6) ++ ((ix_wsX12_within_r7) ++ (ix_wsX12_within_r8)))))))) ++ (ix_wsX120))
set_option maxRecDepth 20000 in
theorem tie_wsX12_within : wsX12_within = tk ix_wsX12_within := tk_co rfl (tk_ap (tk_ap (tie_wsX12_within_r1) (tk_ap (tie_wsX12_within_r2) (tk_ap (tie_wsX12_within_r3) (tk_ap (tie_wsX12_within_r4) (tk_ap (tie_wsX12_within_r5) (tk_ap (tie_wsX12_within_r6) (tk_ap (tie_wsX12_within_r7) (tie_wsX12_within_r8)))))))) (tie_wsX120))
abbrev ix_wsX12_hindersSets_r1 : List Nat := [132, 899, 900, 901, 5, 902, 810, 237, 238, 239, 1075, 1076, 1077, 1078, 125, 128, 126, 127, 1079, 1080, 1081, 1082, 1083, 1084]
set_option maxRecDepth 20000 in
theorem tie_wsX12_hindersSets_r1 : wsX12_hindersSets_r1 = tk ix_wsX12_hindersSets_r1 := rfl
abbrev ix_wsX12_hindersSets_r2 : List Nat := [1085, 1086, 1087, 115, 431, 432, 433, 434, 435, 436, 437, 438, 240, 241, 242, 243, 488, 489, 490, 919, 920, 921, 922, 923]
set_option maxRecDepth 20000 in
theorem tie_wsX12_hindersSets_r2 : wsX12_hindersSets_r2 = tk ix_wsX12_hindersSets_r2 := rfl
abbrev ix_wsX12_hindersSets_r3 : List Nat := [924]
set_option maxRecDepth 20000 in
theorem tie_wsX12_hindersSets_r3 : wsX12_hindersSets_r3 = tk ix_wsX12_hindersSets_r3 := rfl
abbrev ix_wsX12_hindersSets : List Nat := 1211 :: (((ix_wsX12_hindersSets_r1) ++ ((ix_wsX12_hindersSets_r2) ++ (ix_wsX12_hindersSets_r3))) ++ (ix_wsX120))
set_option maxRecDepth 20000 in
theorem tie_wsX12_hindersSets : wsX12_hindersSets = tk ix_wsX12_hindersSets := tk_co rfl (tk_ap (tk_ap (tie_wsX12_hindersSets_r1) (tk_ap (tie_wsX12_hindersSets_r2) (tie_wsX12_hindersSets_r3))) (tie_wsX120))
abbrev ix_wsX12_never_r1 : List Nat := [132, 1208, 1209, 1210, 5, 1211, 899, 900, 901, 902, 810, 237, 238, 239, 1075, 1076, 1077, 1078, 125, 128, 126, 127, 1079, 1080]
set_option maxRecDepth 20000 in
theorem tie_wsX12_never_r1 : wsX12_never_r1 = tk ix_wsX12_never_r1 := rfl
abbrev ix_wsX12_never_r2 : List Nat := [1081, 1082, 1083, 1084, 1085, 1086, 1087, 115, 431, 432, 433, 434, 435, 436, 437, 438, 240, 241, 242, 243, 488, 489, 490, 919]
set_option maxRecDepth 20000 in
theorem tie_wsX12_never_r2 : wsX12_never_r2 = tk ix_wsX12_never_r2 := rfl
abbrev ix_wsX12_never_r3 : List Nat := [920, 921, 922, 923, 924, 1088, 1089, 1090, 1091, 129, 1092, 1093, 1094, 1095, 324, 325, 326, 925, 926, 927, 1096, 1097, 1098, 1099]
set_option maxRecDepth 20000 in
theorem tie_wsX12_never_r3 : wsX12_never_r3 = tk ix_wsX12_never_r3 := rfl
abbrev ix_wsX12_never_r4 : List Nat := [487, 486, 427, 428, 429, 430, 327, 328, 329, 330, 482, 483, 484, 485, 1100, 1101, 1102, 1103, 1104, 121, 1105, 1106, 1107, 1108]
set_option maxRecDepth 20000 in
theorem tie_wsX12_never_r4 : wsX12_never_r4 = tk ix_wsX12_never_r4 := rfl
abbrev ix_wsX12_never_r5 : List Nat := [1109, 1110, 1111, 1112, 120, 1113, 1114, 1115, 1116, 1117, 1118, 1119, 1120, 1121, 1122, 1123, 1124, 1125, 1126, 1127, 1128, 1129, 1130, 1131]
set_option maxRecDepth 20000 in
theorem tie_wsX12_never_r5 : wsX12_never_r5 = tk ix_wsX12_never_r5 := rfl
abbrev ix_wsX12_never_r6 : List Nat := [1132, 1133, 1134, 1135, 1136, 1137, 122, 123, 174, 175, 176, 177, 1138, 1139, 1140, 1141, 124, 364, 365, 366, 367, 344, 345, 346]
set_option maxRecDepth 20000 in
theorem tie_wsX12_never_r6 : wsX12_never_r6 = tk ix_wsX12_never_r6 := rfl
abbrev ix_wsX12_never_r7 : List Nat := [347, 320, 321, 322, 323, 1142, 1143, 1144, 1145, 1146, 1147, 1148, 1149, 1150, 1151, 1152, 1153, 1154, 1155, 1156, 1157, 131, 130]
set_option maxRecDepth 20000 in
theorem tie_wsX12_never_r7 : wsX12_never_r7 = tk ix_wsX12_never_r7 := rfl
abbrev ix_wsX12_never : List Nat := 1207 :: (((ix_wsX12_never_r1) ++ ((ix_wsX12_never_r2) ++ ((ix_wsX12_never_r3) ++ ((ix_wsX12_never_r4) ++ ((ix_wsX12_never_r5) ++ ((ix_wsX12_never_r6) ++ (ix_wsX12_never_r7))))))) ++ (ix_wsX120))
set_option maxRecDepth 20000 in
theorem tie_wsX12_never : wsX12_never = tk ix_wsX12_never := tk_co rfl (tk_ap (tk_ap (tie_wsX12_never_r1) (tk_ap (tie_wsX12_never_r2) (tk_ap (tie_wsX12_never_r3) (tk_ap (tie_wsX12_never_r4) (tk_ap (tie_wsX12_never_r5) (tk_ap (tie_wsX12_never_r6) (tie_wsX12_never_r7))))))) (tie_wsX120))
abbrev ix_wsX12_surely_r1 : List Nat := [132, 1208, 1209, 1210, 5, 1211, 899, 900, 901, 902, 810, 237, 238, 239, 1075, 1076, 1077, 1078, 125, 128, 126, 127, 1079, 1080]
set_option maxRecDepth 20000 in
theorem tie_wsX12_surely_r1 : wsX12_surely_r1 = tk ix_wsX12_surely_r1 := rfl
abbrev ix_wsX12_surely_r2 : List Nat := [1081, 1082, 1083, 1084, 1085, 1086, 1087, 115, 431, 432, 433, 434, 435, 436, 437, 438, 240, 241, 242, 243, 488, 489, 490, 919]
set_option maxRecDepth 20000 in
theorem tie_wsX12_surely_r2 : wsX12_surely_r2 = tk ix_wsX12_surely_r2 := rfl
abbrev ix_wsX12_surely_r3 : List Nat := [920, 921, 922, 923, 924, 1088, 1089, 1090, 1091, 129, 1092, 1093, 1094, 1095, 324, 325, 326, 925, 926, 927, 1096, 1097, 1098, 1099]
set_option maxRecDepth 20000 in
theorem tie_wsX12_surely_r3 : wsX12_surely_r3 = tk ix_wsX12_surely_r3 := rfl
abbrev ix_wsX12_surely_r4 : List Nat := [487, 486, 427, 428, 429, 430, 327, 328, 329, 330, 482, 483, 484, 485, 1100, 1101, 1102, 1103, 1104, 121, 1105, 1106, 1107, 1108]
set_option maxRecDepth 20000 in
theorem tie_wsX12_surely_r4 : wsX12_surely_r4 = tk ix_wsX12_surely_r4 := rfl
abbrev ix_wsX12_surely_r5 : List Nat := [1109, 1110, 1111, 1112, 120, 1113, 1114, 1115, 1116, 1117, 1118, 1119, 1120, 1121, 1122, 1123, 1124, 1125, 1126, 1127, 1128, 1129, 1130, 1131]
set_option maxRecDepth 20000 in
theorem tie_wsX12_surely_r5 : wsX12_surely_r5 = tk ix_wsX12_surely_r5 := rfl
abbrev ix_wsX12_surely_r6 : List Nat := [1132, 1133, 1134, 1135, 1136, 1137, 122, 123, 174, 175, 176, 177, 1138, 1139, 1140, 1141, 124, 364, 365, 366, 367, 344, 345, 346]
set_option maxRecDepth 20000 in
theorem tie_wsX12_surely_r6 : wsX12_surely_r6 = tk ix_wsX12_surely_r6 := rfl
abbrev ix_wsX12_surely_r7 : List Nat := [347, 320, 321, 322, 323, 1142, 1143, 1144, 1145, 1146, 1147, 1148, 1149, 1150, 1151, 1152, 1153, 1154, 1155, 1156, 1157, 131, 130]
set_option maxRecDepth 20000 in
theorem tie_wsX12_surely_r7 : wsX12_surely_r7 = tk ix_wsX12_surely_r7 := rfl
abbrev ix_wsX12_surely : List Nat := 1220 :: (((ix_wsX12_surely_r1) ++ ((ix_wsX12_surely_r2) ++ ((ix_wsX12_surely_r3) ++ ((ix_wsX12_surely_r4) ++ ((ix_wsX12_surely_r5) ++ ((ix_wsX12_surely_r6) ++ (ix_wsX12_surely_r7))))))) ++ (ix_wsX120))
set_option maxRecDepth 20000 in
theorem tie_wsX12_surely : wsX12_surely = tk ix_wsX12_surely := tk_co rfl (tk_ap (tk_ap (tie_wsX12_surely_r1) (tk_ap (tie_wsX12_surely_r2) (tk_ap (tie_wsX12_surely_r3) (tk_ap (tie_wsX12_surely_r4) (tk_ap (tie_wsX12_surely_r5) (tk_ap (tie_wsX12_surely_r6) (tie_wsX12_surely_r7))))))) (tie_wsX120))
abbrev ix_wsX12_steady_r1 : List Nat := [132, 1175, 1176, 1177, 5, 1178, 899, 900, 901, 902, 810, 237, 238, 239, 233, 234, 235, 236, 115, 479, 480, 481, 1075, 1076]
set_option maxRecDepth 20000 in
theorem tie_wsX12_steady_r1 : wsX12_steady_r1 = tk ix_wsX12_steady_r1 := rfl
abbrev ix_wsX12_steady_r2 : List Nat := [1077, 1078, 125, 128, 126, 127, 1079, 1080, 1081, 1082, 1083, 1084, 1085, 1086, 1087, 431, 432, 433, 434, 435, 436, 437, 438, 240]
set_option maxRecDepth 20000 in
theorem tie_wsX12_steady_r2 : wsX12_steady_r2 = tk ix_wsX12_steady_r2 := rfl
abbrev ix_wsX12_steady_r3 : List Nat := [241, 242, 243, 488, 489, 490, 919, 920, 921, 922, 923, 924, 1088, 1089, 1090, 1091, 129, 1092, 1093, 1094, 1095, 324, 325, 326]
set_option maxRecDepth 20000 in
theorem tie_wsX12_steady_r3 : wsX12_steady_r3 = tk ix_wsX12_steady_r3 := rfl
abbrev ix_wsX12_steady_r4 : List Nat := [925, 926, 927, 1096, 1097, 1098, 1099, 487, 486, 427, 428, 429, 430, 327, 328, 329, 330, 482, 483, 484, 485, 1100, 1101, 1102]
set_option maxRecDepth 20000 in
theorem tie_wsX12_steady_r4 : wsX12_steady_r4 = tk ix_wsX12_steady_r4 := rfl
abbrev ix_wsX12_steady_r5 : List Nat := [1103, 1104, 121, 1105, 1106, 1107, 1108, 1109, 1110, 1111, 1112, 120, 1113, 1114, 1115, 1116, 1117, 1118, 1119, 1120, 1121, 1122, 1123, 1124]
set_option maxRecDepth 20000 in
theorem tie_wsX12_steady_r5 : wsX12_steady_r5 = tk ix_wsX12_steady_r5 := rfl
abbrev ix_wsX12_steady_r6 : List Nat := [1125, 1126, 1127, 1128, 1129, 1130, 1131, 1132, 1133, 1134, 1135, 1136, 1137, 122, 123, 174, 175, 176, 177, 1138, 1139, 1140, 1141, 124]
set_option maxRecDepth 20000 in
theorem tie_wsX12_steady_r6 : wsX12_steady_r6 = tk ix_wsX12_steady_r6 := rfl
abbrev ix_wsX12_steady_r7 : List Nat := [364, 365, 366, 367, 344, 345, 346, 347, 320, 321, 322, 323, 1142, 1143, 1144, 1145, 1146, 1147, 1148, 1149, 1150, 1151, 1152, 1153]
set_option maxRecDepth 20000 in
theorem tie_wsX12_steady_r7 : wsX12_steady_r7 = tk ix_wsX12_steady_r7 := rfl
abbrev ix_wsX12_steady_r8 : List Nat := [1154, 1155, 1156, 1157, 131, 130, 491, 492, 493, 494]
set_option maxRecDepth 20000 in
theorem tie_wsX12_steady_r8 : wsX12_steady_r8 = tk ix_wsX12_steady_r8 := rfl
abbrev ix_wsX12_steady : List Nat := 1228 :: (((ix_wsX12_steady_r1) ++ ((ix_wsX12_steady_r2) ++ ((ix_wsX12_steady_r3) ++ ((ix_wsX12_steady_r4) ++ ((ix_wsX12_steady_r5) ++ ((ix_wsX12_steady_r6) ++ ((ix_wsX12_steady_r7) ++ (ix_wsX12_steady_r8)))))))) ++ (ix_wsX120))
set_option maxRecDepth 20000 in
theorem tie_wsX12_steady : wsX12_steady = tk ix_wsX12_steady := tk_co rfl (tk_ap (tk_ap (tie_wsX12_steady_r1) (tk_ap (tie_wsX12_steady_r2) (tk_ap (tie_wsX12_steady_r3) (tk_ap (tie_wsX12_steady_r4) (tk_ap (tie_wsX12_steady_r5) (tk_ap (tie_wsX12_steady_r6) (tk_ap (tie_wsX12_steady_r7) (tie_wsX12_steady_r8)))))))) (tie_wsX120))
abbrev ix_wsX12_share_r1 : List Nat := [478, 233, 234, 235, 5, 236, 115, 237, 238, 239, 479, 480, 481, 1138, 1139, 1140, 1141, 486, 487, 124, 364, 365, 366, 367]
set_option maxRecDepth 20000 in
theorem tie_wsX12_share_r1 : wsX12_share_r1 = tk ix_wsX12_share_r1 := rfl
abbrev ix_wsX12_share_r2 : List Nat := [344, 345, 346, 347, 320, 321, 322, 323, 324, 325, 326, 327, 328, 329, 330, 240, 241, 242, 243, 1092, 1093, 1094, 1095, 1100]
set_option maxRecDepth 20000 in
theorem tie_wsX12_share_r2 : wsX12_share_r2 = tk ix_wsX12_share_r2 := rfl
abbrev ix_wsX12_share_r3 : List Nat := [1101, 1102, 1103, 1104, 121, 1105, 1106, 1107, 1108, 427, 428, 429, 430, 482, 483, 484, 485, 488, 489, 490, 1109, 1110, 1111, 1112]
set_option maxRecDepth 20000 in
theorem tie_wsX12_share_r3 : wsX12_share_r3 = tk ix_wsX12_share_r3 := rfl
abbrev ix_wsX12_share_r4 : List Nat := [120, 431, 432, 433, 434, 435, 436, 437, 438, 1113, 1114, 1115, 1116, 1117, 1118, 1119, 1120, 1121, 1122, 1123, 1124, 1125, 1126, 1127]
set_option maxRecDepth 20000 in
theorem tie_wsX12_share_r4 : wsX12_share_r4 = tk ix_wsX12_share_r4 := rfl
abbrev ix_wsX12_share_r5 : List Nat := [1128, 1129, 1130, 1131, 1132, 1133, 1142, 1143, 1144, 1145, 491, 492, 493, 494]
set_option maxRecDepth 20000 in
theorem tie_wsX12_share_r5 : wsX12_share_r5 = tk ix_wsX12_share_r5 := rfl
abbrev ix_wsX12_share : List Nat := 1236 :: (((ix_wsX12_share_r1) ++ ((ix_wsX12_share_r2) ++ ((ix_wsX12_share_r3) ++ ((ix_wsX12_share_r4) ++ (ix_wsX12_share_r5))))) ++ (ix_wsX120))
set_option maxRecDepth 20000 in
theorem tie_wsX12_share : wsX12_share = tk ix_wsX12_share := tk_co rfl (tk_ap (tk_ap (tie_wsX12_share_r1) (tk_ap (tie_wsX12_share_r2) (tk_ap (tie_wsX12_share_r3) (tk_ap (tie_wsX12_share_r4) (tie_wsX12_share_r5))))) (tie_wsX120))
abbrev ix_wsX12_expected_r1 : List Nat := [132, 1250, 1175, 1176, 1177, 5, 1178, 899, 900, 901, 902, 810, 237, 238, 239, 233, 234, 235, 236, 115, 479, 480, 481, 1075]
set_option maxRecDepth 20000 in
theorem tie_wsX12_expected_r1 : wsX12_expected_r1 = tk ix_wsX12_expected_r1 := rfl
abbrev ix_wsX12_expected_r2 : List Nat := [1076, 1077, 1078, 125, 128, 126, 127, 1079, 1080, 1081, 1082, 1083, 1084, 1085, 1086, 1087, 431, 432, 433, 434, 435, 436, 437, 438]
set_option maxRecDepth 20000 in
theorem tie_wsX12_expected_r2 : wsX12_expected_r2 = tk ix_wsX12_expected_r2 := rfl
abbrev ix_wsX12_expected_r3 : List Nat := [240, 241, 242, 243, 488, 489, 490, 919, 920, 921, 922, 923, 924, 1088, 1089, 1090, 1091, 129, 1092, 1093, 1094, 1095, 324, 325]
set_option maxRecDepth 20000 in
theorem tie_wsX12_expected_r3 : wsX12_expected_r3 = tk ix_wsX12_expected_r3 := rfl
abbrev ix_wsX12_expected_r4 : List Nat := [326, 925, 926, 927, 1096, 1097, 1098, 1099, 487, 486, 427, 428, 429, 430, 327, 328, 329, 330, 482, 483, 484, 485, 1100, 1101]
set_option maxRecDepth 20000 in
theorem tie_wsX12_expected_r4 : wsX12_expected_r4 = tk ix_wsX12_expected_r4 := rfl
abbrev ix_wsX12_expected_r5 : List Nat := [1102, 1103, 1104, 121, 1105, 1106, 1107, 1108, 1109, 1110, 1111, 1112, 120, 1113, 1114, 1115, 1116, 1117, 1118, 1119, 1120, 1121, 1122, 1123]
set_option maxRecDepth 20000 in
theorem tie_wsX12_expected_r5 : wsX12_expected_r5 = tk ix_wsX12_expected_r5 := rfl
abbrev ix_wsX12_expected_r6 : List Nat := [1124, 1125, 1126, 1127, 1128, 1129, 1130, 1131, 1132, 1133, 1134, 1135, 1136, 1137, 122, 123, 174, 175, 176, 177, 1138, 1139, 1140, 1141]
set_option maxRecDepth 20000 in
theorem tie_wsX12_expected_r6 : wsX12_expected_r6 = tk ix_wsX12_expected_r6 := rfl
abbrev ix_wsX12_expected_r7 : List Nat := [124, 364, 365, 366, 367, 344, 345, 346, 347, 320, 321, 322, 323, 1142, 1143, 1144, 1145, 1146, 1147, 1148, 1149, 1150, 1151, 1152]
set_option maxRecDepth 20000 in
theorem tie_wsX12_expected_r7 : wsX12_expected_r7 = tk ix_wsX12_expected_r7 := rfl
abbrev ix_wsX12_expected_r8 : List Nat := [1153, 1154, 1155, 1156, 1157, 131, 130, 491, 492, 493, 494]
set_option maxRecDepth 20000 in
theorem tie_wsX12_expected_r8 : wsX12_expected_r8 = tk ix_wsX12_expected_r8 := rfl
abbrev ix_wsX12_expected : List Nat := 1249 :: (((ix_wsX12_expected_r1) ++ ((ix_wsX12_expected_r2) ++ ((ix_wsX12_expected_r3) ++ ((ix_wsX12_expected_r4) ++ ((ix_wsX12_expected_r5) ++ ((ix_wsX12_expected_r6) ++ ((ix_wsX12_expected_r7) ++ (ix_wsX12_expected_r8)))))))) ++ (ix_wsX120))
set_option maxRecDepth 20000 in
theorem tie_wsX12_expected : wsX12_expected = tk ix_wsX12_expected := tk_co rfl (tk_ap (tk_ap (tie_wsX12_expected_r1) (tk_ap (tie_wsX12_expected_r2) (tk_ap (tie_wsX12_expected_r3) (tk_ap (tie_wsX12_expected_r4) (tk_ap (tie_wsX12_expected_r5) (tk_ap (tie_wsX12_expected_r6) (tk_ap (tie_wsX12_expected_r7) (tie_wsX12_expected_r8)))))))) (tie_wsX120))
abbrev ix_wsX12_compared : List Nat := 1297 :: (([137, 138, 139, 327, 328, 329, 5, 330, 115, 240, 241, 242, 243, 431, 432, 433, 434, 435, 436, 437, 438]) ++ (ix_wsX120))
set_option maxRecDepth 20000 in
theorem tie_wsX12_compared : wsX12_compared = tk ix_wsX12_compared := tk_co rfl (tk_ap (rfl) (tie_wsX120))
abbrev ix_wsX12_findBest_r1 : List Nat := [115, 137, 138, 139, 486, 487, 324, 325, 5, 326, 327, 328, 329, 330, 240, 241, 242, 243, 1294, 1295, 1296, 1297, 431, 432]
set_option maxRecDepth 20000 in
theorem tie_wsX12_findBest_r1 : wsX12_findBest_r1 = tk ix_wsX12_findBest_r1 := rfl
abbrev ix_wsX12_findBest_r2 : List Nat := [433, 434, 435, 436, 437, 438, 482, 483, 484, 485, 488, 489, 490]
set_option maxRecDepth 20000 in
theorem tie_wsX12_findBest_r2 : wsX12_findBest_r2 = tk ix_wsX12_findBest_r2 := rfl
abbrev ix_wsX12_findBest : List Nat := 1293 :: (((ix_wsX12_findBest_r1) ++ (ix_wsX12_findBest_r2)) ++ (ix_wsX120))
set_option maxRecDepth 20000 in
theorem tie_wsX12_findBest : wsX12_findBest = tk ix_wsX12_findBest := tk_co rfl (tk_ap (tk_ap (tie_wsX12_findBest_r1) (tie_wsX12_findBest_r2)) (tie_wsX120))
abbrev ix_wsX12_nextOnBest_r1 : List Nat := [137, 327, 328, 329, 5, 330, 115, 240, 241, 242, 243, 1294, 1295, 1296, 1297, 138, 139, 431, 432, 433, 434, 435, 436, 437]
set_option maxRecDepth 20000 in
theorem tie_wsX12_nextOnBest_r1 : wsX12_nextOnBest_r1 = tk ix_wsX12_nextOnBest_r1 := rfl
abbrev ix_wsX12_nextOnBest_r2 : List Nat := [438]
set_option maxRecDepth 20000 in
theorem tie_wsX12_nextOnBest_r2 : wsX12_nextOnBest_r2 = tk ix_wsX12_nextOnBest_r2 := rfl
abbrev ix_wsX12_nextOnBest : List Nat := 1301 :: (((ix_wsX12_nextOnBest_r1) ++ (ix_wsX12_nextOnBest_r2)) ++ (ix_wsX120))
set_option maxRecDepth 20000 in
theorem tie_wsX12_nextOnBest : wsX12_nextOnBest = tk ix_wsX12_nextOnBest := tk_co rfl (tk_ap (tk_ap (tie_wsX12_nextOnBest_r1) (tie_wsX12_nextOnBest_r2)) (tie_wsX120))
abbrev ix_wsX12_bestPath_r1 : List Nat := [132, 137, 139, 233, 234, 235, 5, 236, 115, 237, 238, 239, 1208, 1209, 1210, 1211, 899, 900, 901, 902, 810, 1075, 1076, 1077]
set_option maxRecDepth 20000 in
theorem tie_wsX12_bestPath_r1 : wsX12_bestPath_r1 = tk ix_wsX12_bestPath_r1 := rfl
abbrev ix_wsX12_bestPath_r2 : List Nat := [1078, 125, 128, 126, 127, 1079, 1080, 1081, 1082, 1083, 1084, 1085, 1086, 1087, 431, 432, 433, 434, 435, 436, 437, 438, 240, 241]
set_option maxRecDepth 20000 in
theorem tie_wsX12_bestPath_r2 : wsX12_bestPath_r2 = tk ix_wsX12_bestPath_r2 := rfl
abbrev ix_wsX12_bestPath_r3 : List Nat := [242, 243, 488, 489, 490, 919, 920, 921, 922, 923, 924, 1088, 1089, 1090, 1091, 129, 1092, 1093, 1094, 1095, 324, 325, 326, 925]
set_option maxRecDepth 20000 in
theorem tie_wsX12_bestPath_r3 : wsX12_bestPath_r3 = tk ix_wsX12_bestPath_r3 := rfl
abbrev ix_wsX12_bestPath_r4 : List Nat := [926, 927, 1096, 1097, 1098, 1099, 487, 486, 427, 428, 429, 430, 327, 328, 329, 330, 482, 483, 484, 485, 1100, 1101, 1102, 1103]
set_option maxRecDepth 20000 in
theorem tie_wsX12_bestPath_r4 : wsX12_bestPath_r4 = tk ix_wsX12_bestPath_r4 := rfl
abbrev ix_wsX12_bestPath_r5 : List Nat := [1104, 121, 1105, 1106, 1107, 1108, 1109, 1110, 1111, 1112, 120, 1113, 1114, 1115, 1116, 1117, 1118, 1119, 1120, 1121, 1122, 1123, 1124, 1125]
set_option maxRecDepth 20000 in
theorem tie_wsX12_bestPath_r5 : wsX12_bestPath_r5 = tk ix_wsX12_bestPath_r5 := rfl
abbrev ix_wsX12_bestPath_r6 : List Nat := [1126, 1127, 1128, 1129, 1130, 1131, 1132, 1133, 1134, 1135, 1136, 1137, 122, 123, 174, 175, 176, 177, 1138, 1139, 1140, 1141, 124, 364]
set_option maxRecDepth 20000 in
theorem tie_wsX12_bestPath_r6 : wsX12_bestPath_r6 = tk ix_wsX12_bestPath_r6 := rfl
abbrev ix_wsX12_bestPath_r7 : List Nat := [365, 366, 367, 344, 345, 346, 347, 320, 321, 322, 323, 1142, 1143, 1144, 1145, 1146, 1147, 1148, 1149, 1150, 1151, 1152, 1153, 1154]
set_option maxRecDepth 20000 in
theorem tie_wsX12_bestPath_r7 : wsX12_bestPath_r7 = tk ix_wsX12_bestPath_r7 := rfl
abbrev ix_wsX12_bestPath_r8 : List Nat := [1155, 1156, 1157, 131, 130, 1290, 1291, 1292, 1293, 138, 1294, 1295, 1296, 1297, 1298, 1299, 1300, 1301]
set_option maxRecDepth 20000 in
theorem tie_wsX12_bestPath_r8 : wsX12_bestPath_r8 = tk ix_wsX12_bestPath_r8 := rfl
abbrev ix_wsX12_bestPath : List Nat := 1289 :: (((ix_wsX12_bestPath_r1) ++ ((ix_wsX12_bestPath_r2) ++ ((ix_wsX12_bestPath_r3) ++ ((ix_wsX12_bestPath_r4) ++ ((ix_wsX12_bestPath_r5) ++ ((ix_wsX12_bestPath_r6) ++ ((ix_wsX12_bestPath_r7) ++ (ix_wsX12_bestPath_r8)))))))) ++ (ix_wsX120))
set_option maxRecDepth 20000 in
theorem tie_wsX12_bestPath : wsX12_bestPath = tk ix_wsX12_bestPath := tk_co rfl (tk_ap (tk_ap (tie_wsX12_bestPath_r1) (tk_ap (tie_wsX12_bestPath_r2) (tk_ap (tie_wsX12_bestPath_r3) (tk_ap (tie_wsX12_bestPath_r4) (tk_ap (tie_wsX12_bestPath_r5) (tk_ap (tie_wsX12_bestPath_r6) (tk_ap (tie_wsX12_bestPath_r7) (tie_wsX12_bestPath_r8)))))))) (tie_wsX120))
abbrev ix_wsX12_bestProduct_r1 : List Nat := [132, 137, 1315, 138, 1175, 1176, 1177, 5, 1178, 899, 900, 901, 902, 810, 237, 238, 239, 233, 234, 235, 236, 115, 479, 480]
set_option maxRecDepth 20000 in
theorem tie_wsX12_bestProduct_r1 : wsX12_bestProduct_r1 = tk ix_wsX12_bestProduct_r1 := rfl
abbrev ix_wsX12_bestProduct_r2 : List Nat := [481, 1075, 1076, 1077, 1078, 125, 128, 126, 127, 1079, 1080, 1081, 1082, 1083, 1084, 1085, 1086, 1087, 431, 432, 433, 434, 435, 436]
set_option maxRecDepth 20000 in
theorem tie_wsX12_bestProduct_r2 : wsX12_bestProduct_r2 = tk ix_wsX12_bestProduct_r2 := rfl
abbrev ix_wsX12_bestProduct_r3 : List Nat := [437, 438, 240, 241, 242, 243, 488, 489, 490, 919, 920, 921, 922, 923, 924, 1088, 1089, 1090, 1091, 129, 1092, 1093, 1094, 1095]
set_option maxRecDepth 20000 in
theorem tie_wsX12_bestProduct_r3 : wsX12_bestProduct_r3 = tk ix_wsX12_bestProduct_r3 := rfl
abbrev ix_wsX12_bestProduct_r4 : List Nat := [324, 325, 326, 925, 926, 927, 1096, 1097, 1098, 1099, 487, 486, 427, 428, 429, 430, 327, 328, 329, 330, 482, 483, 484, 485]
set_option maxRecDepth 20000 in
theorem tie_wsX12_bestProduct_r4 : wsX12_bestProduct_r4 = tk ix_wsX12_bestProduct_r4 := rfl
abbrev ix_wsX12_bestProduct_r5 : List Nat := [1100, 1101, 1102, 1103, 1104, 121, 1105, 1106, 1107, 1108, 1109, 1110, 1111, 1112, 120, 1113, 1114, 1115, 1116, 1117, 1118, 1119, 1120, 1121]
set_option maxRecDepth 20000 in
theorem tie_wsX12_bestProduct_r5 : wsX12_bestProduct_r5 = tk ix_wsX12_bestProduct_r5 := rfl
abbrev ix_wsX12_bestProduct_r6 : List Nat := [1122, 1123, 1124, 1125, 1126, 1127, 1128, 1129, 1130, 1131, 1132, 1133, 1134, 1135, 1136, 1137, 122, 123, 174, 175, 176, 177, 1138, 1139]
set_option maxRecDepth 20000 in
theorem tie_wsX12_bestProduct_r6 : wsX12_bestProduct_r6 = tk ix_wsX12_bestProduct_r6 := rfl
abbrev ix_wsX12_bestProduct_r7 : List Nat := [1140, 1141, 124, 364, 365, 366, 367, 344, 345, 346, 347, 320, 321, 322, 323, 1142, 1143, 1144, 1145, 1146, 1147, 1148, 1149, 1150]
set_option maxRecDepth 20000 in
theorem tie_wsX12_bestProduct_r7 : wsX12_bestProduct_r7 = tk ix_wsX12_bestProduct_r7 := rfl
abbrev ix_wsX12_bestProduct_r8 : List Nat := [1151, 1152, 1153, 1154, 1155, 1156, 1157, 131, 130, 1290, 1291, 1292, 1293, 139, 1294, 1295, 1296, 1297]
set_option maxRecDepth 20000 in
theorem tie_wsX12_bestProduct_r8 : wsX12_bestProduct_r8 = tk ix_wsX12_bestProduct_r8 := rfl
abbrev ix_wsX12_bestProduct : List Nat := 1314 :: (((ix_wsX12_bestProduct_r1) ++ ((ix_wsX12_bestProduct_r2) ++ ((ix_wsX12_bestProduct_r3) ++ ((ix_wsX12_bestProduct_r4) ++ ((ix_wsX12_bestProduct_r5) ++ ((ix_wsX12_bestProduct_r6) ++ ((ix_wsX12_bestProduct_r7) ++ (ix_wsX12_bestProduct_r8)))))))) ++ (ix_wsX120))
set_option maxRecDepth 20000 in
theorem tie_wsX12_bestProduct : wsX12_bestProduct = tk ix_wsX12_bestProduct := tk_co rfl (tk_ap (tk_ap (tie_wsX12_bestProduct_r1) (tk_ap (tie_wsX12_bestProduct_r2) (tk_ap (tie_wsX12_bestProduct_r3) (tk_ap (tie_wsX12_bestProduct_r4) (tk_ap (tie_wsX12_bestProduct_r5) (tk_ap (tie_wsX12_bestProduct_r6) (tk_ap (tie_wsX12_bestProduct_r7) (tie_wsX12_bestProduct_r8)))))))) (tie_wsX120))
abbrev ix_wsX12_walk_r1 : List Nat := [1329, 233, 234, 235, 5, 236, 115, 237, 238, 239, 431, 432, 433, 434, 435, 436, 437, 438, 240, 241, 242, 243, 327, 328]
set_option maxRecDepth 20000 in
theorem tie_wsX12_walk_r1 : wsX12_walk_r1 = tk ix_wsX12_walk_r1 := rfl
abbrev ix_wsX12_walk_r2 : List Nat := [329, 330]
set_option maxRecDepth 20000 in
theorem tie_wsX12_walk_r2 : wsX12_walk_r2 = tk ix_wsX12_walk_r2 := rfl
abbrev ix_wsX12_walk : List Nat := 1328 :: (((ix_wsX12_walk_r1) ++ (ix_wsX12_walk_r2)) ++ (ix_wsX120))
set_option maxRecDepth 20000 in
theorem tie_wsX12_walk : wsX12_walk = tk ix_wsX12_walk := tk_co rfl (tk_ap (tk_ap (tie_wsX12_walk_r1) (tie_wsX12_walk_r2)) (tie_wsX120))
abbrev ix_wsJ5_init_d00df : List Nat := 97 :: (([98, 10, 11, 99, 100, 101, 102, 103, 104, 105, 106, 107, 108, 109, 110]) ++ (ix_wsJ40))
set_option maxRecDepth 20000 in
theorem tie_wsJ5_init_d00df : wsJ5_init_d00df = tk ix_wsJ5_init_d00df := tk_co rfl (tk_ap (rfl) (tie_wsJ40))
abbrev ix_wsJ2_newBytesFor_77867 : List Nat := 106 :: [100, 107, 108, 105, 109, 110]
set_option maxRecDepth 20000 in
theorem tie_wsJ2_newBytesFor_77867 : wsJ2_newBytesFor_77867 = tk ix_wsJ2_newBytesFor_77867 := tk_co rfl (rfl)
abbrev ix_wsJ5_ensureCapacityInternal_d00df_r1 : List Nat := [101, 102, 522, 523, 524, 525, 96, 526, 527, 528, 529, 530, 531, 532, 436, 437, 438, 533, 534, 535, 536, 537, 538, 539]
set_option maxRecDepth 20000 in
theorem tie_wsJ5_ensureCapacityInternal_d00df_r1 : wsJ5_ensureCapacityInternal_d00df_r1 = tk ix_wsJ5_ensureCapacityInternal_d00df_r1 := rfl
abbrev ix_wsJ5_ensureCapacityInternal_d00df_r2 : List Nat := [540, 541, 542, 543, 544, 545, 546, 100, 547, 548, 549, 550, 175, 176, 177]
set_option maxRecDepth 20000 in
theorem tie_wsJ5_ensureCapacityInternal_d00df_r2 : wsJ5_ensureCapacityInternal_d00df_r2 = tk ix_wsJ5_ensureCapacityInternal_d00df_r2 := rfl
abbrev ix_wsJ5_ensureCapacityInternal_d00df : List Nat := 521 :: (((ix_wsJ5_ensureCapacityInternal_d00df_r1) ++ (ix_wsJ5_ensureCapacityInternal_d00df_r2)) ++ (ix_wsJ40))
set_option maxRecDepth 20000 in
theorem tie_wsJ5_ensureCapacityInternal_d00df : wsJ5_ensureCapacityInternal_d00df = tk ix_wsJ5_ensureCapacityInternal_d00df := tk_co rfl (tk_ap (tk_ap (tie_wsJ5_ensureCapacityInternal_d00df_r1) (tie_wsJ5_ensureCapacityInternal_d00df_r2)) (tie_wsJ40))
abbrev ix_wsJ5_newCapacity_0f7a4 : List Nat := 526 :: (([101, 102, 527, 528, 529, 530, 531, 532, 436, 437, 438, 533, 534, 535, 536]) ++ (ix_wsJ40))
set_option maxRecDepth 20000 in
theorem tie_wsJ5_newCapacity_0f7a4 : wsJ5_newCapacity_0f7a4 = tk ix_wsJ5_newCapacity_0f7a4 := tk_co rfl (tk_ap (rfl) (tie_wsJ40))
abbrev ix_wsJ7_copyOf_9075b : List Nat := 540 :: [541, 542, 543, 544, 545, 546, 100, 547, 548, 437, 549, 550, 175, 176, 177]
set_option maxRecDepth 20000 in
theorem tie_wsJ7_copyOf_9075b : wsJ7_copyOf_9075b = tk ix_wsJ7_copyOf_9075b := tk_co rfl (rfl)
abbrev ix_wsJ8_newLength_cabcc : List Nat := 531 :: [532, 436, 437, 438, 533, 534, 535, 530, 536]
set_option maxRecDepth 20000 in
theorem tie_wsJ8_newLength_cabcc : wsJ8_newLength_cabcc = tk ix_wsJ8_newLength_cabcc := tk_co rfl (rfl)
abbrev ix_wsJ5_inflate_da8c8_r1 : List Nat := [101, 508, 102, 551, 552, 553, 554, 96, 555, 99, 103, 104, 105, 106, 100, 107, 108, 109, 110, 565, 566, 558, 567, 568]
set_option maxRecDepth 20000 in
theorem tie_wsJ5_inflate_da8c8_r1 : wsJ5_inflate_da8c8_r1 = tk ix_wsJ5_inflate_da8c8_r1 := rfl
abbrev ix_wsJ5_inflate_da8c8_r2 : List Nat := [569, 570, 571, 572, 573, 574, 575, 576, 577, 578, 579, 580, 581, 582, 583, 584, 585, 586, 587, 588, 589, 590, 591]
set_option maxRecDepth 20000 in
theorem tie_wsJ5_inflate_da8c8_r2 : wsJ5_inflate_da8c8_r2 = tk ix_wsJ5_inflate_da8c8_r2 := rfl
abbrev ix_wsJ5_inflate_da8c8 : List Nat := 564 :: (((ix_wsJ5_inflate_da8c8_r1) ++ (ix_wsJ5_inflate_da8c8_r2)) ++ (ix_wsJ40))
set_option maxRecDepth 20000 in
theorem tie_wsJ5_inflate_da8c8 : wsJ5_inflate_da8c8 = tk ix_wsJ5_inflate_da8c8 := tk_co rfl (tk_ap (tk_ap (tie_wsJ5_inflate_da8c8_r1) (tie_wsJ5_inflate_da8c8_r2)) (tie_wsJ40))
abbrev ix_wsJ5_isLatin1_aae02 : List Nat := 555 :: (([99, 102]) ++ (ix_wsJ40))
set_option maxRecDepth 20000 in
theorem tie_wsJ5_isLatin1_aae02 : wsJ5_isLatin1_aae02 = tk ix_wsJ5_isLatin1_aae02 := tk_co rfl (tk_ap (rfl) (tie_wsJ40))
abbrev ix_wsJ1_inflate_0e8fd_r1 : List Nat := [568, 569, 105, 570, 571, 572, 573, 574, 575, 576, 577, 578, 579, 580, 581, 582, 583, 584, 585, 586, 587, 588, 589, 590]
set_option maxRecDepth 20000 in
theorem tie_wsJ1_inflate_0e8fd_r1 : wsJ1_inflate_0e8fd_r1 = tk ix_wsJ1_inflate_0e8fd_r1 := rfl
abbrev ix_wsJ1_inflate_0e8fd_r2 : List Nat := [591]
set_option maxRecDepth 20000 in
theorem tie_wsJ1_inflate_0e8fd_r2 : wsJ1_inflate_0e8fd_r2 = tk ix_wsJ1_inflate_0e8fd_r2 := rfl
abbrev ix_wsJ1_inflate_0e8fd : List Nat := 567 :: ((ix_wsJ1_inflate_0e8fd_r1) ++ (ix_wsJ1_inflate_0e8fd_r2))
set_option maxRecDepth 20000 in
theorem tie_wsJ1_inflate_0e8fd : wsJ1_inflate_0e8fd = tk ix_wsJ1_inflate_0e8fd := tk_co rfl (tk_ap (tie_wsJ1_inflate_0e8fd_r1) (tie_wsJ1_inflate_0e8fd_r2))
abbrev ix_wsJ5_setLength_d00df_r1 : List Nat := [508, 101, 674, 517, 518, 519, 520, 96, 521, 102, 522, 523, 524, 525, 526, 527, 528, 529, 530, 531, 532, 436, 437, 438]
set_option maxRecDepth 20000 in
theorem tie_wsJ5_setLength_d00df_r1 : wsJ5_setLength_d00df_r1 = tk ix_wsJ5_setLength_d00df_r1 := rfl
abbrev ix_wsJ5_setLength_d00df_r2 : List Nat := [533, 534, 535, 536, 537, 538, 539, 540, 541, 542, 543, 544, 545, 546, 100, 547, 548, 549, 550, 175, 176, 177, 551, 552]
set_option maxRecDepth 20000 in
theorem tie_wsJ5_setLength_d00df_r2 : wsJ5_setLength_d00df_r2 = tk ix_wsJ5_setLength_d00df_r2 := rfl
abbrev ix_wsJ5_setLength_d00df_r3 : List Nat := [553, 554, 555, 99, 675, 676, 558, 677, 678, 679, 680, 681, 682, 683, 684, 685, 105, 686, 687]
set_option maxRecDepth 20000 in
theorem tie_wsJ5_setLength_d00df_r3 : wsJ5_setLength_d00df_r3 = tk ix_wsJ5_setLength_d00df_r3 := rfl
abbrev ix_wsJ5_setLength_d00df : List Nat := 673 :: (((ix_wsJ5_setLength_d00df_r1) ++ ((ix_wsJ5_setLength_d00df_r2) ++ (ix_wsJ5_setLength_d00df_r3))) ++ (ix_wsJ40))
set_option maxRecDepth 20000 in
theorem tie_wsJ5_setLength_d00df : wsJ5_setLength_d00df = tk ix_wsJ5_setLength_d00df := tk_co rfl (tk_ap (tk_ap (tie_wsJ5_setLength_d00df_r1) (tk_ap (tie_wsJ5_setLength_d00df_r2) (tie_wsJ5_setLength_d00df_r3))) (tie_wsJ40))
