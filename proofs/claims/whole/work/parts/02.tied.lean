abbrev ix_wsJ4_setLength_d00df_r2 : List Nat := [541, 542, 446, 447, 448, 543, 544, 545, 546, 547, 548, 549, 550, 551, 552, 553, 554, 555, 556, 110, 557, 558, 559, 560]
set_option maxRecDepth 20000 in
theorem tie_wsJ4_setLength_d00df_r2 : wsJ4_setLength_d00df_r2 = tk ix_wsJ4_setLength_d00df_r2 := rfl
abbrev ix_wsJ4_setLength_d00df_r3 : List Nat := [185, 186, 187, 561, 562, 563, 564, 565, 109, 685, 686, 568, 687, 688, 689, 690, 691, 692, 693, 694, 695, 115, 696, 697]
set_option maxRecDepth 20000 in
theorem tie_wsJ4_setLength_d00df_r3 : wsJ4_setLength_d00df_r3 = tk ix_wsJ4_setLength_d00df_r3 := rfl
abbrev ix_wsJ4_setLength_d00df : List Nat := 679 :: (((ix_wsJ4_setLength_d00df_r1) ++ ((ix_wsJ4_setLength_d00df_r2) ++ (ix_wsJ4_setLength_d00df_r3))) ++ (ix_wsJ40))
set_option maxRecDepth 20000 in
theorem tie_wsJ4_setLength_d00df : wsJ4_setLength_d00df = tk ix_wsJ4_setLength_d00df := tk_co rfl (tk_ap (tk_ap (tie_wsJ4_setLength_d00df_r1) (tk_ap (tie_wsJ4_setLength_d00df_r2) (tie_wsJ4_setLength_d00df_r3))) (tie_wsJ40))
abbrev ix_wsX10_init : List Nat := 700 :: (([701, 10, 11, 702, 703, 704]) ++ (ix_wsX100))
set_option maxRecDepth 20000 in
theorem tie_wsX10_init : wsX10_init = tk ix_wsX10_init := tk_co rfl (tk_ap (rfl) (tie_wsX100))
abbrev ix_wsX10_position : List Nat := 802 :: (([703]) ++ (ix_wsX100))
set_option maxRecDepth 20000 in
theorem tie_wsX10_position : wsX10_position = tk ix_wsX10_position := tk_co rfl (tk_ap (rfl) (tie_wsX100))
abbrev ix_wsX5_init : List Nat := 805 :: (([806, 10, 11, 807, 808]) ++ (ix_wsX50))
set_option maxRecDepth 20000 in
theorem tie_wsX5_init : wsX5_init = tk ix_wsX5_init := tk_co rfl (tk_ap (rfl) (tie_wsX50))
abbrev ix_wsX11_letter_r1 : List Nat := [892, 893, 894, 2, 895, 43, 42, 896, 897, 898, 627, 899, 807, 900, 717, 718, 589, 719, 642, 720, 721, 722, 723, 643]
set_option maxRecDepth 20000 in
theorem tie_wsX11_letter_r1 : wsX11_letter_r1 = tk ix_wsX11_letter_r1 := rfl
abbrev ix_wsX11_letter_r2 : List Nat := [641, 901, 725, 726, 727, 728, 729, 730, 731, 732, 733, 568, 734, 735, 609, 610, 591, 611, 612, 594, 613, 736, 737, 115]
set_option maxRecDepth 20000 in
theorem tie_wsX11_letter_r2 : wsX11_letter_r2 = tk ix_wsX11_letter_r2 := rfl
abbrev ix_wsX11_letter_r3 : List Nat := [738, 605, 606, 607, 584, 585, 586, 608, 669, 670, 671, 599, 600, 601]
set_option maxRecDepth 20000 in
theorem tie_wsX11_letter_r3 : wsX11_letter_r3 = tk ix_wsX11_letter_r3 := rfl
abbrev ix_wsX11_letter : List Nat := 891 :: (((((ix_wsX11_letter_r1) ++ ((ix_wsX11_letter_r2) ++ (ix_wsX11_letter_r3))) ++ (ix_wsX110)) ++ (ix_wsX50)) ++ (ix_wsJ00))
set_option maxRecDepth 20000 in
theorem tie_wsX11_letter : wsX11_letter = tk ix_wsX11_letter := tk_co rfl (tk_ap (tk_ap (tk_ap (tk_ap (tie_wsX11_letter_r1) (tk_ap (tie_wsX11_letter_r2) (tie_wsX11_letter_r3))) (tie_wsX110)) (tie_wsX50)) (tie_wsJ00))
abbrev ix_wsX11_find : List Nat := 895 :: (([43, 42]) ++ (ix_wsX110))
set_option maxRecDepth 20000 in
theorem tie_wsX11_find : wsX11_find = tk ix_wsX11_find := tk_co rfl (tk_ap (rfl) (tie_wsX110))
abbrev ix_wsX11_depth : List Nat := 913 :: (((([892, 893, 894, 2, 895, 43, 42, 914, 915, 916, 627, 917, 808]) ++ (ix_wsX110)) ++ (ix_wsX50)) ++ (ix_wsX90))
set_option maxRecDepth 20000 in
theorem tie_wsX11_depth : wsX11_depth = tk ix_wsX11_depth := tk_co rfl (tk_ap (tk_ap (tk_ap (rfl) (tie_wsX110)) (tie_wsX50)) (tie_wsX90))
abbrev ix_wsX5_nesting : List Nat := 917 :: ((([808]) ++ (ix_wsX50)) ++ (ix_wsX90))
set_option maxRecDepth 20000 in
theorem tie_wsX5_nesting : wsX5_nesting = tk ix_wsX5_nesting := tk_co rfl (tk_ap (tk_ap (rfl) (tie_wsX50)) (tie_wsX90))
abbrev ix_wsX11_holdsIn_r1 : List Nat := [32, 939, 940, 941, 2, 942, 28, 943, 446, 447, 448, 892, 893, 894, 895, 43, 42, 944, 945, 946, 627, 947, 808, 948]
set_option maxRecDepth 20000 in
theorem tie_wsX11_holdsIn_r1 : wsX11_holdsIn_r1 = tk ix_wsX11_holdsIn_r1 := rfl
abbrev ix_wsX11_holdsIn_r2 : List Nat := [949, 950, 17, 951, 65, 952, 953, 954, 955, 14, 956, 158, 957, 414, 415, 416, 412, 234, 235, 236, 237, 230, 231, 232]
set_option maxRecDepth 20000 in
theorem tie_wsX11_holdsIn_r2 : wsX11_holdsIn_r2 = tk ix_wsX11_holdsIn_r2 := rfl
abbrev ix_wsX11_holdsIn_r3 : List Nat := [49, 958, 959, 960, 478, 479, 961, 962, 963, 964, 965, 966, 967, 31, 968, 90, 91, 969, 970, 367, 368, 369, 971, 972]
set_option maxRecDepth 20000 in
theorem tie_wsX11_holdsIn_r3 : wsX11_holdsIn_r3 = tk ix_wsX11_holdsIn_r3 := rfl
abbrev ix_wsX11_holdsIn_r4 : List Nat := [973, 974, 975, 275, 276, 277, 50, 200, 201, 202, 203, 320, 321, 976, 469, 470, 471, 472, 409, 410, 411, 473, 474, 475]
set_option maxRecDepth 20000 in
theorem tie_wsX11_holdsIn_r4 : wsX11_holdsIn_r4 = tk ix_wsX11_holdsIn_r4 := rfl
abbrev ix_wsX11_holdsIn_r5 : List Nat := [476, 477, 61, 62, 402, 403, 977, 978, 979, 980, 59, 981, 982, 983, 984, 322, 323, 324, 325, 985, 986, 987, 58, 988]
set_option maxRecDepth 20000 in
theorem tie_wsX11_holdsIn_r5 : wsX11_holdsIn_r5 = tk ix_wsX11_holdsIn_r5 := rfl
abbrev ix_wsX11_holdsIn_r6 : List Nat := [989, 990, 991, 992, 993, 994, 995, 996, 69, 997, 998, 999, 1000, 1001, 1002, 1003, 1004, 1005, 1006, 1007, 1008, 1009, 1010, 1011]
set_option maxRecDepth 20000 in
theorem tie_wsX11_holdsIn_r6 : wsX11_holdsIn_r6 = tk ix_wsX11_holdsIn_r6 := rfl
abbrev ix_wsX11_holdsIn_r7 : List Nat := [1012, 1013, 1014, 1015, 1016, 1017, 1018, 1019, 1020, 1021, 1022, 1023, 1024, 1025, 1026, 1027, 1028, 1029, 1030, 1031, 1032, 1033, 1034, 1035]
set_option maxRecDepth 20000 in
theorem tie_wsX11_holdsIn_r7 : wsX11_holdsIn_r7 = tk ix_wsX11_holdsIn_r7 := rfl
abbrev ix_wsX11_holdsIn_r8 : List Nat := [1036, 1037, 1038, 1039, 1040, 1041, 1042, 1043, 63, 64, 1044, 1045, 1046, 1047, 1048, 1049, 1050, 1051, 1052, 363, 364, 365, 366, 349]
set_option maxRecDepth 20000 in
theorem tie_wsX11_holdsIn_r8 : wsX11_holdsIn_r8 = tk ix_wsX11_holdsIn_r8 := rfl
abbrev ix_wsX11_holdsIn_r9 : List Nat := [317, 318, 319, 1053, 1054, 1055, 1056, 1057, 1058, 1059, 1060, 1061, 1062, 1063, 1064, 1065, 1066, 1067, 1068, 1069, 1070, 1071, 1072, 296]
set_option maxRecDepth 20000 in
theorem tie_wsX11_holdsIn_r9 : wsX11_holdsIn_r9 = tk ix_wsX11_holdsIn_r9 := rfl
abbrev ix_wsX11_holdsIn_r10 : List Nat := [297, 298, 51, 1073, 1074, 1075, 1076, 1077, 1078, 1079, 772, 1080, 788, 787, 786, 785]
set_option maxRecDepth 20000 in
theorem tie_wsX11_holdsIn_r10 : wsX11_holdsIn_r10 = tk ix_wsX11_holdsIn_r10 := rfl
abbrev ix_wsX11_holdsIn : List Nat := 938 :: ((((((((((ix_wsX11_holdsIn_r1) ++ ((ix_wsX11_holdsIn_r2) ++ ((ix_wsX11_holdsIn_r3) ++ ((ix_wsX11_holdsIn_r4) ++ ((ix_wsX11_holdsIn_r5) ++ ((ix_wsX11_holdsIn_r6) ++ ((ix_wsX11_holdsIn_r7) ++ ((ix_wsX11_holdsIn_r8) ++ ((ix_wsX11_holdsIn_r9) ++ (ix_wsX11_holdsIn_r10)))))))))) ++ (ix_wsX110)) ++ (ix_wsX50)) ++ (ix_wsX90)) ++ (ix_wsX80)) ++ (ix_wsX20)) ++ (ix_wsX40)) ++ (ix_wsX30)) ++ (ix_wsX10))
set_option maxRecDepth 20000 in
theorem tie_wsX11_holdsIn : wsX11_holdsIn = tk ix_wsX11_holdsIn := tk_co rfl (tk_ap (tk_ap (tk_ap (tk_ap (tk_ap (tk_ap (tk_ap (tk_ap (tk_ap (tie_wsX11_holdsIn_r1) (tk_ap (tie_wsX11_holdsIn_r2) (tk_ap (tie_wsX11_holdsIn_r3) (tk_ap (tie_wsX11_holdsIn_r4) (tk_ap (tie_wsX11_holdsIn_r5) (tk_ap (tie_wsX11_holdsIn_r6) (tk_ap (tie_wsX11_holdsIn_r7) (tk_ap (tie_wsX11_holdsIn_r8) (tk_ap (tie_wsX11_holdsIn_r9) (tie_wsX11_holdsIn_r10)))))))))) (tie_wsX110)) (tie_wsX50)) (tie_wsX90)) (tie_wsX80)) (tie_wsX20)) (tie_wsX40)) (tie_wsX30)) (tie_wsX10))
abbrev ix_wsX11_errorOf_r1 : List Nat := [28, 943, 446, 447, 448, 892, 893, 894, 2, 895, 43, 42, 944, 945, 946, 627, 947, 808, 948, 949, 950, 17, 951, 65]
set_option maxRecDepth 20000 in
theorem tie_wsX11_errorOf_r1 : wsX11_errorOf_r1 = tk ix_wsX11_errorOf_r1 := rfl
abbrev ix_wsX11_errorOf_r2 : List Nat := [952, 953, 954, 955, 14, 956, 158, 957, 414, 415, 416, 412, 234, 235, 236, 237, 230, 231, 232, 49, 958, 959, 960, 478]
set_option maxRecDepth 20000 in
theorem tie_wsX11_errorOf_r2 : wsX11_errorOf_r2 = tk ix_wsX11_errorOf_r2 := rfl
abbrev ix_wsX11_errorOf_r3 : List Nat := [479]
set_option maxRecDepth 20000 in
theorem tie_wsX11_errorOf_r3 : wsX11_errorOf_r3 = tk ix_wsX11_errorOf_r3 := rfl
abbrev ix_wsX11_errorOf : List Nat := 942 :: (((((((ix_wsX11_errorOf_r1) ++ ((ix_wsX11_errorOf_r2) ++ (ix_wsX11_errorOf_r3))) ++ (ix_wsX110)) ++ (ix_wsX50)) ++ (ix_wsX90)) ++ (ix_wsX80)) ++ (ix_wsX20))
set_option maxRecDepth 20000 in
theorem tie_wsX11_errorOf : wsX11_errorOf = tk ix_wsX11_errorOf := tk_co rfl (tk_ap (tk_ap (tk_ap (tk_ap (tk_ap (tk_ap (tie_wsX11_errorOf_r1) (tk_ap (tie_wsX11_errorOf_r2) (tie_wsX11_errorOf_r3))) (tie_wsX110)) (tie_wsX50)) (tie_wsX90)) (tie_wsX80)) (tie_wsX20))
abbrev ix_wsX11_rootOf : List Nat := 964 :: ((([892, 893, 894, 2, 895, 43, 42]) ++ (ix_wsX50)) ++ (ix_wsX110))
set_option maxRecDepth 20000 in
theorem tie_wsX11_rootOf : wsX11_rootOf = tk ix_wsX11_rootOf := tk_co rfl (tk_ap (tk_ap (rfl) (tie_wsX50)) (tie_wsX110))
abbrev ix_wsX11_holds_r1 : List Nat := [18, 32, 228, 201, 202, 14, 203, 158, 939, 940, 941, 2, 942, 28, 943, 446, 447, 448, 892, 893, 894, 895, 43, 42]
set_option maxRecDepth 20000 in
theorem tie_wsX11_holds_r1 : wsX11_holds_r1 = tk ix_wsX11_holds_r1 := rfl
abbrev ix_wsX11_holds_r2 : List Nat := [944, 945, 946, 627, 947, 808, 948, 949, 950, 17, 951, 65, 952, 953, 954, 955, 956, 957, 414, 415, 416, 412, 234, 235]
set_option maxRecDepth 20000 in
theorem tie_wsX11_holds_r2 : wsX11_holds_r2 = tk ix_wsX11_holds_r2 := rfl
abbrev ix_wsX11_holds_r3 : List Nat := [236, 237, 230, 231, 232, 49, 958, 959, 960, 478, 479, 961, 962, 963, 964, 965, 966, 967, 31, 968, 90, 91, 969, 970]
set_option maxRecDepth 20000 in
theorem tie_wsX11_holds_r3 : wsX11_holds_r3 = tk ix_wsX11_holds_r3 := rfl
abbrev ix_wsX11_holds_r4 : List Nat := [367, 368, 369, 971, 972, 973, 974, 975, 275, 276, 277, 50, 200, 320, 321, 976, 469, 470, 471, 472, 409, 410, 411, 473]
set_option maxRecDepth 20000 in
theorem tie_wsX11_holds_r4 : wsX11_holds_r4 = tk ix_wsX11_holds_r4 := rfl
abbrev ix_wsX11_holds_r5 : List Nat := [474, 475, 476, 477, 61, 62, 402, 403, 977, 978, 979, 980, 59, 981, 982, 983, 984, 322, 323, 324, 325, 985, 986, 987]
set_option maxRecDepth 20000 in
theorem tie_wsX11_holds_r5 : wsX11_holds_r5 = tk ix_wsX11_holds_r5 := rfl
abbrev ix_wsX11_holds_r6 : List Nat := [58, 988, 989, 990, 991, 992, 993, 994, 995, 996, 69, 997, 998, 999, 1000, 1001, 1002, 1003, 1004, 1005, 1006, 1007, 1008, 1009]
set_option maxRecDepth 20000 in
theorem tie_wsX11_holds_r6 : wsX11_holds_r6 = tk ix_wsX11_holds_r6 := rfl
abbrev ix_wsX11_holds_r7 : List Nat := [1010, 1011, 1012, 1013, 1014, 1015, 1016, 1017, 1018, 1019, 1020, 1021, 1022, 1023, 1024, 1025, 1026, 1027, 1028, 1029, 1030, 1031, 1032, 1033]
set_option maxRecDepth 20000 in
theorem tie_wsX11_holds_r7 : wsX11_holds_r7 = tk ix_wsX11_holds_r7 := rfl
abbrev ix_wsX11_holds_r8 : List Nat := [1034, 1035, 1036, 1037, 1038, 1039, 1040, 1041, 1042, 1043, 63, 64, 1044, 1045, 1046, 1047, 1048, 1049, 1050, 1051, 1052, 363, 364, 365]
set_option maxRecDepth 20000 in
theorem tie_wsX11_holds_r8 : wsX11_holds_r8 = tk ix_wsX11_holds_r8 := rfl
abbrev ix_wsX11_holds_r9 : List Nat := [366, 349, 317, 318, 319, 1053, 1054, 1055, 1056, 1057, 1058, 1059, 1060, 1061, 1062, 1063, 1064, 1065, 1066, 1067, 1068, 1069, 1070, 1071]
set_option maxRecDepth 20000 in
theorem tie_wsX11_holds_r9 : wsX11_holds_r9 = tk ix_wsX11_holds_r9 := rfl
abbrev ix_wsX11_holds_r10 : List Nat := [1072, 296, 297, 298, 51, 1073, 1074, 1075, 1076, 1077, 1078, 1079, 772, 1080, 788, 787, 786, 785, 1172]
set_option maxRecDepth 20000 in
theorem tie_wsX11_holds_r10 : wsX11_holds_r10 = tk ix_wsX11_holds_r10 := rfl
abbrev ix_wsX11_holds : List Nat := 1171 :: ((((((((((ix_wsX11_holds_r1) ++ ((ix_wsX11_holds_r2) ++ ((ix_wsX11_holds_r3) ++ ((ix_wsX11_holds_r4) ++ ((ix_wsX11_holds_r5) ++ ((ix_wsX11_holds_r6) ++ ((ix_wsX11_holds_r7) ++ ((ix_wsX11_holds_r8) ++ ((ix_wsX11_holds_r9) ++ (ix_wsX11_holds_r10)))))))))) ++ (ix_wsX110)) ++ (ix_wsX20)) ++ (ix_wsX50)) ++ (ix_wsX90)) ++ (ix_wsX80)) ++ (ix_wsX40)) ++ (ix_wsX30)) ++ (ix_wsX10))
set_option maxRecDepth 20000 in
theorem tie_wsX11_holds : wsX11_holds = tk ix_wsX11_holds := tk_co rfl (tk_ap (tk_ap (tk_ap (tk_ap (tk_ap (tk_ap (tk_ap (tk_ap (tk_ap (tie_wsX11_holds_r1) (tk_ap (tie_wsX11_holds_r2) (tk_ap (tie_wsX11_holds_r3) (tk_ap (tie_wsX11_holds_r4) (tk_ap (tie_wsX11_holds_r5) (tk_ap (tie_wsX11_holds_r6) (tk_ap (tie_wsX11_holds_r7) (tk_ap (tie_wsX11_holds_r8) (tk_ap (tie_wsX11_holds_r9) (tie_wsX11_holds_r10)))))))))) (tie_wsX110)) (tie_wsX20)) (tie_wsX50)) (tie_wsX90)) (tie_wsX80)) (tie_wsX40)) (tie_wsX30)) (tie_wsX10))
abbrev ix_wsX11_next_r1 : List Nat := [28, 32, 463, 464, 465, 2, 466, 18, 228, 201, 202, 14, 203, 158, 939, 940, 941, 942, 943, 446, 447, 448, 892, 893]
set_option maxRecDepth 20000 in
theorem tie_wsX11_next_r1 : wsX11_next_r1 = tk ix_wsX11_next_r1 := rfl
abbrev ix_wsX11_next_r2 : List Nat := [894, 895, 43, 42, 944, 945, 946, 627, 947, 808, 948, 949, 950, 17, 951, 65, 952, 953, 954, 955, 956, 957, 414, 415]
set_option maxRecDepth 20000 in
theorem tie_wsX11_next_r2 : wsX11_next_r2 = tk ix_wsX11_next_r2 := rfl
abbrev ix_wsX11_next_r3 : List Nat := [416, 412, 234, 235, 236, 237, 230, 231, 232, 49, 958, 959, 960, 478, 479, 961, 962, 963, 964, 965, 966, 967, 31, 968]
set_option maxRecDepth 20000 in
theorem tie_wsX11_next_r3 : wsX11_next_r3 = tk ix_wsX11_next_r3 := rfl
abbrev ix_wsX11_next_r4 : List Nat := [90, 91, 969, 970, 367, 368, 369, 971, 972, 973, 974, 975, 275, 276, 277, 50, 200, 320, 321, 976, 469, 470, 471, 472]
set_option maxRecDepth 20000 in
theorem tie_wsX11_next_r4 : wsX11_next_r4 = tk ix_wsX11_next_r4 := rfl
abbrev ix_wsX11_next_r5 : List Nat := [409, 410, 411, 473, 474, 475, 476, 477, 61, 62, 402, 403, 977, 978, 979, 980, 59, 981, 982, 983, 984, 322, 323, 324]
set_option maxRecDepth 20000 in
theorem tie_wsX11_next_r5 : wsX11_next_r5 = tk ix_wsX11_next_r5 := rfl
abbrev ix_wsX11_next_r6 : List Nat := [325, 985, 986, 987, 58, 988, 989, 990, 991, 992, 993, 994, 995, 996, 69, 997, 998, 999, 1000, 1001, 1002, 1003, 1004, 1005]
set_option maxRecDepth 20000 in
theorem tie_wsX11_next_r6 : wsX11_next_r6 = tk ix_wsX11_next_r6 := rfl
abbrev ix_wsX11_next_r7 : List Nat := [1006, 1007, 1008, 1009, 1010, 1011, 1012, 1013, 1014, 1015, 1016, 1017, 1018, 1019, 1020, 1021, 1022, 1023, 1024, 1025, 1026, 1027, 1028, 1029]
set_option maxRecDepth 20000 in
theorem tie_wsX11_next_r7 : wsX11_next_r7 = tk ix_wsX11_next_r7 := rfl
abbrev ix_wsX11_next_r8 : List Nat := [1030, 1031, 1032, 1033, 1034, 1035, 1036, 1037, 1038, 1039, 1040, 1041, 1042, 1043, 63, 64, 1044, 1045, 1046, 1047, 1048, 1049, 1050, 1051]
set_option maxRecDepth 20000 in
theorem tie_wsX11_next_r8 : wsX11_next_r8 = tk ix_wsX11_next_r8 := rfl
abbrev ix_wsX11_next_r9 : List Nat := [1052, 363, 364, 365, 366, 349, 317, 318, 319, 1053, 1054, 1055, 1056, 1057, 1058, 1059, 1060, 1061, 1062, 1063, 1064, 1065, 1066, 1067]
set_option maxRecDepth 20000 in
theorem tie_wsX11_next_r9 : wsX11_next_r9 = tk ix_wsX11_next_r9 := rfl
abbrev ix_wsX11_next_r10 : List Nat := [1068, 1069, 1070, 1071, 1072, 296, 297, 298, 51, 1073, 1074, 1075, 1076, 1077, 1078, 1079, 772, 1080, 788, 787, 786, 785, 468, 480]
set_option maxRecDepth 20000 in
theorem tie_wsX11_next_r10 : wsX11_next_r10 = tk ix_wsX11_next_r10 := rfl
abbrev ix_wsX11_next_r11 : List Nat := [481, 482, 483]
set_option maxRecDepth 20000 in
theorem tie_wsX11_next_r11 : wsX11_next_r11 = tk ix_wsX11_next_r11 := rfl
abbrev ix_wsX11_next : List Nat := 1180 :: ((((((((((ix_wsX11_next_r1) ++ ((ix_wsX11_next_r2) ++ ((ix_wsX11_next_r3) ++ ((ix_wsX11_next_r4) ++ ((ix_wsX11_next_r5) ++ ((ix_wsX11_next_r6) ++ ((ix_wsX11_next_r7) ++ ((ix_wsX11_next_r8) ++ ((ix_wsX11_next_r9) ++ ((ix_wsX11_next_r10) ++ (ix_wsX11_next_r11))))))))))) ++ (ix_wsX110)) ++ (ix_wsX20)) ++ (ix_wsX50)) ++ (ix_wsX90)) ++ (ix_wsX80)) ++ (ix_wsX40)) ++ (ix_wsX30)) ++ (ix_wsX10))
set_option maxRecDepth 20000 in
theorem tie_wsX11_next : wsX11_next = tk ix_wsX11_next := tk_co rfl (tk_ap (tk_ap (tk_ap (tk_ap (tk_ap (tk_ap (tk_ap (tk_ap (tk_ap (tie_wsX11_next_r1) (tk_ap (tie_wsX11_next_r2) (tk_ap (tie_wsX11_next_r3) (tk_ap (tie_wsX11_next_r4) (tk_ap (tie_wsX11_next_r5) (tk_ap (tie_wsX11_next_r6) (tk_ap (tie_wsX11_next_r7) (tk_ap (tie_wsX11_next_r8) (tk_ap (tie_wsX11_next_r9) (tk_ap (tie_wsX11_next_r10) (tie_wsX11_next_r11))))))))))) (tie_wsX110)) (tie_wsX20)) (tie_wsX50)) (tie_wsX90)) (tie_wsX80)) (tie_wsX40)) (tie_wsX30)) (tie_wsX10))
abbrev ix_wsX11_until_r1 : List Nat := [32, 28, 463, 464, 465, 2, 466, 18, 228, 201, 202, 14, 203, 158, 939, 940, 941, 942, 943, 446, 447, 448, 892, 893]
set_option maxRecDepth 20000 in
theorem tie_wsX11_until_r1 : wsX11_until_r1 = tk ix_wsX11_until_r1 := rfl
abbrev ix_wsX11_until_r2 : List Nat := [894, 895, 43, 42, 944, 945, 946, 627, 947, 808, 948, 949, 950, 17, 951, 65, 952, 953, 954, 955, 956, 957, 414, 415]
set_option maxRecDepth 20000 in
theorem tie_wsX11_until_r2 : wsX11_until_r2 = tk ix_wsX11_until_r2 := rfl
abbrev ix_wsX11_until_r3 : List Nat := [416, 412, 234, 235, 236, 237, 230, 231, 232, 49, 958, 959, 960, 478, 479, 961, 962, 963, 964, 965, 966, 967, 31, 968]
set_option maxRecDepth 20000 in
theorem tie_wsX11_until_r3 : wsX11_until_r3 = tk ix_wsX11_until_r3 := rfl
abbrev ix_wsX11_until_r4 : List Nat := [90, 91, 969, 970, 367, 368, 369, 971, 972, 973, 974, 975, 275, 276, 277, 50, 200, 320, 321, 976, 469, 470, 471, 472]
set_option maxRecDepth 20000 in
theorem tie_wsX11_until_r4 : wsX11_until_r4 = tk ix_wsX11_until_r4 := rfl
abbrev ix_wsX11_until_r5 : List Nat := [409, 410, 411, 473, 474, 475, 476, 477, 61, 62, 402, 403, 977, 978, 979, 980, 59, 981, 982, 983, 984, 322, 323, 324]
set_option maxRecDepth 20000 in
theorem tie_wsX11_until_r5 : wsX11_until_r5 = tk ix_wsX11_until_r5 := rfl
abbrev ix_wsX11_until_r6 : List Nat := [325, 985, 986, 987, 58, 988, 989, 990, 991, 992, 993, 994, 995, 996, 69, 997, 998, 999, 1000, 1001, 1002, 1003, 1004, 1005]
set_option maxRecDepth 20000 in
theorem tie_wsX11_until_r6 : wsX11_until_r6 = tk ix_wsX11_until_r6 := rfl
abbrev ix_wsX11_until_r7 : List Nat := [1006, 1007, 1008, 1009, 1010, 1011, 1012, 1013, 1014, 1015, 1016, 1017, 1018, 1019, 1020, 1021, 1022, 1023, 1024, 1025, 1026, 1027, 1028, 1029]
set_option maxRecDepth 20000 in
theorem tie_wsX11_until_r7 : wsX11_until_r7 = tk ix_wsX11_until_r7 := rfl
abbrev ix_wsX11_until_r8 : List Nat := [1030, 1031, 1032, 1033, 1034, 1035, 1036, 1037, 1038, 1039, 1040, 1041, 1042, 1043, 63, 64, 1044, 1045, 1046, 1047, 1048, 1049, 1050, 1051]
set_option maxRecDepth 20000 in
theorem tie_wsX11_until_r8 : wsX11_until_r8 = tk ix_wsX11_until_r8 := rfl
abbrev ix_wsX11_until_r9 : List Nat := [1052, 363, 364, 365, 366, 349, 317, 318, 319, 1053, 1054, 1055, 1056, 1057, 1058, 1059, 1060, 1061, 1062, 1063, 1064, 1065, 1066, 1067]
set_option maxRecDepth 20000 in
theorem tie_wsX11_until_r9 : wsX11_until_r9 = tk ix_wsX11_until_r9 := rfl
abbrev ix_wsX11_until_r10 : List Nat := [1068, 1069, 1070, 1071, 1072, 296, 297, 298, 51, 1073, 1074, 1075, 1076, 1077, 1078, 1079, 772, 1080, 788, 787, 786, 785, 1193, 480]
set_option maxRecDepth 20000 in
theorem tie_wsX11_until_r10 : wsX11_until_r10 = tk ix_wsX11_until_r10 := rfl
abbrev ix_wsX11_until_r11 : List Nat := [481, 482, 483]
set_option maxRecDepth 20000 in
theorem tie_wsX11_until_r11 : wsX11_until_r11 = tk ix_wsX11_until_r11 := rfl
abbrev ix_wsX11_until : List Nat := 1192 :: ((((((((((ix_wsX11_until_r1) ++ ((ix_wsX11_until_r2) ++ ((ix_wsX11_until_r3) ++ ((ix_wsX11_until_r4) ++ ((ix_wsX11_until_r5) ++ ((ix_wsX11_until_r6) ++ ((ix_wsX11_until_r7) ++ ((ix_wsX11_until_r8) ++ ((ix_wsX11_until_r9) ++ ((ix_wsX11_until_r10) ++ (ix_wsX11_until_r11))))))))))) ++ (ix_wsX110)) ++ (ix_wsX20)) ++ (ix_wsX50)) ++ (ix_wsX90)) ++ (ix_wsX80)) ++ (ix_wsX40)) ++ (ix_wsX30)) ++ (ix_wsX10))
set_option maxRecDepth 20000 in
theorem tie_wsX11_until : wsX11_until = tk ix_wsX11_until := tk_co rfl (tk_ap (tk_ap (tk_ap (tk_ap (tk_ap (tk_ap (tk_ap (tk_ap (tk_ap (tie_wsX11_until_r1) (tk_ap (tie_wsX11_until_r2) (tk_ap (tie_wsX11_until_r3) (tk_ap (tie_wsX11_until_r4) (tk_ap (tie_wsX11_until_r5) (tk_ap (tie_wsX11_until_r6) (tk_ap (tie_wsX11_until_r7) (tk_ap (tie_wsX11_until_r8) (tk_ap (tie_wsX11_until_r9) (tk_ap (tie_wsX11_until_r10) (tie_wsX11_until_r11))))))))))) (tie_wsX110)) (tie_wsX20)) (tie_wsX50)) (tie_wsX90)) (tie_wsX80)) (tie_wsX40)) (tie_wsX30)) (tie_wsX10))
abbrev ix_wsX11_within_r1 : List Nat := [28, 1202, 32, 463, 464, 465, 2, 466, 18, 228, 201, 202, 14, 203, 158, 939, 940, 941, 942, 943, 446, 447, 448, 892]
set_option maxRecDepth 20000 in
theorem tie_wsX11_within_r1 : wsX11_within_r1 = tk ix_wsX11_within_r1 := rfl
abbrev ix_wsX11_within_r2 : List Nat := [893, 894, 895, 43, 42, 944, 945, 946, 627, 947, 808, 948, 949, 950, 17, 951, 65, 952, 953, 954, 955, 956, 957, 414]
set_option maxRecDepth 20000 in
theorem tie_wsX11_within_r2 : wsX11_within_r2 = tk ix_wsX11_within_r2 := rfl
abbrev ix_wsX11_within_r3 : List Nat := [415, 416, 412, 234, 235, 236, 237, 230, 231, 232, 49, 958, 959, 960, 478, 479, 961, 962, 963, 964, 965, 966, 967, 31]
set_option maxRecDepth 20000 in
theorem tie_wsX11_within_r3 : wsX11_within_r3 = tk ix_wsX11_within_r3 := rfl
abbrev ix_wsX11_within_r4 : List Nat := [968, 90, 91, 969, 970, 367, 368, 369, 971, 972, 973, 974, 975, 275, 276, 277, 50, 200, 320, 321, 976, 469, 470, 471]
set_option maxRecDepth 20000 in
theorem tie_wsX11_within_r4 : wsX11_within_r4 = tk ix_wsX11_within_r4 := rfl
abbrev ix_wsX11_within_r5 : List Nat := [472, 409, 410, 411, 473, 474, 475, 476, 477, 61, 62, 402, 403, 977, 978, 979, 980, 59, 981, 982, 983, 984, 322, 323]
set_option maxRecDepth 20000 in
theorem tie_wsX11_within_r5 : wsX11_within_r5 = tk ix_wsX11_within_r5 := rfl
abbrev ix_wsX11_within_r6 : List Nat := [324, 325, 985, 986, 987, 58, 988, 989, 990, 991, 992, 993, 994, 995, 996, 69, 997, 998, 999, 1000, 1001, 1002, 1003, 1004]
set_option maxRecDepth 20000 in
theorem tie_wsX11_within_r6 : wsX11_within_r6 = tk ix_wsX11_within_r6 := rfl
abbrev ix_wsX11_within_r7 : List Nat := [1005, 1006, 1007, 1008, 1009, 1010, 1011, 1012, 1013, 1014, 1015, 1016, 1017, 1018, 1019, 1020, 1021, 1022, 1023, 1024, 1025, 1026, 1027, 1028]
set_option maxRecDepth 20000 in
theorem tie_wsX11_within_r7 : wsX11_within_r7 = tk ix_wsX11_within_r7 := rfl
abbrev ix_wsX11_within_r8 : List Nat := [1029, 1030, 1031, 1032, 1033, 1034, 1035, 1036, 1037, 1038, 1039, 1040, 1041, 1042, 1043, 63, 64, 1044, 1045, 1046, 1047, 1048, 1049, 1050]
set_option maxRecDepth 20000 in
theorem tie_wsX11_within_r8 : wsX11_within_r8 = tk ix_wsX11_within_r8 := rfl
abbrev ix_wsX11_within_r9 : List Nat := [1051, 1052, 363, 364, 365, 366, 349, 317, 318, 319, 1053, 1054, 1055, 1056, 1057, 1058, 1059, 1060, 1061, 1062, 1063, 1064, 1065, 1066]
set_option maxRecDepth 20000 in
theorem tie_wsX11_within_r9 : wsX11_within_r9 = tk ix_wsX11_within_r9 := rfl
abbrev ix_wsX11_within_r10 : List Nat := [1067, 1068, 1069, 1070, 1071, 1072, 296, 297, 298, 51, 1073, 1074, 1075, 1076, 1077, 1078, 1079, 772, 1080, 788, 787, 786, 785, 1203]
set_option maxRecDepth 20000 in
theorem tie_wsX11_within_r10 : wsX11_within_r10 = tk ix_wsX11_within_r10 := rfl
abbrev ix_wsX11_within_r11 : List Nat := [480, 481, 482, 483]
set_option maxRecDepth 20000 in
theorem tie_wsX11_within_r11 : wsX11_within_r11 = tk ix_wsX11_within_r11 := rfl
abbrev ix_wsX11_within : List Nat := 1201 :: ((((((((((ix_wsX11_within_r1) ++ ((ix_wsX11_within_r2) ++ ((ix_wsX11_within_r3) ++ ((ix_wsX11_within_r4) ++ ((ix_wsX11_within_r5) ++ ((ix_wsX11_within_r6) ++ ((ix_wsX11_within_r7) ++ ((ix_wsX11_within_r8) ++ ((ix_wsX11_within_r9) ++ ((ix_wsX11_within_r10) ++ (ix_wsX11_within_r11))))))))))) ++ (ix_wsX110)) ++ (ix_wsX20)) ++ (ix_wsX50)) ++ (ix_wsX90)) ++ (ix_wsX80)) ++ (ix_wsX40)) ++ (ix_wsX30)) ++ (ix_wsX10))
set_option maxRecDepth 20000 in
theorem tie_wsX11_within : wsX11_within = tk ix_wsX11_within := tk_co rfl (tk_ap (tk_ap (tk_ap (tk_ap (tk_ap (tk_ap (tk_ap (tk_ap (tk_ap (tie_wsX11_within_r1) (tk_ap (tie_wsX11_within_r2) (tk_ap (tie_wsX11_within_r3) (tk_ap (tie_wsX11_within_r4) (tk_ap (tie_wsX11_within_r5) (tk_ap (tie_wsX11_within_r6) (tk_ap (tie_wsX11_within_r7) (tk_ap (tie_wsX11_within_r8) (tk_ap (tie_wsX11_within_r9) (tk_ap (tie_wsX11_within_r10) (tie_wsX11_within_r11))))))))))) (tie_wsX110)) (tie_wsX20)) (tie_wsX50)) (tie_wsX90)) (tie_wsX80)) (tie_wsX40)) (tie_wsX30)) (tie_wsX10))
abbrev ix_wsX11_never_r1 : List Nat := [32, 18, 939, 940, 941, 2, 942, 28, 943, 446, 447, 448, 892, 893, 894, 895, 43, 42, 944, 945, 946, 627, 947, 808]
set_option maxRecDepth 20000 in
theorem tie_wsX11_never_r1 : wsX11_never_r1 = tk ix_wsX11_never_r1 := rfl
abbrev ix_wsX11_never_r2 : List Nat := [948, 949, 950, 17, 951, 65, 952, 953, 954, 955, 14, 956, 158, 957, 414, 415, 416, 412, 234, 235, 236, 237, 230, 231]
set_option maxRecDepth 20000 in
theorem tie_wsX11_never_r2 : wsX11_never_r2 = tk ix_wsX11_never_r2 := rfl
abbrev ix_wsX11_never_r3 : List Nat := [232, 49, 958, 959, 960, 478, 479, 961, 962, 963, 964, 965, 966, 967, 31, 968, 90, 91, 969, 970, 367, 368, 369, 971]
set_option maxRecDepth 20000 in
theorem tie_wsX11_never_r3 : wsX11_never_r3 = tk ix_wsX11_never_r3 := rfl
abbrev ix_wsX11_never_r4 : List Nat := [972, 973, 974, 975, 275, 276, 277, 50, 200, 201, 202, 203, 320, 321, 976, 469, 470, 471, 472, 409, 410, 411, 473, 474]
set_option maxRecDepth 20000 in
theorem tie_wsX11_never_r4 : wsX11_never_r4 = tk ix_wsX11_never_r4 := rfl
abbrev ix_wsX11_never_r5 : List Nat := [475, 476, 477, 61, 62, 402, 403, 977, 978, 979, 980, 59, 981, 982, 983, 984, 322, 323, 324, 325, 985, 986, 987, 58]
set_option maxRecDepth 20000 in
theorem tie_wsX11_never_r5 : wsX11_never_r5 = tk ix_wsX11_never_r5 := rfl
abbrev ix_wsX11_never_r6 : List Nat := [988, 989, 990, 991, 992, 993, 994, 995, 996, 69, 997, 998, 999, 1000, 1001, 1002, 1003, 1004, 1005, 1006, 1007, 1008, 1009, 1010]
set_option maxRecDepth 20000 in
theorem tie_wsX11_never_r6 : wsX11_never_r6 = tk ix_wsX11_never_r6 := rfl
abbrev ix_wsX11_never_r7 : List Nat := [1011, 1012, 1013, 1014, 1015, 1016, 1017, 1018, 1019, 1020, 1021, 1022, 1023, 1024, 1025, 1026, 1027, 1028, 1029, 1030, 1031, 1032, 1033, 1034]
set_option maxRecDepth 20000 in
theorem tie_wsX11_never_r7 : wsX11_never_r7 = tk ix_wsX11_never_r7 := rfl
abbrev ix_wsX11_never_r8 : List Nat := [1035, 1036, 1037, 1038, 1039, 1040, 1041, 1042, 1043, 63, 64, 1044, 1045, 1046, 1047, 1048, 1049, 1050, 1051, 1052, 363, 364, 365, 366]
set_option maxRecDepth 20000 in
theorem tie_wsX11_never_r8 : wsX11_never_r8 = tk ix_wsX11_never_r8 := rfl
abbrev ix_wsX11_never_r9 : List Nat := [349, 317, 318, 319, 1053, 1054, 1055, 1056, 1057, 1058, 1059, 1060, 1061, 1062, 1063, 1064, 1065, 1066, 1067, 1068, 1069, 1070, 1071, 1072]
set_option maxRecDepth 20000 in
theorem tie_wsX11_never_r9 : wsX11_never_r9 = tk ix_wsX11_never_r9 := rfl
abbrev ix_wsX11_never_r10 : List Nat := [296, 297, 298, 51, 1073, 1074, 1075, 1076, 1077, 1078, 1079, 772, 1080, 788, 787, 786, 785, 1212, 1213, 1214, 1215]
set_option maxRecDepth 20000 in
theorem tie_wsX11_never_r10 : wsX11_never_r10 = tk ix_wsX11_never_r10 := rfl
abbrev ix_wsX11_never : List Nat := 1211 :: ((((((((((ix_wsX11_never_r1) ++ ((ix_wsX11_never_r2) ++ ((ix_wsX11_never_r3) ++ ((ix_wsX11_never_r4) ++ ((ix_wsX11_never_r5) ++ ((ix_wsX11_never_r6) ++ ((ix_wsX11_never_r7) ++ ((ix_wsX11_never_r8) ++ ((ix_wsX11_never_r9) ++ (ix_wsX11_never_r10)))))))))) ++ (ix_wsX110)) ++ (ix_wsX50)) ++ (ix_wsX90)) ++ (ix_wsX80)) ++ (ix_wsX20)) ++ (ix_wsX40)) ++ (ix_wsX30)) ++ (ix_wsX10))
set_option maxRecDepth 20000 in
theorem tie_wsX11_never : wsX11_never = tk ix_wsX11_never := tk_co rfl (tk_ap (tk_ap (tk_ap (tk_ap (tk_ap (tk_ap (tk_ap (tk_ap (tk_ap (tie_wsX11_never_r1) (tk_ap (tie_wsX11_never_r2) (tk_ap (tie_wsX11_never_r3) (tk_ap (tie_wsX11_never_r4) (tk_ap (tie_wsX11_never_r5) (tk_ap (tie_wsX11_never_r6) (tk_ap (tie_wsX11_never_r7) (tk_ap (tie_wsX11_never_r8) (tk_ap (tie_wsX11_never_r9) (tie_wsX11_never_r10)))))))))) (tie_wsX110)) (tie_wsX50)) (tie_wsX90)) (tie_wsX80)) (tie_wsX20)) (tie_wsX40)) (tie_wsX30)) (tie_wsX10))
abbrev ix_wsX11_surely_r1 : List Nat := [32, 18, 939, 940, 941, 2, 942, 28, 943, 446, 447, 448, 892, 893, 894, 895, 43, 42, 944, 945, 946, 627, 947, 808]
set_option maxRecDepth 20000 in
theorem tie_wsX11_surely_r1 : wsX11_surely_r1 = tk ix_wsX11_surely_r1 := rfl
abbrev ix_wsX11_surely_r2 : List Nat := [948, 949, 950, 17, 951, 65, 952, 953, 954, 955, 14, 956, 158, 957, 414, 415, 416, 412, 234, 235, 236, 237, 230, 231]
set_option maxRecDepth 20000 in
theorem tie_wsX11_surely_r2 : wsX11_surely_r2 = tk ix_wsX11_surely_r2 := rfl
abbrev ix_wsX11_surely_r3 : List Nat := [232, 49, 958, 959, 960, 478, 479, 961, 962, 963, 964, 965, 966, 967, 31, 968, 90, 91, 969, 970, 367, 368, 369, 971]
set_option maxRecDepth 20000 in
theorem tie_wsX11_surely_r3 : wsX11_surely_r3 = tk ix_wsX11_surely_r3 := rfl
abbrev ix_wsX11_surely_r4 : List Nat := [972, 973, 974, 975, 275, 276, 277, 50, 200, 201, 202, 203, 320, 321, 976, 469, 470, 471, 472, 409, 410, 411, 473, 474]
set_option maxRecDepth 20000 in
theorem tie_wsX11_surely_r4 : wsX11_surely_r4 = tk ix_wsX11_surely_r4 := rfl
abbrev ix_wsX11_surely_r5 : List Nat := [475, 476, 477, 61, 62, 402, 403, 977, 978, 979, 980, 59, 981, 982, 983, 984, 322, 323, 324, 325, 985, 986, 987, 58]
set_option maxRecDepth 20000 in
theorem tie_wsX11_surely_r5 : wsX11_surely_r5 = tk ix_wsX11_surely_r5 := rfl
abbrev ix_wsX11_surely_r6 : List Nat := [988, 989, 990, 991, 992, 993, 994, 995, 996, 69, 997, 998, 999, 1000, 1001, 1002, 1003, 1004, 1005, 1006, 1007, 1008, 1009, 1010]
set_option maxRecDepth 20000 in
theorem tie_wsX11_surely_r6 : wsX11_surely_r6 = tk ix_wsX11_surely_r6 := rfl
abbrev ix_wsX11_surely_r7 : List Nat := [1011, 1012, 1013, 1014, 1015, 1016, 1017, 1018, 1019, 1020, 1021, 1022, 1023, 1024, 1025, 1026, 1027, 1028, 1029, 1030, 1031, 1032, 1033, 1034]
set_option maxRecDepth 20000 in
theorem tie_wsX11_surely_r7 : wsX11_surely_r7 = tk ix_wsX11_surely_r7 := rfl
abbrev ix_wsX11_surely_r8 : List Nat := [1035, 1036, 1037, 1038, 1039, 1040, 1041, 1042, 1043, 63, 64, 1044, 1045, 1046, 1047, 1048, 1049, 1050, 1051, 1052, 363, 364, 365, 366]
set_option maxRecDepth 20000 in
theorem tie_wsX11_surely_r8 : wsX11_surely_r8 = tk ix_wsX11_surely_r8 := rfl
abbrev ix_wsX11_surely_r9 : List Nat := [349, 317, 318, 319, 1053, 1054, 1055, 1056, 1057, 1058, 1059, 1060, 1061, 1062, 1063, 1064, 1065, 1066, 1067, 1068, 1069, 1070, 1071, 1072]
set_option maxRecDepth 20000 in
theorem tie_wsX11_surely_r9 : wsX11_surely_r9 = tk ix_wsX11_surely_r9 := rfl
abbrev ix_wsX11_surely_r10 : List Nat := [296, 297, 298, 51, 1073, 1074, 1075, 1076, 1077, 1078, 1079, 772, 1080, 788, 787, 786, 785, 1228]
set_option maxRecDepth 20000 in
theorem tie_wsX11_surely_r10 : wsX11_surely_r10 = tk ix_wsX11_surely_r10 := rfl
abbrev ix_wsX11_surely : List Nat := 1227 :: ((((((((((ix_wsX11_surely_r1) ++ ((ix_wsX11_surely_r2) ++ ((ix_wsX11_surely_r3) ++ ((ix_wsX11_surely_r4) ++ ((ix_wsX11_surely_r5) ++ ((ix_wsX11_surely_r6) ++ ((ix_wsX11_surely_r7) ++ ((ix_wsX11_surely_r8) ++ ((ix_wsX11_surely_r9) ++ (ix_wsX11_surely_r10)))))))))) ++ (ix_wsX110)) ++ (ix_wsX50)) ++ (ix_wsX90)) ++ (ix_wsX80)) ++ (ix_wsX20)) ++ (ix_wsX40)) ++ (ix_wsX30)) ++ (ix_wsX10))
set_option maxRecDepth 20000 in
theorem tie_wsX11_surely : wsX11_surely = tk ix_wsX11_surely := tk_co rfl (tk_ap (tk_ap (tk_ap (tk_ap (tk_ap (tk_ap (tk_ap (tk_ap (tk_ap (tie_wsX11_surely_r1) (tk_ap (tie_wsX11_surely_r2) (tk_ap (tie_wsX11_surely_r3) (tk_ap (tie_wsX11_surely_r4) (tk_ap (tie_wsX11_surely_r5) (tk_ap (tie_wsX11_surely_r6) (tk_ap (tie_wsX11_surely_r7) (tk_ap (tie_wsX11_surely_r8) (tk_ap (tie_wsX11_surely_r9) (tie_wsX11_surely_r10)))))))))) (tie_wsX110)) (tie_wsX50)) (tie_wsX90)) (tie_wsX80)) (tie_wsX20)) (tie_wsX40)) (tie_wsX30)) (tie_wsX10))
abbrev ix_wsX11_steady_r1 : List Nat := [28, 32, 463, 464, 465, 2, 466, 18, 228, 201, 202, 14, 203, 158, 939, 940, 941, 942, 943, 446, 447, 448, 892, 893]
set_option maxRecDepth 20000 in
theorem tie_wsX11_steady_r1 : wsX11_steady_r1 = tk ix_wsX11_steady_r1 := rfl
abbrev ix_wsX11_steady_r2 : List Nat := [894, 895, 43, 42, 944, 945, 946, 627, 947, 808, 948, 949, 950, 17, 951, 65, 952, 953, 954, 955, 956, 957, 414, 415]
set_option maxRecDepth 20000 in
theorem tie_wsX11_steady_r2 : wsX11_steady_r2 = tk ix_wsX11_steady_r2 := rfl
abbrev ix_wsX11_steady_r3 : List Nat := [416, 412, 234, 235, 236, 237, 230, 231, 232, 49, 958, 959, 960, 478, 479, 961, 962, 963, 964, 965, 966, 967, 31, 968]
set_option maxRecDepth 20000 in
theorem tie_wsX11_steady_r3 : wsX11_steady_r3 = tk ix_wsX11_steady_r3 := rfl
abbrev ix_wsX11_steady_r4 : List Nat := [90, 91, 969, 970, 367, 368, 369, 971, 972, 973, 974, 975, 275, 276, 277, 50, 200, 320, 321, 976, 469, 470, 471, 472]
set_option maxRecDepth 20000 in
theorem tie_wsX11_steady_r4 : wsX11_steady_r4 = tk ix_wsX11_steady_r4 := rfl
abbrev ix_wsX11_steady_r5 : List Nat := [409, 410, 411, 473, 474, 475, 476, 477, 61, 62, 402, 403, 977, 978, 979, 980, 59, 981, 982, 983, 984, 322, 323, 324]
set_option maxRecDepth 20000 in
theorem tie_wsX11_steady_r5 : wsX11_steady_r5 = tk ix_wsX11_steady_r5 := rfl
abbrev ix_wsX11_steady_r6 : List Nat := [325, 985, 986, 987, 58, 988, 989, 990, 991, 992, 993, 994, 995, 996, 69, 997, 998, 999, 1000, 1001, 1002, 1003, 1004, 1005]
set_option maxRecDepth 20000 in
theorem tie_wsX11_steady_r6 : wsX11_steady_r6 = tk ix_wsX11_steady_r6 := rfl
abbrev ix_wsX11_steady_r7 : List Nat := [1006, 1007, 1008, 1009, 1010, 1011, 1012, 1013, 1014, 1015, 1016, 1017, 1018, 1019, 1020, 1021, 1022, 1023, 1024, 1025, 1026, 1027, 1028, 1029]
set_option maxRecDepth 20000 in
theorem tie_wsX11_steady_r7 : wsX11_steady_r7 = tk ix_wsX11_steady_r7 := rfl
abbrev ix_wsX11_steady_r8 : List Nat := [1030, 1031, 1032, 1033, 1034, 1035, 1036, 1037, 1038, 1039, 1040, 1041, 1042, 1043, 63, 64, 1044, 1045, 1046, 1047, 1048, 1049, 1050, 1051]
set_option maxRecDepth 20000 in
theorem tie_wsX11_steady_r8 : wsX11_steady_r8 = tk ix_wsX11_steady_r8 := rfl
abbrev ix_wsX11_steady_r9 : List Nat := [1052, 363, 364, 365, 366, 349, 317, 318, 319, 1053, 1054, 1055, 1056, 1057, 1058, 1059, 1060, 1061, 1062, 1063, 1064, 1065, 1066, 1067]
set_option maxRecDepth 20000 in
theorem tie_wsX11_steady_r9 : wsX11_steady_r9 = tk ix_wsX11_steady_r9 := rfl
abbrev ix_wsX11_steady_r10 : List Nat := [1068, 1069, 1070, 1071, 1072, 296, 297, 298, 51, 1073, 1074, 1075, 1076, 1077, 1078, 1079, 772, 1080, 788, 787, 786, 785, 1237, 480]
set_option maxRecDepth 20000 in
theorem tie_wsX11_steady_r10 : wsX11_steady_r10 = tk ix_wsX11_steady_r10 := rfl
abbrev ix_wsX11_steady_r11 : List Nat := [481, 482, 483]
set_option maxRecDepth 20000 in
theorem tie_wsX11_steady_r11 : wsX11_steady_r11 = tk ix_wsX11_steady_r11 := rfl
abbrev ix_wsX11_steady : List Nat := 1236 :: ((((((((((ix_wsX11_steady_r1) ++ ((ix_wsX11_steady_r2) ++ ((ix_wsX11_steady_r3) ++ ((ix_wsX11_steady_r4) ++ ((ix_wsX11_steady_r5) ++ ((ix_wsX11_steady_r6) ++ ((ix_wsX11_steady_r7) ++ ((ix_wsX11_steady_r8) ++ ((ix_wsX11_steady_r9) ++ ((ix_wsX11_steady_r10) ++ (ix_wsX11_steady_r11))))))))))) ++ (ix_wsX110)) ++ (ix_wsX20)) ++ (ix_wsX50)) ++ (ix_wsX90)) ++ (ix_wsX80)) ++ (ix_wsX40)) ++ (ix_wsX30)) ++ (ix_wsX10))
set_option maxRecDepth 20000 in
theorem tie_wsX11_steady : wsX11_steady = tk ix_wsX11_steady := tk_co rfl (tk_ap (tk_ap (tk_ap (tk_ap (tk_ap (tk_ap (tk_ap (tk_ap (tk_ap (tie_wsX11_steady_r1) (tk_ap (tie_wsX11_steady_r2) (tk_ap (tie_wsX11_steady_r3) (tk_ap (tie_wsX11_steady_r4) (tk_ap (tie_wsX11_steady_r5) (tk_ap (tie_wsX11_steady_r6) (tk_ap (tie_wsX11_steady_r7) (tk_ap (tie_wsX11_steady_r8) (tk_ap (tie_wsX11_steady_r9) (tk_ap (tie_wsX11_steady_r10) (tie_wsX11_steady_r11))))))))))) (tie_wsX110)) (tie_wsX20)) (tie_wsX50)) (tie_wsX90)) (tie_wsX80)) (tie_wsX40)) (tie_wsX30)) (tie_wsX10))
abbrev ix_wsX11_share_r1 : List Nat := [462, 28, 463, 464, 465, 2, 466, 18, 228, 201, 202, 14, 203, 158, 1237, 1049, 1050, 17, 1051, 65, 62, 59, 61, 1052]
set_option maxRecDepth 20000 in
theorem tie_wsX11_share_r1 : wsX11_share_r1 = tk ix_wsX11_share_r1 := rfl
abbrev ix_wsX11_share_r2 : List Nat := [363, 364, 365, 366, 367, 368, 369, 349, 317, 318, 319, 320, 321, 322, 323, 324, 325, 237, 230, 231, 232, 49, 1053, 1054]
set_option maxRecDepth 20000 in
theorem tie_wsX11_share_r2 : wsX11_share_r2 = tk ix_wsX11_share_r2 := rfl
abbrev ix_wsX11_share_r3 : List Nat := [1055, 1056, 1057, 985, 986, 987, 58, 988, 989, 990, 991, 992, 993, 994, 995, 996, 69, 473, 414, 415, 416, 412, 234, 235]
set_option maxRecDepth 20000 in
theorem tie_wsX11_share_r3 : wsX11_share_r3 = tk ix_wsX11_share_r3 := rfl
abbrev ix_wsX11_share_r4 : List Nat := [236, 1003, 1004, 1005, 1006, 1007, 1008, 1009, 1010, 1011, 1012, 1013, 1014, 1015, 1016, 1017, 1018, 1019, 1020, 1021, 1022, 1023, 1024, 1025]
set_option maxRecDepth 20000 in
theorem tie_wsX11_share_r4 : wsX11_share_r4 = tk ix_wsX11_share_r4 := rfl
abbrev ix_wsX11_share_r5 : List Nat := [1026, 1027, 1058, 1059, 1060, 1061, 1028, 1029, 1030, 1031, 474, 475, 476, 477, 478, 479, 402, 403, 958, 959, 960, 997, 998, 999]
set_option maxRecDepth 20000 in
theorem tie_wsX11_share_r5 : wsX11_share_r5 = tk ix_wsX11_share_r5 := rfl
abbrev ix_wsX11_share_r6 : List Nat := [1000, 1001, 1002, 1032, 1033, 1034, 1035, 480, 481, 482, 483]
set_option maxRecDepth 20000 in
theorem tie_wsX11_share_r6 : wsX11_share_r6 = tk ix_wsX11_share_r6 := rfl
abbrev ix_wsX11_share : List Nat := 1245 :: ((((((ix_wsX11_share_r1) ++ ((ix_wsX11_share_r2) ++ ((ix_wsX11_share_r3) ++ ((ix_wsX11_share_r4) ++ ((ix_wsX11_share_r5) ++ (ix_wsX11_share_r6)))))) ++ (ix_wsX110)) ++ (ix_wsX20)) ++ (ix_wsX80)) ++ (ix_wsX30))
set_option maxRecDepth 20000 in
theorem tie_wsX11_share : wsX11_share = tk ix_wsX11_share := tk_co rfl (tk_ap (tk_ap (tk_ap (tk_ap (tk_ap (tie_wsX11_share_r1) (tk_ap (tie_wsX11_share_r2) (tk_ap (tie_wsX11_share_r3) (tk_ap (tie_wsX11_share_r4) (tk_ap (tie_wsX11_share_r5) (tie_wsX11_share_r6)))))) (tie_wsX110)) (tie_wsX20)) (tie_wsX80)) (tie_wsX30))
abbrev ix_wsX11_expected_r1 : List Nat := [28, 32, 1254, 463, 464, 465, 2, 466, 18, 228, 201, 202, 14, 203, 158, 939, 940, 941, 942, 943, 446, 447, 448, 892]
set_option maxRecDepth 20000 in
theorem tie_wsX11_expected_r1 : wsX11_expected_r1 = tk ix_wsX11_expected_r1 := rfl
abbrev ix_wsX11_expected_r2 : List Nat := [893, 894, 895, 43, 42, 944, 945, 946, 627, 947, 808, 948, 949, 950, 17, 951, 65, 952, 953, 954, 955, 956, 957, 414]
set_option maxRecDepth 20000 in
theorem tie_wsX11_expected_r2 : wsX11_expected_r2 = tk ix_wsX11_expected_r2 := rfl
abbrev ix_wsX11_expected_r3 : List Nat := [415, 416, 412, 234, 235, 236, 237, 230, 231, 232, 49, 958, 959, 960, 478, 479, 961, 962, 963, 964, 965, 966, 967, 31]
set_option maxRecDepth 20000 in
theorem tie_wsX11_expected_r3 : wsX11_expected_r3 = tk ix_wsX11_expected_r3 := rfl
abbrev ix_wsX11_expected_r4 : List Nat := [968, 90, 91, 969, 970, 367, 368, 369, 971, 972, 973, 974, 975, 275, 276, 277, 50, 200, 320, 321, 976, 469, 470, 471]
set_option maxRecDepth 20000 in
theorem tie_wsX11_expected_r4 : wsX11_expected_r4 = tk ix_wsX11_expected_r4 := rfl
abbrev ix_wsX11_expected_r5 : List Nat := [472, 409, 410, 411, 473, 474, 475, 476, 477, 61, 62, 402, 403, 977, 978, 979, 980, 59, 981, 982, 983, 984, 322, 323]
set_option maxRecDepth 20000 in
theorem tie_wsX11_expected_r5 : wsX11_expected_r5 = tk ix_wsX11_expected_r5 := rfl
abbrev ix_wsX11_expected_r6 : List Nat := [324, 325, 985, 986, 987, 58, 988, 989, 990, 991, 992, 993, 994, 995, 996, 69, 997, 998, 999, 1000, 1001, 1002, 1003, 1004]
set_option maxRecDepth 20000 in
theorem tie_wsX11_expected_r6 : wsX11_expected_r6 = tk ix_wsX11_expected_r6 := rfl
abbrev ix_wsX11_expected_r7 : List Nat := [1005, 1006, 1007, 1008, 1009, 1010, 1011, 1012, 1013, 1014, 1015, 1016, 1017, 1018, 1019, 1020, 1021, 1022, 1023, 1024, 1025, 1026, 1027, 1028]
set_option maxRecDepth 20000 in
theorem tie_wsX11_expected_r7 : wsX11_expected_r7 = tk ix_wsX11_expected_r7 := rfl
abbrev ix_wsX11_expected_r8 : List Nat := [1029, 1030, 1031, 1032, 1033, 1034, 1035, 1036, 1037, 1038, 1039, 1040, 1041, 1042, 1043, 63, 64, 1044, 1045, 1046, 1047, 1048, 1049, 1050]
set_option maxRecDepth 20000 in
theorem tie_wsX11_expected_r8 : wsX11_expected_r8 = tk ix_wsX11_expected_r8 := rfl
abbrev ix_wsX11_expected_r9 : List Nat := [1051, 1052, 363, 364, 365, 366, 349, 317, 318, 319, 1053, 1054, 1055, 1056, 1057, 1058, 1059, 1060, 1061, 1062, 1063, 1064, 1065, 1066]
set_option maxRecDepth 20000 in
theorem tie_wsX11_expected_r9 : wsX11_expected_r9 = tk ix_wsX11_expected_r9 := rfl
abbrev ix_wsX11_expected_r10 : List Nat := [1067, 1068, 1069, 1070, 1071, 1072, 296, 297, 298, 51, 1073, 1074, 1075, 1076, 1077, 1078, 1079, 772, 1080, 788, 787, 786, 785, 1255]
set_option maxRecDepth 20000 in
theorem tie_wsX11_expected_r10 : wsX11_expected_r10 = tk ix_wsX11_expected_r10 := rfl
abbrev ix_wsX11_expected_r11 : List Nat := [1256, 1257, 1258, 1259, 480, 481, 482, 483]
set_option maxRecDepth 20000 in
theorem tie_wsX11_expected_r11 : wsX11_expected_r11 = tk ix_wsX11_expected_r11 := rfl
abbrev ix_wsX11_expected : List Nat := 1253 :: ((((((((((ix_wsX11_expected_r1) ++ ((ix_wsX11_expected_r2) ++ ((ix_wsX11_expected_r3) ++ ((ix_wsX11_expected_r4) ++ ((ix_wsX11_expected_r5) ++ ((ix_wsX11_expected_r6) ++ ((ix_wsX11_expected_r7) ++ ((ix_wsX11_expected_r8) ++ ((ix_wsX11_expected_r9) ++ ((ix_wsX11_expected_r10) ++ (ix_wsX11_expected_r11))))))))))) ++ (ix_wsX110)) ++ (ix_wsX20)) ++ (ix_wsX50)) ++ (ix_wsX90)) ++ (ix_wsX80)) ++ (ix_wsX40)) ++ (ix_wsX30)) ++ (ix_wsX10))
set_option maxRecDepth 20000 in
theorem tie_wsX11_expected : wsX11_expected = tk ix_wsX11_expected := tk_co rfl (tk_ap (tk_ap (tk_ap (tk_ap (tk_ap (tk_ap (tk_ap (tk_ap (tk_ap (tie_wsX11_expected_r1) (tk_ap (tie_wsX11_expected_r2) (tk_ap (tie_wsX11_expected_r3) (tk_ap (tie_wsX11_expected_r4) (tk_ap (tie_wsX11_expected_r5) (tk_ap (tie_wsX11_expected_r6) (tk_ap (tie_wsX11_expected_r7) (tk_ap (tie_wsX11_expected_r8) (tk_ap (tie_wsX11_expected_r9) (tk_ap (tie_wsX11_expected_r10) (tie_wsX11_expected_r11))))))))))) (tie_wsX110)) (tie_wsX20)) (tie_wsX50)) (tie_wsX90)) (tie_wsX80)) (tie_wsX40)) (tie_wsX30)) (tie_wsX10))
abbrev ix_wsX11_bestPath_r1 : List Nat := [18, 32, 36, 228, 201, 202, 14, 203, 158, 939, 940, 941, 2, 942, 28, 943, 446, 447, 448, 892, 893, 894, 895, 43]
set_option maxRecDepth 20000 in
theorem tie_wsX11_bestPath_r1 : wsX11_bestPath_r1 = tk ix_wsX11_bestPath_r1 := rfl
abbrev ix_wsX11_bestPath_r2 : List Nat := [42, 944, 945, 946, 627, 947, 808, 948, 949, 950, 17, 951, 65, 952, 953, 954, 955, 956, 957, 414, 415, 416, 412, 234]
set_option maxRecDepth 20000 in
theorem tie_wsX11_bestPath_r2 : wsX11_bestPath_r2 = tk ix_wsX11_bestPath_r2 := rfl
abbrev ix_wsX11_bestPath_r3 : List Nat := [235, 236, 237, 230, 231, 232, 49, 958, 959, 960, 478, 479, 961, 962, 963, 964, 965, 966, 967, 31, 968, 90, 91, 969]
set_option maxRecDepth 20000 in
theorem tie_wsX11_bestPath_r3 : wsX11_bestPath_r3 = tk ix_wsX11_bestPath_r3 := rfl
abbrev ix_wsX11_bestPath_r4 : List Nat := [970, 367, 368, 369, 971, 972, 973, 974, 975, 275, 276, 277, 50, 200, 320, 321, 976, 469, 470, 471, 472, 409, 410, 411]
set_option maxRecDepth 20000 in
theorem tie_wsX11_bestPath_r4 : wsX11_bestPath_r4 = tk ix_wsX11_bestPath_r4 := rfl
abbrev ix_wsX11_bestPath_r5 : List Nat := [473, 474, 475, 476, 477, 61, 62, 402, 403, 977, 978, 979, 980, 59, 981, 982, 983, 984, 322, 323, 324, 325, 985, 986]
set_option maxRecDepth 20000 in
theorem tie_wsX11_bestPath_r5 : wsX11_bestPath_r5 = tk ix_wsX11_bestPath_r5 := rfl
abbrev ix_wsX11_bestPath_r6 : List Nat := [987, 58, 988, 989, 990, 991, 992, 993, 994, 995, 996, 69, 997, 998, 999, 1000, 1001, 1002, 1003, 1004, 1005, 1006, 1007, 1008]
set_option maxRecDepth 20000 in
theorem tie_wsX11_bestPath_r6 : wsX11_bestPath_r6 = tk ix_wsX11_bestPath_r6 := rfl
abbrev ix_wsX11_bestPath_r7 : List Nat := [1009, 1010, 1011, 1012, 1013, 1014, 1015, 1016, 1017, 1018, 1019, 1020, 1021, 1022, 1023, 1024, 1025, 1026, 1027, 1028, 1029, 1030, 1031, 1032]
set_option maxRecDepth 20000 in
theorem tie_wsX11_bestPath_r7 : wsX11_bestPath_r7 = tk ix_wsX11_bestPath_r7 := rfl
abbrev ix_wsX11_bestPath_r8 : List Nat := [1033, 1034, 1035, 1036, 1037, 1038, 1039, 1040, 1041, 1042, 1043, 63, 64, 1044, 1045, 1046, 1047, 1048, 1049, 1050, 1051, 1052, 363, 364]
set_option maxRecDepth 20000 in
theorem tie_wsX11_bestPath_r8 : wsX11_bestPath_r8 = tk ix_wsX11_bestPath_r8 := rfl
abbrev ix_wsX11_bestPath_r9 : List Nat := [365, 366, 349, 317, 318, 319, 1053, 1054, 1055, 1056, 1057, 1058, 1059, 1060, 1061, 1062, 1063, 1064, 1065, 1066, 1067, 1068, 1069, 1070]
set_option maxRecDepth 20000 in
theorem tie_wsX11_bestPath_r9 : wsX11_bestPath_r9 = tk ix_wsX11_bestPath_r9 := rfl
abbrev ix_wsX11_bestPath_r10 : List Nat := [1071, 1072, 296, 297, 298, 51, 1073, 1074, 1075, 1076, 1077, 1078, 1079, 772, 1080, 788, 787, 786, 785, 1269, 1270, 1271, 35, 1272]
set_option maxRecDepth 20000 in
theorem tie_wsX11_bestPath_r10 : wsX11_bestPath_r10 = tk ix_wsX11_bestPath_r10 := rfl
abbrev ix_wsX11_bestPath_r11 : List Nat := [100, 96, 97, 98, 1273, 1274, 1275, 1276, 99, 1277, 1278, 1279, 1280, 1281, 1282, 1283, 1284, 1285, 1286, 1287, 1288, 1289, 1290, 1291]
set_option maxRecDepth 20000 in
theorem tie_wsX11_bestPath_r11 : wsX11_bestPath_r11 = tk ix_wsX11_bestPath_r11 := rfl
abbrev ix_wsX11_bestPath_r12 : List Nat := [1292, 1293, 1294, 1295, 1296, 1297, 1298, 1299]
set_option maxRecDepth 20000 in
theorem tie_wsX11_bestPath_r12 : wsX11_bestPath_r12 = tk ix_wsX11_bestPath_r12 := rfl
abbrev ix_wsX11_bestPath : List Nat := 1268 :: (((((((((((ix_wsX11_bestPath_r1) ++ ((ix_wsX11_bestPath_r2) ++ ((ix_wsX11_bestPath_r3) ++ ((ix_wsX11_bestPath_r4) ++ ((ix_wsX11_bestPath_r5) ++ ((ix_wsX11_bestPath_r6) ++ ((ix_wsX11_bestPath_r7) ++ ((ix_wsX11_bestPath_r8) ++ ((ix_wsX11_bestPath_r9) ++ ((ix_wsX11_bestPath_r10) ++ ((ix_wsX11_bestPath_r11) ++ (ix_wsX11_bestPath_r12)))))))))))) ++ (ix_wsX110)) ++ (ix_wsX20)) ++ (ix_wsX50)) ++ (ix_wsX90)) ++ (ix_wsX80)) ++ (ix_wsX40)) ++ (ix_wsX30)) ++ (ix_wsX10)) ++ (ix_wsX00))
set_option maxRecDepth 20000 in
theorem tie_wsX11_bestPath : wsX11_bestPath = tk ix_wsX11_bestPath := tk_co rfl (tk_ap (tk_ap (tk_ap (tk_ap (tk_ap (tk_ap (tk_ap (tk_ap (tk_ap (tk_ap (tie_wsX11_bestPath_r1) (tk_ap (tie_wsX11_bestPath_r2) (tk_ap (tie_wsX11_bestPath_r3) (tk_ap (tie_wsX11_bestPath_r4) (tk_ap (tie_wsX11_bestPath_r5) (tk_ap (tie_wsX11_bestPath_r6) (tk_ap (tie_wsX11_bestPath_r7) (tk_ap (tie_wsX11_bestPath_r8) (tk_ap (tie_wsX11_bestPath_r9) (tk_ap (tie_wsX11_bestPath_r10) (tk_ap (tie_wsX11_bestPath_r11) (tie_wsX11_bestPath_r12)))))))))))) (tie_wsX110)) (tie_wsX20)) (tie_wsX50)) (tie_wsX90)) (tie_wsX80)) (tie_wsX40)) (tie_wsX30)) (tie_wsX10)) (tie_wsX00))
abbrev ix_wsX11_bestProduct_r1 : List Nat := [32, 36, 1320, 463, 464, 465, 2, 466, 18, 228, 201, 202, 14, 203, 158, 939, 940, 941, 942, 28, 943, 446, 447, 448]
set_option maxRecDepth 20000 in
theorem tie_wsX11_bestProduct_r1 : wsX11_bestProduct_r1 = tk ix_wsX11_bestProduct_r1 := rfl
abbrev ix_wsX11_bestProduct_r2 : List Nat := [892, 893, 894, 895, 43, 42, 944, 945, 946, 627, 947, 808, 948, 949, 950, 17, 951, 65, 952, 953, 954, 955, 956, 957]
set_option maxRecDepth 20000 in
theorem tie_wsX11_bestProduct_r2 : wsX11_bestProduct_r2 = tk ix_wsX11_bestProduct_r2 := rfl
abbrev ix_wsX11_bestProduct_r3 : List Nat := [414, 415, 416, 412, 234, 235, 236, 237, 230, 231, 232, 49, 958, 959, 960, 478, 479, 961, 962, 963, 964, 965, 966, 967]
set_option maxRecDepth 20000 in
theorem tie_wsX11_bestProduct_r3 : wsX11_bestProduct_r3 = tk ix_wsX11_bestProduct_r3 := rfl
abbrev ix_wsX11_bestProduct_r4 : List Nat := [31, 968, 90, 91, 969, 970, 367, 368, 369, 971, 972, 973, 974, 975, 275, 276, 277, 50, 200, 320, 321, 976, 469, 470]
set_option maxRecDepth 20000 in
theorem tie_wsX11_bestProduct_r4 : wsX11_bestProduct_r4 = tk ix_wsX11_bestProduct_r4 := rfl
abbrev ix_wsX11_bestProduct_r5 : List Nat := [471, 472, 409, 410, 411, 473, 474, 475, 476, 477, 61, 62, 402, 403, 977, 978, 979, 980, 59, 981, 982, 983, 984, 322]
set_option maxRecDepth 20000 in
theorem tie_wsX11_bestProduct_r5 : wsX11_bestProduct_r5 = tk ix_wsX11_bestProduct_r5 := rfl
abbrev ix_wsX11_bestProduct_r6 : List Nat := [323, 324, 325, 985, 986, 987, 58, 988, 989, 990, 991, 992, 993, 994, 995, 996, 69, 997, 998, 999, 1000, 1001, 1002, 1003]
set_option maxRecDepth 20000 in
theorem tie_wsX11_bestProduct_r6 : wsX11_bestProduct_r6 = tk ix_wsX11_bestProduct_r6 := rfl
abbrev ix_wsX11_bestProduct_r7 : List Nat := [1004, 1005, 1006, 1007, 1008, 1009, 1010, 1011, 1012, 1013, 1014, 1015, 1016, 1017, 1018, 1019, 1020, 1021, 1022, 1023, 1024, 1025, 1026, 1027]
set_option maxRecDepth 20000 in
theorem tie_wsX11_bestProduct_r7 : wsX11_bestProduct_r7 = tk ix_wsX11_bestProduct_r7 := rfl
abbrev ix_wsX11_bestProduct_r8 : List Nat := [1028, 1029, 1030, 1031, 1032, 1033, 1034, 1035, 1036, 1037, 1038, 1039, 1040, 1041, 1042, 1043, 63, 64, 1044, 1045, 1046, 1047, 1048, 1049]
set_option maxRecDepth 20000 in
theorem tie_wsX11_bestProduct_r8 : wsX11_bestProduct_r8 = tk ix_wsX11_bestProduct_r8 := rfl
