abbrev ix_wsX5_init : List Nat := 798 :: (([799, 10, 11, 800, 801]) ++ (ix_wsX50))
set_option maxRecDepth 20000 in
theorem tie_wsX5_init : wsX5_init = tk ix_wsX5_init := tk_co rfl (tk_ap (rfl) (tie_wsX50))
abbrev ix_wsX11_letter_r1 : List Nat := [885, 886, 887, 2, 888, 39, 38, 889, 890, 891, 617, 892, 800, 893, 706, 707, 579, 708, 632, 709, 710, 711, 712, 633]
set_option maxRecDepth 20000 in
theorem tie_wsX11_letter_r1 : wsX11_letter_r1 = tk ix_wsX11_letter_r1 := rfl
abbrev ix_wsX11_letter_r2 : List Nat := [631, 894, 714, 715, 716, 717, 718, 719, 720, 721, 722, 558, 723, 724, 599, 600, 581, 601, 602, 584, 603, 725, 726, 105]
set_option maxRecDepth 20000 in
theorem tie_wsX11_letter_r2 : wsX11_letter_r2 = tk ix_wsX11_letter_r2 := rfl
abbrev ix_wsX11_letter_r3 : List Nat := [727, 595, 596, 597, 574, 575, 576, 598, 659, 660, 661, 589, 590, 591]
set_option maxRecDepth 20000 in
theorem tie_wsX11_letter_r3 : wsX11_letter_r3 = tk ix_wsX11_letter_r3 := rfl
abbrev ix_wsX11_letter : List Nat := 884 :: (((((ix_wsX11_letter_r1) ++ ((ix_wsX11_letter_r2) ++ (ix_wsX11_letter_r3))) ++ (ix_wsX110)) ++ (ix_wsX50)) ++ (ix_wsJ00))
set_option maxRecDepth 20000 in
theorem tie_wsX11_letter : wsX11_letter = tk ix_wsX11_letter := tk_co rfl (tk_ap (tk_ap (tk_ap (tk_ap (tie_wsX11_letter_r1) (tk_ap (tie_wsX11_letter_r2) (tie_wsX11_letter_r3))) (tie_wsX110)) (tie_wsX50)) (tie_wsJ00))
abbrev ix_wsX11_find : List Nat := 888 :: (([39, 38]) ++ (ix_wsX110))
set_option maxRecDepth 20000 in
theorem tie_wsX11_find : wsX11_find = tk ix_wsX11_find := tk_co rfl (tk_ap (rfl) (tie_wsX110))
abbrev ix_wsX11_depth : List Nat := 906 :: (((([885, 886, 887, 2, 888, 39, 38, 907, 908, 909, 617, 910, 801]) ++ (ix_wsX110)) ++ (ix_wsX50)) ++ (ix_wsX90))
set_option maxRecDepth 20000 in
theorem tie_wsX11_depth : wsX11_depth = tk ix_wsX11_depth := tk_co rfl (tk_ap (tk_ap (tk_ap (rfl) (tie_wsX110)) (tie_wsX50)) (tie_wsX90))
abbrev ix_wsX5_nesting : List Nat := 910 :: ((([801]) ++ (ix_wsX50)) ++ (ix_wsX90))
set_option maxRecDepth 20000 in
theorem tie_wsX5_nesting : wsX5_nesting = tk ix_wsX5_nesting := tk_co rfl (tk_ap (tk_ap (rfl) (tie_wsX50)) (tie_wsX90))
abbrev ix_wsX11_holdsIn_r1 : List Nat := [28, 932, 933, 934, 2, 935, 936, 436, 437, 438, 885, 886, 887, 888, 39, 38, 937, 938, 939, 617, 940, 801, 941, 942]
set_option maxRecDepth 20000 in
theorem tie_wsX11_holdsIn_r1 : wsX11_holdsIn_r1 = tk ix_wsX11_holdsIn_r1 := rfl
abbrev ix_wsX11_holdsIn_r2 : List Nat := [943, 27, 944, 77, 945, 946, 947, 948, 14, 949, 148, 950, 404, 405, 406, 402, 224, 225, 226, 227, 220, 221, 222, 45]
set_option maxRecDepth 20000 in
theorem tie_wsX11_holdsIn_r2 : wsX11_holdsIn_r2 = tk ix_wsX11_holdsIn_r2 := rfl
abbrev ix_wsX11_holdsIn_r3 : List Nat := [951, 952, 953, 468, 469, 954, 955, 956, 957, 958, 959, 960, 961, 357, 358, 359, 962, 963, 964, 965, 966, 265, 266, 267]
set_option maxRecDepth 20000 in
theorem tie_wsX11_holdsIn_r3 : wsX11_holdsIn_r3 = tk ix_wsX11_holdsIn_r3 := rfl
abbrev ix_wsX11_holdsIn_r4 : List Nat := [46, 190, 191, 192, 193, 310, 311, 458, 459, 460, 461, 462, 399, 400, 401, 463, 464, 465, 466, 467, 73, 74, 392, 393]
set_option maxRecDepth 20000 in
theorem tie_wsX11_holdsIn_r4 : wsX11_holdsIn_r4 = tk ix_wsX11_holdsIn_r4 := rfl
abbrev ix_wsX11_holdsIn_r5 : List Nat := [967, 968, 969, 970, 71, 971, 972, 973, 974, 312, 313, 314, 315, 975, 976, 977, 70, 978, 979, 980, 981, 982, 983, 984]
set_option maxRecDepth 20000 in
theorem tie_wsX11_holdsIn_r5 : wsX11_holdsIn_r5 = tk ix_wsX11_holdsIn_r5 := rfl
abbrev ix_wsX11_holdsIn_r6 : List Nat := [985, 986, 81, 987, 988, 989, 990, 991, 992, 993, 994, 995, 996, 997, 998, 999, 1000, 1001, 1002, 1003, 1004, 1005, 1006, 1007]
set_option maxRecDepth 20000 in
theorem tie_wsX11_holdsIn_r6 : wsX11_holdsIn_r6 = tk ix_wsX11_holdsIn_r6 := rfl
abbrev ix_wsX11_holdsIn_r7 : List Nat := [1008, 1009, 1010, 1011, 1012, 1013, 1014, 1015, 1016, 1017, 1018, 1019, 1020, 1021, 1022, 1023, 1024, 1025, 1026, 1027, 1028, 1029, 1030, 1031]
set_option maxRecDepth 20000 in
theorem tie_wsX11_holdsIn_r7 : wsX11_holdsIn_r7 = tk ix_wsX11_holdsIn_r7 := rfl
abbrev ix_wsX11_holdsIn_r8 : List Nat := [1032, 1033, 75, 76, 1034, 1035, 1036, 1037, 1038, 1039, 1040, 1041, 1042, 353, 354, 355, 356, 339, 307, 308, 309, 1043, 1044, 1045]
set_option maxRecDepth 20000 in
theorem tie_wsX11_holdsIn_r8 : wsX11_holdsIn_r8 = tk ix_wsX11_holdsIn_r8 := rfl
abbrev ix_wsX11_holdsIn_r9 : List Nat := [1046, 1047, 1048, 1049, 1050, 1051, 1052, 1053, 1054, 1055, 1056, 1057, 1058, 1059, 1060, 1061, 1062, 286, 287, 288, 47, 1063, 1064, 1065]
set_option maxRecDepth 20000 in
theorem tie_wsX11_holdsIn_r9 : wsX11_holdsIn_r9 = tk ix_wsX11_holdsIn_r9 := rfl
abbrev ix_wsX11_holdsIn_r10 : List Nat := [1066, 1067, 1068, 1069, 763, 1070, 779, 778, 777, 776]
set_option maxRecDepth 20000 in
theorem tie_wsX11_holdsIn_r10 : wsX11_holdsIn_r10 = tk ix_wsX11_holdsIn_r10 := rfl
abbrev ix_wsX11_holdsIn : List Nat := 931 :: (((((((((ix_wsX11_holdsIn_r1) ++ ((ix_wsX11_holdsIn_r2) ++ ((ix_wsX11_holdsIn_r3) ++ ((ix_wsX11_holdsIn_r4) ++ ((ix_wsX11_holdsIn_r5) ++ ((ix_wsX11_holdsIn_r6) ++ ((ix_wsX11_holdsIn_r7) ++ ((ix_wsX11_holdsIn_r8) ++ ((ix_wsX11_holdsIn_r9) ++ (ix_wsX11_holdsIn_r10)))))))))) ++ (ix_wsX110)) ++ (ix_wsX50)) ++ (ix_wsX90)) ++ (ix_wsX80)) ++ (ix_wsX20)) ++ (ix_wsX30)) ++ (ix_wsX10))
set_option maxRecDepth 20000 in
theorem tie_wsX11_holdsIn : wsX11_holdsIn = tk ix_wsX11_holdsIn := tk_co rfl (tk_ap (tk_ap (tk_ap (tk_ap (tk_ap (tk_ap (tk_ap (tk_ap (tie_wsX11_holdsIn_r1) (tk_ap (tie_wsX11_holdsIn_r2) (tk_ap (tie_wsX11_holdsIn_r3) (tk_ap (tie_wsX11_holdsIn_r4) (tk_ap (tie_wsX11_holdsIn_r5) (tk_ap (tie_wsX11_holdsIn_r6) (tk_ap (tie_wsX11_holdsIn_r7) (tk_ap (tie_wsX11_holdsIn_r8) (tk_ap (tie_wsX11_holdsIn_r9) (tie_wsX11_holdsIn_r10)))))))))) (tie_wsX110)) (tie_wsX50)) (tie_wsX90)) (tie_wsX80)) (tie_wsX20)) (tie_wsX30)) (tie_wsX10))
abbrev ix_wsX11_errorOf_r1 : List Nat := [28, 936, 436, 437, 438, 885, 886, 887, 2, 888, 39, 38, 937, 938, 939, 617, 940, 801, 941, 942, 943, 27, 944, 77]
set_option maxRecDepth 20000 in
theorem tie_wsX11_errorOf_r1 : wsX11_errorOf_r1 = tk ix_wsX11_errorOf_r1 := rfl
abbrev ix_wsX11_errorOf_r2 : List Nat := [945, 946, 947, 948, 14, 949, 148, 950, 404, 405, 406, 402, 224, 225, 226, 227, 220, 221, 222, 45, 951, 952, 953, 468]
set_option maxRecDepth 20000 in
theorem tie_wsX11_errorOf_r2 : wsX11_errorOf_r2 = tk ix_wsX11_errorOf_r2 := rfl
abbrev ix_wsX11_errorOf_r3 : List Nat := [469]
set_option maxRecDepth 20000 in
theorem tie_wsX11_errorOf_r3 : wsX11_errorOf_r3 = tk ix_wsX11_errorOf_r3 := rfl
abbrev ix_wsX11_errorOf : List Nat := 935 :: (((((((ix_wsX11_errorOf_r1) ++ ((ix_wsX11_errorOf_r2) ++ (ix_wsX11_errorOf_r3))) ++ (ix_wsX110)) ++ (ix_wsX50)) ++ (ix_wsX90)) ++ (ix_wsX80)) ++ (ix_wsX20))
set_option maxRecDepth 20000 in
theorem tie_wsX11_errorOf : wsX11_errorOf = tk ix_wsX11_errorOf := tk_co rfl (tk_ap (tk_ap (tk_ap (tk_ap (tk_ap (tk_ap (tie_wsX11_errorOf_r1) (tk_ap (tie_wsX11_errorOf_r2) (tie_wsX11_errorOf_r3))) (tie_wsX110)) (tie_wsX50)) (tie_wsX90)) (tie_wsX80)) (tie_wsX20))
abbrev ix_wsX11_rootOf : List Nat := 957 :: ((([885, 886, 887, 2, 888, 39, 38]) ++ (ix_wsX50)) ++ (ix_wsX110))
set_option maxRecDepth 20000 in
theorem tie_wsX11_rootOf : wsX11_rootOf = tk ix_wsX11_rootOf := tk_co rfl (tk_ap (tk_ap (rfl) (tie_wsX50)) (tie_wsX110))
abbrev ix_wsX11_statesOf_r1 : List Nat := [958, 959, 2, 961, 357, 358, 14, 359, 148, 962, 963, 964, 965, 966, 265, 266, 267, 46, 190, 191, 192, 193, 310, 311]
set_option maxRecDepth 20000 in
theorem tie_wsX11_statesOf_r1 : wsX11_statesOf_r1 = tk ix_wsX11_statesOf_r1 := rfl
abbrev ix_wsX11_statesOf_r2 : List Nat := [458, 459, 460, 27, 461, 77, 462, 399, 400, 401, 227, 220, 221, 222, 45, 402, 224, 225, 226, 463, 404, 405, 406, 464]
set_option maxRecDepth 20000 in
theorem tie_wsX11_statesOf_r2 : wsX11_statesOf_r2 = tk ix_wsX11_statesOf_r2 := rfl
abbrev ix_wsX11_statesOf_r3 : List Nat := [465, 466, 467, 73, 74, 468, 469, 392, 393, 967, 968, 969, 970, 71, 971, 972, 973, 974, 312, 313, 314, 315, 975, 976]
set_option maxRecDepth 20000 in
theorem tie_wsX11_statesOf_r3 : wsX11_statesOf_r3 = tk ix_wsX11_statesOf_r3 := rfl
abbrev ix_wsX11_statesOf_r4 : List Nat := [977, 70, 978, 979, 980, 981, 982, 983, 984, 985, 986, 81, 987, 988, 989, 990, 991, 992, 993, 994, 995, 996, 997, 998]
set_option maxRecDepth 20000 in
theorem tie_wsX11_statesOf_r4 : wsX11_statesOf_r4 = tk ix_wsX11_statesOf_r4 := rfl
abbrev ix_wsX11_statesOf_r5 : List Nat := [999, 1000, 1001, 1002, 1003, 1004, 1005, 1006, 1007, 1008, 1009, 1010, 1011, 1012, 1013, 1014, 1015, 1016, 1017, 1018, 1019, 1020, 1021, 1022]
set_option maxRecDepth 20000 in
theorem tie_wsX11_statesOf_r5 : wsX11_statesOf_r5 = tk ix_wsX11_statesOf_r5 := rfl
abbrev ix_wsX11_statesOf_r6 : List Nat := [1023, 1024, 1025, 1026, 1027, 1028, 1029, 1030, 1031, 1032, 1033, 75, 76, 946, 947, 948, 949, 950, 951, 952, 953, 1034, 1035, 1036]
set_option maxRecDepth 20000 in
theorem tie_wsX11_statesOf_r6 : wsX11_statesOf_r6 = tk ix_wsX11_statesOf_r6 := rfl
abbrev ix_wsX11_statesOf_r7 : List Nat := [1037, 1038, 1039, 1040, 1041, 1042, 353, 354, 355, 356, 339, 307, 308, 309, 1043, 1044, 1045, 1046, 1047, 1048, 1049, 1050, 1051, 1052]
set_option maxRecDepth 20000 in
theorem tie_wsX11_statesOf_r7 : wsX11_statesOf_r7 = tk ix_wsX11_statesOf_r7 := rfl
abbrev ix_wsX11_statesOf_r8 : List Nat := [1053, 1054, 1055, 1056, 1057, 1058, 1059, 1060, 1061, 1062, 286, 287, 288, 47, 1063, 1064, 1065, 1066, 1067, 1068, 1069, 763, 1070, 779]
set_option maxRecDepth 20000 in
theorem tie_wsX11_statesOf_r8 : wsX11_statesOf_r8 = tk ix_wsX11_statesOf_r8 := rfl
abbrev ix_wsX11_statesOf_r9 : List Nat := [778, 777, 776]
set_option maxRecDepth 20000 in
theorem tie_wsX11_statesOf_r9 : wsX11_statesOf_r9 = tk ix_wsX11_statesOf_r9 := rfl
abbrev ix_wsX11_statesOf : List Nat := 960 :: (((((((ix_wsX11_statesOf_r1) ++ ((ix_wsX11_statesOf_r2) ++ ((ix_wsX11_statesOf_r3) ++ ((ix_wsX11_statesOf_r4) ++ ((ix_wsX11_statesOf_r5) ++ ((ix_wsX11_statesOf_r6) ++ ((ix_wsX11_statesOf_r7) ++ ((ix_wsX11_statesOf_r8) ++ (ix_wsX11_statesOf_r9))))))))) ++ (ix_wsX80)) ++ (ix_wsX90)) ++ (ix_wsX20)) ++ (ix_wsX30)) ++ (ix_wsX10))
set_option maxRecDepth 20000 in
theorem tie_wsX11_statesOf : wsX11_statesOf = tk ix_wsX11_statesOf := tk_co rfl (tk_ap (tk_ap (tk_ap (tk_ap (tk_ap (tk_ap (tie_wsX11_statesOf_r1) (tk_ap (tie_wsX11_statesOf_r2) (tk_ap (tie_wsX11_statesOf_r3) (tk_ap (tie_wsX11_statesOf_r4) (tk_ap (tie_wsX11_statesOf_r5) (tk_ap (tie_wsX11_statesOf_r6) (tk_ap (tie_wsX11_statesOf_r7) (tk_ap (tie_wsX11_statesOf_r8) (tie_wsX11_statesOf_r9))))))))) (tie_wsX80)) (tie_wsX90)) (tie_wsX20)) (tie_wsX30)) (tie_wsX10))
abbrev ix_wsX11_holds_r1 : List Nat := [15, 28, 218, 191, 192, 14, 193, 148, 932, 933, 934, 2, 935, 936, 436, 437, 438, 885, 886, 887, 888, 39, 38, 937]
set_option maxRecDepth 20000 in
theorem tie_wsX11_holds_r1 : wsX11_holds_r1 = tk ix_wsX11_holds_r1 := rfl
abbrev ix_wsX11_holds_r2 : List Nat := [938, 939, 617, 940, 801, 941, 942, 943, 27, 944, 77, 945, 946, 947, 948, 949, 950, 404, 405, 406, 402, 224, 225, 226]
set_option maxRecDepth 20000 in
theorem tie_wsX11_holds_r2 : wsX11_holds_r2 = tk ix_wsX11_holds_r2 := rfl
abbrev ix_wsX11_holds_r3 : List Nat := [227, 220, 221, 222, 45, 951, 952, 953, 468, 469, 954, 955, 956, 957, 958, 959, 960, 961, 357, 358, 359, 962, 963, 964]
set_option maxRecDepth 20000 in
theorem tie_wsX11_holds_r3 : wsX11_holds_r3 = tk ix_wsX11_holds_r3 := rfl
abbrev ix_wsX11_holds_r4 : List Nat := [965, 966, 265, 266, 267, 46, 190, 310, 311, 458, 459, 460, 461, 462, 399, 400, 401, 463, 464, 465, 466, 467, 73, 74]
set_option maxRecDepth 20000 in
theorem tie_wsX11_holds_r4 : wsX11_holds_r4 = tk ix_wsX11_holds_r4 := rfl
abbrev ix_wsX11_holds_r5 : List Nat := [392, 393, 967, 968, 969, 970, 71, 971, 972, 973, 974, 312, 313, 314, 315, 975, 976, 977, 70, 978, 979, 980, 981, 982]
set_option maxRecDepth 20000 in
theorem tie_wsX11_holds_r5 : wsX11_holds_r5 = tk ix_wsX11_holds_r5 := rfl
abbrev ix_wsX11_holds_r6 : List Nat := [983, 984, 985, 986, 81, 987, 988, 989, 990, 991, 992, 993, 994, 995, 996, 997, 998, 999, 1000, 1001, 1002, 1003, 1004, 1005]
set_option maxRecDepth 20000 in
theorem tie_wsX11_holds_r6 : wsX11_holds_r6 = tk ix_wsX11_holds_r6 := rfl
abbrev ix_wsX11_holds_r7 : List Nat := [1006, 1007, 1008, 1009, 1010, 1011, 1012, 1013, 1014, 1015, 1016, 1017, 1018, 1019, 1020, 1021, 1022, 1023, 1024, 1025, 1026, 1027, 1028, 1029]
set_option maxRecDepth 20000 in
theorem tie_wsX11_holds_r7 : wsX11_holds_r7 = tk ix_wsX11_holds_r7 := rfl
abbrev ix_wsX11_holds_r8 : List Nat := [1030, 1031, 1032, 1033, 75, 76, 1034, 1035, 1036, 1037, 1038, 1039, 1040, 1041, 1042, 353, 354, 355, 356, 339, 307, 308, 309, 1043]
set_option maxRecDepth 20000 in
theorem tie_wsX11_holds_r8 : wsX11_holds_r8 = tk ix_wsX11_holds_r8 := rfl
abbrev ix_wsX11_holds_r9 : List Nat := [1044, 1045, 1046, 1047, 1048, 1049, 1050, 1051, 1052, 1053, 1054, 1055, 1056, 1057, 1058, 1059, 1060, 1061, 1062, 286, 287, 288, 47, 1063]
set_option maxRecDepth 20000 in
theorem tie_wsX11_holds_r9 : wsX11_holds_r9 = tk ix_wsX11_holds_r9 := rfl
abbrev ix_wsX11_holds_r10 : List Nat := [1064, 1065, 1066, 1067, 1068, 1069, 763, 1070, 779, 778, 777, 776, 1162]
set_option maxRecDepth 20000 in
theorem tie_wsX11_holds_r10 : wsX11_holds_r10 = tk ix_wsX11_holds_r10 := rfl
abbrev ix_wsX11_holds : List Nat := 1161 :: (((((((((ix_wsX11_holds_r1) ++ ((ix_wsX11_holds_r2) ++ ((ix_wsX11_holds_r3) ++ ((ix_wsX11_holds_r4) ++ ((ix_wsX11_holds_r5) ++ ((ix_wsX11_holds_r6) ++ ((ix_wsX11_holds_r7) ++ ((ix_wsX11_holds_r8) ++ ((ix_wsX11_holds_r9) ++ (ix_wsX11_holds_r10)))))))))) ++ (ix_wsX110)) ++ (ix_wsX20)) ++ (ix_wsX50)) ++ (ix_wsX90)) ++ (ix_wsX80)) ++ (ix_wsX30)) ++ (ix_wsX10))
set_option maxRecDepth 20000 in
theorem tie_wsX11_holds : wsX11_holds = tk ix_wsX11_holds := tk_co rfl (tk_ap (tk_ap (tk_ap (tk_ap (tk_ap (tk_ap (tk_ap (tk_ap (tie_wsX11_holds_r1) (tk_ap (tie_wsX11_holds_r2) (tk_ap (tie_wsX11_holds_r3) (tk_ap (tie_wsX11_holds_r4) (tk_ap (tie_wsX11_holds_r5) (tk_ap (tie_wsX11_holds_r6) (tk_ap (tie_wsX11_holds_r7) (tk_ap (tie_wsX11_holds_r8) (tk_ap (tie_wsX11_holds_r9) (tie_wsX11_holds_r10)))))))))) (tie_wsX110)) (tie_wsX20)) (tie_wsX50)) (tie_wsX90)) (tie_wsX80)) (tie_wsX30)) (tie_wsX10))
abbrev ix_wsX11_next_r1 : List Nat := [28, 453, 454, 455, 2, 456, 15, 218, 191, 192, 14, 193, 148, 932, 933, 934, 935, 936, 436, 437, 438, 885, 886, 887]
set_option maxRecDepth 20000 in
theorem tie_wsX11_next_r1 : wsX11_next_r1 = tk ix_wsX11_next_r1 := rfl
abbrev ix_wsX11_next_r2 : List Nat := [888, 39, 38, 937, 938, 939, 617, 940, 801, 941, 942, 943, 27, 944, 77, 945, 946, 947, 948, 949, 950, 404, 405, 406]
set_option maxRecDepth 20000 in
theorem tie_wsX11_next_r2 : wsX11_next_r2 = tk ix_wsX11_next_r2 := rfl
abbrev ix_wsX11_next_r3 : List Nat := [402, 224, 225, 226, 227, 220, 221, 222, 45, 951, 952, 953, 468, 469, 954, 955, 956, 957, 958, 959, 960, 961, 357, 358]
set_option maxRecDepth 20000 in
theorem tie_wsX11_next_r3 : wsX11_next_r3 = tk ix_wsX11_next_r3 := rfl
abbrev ix_wsX11_next_r4 : List Nat := [359, 962, 963, 964, 965, 966, 265, 266, 267, 46, 190, 310, 311, 458, 459, 460, 461, 462, 399, 400, 401, 463, 464, 465]
set_option maxRecDepth 20000 in
theorem tie_wsX11_next_r4 : wsX11_next_r4 = tk ix_wsX11_next_r4 := rfl
abbrev ix_wsX11_next_r5 : List Nat := [466, 467, 73, 74, 392, 393, 967, 968, 969, 970, 71, 971, 972, 973, 974, 312, 313, 314, 315, 975, 976, 977, 70, 978]
set_option maxRecDepth 20000 in
theorem tie_wsX11_next_r5 : wsX11_next_r5 = tk ix_wsX11_next_r5 := rfl
abbrev ix_wsX11_next_r6 : List Nat := [979, 980, 981, 982, 983, 984, 985, 986, 81, 987, 988, 989, 990, 991, 992, 993, 994, 995, 996, 997, 998, 999, 1000, 1001]
set_option maxRecDepth 20000 in
theorem tie_wsX11_next_r6 : wsX11_next_r6 = tk ix_wsX11_next_r6 := rfl
abbrev ix_wsX11_next_r7 : List Nat := [1002, 1003, 1004, 1005, 1006, 1007, 1008, 1009, 1010, 1011, 1012, 1013, 1014, 1015, 1016, 1017, 1018, 1019, 1020, 1021, 1022, 1023, 1024, 1025]
set_option maxRecDepth 20000 in
theorem tie_wsX11_next_r7 : wsX11_next_r7 = tk ix_wsX11_next_r7 := rfl
abbrev ix_wsX11_next_r8 : List Nat := [1026, 1027, 1028, 1029, 1030, 1031, 1032, 1033, 75, 76, 1034, 1035, 1036, 1037, 1038, 1039, 1040, 1041, 1042, 353, 354, 355, 356, 339]
set_option maxRecDepth 20000 in
theorem tie_wsX11_next_r8 : wsX11_next_r8 = tk ix_wsX11_next_r8 := rfl
abbrev ix_wsX11_next_r9 : List Nat := [307, 308, 309, 1043, 1044, 1045, 1046, 1047, 1048, 1049, 1050, 1051, 1052, 1053, 1054, 1055, 1056, 1057, 1058, 1059, 1060, 1061, 1062, 286]
set_option maxRecDepth 20000 in
theorem tie_wsX11_next_r9 : wsX11_next_r9 = tk ix_wsX11_next_r9 := rfl
abbrev ix_wsX11_next_r10 : List Nat := [287, 288, 47, 1063, 1064, 1065, 1066, 1067, 1068, 1069, 763, 1070, 779, 778, 777, 776, 470, 471, 472, 473]
set_option maxRecDepth 20000 in
theorem tie_wsX11_next_r10 : wsX11_next_r10 = tk ix_wsX11_next_r10 := rfl
abbrev ix_wsX11_next : List Nat := 1170 :: (((((((((ix_wsX11_next_r1) ++ ((ix_wsX11_next_r2) ++ ((ix_wsX11_next_r3) ++ ((ix_wsX11_next_r4) ++ ((ix_wsX11_next_r5) ++ ((ix_wsX11_next_r6) ++ ((ix_wsX11_next_r7) ++ ((ix_wsX11_next_r8) ++ ((ix_wsX11_next_r9) ++ (ix_wsX11_next_r10)))))))))) ++ (ix_wsX110)) ++ (ix_wsX20)) ++ (ix_wsX50)) ++ (ix_wsX90)) ++ (ix_wsX80)) ++ (ix_wsX30)) ++ (ix_wsX10))
set_option maxRecDepth 20000 in
theorem tie_wsX11_next : wsX11_next = tk ix_wsX11_next := tk_co rfl (tk_ap (tk_ap (tk_ap (tk_ap (tk_ap (tk_ap (tk_ap (tk_ap (tie_wsX11_next_r1) (tk_ap (tie_wsX11_next_r2) (tk_ap (tie_wsX11_next_r3) (tk_ap (tie_wsX11_next_r4) (tk_ap (tie_wsX11_next_r5) (tk_ap (tie_wsX11_next_r6) (tk_ap (tie_wsX11_next_r7) (tk_ap (tie_wsX11_next_r8) (tk_ap (tie_wsX11_next_r9) (tie_wsX11_next_r10)))))))))) (tie_wsX110)) (tie_wsX20)) (tie_wsX50)) (tie_wsX90)) (tie_wsX80)) (tie_wsX30)) (tie_wsX10))
abbrev ix_wsX11_until_r1 : List Nat := [28, 453, 454, 455, 2, 456, 15, 218, 191, 192, 14, 193, 148, 932, 933, 934, 935, 936, 436, 437, 438, 885, 886, 887]
set_option maxRecDepth 20000 in
theorem tie_wsX11_until_r1 : wsX11_until_r1 = tk ix_wsX11_until_r1 := rfl
abbrev ix_wsX11_until_r2 : List Nat := [888, 39, 38, 937, 938, 939, 617, 940, 801, 941, 942, 943, 27, 944, 77, 945, 946, 947, 948, 949, 950, 404, 405, 406]
set_option maxRecDepth 20000 in
theorem tie_wsX11_until_r2 : wsX11_until_r2 = tk ix_wsX11_until_r2 := rfl
abbrev ix_wsX11_until_r3 : List Nat := [402, 224, 225, 226, 227, 220, 221, 222, 45, 951, 952, 953, 468, 469, 954, 955, 956, 957, 958, 959, 960, 961, 357, 358]
set_option maxRecDepth 20000 in
theorem tie_wsX11_until_r3 : wsX11_until_r3 = tk ix_wsX11_until_r3 := rfl
abbrev ix_wsX11_until_r4 : List Nat := [359, 962, 963, 964, 965, 966, 265, 266, 267, 46, 190, 310, 311, 458, 459, 460, 461, 462, 399, 400, 401, 463, 464, 465]
set_option maxRecDepth 20000 in
theorem tie_wsX11_until_r4 : wsX11_until_r4 = tk ix_wsX11_until_r4 := rfl
abbrev ix_wsX11_until_r5 : List Nat := [466, 467, 73, 74, 392, 393, 967, 968, 969, 970, 71, 971, 972, 973, 974, 312, 313, 314, 315, 975, 976, 977, 70, 978]
set_option maxRecDepth 20000 in
theorem tie_wsX11_until_r5 : wsX11_until_r5 = tk ix_wsX11_until_r5 := rfl
abbrev ix_wsX11_until_r6 : List Nat := [979, 980, 981, 982, 983, 984, 985, 986, 81, 987, 988, 989, 990, 991, 992, 993, 994, 995, 996, 997, 998, 999, 1000, 1001]
set_option maxRecDepth 20000 in
theorem tie_wsX11_until_r6 : wsX11_until_r6 = tk ix_wsX11_until_r6 := rfl
abbrev ix_wsX11_until_r7 : List Nat := [1002, 1003, 1004, 1005, 1006, 1007, 1008, 1009, 1010, 1011, 1012, 1013, 1014, 1015, 1016, 1017, 1018, 1019, 1020, 1021, 1022, 1023, 1024, 1025]
set_option maxRecDepth 20000 in
theorem tie_wsX11_until_r7 : wsX11_until_r7 = tk ix_wsX11_until_r7 := rfl
abbrev ix_wsX11_until_r8 : List Nat := [1026, 1027, 1028, 1029, 1030, 1031, 1032, 1033, 75, 76, 1034, 1035, 1036, 1037, 1038, 1039, 1040, 1041, 1042, 353, 354, 355, 356, 339]
set_option maxRecDepth 20000 in
theorem tie_wsX11_until_r8 : wsX11_until_r8 = tk ix_wsX11_until_r8 := rfl
abbrev ix_wsX11_until_r9 : List Nat := [307, 308, 309, 1043, 1044, 1045, 1046, 1047, 1048, 1049, 1050, 1051, 1052, 1053, 1054, 1055, 1056, 1057, 1058, 1059, 1060, 1061, 1062, 286]
set_option maxRecDepth 20000 in
theorem tie_wsX11_until_r9 : wsX11_until_r9 = tk ix_wsX11_until_r9 := rfl
abbrev ix_wsX11_until_r10 : List Nat := [287, 288, 47, 1063, 1064, 1065, 1066, 1067, 1068, 1069, 763, 1070, 779, 778, 777, 776, 470, 471, 472, 473]
set_option maxRecDepth 20000 in
theorem tie_wsX11_until_r10 : wsX11_until_r10 = tk ix_wsX11_until_r10 := rfl
abbrev ix_wsX11_until : List Nat := 1182 :: (((((((((ix_wsX11_until_r1) ++ ((ix_wsX11_until_r2) ++ ((ix_wsX11_until_r3) ++ ((ix_wsX11_until_r4) ++ ((ix_wsX11_until_r5) ++ ((ix_wsX11_until_r6) ++ ((ix_wsX11_until_r7) ++ ((ix_wsX11_until_r8) ++ ((ix_wsX11_until_r9) ++ (ix_wsX11_until_r10)))))))))) ++ (ix_wsX110)) ++ (ix_wsX20)) ++ (ix_wsX50)) ++ (ix_wsX90)) ++ (ix_wsX80)) ++ (ix_wsX30)) ++ (ix_wsX10))
set_option maxRecDepth 20000 in
theorem tie_wsX11_until : wsX11_until = tk ix_wsX11_until := tk_co rfl (tk_ap (tk_ap (tk_ap (tk_ap (tk_ap (tk_ap (tk_ap (tk_ap (tie_wsX11_until_r1) (tk_ap (tie_wsX11_until_r2) (tk_ap (tie_wsX11_until_r3) (tk_ap (tie_wsX11_until_r4) (tk_ap (tie_wsX11_until_r5) (tk_ap (tie_wsX11_until_r6) (tk_ap (tie_wsX11_until_r7) (tk_ap (tie_wsX11_until_r8) (tk_ap (tie_wsX11_until_r9) (tie_wsX11_until_r10)))))))))) (tie_wsX110)) (tie_wsX20)) (tie_wsX50)) (tie_wsX90)) (tie_wsX80)) (tie_wsX30)) (tie_wsX10))
abbrev ix_wsX11_within_r1 : List Nat := [28, 1191, 453, 454, 455, 2, 456, 15, 218, 191, 192, 14, 193, 148, 932, 933, 934, 935, 936, 436, 437, 438, 885, 886]
set_option maxRecDepth 20000 in
theorem tie_wsX11_within_r1 : wsX11_within_r1 = tk ix_wsX11_within_r1 := rfl
abbrev ix_wsX11_within_r2 : List Nat := [887, 888, 39, 38, 937, 938, 939, 617, 940, 801, 941, 942, 943, 27, 944, 77, 945, 946, 947, 948, 949, 950, 404, 405]
set_option maxRecDepth 20000 in
theorem tie_wsX11_within_r2 : wsX11_within_r2 = tk ix_wsX11_within_r2 := rfl
abbrev ix_wsX11_within_r3 : List Nat := [406, 402, 224, 225, 226, 227, 220, 221, 222, 45, 951, 952, 953, 468, 469, 954, 955, 956, 957, 958, 959, 960, 961, 357]
set_option maxRecDepth 20000 in
theorem tie_wsX11_within_r3 : wsX11_within_r3 = tk ix_wsX11_within_r3 := rfl
abbrev ix_wsX11_within_r4 : List Nat := [358, 359, 962, 963, 964, 965, 966, 265, 266, 267, 46, 190, 310, 311, 458, 459, 460, 461, 462, 399, 400, 401, 463, 464]
set_option maxRecDepth 20000 in
theorem tie_wsX11_within_r4 : wsX11_within_r4 = tk ix_wsX11_within_r4 := rfl
abbrev ix_wsX11_within_r5 : List Nat := [465, 466, 467, 73, 74, 392, 393, 967, 968, 969, 970, 71, 971, 972, 973, 974, 312, 313, 314, 315, 975, 976, 977, 70]
set_option maxRecDepth 20000 in
theorem tie_wsX11_within_r5 : wsX11_within_r5 = tk ix_wsX11_within_r5 := rfl
abbrev ix_wsX11_within_r6 : List Nat := [978, 979, 980, 981, 982, 983, 984, 985, 986, 81, 987, 988, 989, 990, 991, 992, 993, 994, 995, 996, 997, 998, 999, 1000]
set_option maxRecDepth 20000 in
theorem tie_wsX11_within_r6 : wsX11_within_r6 = tk ix_wsX11_within_r6 := rfl
abbrev ix_wsX11_within_r7 : List Nat := [1001, 1002, 1003, 1004, 1005, 1006, 1007, 1008, 1009, 1010, 1011, 1012, 1013, 1014, 1015, 1016, 1017, 1018, 1019, 1020, 1021, 1022, 1023, 1024]
set_option maxRecDepth 20000 in
theorem tie_wsX11_within_r7 : wsX11_within_r7 = tk ix_wsX11_within_r7 := rfl
abbrev ix_wsX11_within_r8 : List Nat := [1025, 1026, 1027, 1028, 1029, 1030, 1031, 1032, 1033, 75, 76, 1034, 1035, 1036, 1037, 1038, 1039, 1040, 1041, 1042, 353, 354, 355, 356]
set_option maxRecDepth 20000 in
theorem tie_wsX11_within_r8 : wsX11_within_r8 = tk ix_wsX11_within_r8 := rfl
abbrev ix_wsX11_within_r9 : List Nat := [339, 307, 308, 309, 1043, 1044, 1045, 1046, 1047, 1048, 1049, 1050, 1051, 1052, 1053, 1054, 1055, 1056, 1057, 1058, 1059, 1060, 1061, 1062]
set_option maxRecDepth 20000 in
theorem tie_wsX11_within_r9 : wsX11_within_r9 = tk ix_wsX11_within_r9 := rfl
abbrev ix_wsX11_within_r10 : List Nat := [286, 287, 288, 47, 1063, 1064, 1065, 1066, 1067, 1068, 1069, 763, 1070, 779, 778, 777, 776, 470, 471, 472, 473]
set_option maxRecDepth 20000 in
theorem tie_wsX11_within_r10 : wsX11_within_r10 = tk ix_wsX11_within_r10 := rfl
abbrev ix_wsX11_within : List Nat := 1190 :: (((((((((ix_wsX11_within_r1) ++ ((ix_wsX11_within_r2) ++ ((ix_wsX11_within_r3) ++ ((ix_wsX11_within_r4) ++ ((ix_wsX11_within_r5) ++ ((ix_wsX11_within_r6) ++ ((ix_wsX11_within_r7) ++ ((ix_wsX11_within_r8) ++ ((ix_wsX11_within_r9) ++ (ix_wsX11_within_r10)))))))))) ++ (ix_wsX110)) ++ (ix_wsX20)) ++ (ix_wsX50)) ++ (ix_wsX90)) ++ (ix_wsX80)) ++ (ix_wsX30)) ++ (ix_wsX10))
set_option maxRecDepth 20000 in
theorem tie_wsX11_within : wsX11_within = tk ix_wsX11_within := tk_co rfl (tk_ap (tk_ap (tk_ap (tk_ap (tk_ap (tk_ap (tk_ap (tk_ap (tie_wsX11_within_r1) (tk_ap (tie_wsX11_within_r2) (tk_ap (tie_wsX11_within_r3) (tk_ap (tie_wsX11_within_r4) (tk_ap (tie_wsX11_within_r5) (tk_ap (tie_wsX11_within_r6) (tk_ap (tie_wsX11_within_r7) (tk_ap (tie_wsX11_within_r8) (tk_ap (tie_wsX11_within_r9) (tie_wsX11_within_r10)))))))))) (tie_wsX110)) (tie_wsX20)) (tie_wsX50)) (tie_wsX90)) (tie_wsX80)) (tie_wsX30)) (tie_wsX10))
abbrev ix_wsX11_never_r1 : List Nat := [28, 15, 932, 933, 934, 2, 935, 936, 436, 437, 438, 885, 886, 887, 888, 39, 38, 937, 938, 939, 617, 940, 801, 941]
set_option maxRecDepth 20000 in
theorem tie_wsX11_never_r1 : wsX11_never_r1 = tk ix_wsX11_never_r1 := rfl
abbrev ix_wsX11_never_r2 : List Nat := [942, 943, 27, 944, 77, 945, 946, 947, 948, 14, 949, 148, 950, 404, 405, 406, 402, 224, 225, 226, 227, 220, 221, 222]
set_option maxRecDepth 20000 in
theorem tie_wsX11_never_r2 : wsX11_never_r2 = tk ix_wsX11_never_r2 := rfl
abbrev ix_wsX11_never_r3 : List Nat := [45, 951, 952, 953, 468, 469, 954, 955, 956, 957, 958, 959, 960, 961, 357, 358, 359, 962, 963, 964, 965, 966, 265, 266]
set_option maxRecDepth 20000 in
theorem tie_wsX11_never_r3 : wsX11_never_r3 = tk ix_wsX11_never_r3 := rfl
abbrev ix_wsX11_never_r4 : List Nat := [267, 46, 190, 191, 192, 193, 310, 311, 458, 459, 460, 461, 462, 399, 400, 401, 463, 464, 465, 466, 467, 73, 74, 392]
set_option maxRecDepth 20000 in
theorem tie_wsX11_never_r4 : wsX11_never_r4 = tk ix_wsX11_never_r4 := rfl
abbrev ix_wsX11_never_r5 : List Nat := [393, 967, 968, 969, 970, 71, 971, 972, 973, 974, 312, 313, 314, 315, 975, 976, 977, 70, 978, 979, 980, 981, 982, 983]
set_option maxRecDepth 20000 in
theorem tie_wsX11_never_r5 : wsX11_never_r5 = tk ix_wsX11_never_r5 := rfl
abbrev ix_wsX11_never_r6 : List Nat := [984, 985, 986, 81, 987, 988, 989, 990, 991, 992, 993, 994, 995, 996, 997, 998, 999, 1000, 1001, 1002, 1003, 1004, 1005, 1006]
set_option maxRecDepth 20000 in
theorem tie_wsX11_never_r6 : wsX11_never_r6 = tk ix_wsX11_never_r6 := rfl
abbrev ix_wsX11_never_r7 : List Nat := [1007, 1008, 1009, 1010, 1011, 1012, 1013, 1014, 1015, 1016, 1017, 1018, 1019, 1020, 1021, 1022, 1023, 1024, 1025, 1026, 1027, 1028, 1029, 1030]
set_option maxRecDepth 20000 in
theorem tie_wsX11_never_r7 : wsX11_never_r7 = tk ix_wsX11_never_r7 := rfl
abbrev ix_wsX11_never_r8 : List Nat := [1031, 1032, 1033, 75, 76, 1034, 1035, 1036, 1037, 1038, 1039, 1040, 1041, 1042, 353, 354, 355, 356, 339, 307, 308, 309, 1043, 1044]
set_option maxRecDepth 20000 in
theorem tie_wsX11_never_r8 : wsX11_never_r8 = tk ix_wsX11_never_r8 := rfl
abbrev ix_wsX11_never_r9 : List Nat := [1045, 1046, 1047, 1048, 1049, 1050, 1051, 1052, 1053, 1054, 1055, 1056, 1057, 1058, 1059, 1060, 1061, 1062, 286, 287, 288, 47, 1063, 1064]
set_option maxRecDepth 20000 in
theorem tie_wsX11_never_r9 : wsX11_never_r9 = tk ix_wsX11_never_r9 := rfl
abbrev ix_wsX11_never_r10 : List Nat := [1065, 1066, 1067, 1068, 1069, 763, 1070, 779, 778, 777, 776, 1200, 1201, 1202, 1203]
set_option maxRecDepth 20000 in
theorem tie_wsX11_never_r10 : wsX11_never_r10 = tk ix_wsX11_never_r10 := rfl
abbrev ix_wsX11_never : List Nat := 1199 :: (((((((((ix_wsX11_never_r1) ++ ((ix_wsX11_never_r2) ++ ((ix_wsX11_never_r3) ++ ((ix_wsX11_never_r4) ++ ((ix_wsX11_never_r5) ++ ((ix_wsX11_never_r6) ++ ((ix_wsX11_never_r7) ++ ((ix_wsX11_never_r8) ++ ((ix_wsX11_never_r9) ++ (ix_wsX11_never_r10)))))))))) ++ (ix_wsX110)) ++ (ix_wsX50)) ++ (ix_wsX90)) ++ (ix_wsX80)) ++ (ix_wsX20)) ++ (ix_wsX30)) ++ (ix_wsX10))
set_option maxRecDepth 20000 in
theorem tie_wsX11_never : wsX11_never = tk ix_wsX11_never := tk_co rfl (tk_ap (tk_ap (tk_ap (tk_ap (tk_ap (tk_ap (tk_ap (tk_ap (tie_wsX11_never_r1) (tk_ap (tie_wsX11_never_r2) (tk_ap (tie_wsX11_never_r3) (tk_ap (tie_wsX11_never_r4) (tk_ap (tie_wsX11_never_r5) (tk_ap (tie_wsX11_never_r6) (tk_ap (tie_wsX11_never_r7) (tk_ap (tie_wsX11_never_r8) (tk_ap (tie_wsX11_never_r9) (tie_wsX11_never_r10)))))))))) (tie_wsX110)) (tie_wsX50)) (tie_wsX90)) (tie_wsX80)) (tie_wsX20)) (tie_wsX30)) (tie_wsX10))
abbrev ix_wsX11_surely_r1 : List Nat := [28, 15, 932, 933, 934, 2, 935, 936, 436, 437, 438, 885, 886, 887, 888, 39, 38, 937, 938, 939, 617, 940, 801, 941]
set_option maxRecDepth 20000 in
theorem tie_wsX11_surely_r1 : wsX11_surely_r1 = tk ix_wsX11_surely_r1 := rfl
abbrev ix_wsX11_surely_r2 : List Nat := [942, 943, 27, 944, 77, 945, 946, 947, 948, 14, 949, 148, 950, 404, 405, 406, 402, 224, 225, 226, 227, 220, 221, 222]
set_option maxRecDepth 20000 in
theorem tie_wsX11_surely_r2 : wsX11_surely_r2 = tk ix_wsX11_surely_r2 := rfl
abbrev ix_wsX11_surely_r3 : List Nat := [45, 951, 952, 953, 468, 469, 954, 955, 956, 957, 958, 959, 960, 961, 357, 358, 359, 962, 963, 964, 965, 966, 265, 266]
set_option maxRecDepth 20000 in
theorem tie_wsX11_surely_r3 : wsX11_surely_r3 = tk ix_wsX11_surely_r3 := rfl
abbrev ix_wsX11_surely_r4 : List Nat := [267, 46, 190, 191, 192, 193, 310, 311, 458, 459, 460, 461, 462, 399, 400, 401, 463, 464, 465, 466, 467, 73, 74, 392]
set_option maxRecDepth 20000 in
theorem tie_wsX11_surely_r4 : wsX11_surely_r4 = tk ix_wsX11_surely_r4 := rfl
abbrev ix_wsX11_surely_r5 : List Nat := [393, 967, 968, 969, 970, 71, 971, 972, 973, 974, 312, 313, 314, 315, 975, 976, 977, 70, 978, 979, 980, 981, 982, 983]
set_option maxRecDepth 20000 in
theorem tie_wsX11_surely_r5 : wsX11_surely_r5 = tk ix_wsX11_surely_r5 := rfl
abbrev ix_wsX11_surely_r6 : List Nat := [984, 985, 986, 81, 987, 988, 989, 990, 991, 992, 993, 994, 995, 996, 997, 998, 999, 1000, 1001, 1002, 1003, 1004, 1005, 1006]
set_option maxRecDepth 20000 in
theorem tie_wsX11_surely_r6 : wsX11_surely_r6 = tk ix_wsX11_surely_r6 := rfl
abbrev ix_wsX11_surely_r7 : List Nat := [1007, 1008, 1009, 1010, 1011, 1012, 1013, 1014, 1015, 1016, 1017, 1018, 1019, 1020, 1021, 1022, 1023, 1024, 1025, 1026, 1027, 1028, 1029, 1030]
set_option maxRecDepth 20000 in
theorem tie_wsX11_surely_r7 : wsX11_surely_r7 = tk ix_wsX11_surely_r7 := rfl
abbrev ix_wsX11_surely_r8 : List Nat := [1031, 1032, 1033, 75, 76, 1034, 1035, 1036, 1037, 1038, 1039, 1040, 1041, 1042, 353, 354, 355, 356, 339, 307, 308, 309, 1043, 1044]
set_option maxRecDepth 20000 in
theorem tie_wsX11_surely_r8 : wsX11_surely_r8 = tk ix_wsX11_surely_r8 := rfl
abbrev ix_wsX11_surely_r9 : List Nat := [1045, 1046, 1047, 1048, 1049, 1050, 1051, 1052, 1053, 1054, 1055, 1056, 1057, 1058, 1059, 1060, 1061, 1062, 286, 287, 288, 47, 1063, 1064]
set_option maxRecDepth 20000 in
theorem tie_wsX11_surely_r9 : wsX11_surely_r9 = tk ix_wsX11_surely_r9 := rfl
abbrev ix_wsX11_surely_r10 : List Nat := [1065, 1066, 1067, 1068, 1069, 763, 1070, 779, 778, 777, 776, 1216]
set_option maxRecDepth 20000 in
theorem tie_wsX11_surely_r10 : wsX11_surely_r10 = tk ix_wsX11_surely_r10 := rfl
abbrev ix_wsX11_surely : List Nat := 1215 :: (((((((((ix_wsX11_surely_r1) ++ ((ix_wsX11_surely_r2) ++ ((ix_wsX11_surely_r3) ++ ((ix_wsX11_surely_r4) ++ ((ix_wsX11_surely_r5) ++ ((ix_wsX11_surely_r6) ++ ((ix_wsX11_surely_r7) ++ ((ix_wsX11_surely_r8) ++ ((ix_wsX11_surely_r9) ++ (ix_wsX11_surely_r10)))))))))) ++ (ix_wsX110)) ++ (ix_wsX50)) ++ (ix_wsX90)) ++ (ix_wsX80)) ++ (ix_wsX20)) ++ (ix_wsX30)) ++ (ix_wsX10))
set_option maxRecDepth 20000 in
theorem tie_wsX11_surely : wsX11_surely = tk ix_wsX11_surely := tk_co rfl (tk_ap (tk_ap (tk_ap (tk_ap (tk_ap (tk_ap (tk_ap (tk_ap (tie_wsX11_surely_r1) (tk_ap (tie_wsX11_surely_r2) (tk_ap (tie_wsX11_surely_r3) (tk_ap (tie_wsX11_surely_r4) (tk_ap (tie_wsX11_surely_r5) (tk_ap (tie_wsX11_surely_r6) (tk_ap (tie_wsX11_surely_r7) (tk_ap (tie_wsX11_surely_r8) (tk_ap (tie_wsX11_surely_r9) (tie_wsX11_surely_r10)))))))))) (tie_wsX110)) (tie_wsX50)) (tie_wsX90)) (tie_wsX80)) (tie_wsX20)) (tie_wsX30)) (tie_wsX10))
abbrev ix_wsX11_steady_r1 : List Nat := [28, 453, 454, 455, 2, 456, 15, 218, 191, 192, 14, 193, 148, 932, 933, 934, 935, 936, 436, 437, 438, 885, 886, 887]
set_option maxRecDepth 20000 in
theorem tie_wsX11_steady_r1 : wsX11_steady_r1 = tk ix_wsX11_steady_r1 := rfl
abbrev ix_wsX11_steady_r2 : List Nat := [888, 39, 38, 937, 938, 939, 617, 940, 801, 941, 942, 943, 27, 944, 77, 945, 946, 947, 948, 949, 950, 404, 405, 406]
set_option maxRecDepth 20000 in
theorem tie_wsX11_steady_r2 : wsX11_steady_r2 = tk ix_wsX11_steady_r2 := rfl
abbrev ix_wsX11_steady_r3 : List Nat := [402, 224, 225, 226, 227, 220, 221, 222, 45, 951, 952, 953, 468, 469, 954, 955, 956, 957, 958, 959, 960, 961, 357, 358]
set_option maxRecDepth 20000 in
theorem tie_wsX11_steady_r3 : wsX11_steady_r3 = tk ix_wsX11_steady_r3 := rfl
abbrev ix_wsX11_steady_r4 : List Nat := [359, 962, 963, 964, 965, 966, 265, 266, 267, 46, 190, 310, 311, 458, 459, 460, 461, 462, 399, 400, 401, 463, 464, 465]
set_option maxRecDepth 20000 in
theorem tie_wsX11_steady_r4 : wsX11_steady_r4 = tk ix_wsX11_steady_r4 := rfl
abbrev ix_wsX11_steady_r5 : List Nat := [466, 467, 73, 74, 392, 393, 967, 968, 969, 970, 71, 971, 972, 973, 974, 312, 313, 314, 315, 975, 976, 977, 70, 978]
set_option maxRecDepth 20000 in
theorem tie_wsX11_steady_r5 : wsX11_steady_r5 = tk ix_wsX11_steady_r5 := rfl
abbrev ix_wsX11_steady_r6 : List Nat := [979, 980, 981, 982, 983, 984, 985, 986, 81, 987, 988, 989, 990, 991, 992, 993, 994, 995, 996, 997, 998, 999, 1000, 1001]
set_option maxRecDepth 20000 in
theorem tie_wsX11_steady_r6 : wsX11_steady_r6 = tk ix_wsX11_steady_r6 := rfl
abbrev ix_wsX11_steady_r7 : List Nat := [1002, 1003, 1004, 1005, 1006, 1007, 1008, 1009, 1010, 1011, 1012, 1013, 1014, 1015, 1016, 1017, 1018, 1019, 1020, 1021, 1022, 1023, 1024, 1025]
set_option maxRecDepth 20000 in
theorem tie_wsX11_steady_r7 : wsX11_steady_r7 = tk ix_wsX11_steady_r7 := rfl
abbrev ix_wsX11_steady_r8 : List Nat := [1026, 1027, 1028, 1029, 1030, 1031, 1032, 1033, 75, 76, 1034, 1035, 1036, 1037, 1038, 1039, 1040, 1041, 1042, 353, 354, 355, 356, 339]
set_option maxRecDepth 20000 in
theorem tie_wsX11_steady_r8 : wsX11_steady_r8 = tk ix_wsX11_steady_r8 := rfl
abbrev ix_wsX11_steady_r9 : List Nat := [307, 308, 309, 1043, 1044, 1045, 1046, 1047, 1048, 1049, 1050, 1051, 1052, 1053, 1054, 1055, 1056, 1057, 1058, 1059, 1060, 1061, 1062, 286]
set_option maxRecDepth 20000 in
theorem tie_wsX11_steady_r9 : wsX11_steady_r9 = tk ix_wsX11_steady_r9 := rfl
abbrev ix_wsX11_steady_r10 : List Nat := [287, 288, 47, 1063, 1064, 1065, 1066, 1067, 1068, 1069, 763, 1070, 779, 778, 777, 776, 470, 471, 472, 473]
set_option maxRecDepth 20000 in
theorem tie_wsX11_steady_r10 : wsX11_steady_r10 = tk ix_wsX11_steady_r10 := rfl
abbrev ix_wsX11_steady : List Nat := 1224 :: (((((((((ix_wsX11_steady_r1) ++ ((ix_wsX11_steady_r2) ++ ((ix_wsX11_steady_r3) ++ ((ix_wsX11_steady_r4) ++ ((ix_wsX11_steady_r5) ++ ((ix_wsX11_steady_r6) ++ ((ix_wsX11_steady_r7) ++ ((ix_wsX11_steady_r8) ++ ((ix_wsX11_steady_r9) ++ (ix_wsX11_steady_r10)))))))))) ++ (ix_wsX110)) ++ (ix_wsX20)) ++ (ix_wsX50)) ++ (ix_wsX90)) ++ (ix_wsX80)) ++ (ix_wsX30)) ++ (ix_wsX10))
set_option maxRecDepth 20000 in
theorem tie_wsX11_steady : wsX11_steady = tk ix_wsX11_steady := tk_co rfl (tk_ap (tk_ap (tk_ap (tk_ap (tk_ap (tk_ap (tk_ap (tk_ap (tie_wsX11_steady_r1) (tk_ap (tie_wsX11_steady_r2) (tk_ap (tie_wsX11_steady_r3) (tk_ap (tie_wsX11_steady_r4) (tk_ap (tie_wsX11_steady_r5) (tk_ap (tie_wsX11_steady_r6) (tk_ap (tie_wsX11_steady_r7) (tk_ap (tie_wsX11_steady_r8) (tk_ap (tie_wsX11_steady_r9) (tie_wsX11_steady_r10)))))))))) (tie_wsX110)) (tie_wsX20)) (tie_wsX50)) (tie_wsX90)) (tie_wsX80)) (tie_wsX30)) (tie_wsX10))
abbrev ix_wsX11_share_r1 : List Nat := [452, 28, 453, 454, 455, 2, 456, 15, 218, 191, 192, 14, 193, 148, 1038, 1039, 1040, 27, 1041, 77, 74, 71, 73, 1042]
set_option maxRecDepth 20000 in
theorem tie_wsX11_share_r1 : wsX11_share_r1 = tk ix_wsX11_share_r1 := rfl
abbrev ix_wsX11_share_r2 : List Nat := [353, 354, 355, 356, 357, 358, 359, 339, 307, 308, 309, 310, 311, 312, 313, 314, 315, 227, 220, 221, 222, 45, 1043, 1044]
set_option maxRecDepth 20000 in
theorem tie_wsX11_share_r2 : wsX11_share_r2 = tk ix_wsX11_share_r2 := rfl
abbrev ix_wsX11_share_r3 : List Nat := [1045, 1046, 1047, 975, 976, 977, 70, 978, 979, 980, 981, 982, 983, 984, 985, 986, 81, 463, 404, 405, 406, 402, 224, 225]
set_option maxRecDepth 20000 in
theorem tie_wsX11_share_r3 : wsX11_share_r3 = tk ix_wsX11_share_r3 := rfl
abbrev ix_wsX11_share_r4 : List Nat := [226, 993, 994, 995, 996, 997, 998, 999, 1000, 1001, 1002, 1003, 1004, 1005, 1006, 1007, 1008, 1009, 1010, 1011, 1012, 1013, 1014, 1015]
set_option maxRecDepth 20000 in
theorem tie_wsX11_share_r4 : wsX11_share_r4 = tk ix_wsX11_share_r4 := rfl
abbrev ix_wsX11_share_r5 : List Nat := [1016, 1017, 1048, 1049, 1050, 1051, 1018, 1019, 1020, 1021, 464, 465, 466, 467, 468, 469, 392, 393, 951, 952, 953, 987, 988, 989]
set_option maxRecDepth 20000 in
theorem tie_wsX11_share_r5 : wsX11_share_r5 = tk ix_wsX11_share_r5 := rfl
abbrev ix_wsX11_share_r6 : List Nat := [990, 991, 992, 1022, 1023, 1024, 1025, 470, 471, 472, 473]
set_option maxRecDepth 20000 in
theorem tie_wsX11_share_r6 : wsX11_share_r6 = tk ix_wsX11_share_r6 := rfl
abbrev ix_wsX11_share : List Nat := 1232 :: ((((((ix_wsX11_share_r1) ++ ((ix_wsX11_share_r2) ++ ((ix_wsX11_share_r3) ++ ((ix_wsX11_share_r4) ++ ((ix_wsX11_share_r5) ++ (ix_wsX11_share_r6)))))) ++ (ix_wsX110)) ++ (ix_wsX20)) ++ (ix_wsX80)) ++ (ix_wsX30))
set_option maxRecDepth 20000 in
theorem tie_wsX11_share : wsX11_share = tk ix_wsX11_share := tk_co rfl (tk_ap (tk_ap (tk_ap (tk_ap (tk_ap (tie_wsX11_share_r1) (tk_ap (tie_wsX11_share_r2) (tk_ap (tie_wsX11_share_r3) (tk_ap (tie_wsX11_share_r4) (tk_ap (tie_wsX11_share_r5) (tie_wsX11_share_r6)))))) (tie_wsX110)) (tie_wsX20)) (tie_wsX80)) (tie_wsX30))
abbrev ix_wsX11_expected_r1 : List Nat := [28, 1241, 453, 454, 455, 2, 456, 15, 218, 191, 192, 14, 193, 148, 932, 933, 934, 935, 936, 436, 437, 438, 885, 886]
set_option maxRecDepth 20000 in
theorem tie_wsX11_expected_r1 : wsX11_expected_r1 = tk ix_wsX11_expected_r1 := rfl
abbrev ix_wsX11_expected_r2 : List Nat := [887, 888, 39, 38, 937, 938, 939, 617, 940, 801, 941, 942, 943, 27, 944, 77, 945, 946, 947, 948, 949, 950, 404, 405]
set_option maxRecDepth 20000 in
theorem tie_wsX11_expected_r2 : wsX11_expected_r2 = tk ix_wsX11_expected_r2 := rfl
abbrev ix_wsX11_expected_r3 : List Nat := [406, 402, 224, 225, 226, 227, 220, 221, 222, 45, 951, 952, 953, 468, 469, 954, 955, 956, 957, 958, 959, 960, 961, 357]
set_option maxRecDepth 20000 in
theorem tie_wsX11_expected_r3 : wsX11_expected_r3 = tk ix_wsX11_expected_r3 := rfl
abbrev ix_wsX11_expected_r4 : List Nat := [358, 359, 962, 963, 964, 965, 966, 265, 266, 267, 46, 190, 310, 311, 458, 459, 460, 461, 462, 399, 400, 401, 463, 464]
set_option maxRecDepth 20000 in
theorem tie_wsX11_expected_r4 : wsX11_expected_r4 = tk ix_wsX11_expected_r4 := rfl
abbrev ix_wsX11_expected_r5 : List Nat := [465, 466, 467, 73, 74, 392, 393, 967, 968, 969, 970, 71, 971, 972, 973, 974, 312, 313, 314, 315, 975, 976, 977, 70]
set_option maxRecDepth 20000 in
theorem tie_wsX11_expected_r5 : wsX11_expected_r5 = tk ix_wsX11_expected_r5 := rfl
abbrev ix_wsX11_expected_r6 : List Nat := [978, 979, 980, 981, 982, 983, 984, 985, 986, 81, 987, 988, 989, 990, 991, 992, 993, 994, 995, 996, 997, 998, 999, 1000]
set_option maxRecDepth 20000 in
theorem tie_wsX11_expected_r6 : wsX11_expected_r6 = tk ix_wsX11_expected_r6 := rfl
abbrev ix_wsX11_expected_r7 : List Nat := [1001, 1002, 1003, 1004, 1005, 1006, 1007, 1008, 1009, 1010, 1011, 1012, 1013, 1014, 1015, 1016, 1017, 1018, 1019, 1020, 1021, 1022, 1023, 1024]
set_option maxRecDepth 20000 in
theorem tie_wsX11_expected_r7 : wsX11_expected_r7 = tk ix_wsX11_expected_r7 := rfl
abbrev ix_wsX11_expected_r8 : List Nat := [1025, 1026, 1027, 1028, 1029, 1030, 1031, 1032, 1033, 75, 76, 1034, 1035, 1036, 1037, 1038, 1039, 1040, 1041, 1042, 353, 354, 355, 356]
set_option maxRecDepth 20000 in
theorem tie_wsX11_expected_r8 : wsX11_expected_r8 = tk ix_wsX11_expected_r8 := rfl
abbrev ix_wsX11_expected_r9 : List Nat := [339, 307, 308, 309, 1043, 1044, 1045, 1046, 1047, 1048, 1049, 1050, 1051, 1052, 1053, 1054, 1055, 1056, 1057, 1058, 1059, 1060, 1061, 1062]
set_option maxRecDepth 20000 in
theorem tie_wsX11_expected_r9 : wsX11_expected_r9 = tk ix_wsX11_expected_r9 := rfl
abbrev ix_wsX11_expected_r10 : List Nat := [286, 287, 288, 47, 1063, 1064, 1065, 1066, 1067, 1068, 1069, 763, 1070, 779, 778, 777, 776, 1242, 1243, 1244, 1245, 470, 471, 472]
set_option maxRecDepth 20000 in
theorem tie_wsX11_expected_r10 : wsX11_expected_r10 = tk ix_wsX11_expected_r10 := rfl
abbrev ix_wsX11_expected_r11 : List Nat := [473]
set_option maxRecDepth 20000 in
theorem tie_wsX11_expected_r11 : wsX11_expected_r11 = tk ix_wsX11_expected_r11 := rfl
abbrev ix_wsX11_expected : List Nat := 1240 :: (((((((((ix_wsX11_expected_r1) ++ ((ix_wsX11_expected_r2) ++ ((ix_wsX11_expected_r3) ++ ((ix_wsX11_expected_r4) ++ ((ix_wsX11_expected_r5) ++ ((ix_wsX11_expected_r6) ++ ((ix_wsX11_expected_r7) ++ ((ix_wsX11_expected_r8) ++ ((ix_wsX11_expected_r9) ++ ((ix_wsX11_expected_r10) ++ (ix_wsX11_expected_r11))))))))))) ++ (ix_wsX110)) ++ (ix_wsX20)) ++ (ix_wsX50)) ++ (ix_wsX90)) ++ (ix_wsX80)) ++ (ix_wsX30)) ++ (ix_wsX10))
set_option maxRecDepth 20000 in
theorem tie_wsX11_expected : wsX11_expected = tk ix_wsX11_expected := tk_co rfl (tk_ap (tk_ap (tk_ap (tk_ap (tk_ap (tk_ap (tk_ap (tk_ap (tie_wsX11_expected_r1) (tk_ap (tie_wsX11_expected_r2) (tk_ap (tie_wsX11_expected_r3) (tk_ap (tie_wsX11_expected_r4) (tk_ap (tie_wsX11_expected_r5) (tk_ap (tie_wsX11_expected_r6) (tk_ap (tie_wsX11_expected_r7) (tk_ap (tie_wsX11_expected_r8) (tk_ap (tie_wsX11_expected_r9) (tk_ap (tie_wsX11_expected_r10) (tie_wsX11_expected_r11))))))))))) (tie_wsX110)) (tie_wsX20)) (tie_wsX50)) (tie_wsX90)) (tie_wsX80)) (tie_wsX30)) (tie_wsX10))
abbrev ix_wsX11_bestPath_r1 : List Nat := [15, 28, 32, 218, 191, 192, 14, 193, 148, 932, 933, 934, 2, 935, 936, 436, 437, 438, 885, 886, 887, 888, 39, 38]
set_option maxRecDepth 20000 in
theorem tie_wsX11_bestPath_r1 : wsX11_bestPath_r1 = tk ix_wsX11_bestPath_r1 := rfl
abbrev ix_wsX11_bestPath_r2 : List Nat := [937, 938, 939, 617, 940, 801, 941, 942, 943, 27, 944, 77, 945, 946, 947, 948, 949, 950, 404, 405, 406, 402, 224, 225]
set_option maxRecDepth 20000 in
theorem tie_wsX11_bestPath_r2 : wsX11_bestPath_r2 = tk ix_wsX11_bestPath_r2 := rfl
abbrev ix_wsX11_bestPath_r3 : List Nat := [226, 227, 220, 221, 222, 45, 951, 952, 953, 468, 469, 954, 955, 956, 957, 958, 959, 960, 961, 357, 358, 359, 962, 963]
set_option maxRecDepth 20000 in
theorem tie_wsX11_bestPath_r3 : wsX11_bestPath_r3 = tk ix_wsX11_bestPath_r3 := rfl
abbrev ix_wsX11_bestPath_r4 : List Nat := [964, 965, 966, 265, 266, 267, 46, 190, 310, 311, 458, 459, 460, 461, 462, 399, 400, 401, 463, 464, 465, 466, 467, 73]
set_option maxRecDepth 20000 in
theorem tie_wsX11_bestPath_r4 : wsX11_bestPath_r4 = tk ix_wsX11_bestPath_r4 := rfl
abbrev ix_wsX11_bestPath_r5 : List Nat := [74, 392, 393, 967, 968, 969, 970, 71, 971, 972, 973, 974, 312, 313, 314, 315, 975, 976, 977, 70, 978, 979, 980, 981]
set_option maxRecDepth 20000 in
theorem tie_wsX11_bestPath_r5 : wsX11_bestPath_r5 = tk ix_wsX11_bestPath_r5 := rfl
abbrev ix_wsX11_bestPath_r6 : List Nat := [982, 983, 984, 985, 986, 81, 987, 988, 989, 990, 991, 992, 993, 994, 995, 996, 997, 998, 999, 1000, 1001, 1002, 1003, 1004]
set_option maxRecDepth 20000 in
theorem tie_wsX11_bestPath_r6 : wsX11_bestPath_r6 = tk ix_wsX11_bestPath_r6 := rfl
abbrev ix_wsX11_bestPath_r7 : List Nat := [1005, 1006, 1007, 1008, 1009, 1010, 1011, 1012, 1013, 1014, 1015, 1016, 1017, 1018, 1019, 1020, 1021, 1022, 1023, 1024, 1025, 1026, 1027, 1028]
set_option maxRecDepth 20000 in
theorem tie_wsX11_bestPath_r7 : wsX11_bestPath_r7 = tk ix_wsX11_bestPath_r7 := rfl
abbrev ix_wsX11_bestPath_r8 : List Nat := [1029, 1030, 1031, 1032, 1033, 75, 76, 1034, 1035, 1036, 1037, 1038, 1039, 1040, 1041, 1042, 353, 354, 355, 356, 339, 307, 308, 309]
set_option maxRecDepth 20000 in
theorem tie_wsX11_bestPath_r8 : wsX11_bestPath_r8 = tk ix_wsX11_bestPath_r8 := rfl
abbrev ix_wsX11_bestPath_r9 : List Nat := [1043, 1044, 1045, 1046, 1047, 1048, 1049, 1050, 1051, 1052, 1053, 1054, 1055, 1056, 1057, 1058, 1059, 1060, 1061, 1062, 286, 287, 288, 47]
set_option maxRecDepth 20000 in
theorem tie_wsX11_bestPath_r9 : wsX11_bestPath_r9 = tk ix_wsX11_bestPath_r9 := rfl
abbrev ix_wsX11_bestPath_r10 : List Nat := [1063, 1064, 1065, 1066, 1067, 1068, 1069, 763, 1070, 779, 778, 777, 776, 1255, 1256, 1257, 31, 1258, 90, 86, 87, 88, 1259, 1260]
set_option maxRecDepth 20000 in
theorem tie_wsX11_bestPath_r10 : wsX11_bestPath_r10 = tk ix_wsX11_bestPath_r10 := rfl
abbrev ix_wsX11_bestPath_r11 : List Nat := [1261, 1262, 89, 1263, 1264, 1265, 1266, 1267, 1268, 1269, 1270, 1271, 1272, 1273, 1274, 1275, 1276, 1277, 1278, 1279, 1280, 1281, 1282, 1283]
set_option maxRecDepth 20000 in
theorem tie_wsX11_bestPath_r11 : wsX11_bestPath_r11 = tk ix_wsX11_bestPath_r11 := rfl
abbrev ix_wsX11_bestPath_r12 : List Nat := [1284, 1285]
set_option maxRecDepth 20000 in
theorem tie_wsX11_bestPath_r12 : wsX11_bestPath_r12 = tk ix_wsX11_bestPath_r12 := rfl
abbrev ix_wsX11_bestPath : List Nat := 1254 :: ((((((((((ix_wsX11_bestPath_r1) ++ ((ix_wsX11_bestPath_r2) ++ ((ix_wsX11_bestPath_r3) ++ ((ix_wsX11_bestPath_r4) ++ ((ix_wsX11_bestPath_r5) ++ ((ix_wsX11_bestPath_r6) ++ ((ix_wsX11_bestPath_r7) ++ ((ix_wsX11_bestPath_r8) ++ ((ix_wsX11_bestPath_r9) ++ ((ix_wsX11_bestPath_r10) ++ ((ix_wsX11_bestPath_r11) ++ (ix_wsX11_bestPath_r12)))))))))))) ++ (ix_wsX110)) ++ (ix_wsX20)) ++ (ix_wsX50)) ++ (ix_wsX90)) ++ (ix_wsX80)) ++ (ix_wsX30)) ++ (ix_wsX10)) ++ (ix_wsX00))
set_option maxRecDepth 20000 in
theorem tie_wsX11_bestPath : wsX11_bestPath = tk ix_wsX11_bestPath := tk_co rfl (tk_ap (tk_ap (tk_ap (tk_ap (tk_ap (tk_ap (tk_ap (tk_ap (tk_ap (tie_wsX11_bestPath_r1) (tk_ap (tie_wsX11_bestPath_r2) (tk_ap (tie_wsX11_bestPath_r3) (tk_ap (tie_wsX11_bestPath_r4) (tk_ap (tie_wsX11_bestPath_r5) (tk_ap (tie_wsX11_bestPath_r6) (tk_ap (tie_wsX11_bestPath_r7) (tk_ap (tie_wsX11_bestPath_r8) (tk_ap (tie_wsX11_bestPath_r9) (tk_ap (tie_wsX11_bestPath_r10) (tk_ap (tie_wsX11_bestPath_r11) (tie_wsX11_bestPath_r12)))))))))))) (tie_wsX110)) (tie_wsX20)) (tie_wsX50)) (tie_wsX90)) (tie_wsX80)) (tie_wsX30)) (tie_wsX10)) (tie_wsX00))
abbrev ix_wsX11_bestProduct_r1 : List Nat := [28, 32, 1306, 453, 454, 455, 2, 456, 15, 218, 191, 192, 14, 193, 148, 932, 933, 934, 935, 936, 436, 437, 438, 885]
set_option maxRecDepth 20000 in
theorem tie_wsX11_bestProduct_r1 : wsX11_bestProduct_r1 = tk ix_wsX11_bestProduct_r1 := rfl
abbrev ix_wsX11_bestProduct_r2 : List Nat := [886, 887, 888, 39, 38, 937, 938, 939, 617, 940, 801, 941, 942, 943, 27, 944, 77, 945, 946, 947, 948, 949, 950, 404]
set_option maxRecDepth 20000 in
theorem tie_wsX11_bestProduct_r2 : wsX11_bestProduct_r2 = tk ix_wsX11_bestProduct_r2 := rfl
abbrev ix_wsX11_bestProduct_r3 : List Nat := [405, 406, 402, 224, 225, 226, 227, 220, 221, 222, 45, 951, 952, 953, 468, 469, 954, 955, 956, 957, 958, 959, 960, 961]
set_option maxRecDepth 20000 in
theorem tie_wsX11_bestProduct_r3 : wsX11_bestProduct_r3 = tk ix_wsX11_bestProduct_r3 := rfl
abbrev ix_wsX11_bestProduct_r4 : List Nat := [357, 358, 359, 962, 963, 964, 965, 966, 265, 266, 267, 46, 190, 310, 311, 458, 459, 460, 461, 462, 399, 400, 401, 463]
set_option maxRecDepth 20000 in
theorem tie_wsX11_bestProduct_r4 : wsX11_bestProduct_r4 = tk ix_wsX11_bestProduct_r4 := rfl
abbrev ix_wsX11_bestProduct_r5 : List Nat := [464, 465, 466, 467, 73, 74, 392, 393, 967, 968, 969, 970, 71, 971, 972, 973, 974, 312, 313, 314, 315, 975, 976, 977]
set_option maxRecDepth 20000 in
theorem tie_wsX11_bestProduct_r5 : wsX11_bestProduct_r5 = tk ix_wsX11_bestProduct_r5 := rfl
abbrev ix_wsX11_bestProduct_r6 : List Nat := [70, 978, 979, 980, 981, 982, 983, 984, 985, 986, 81, 987, 988, 989, 990, 991, 992, 993, 994, 995, 996, 997, 998, 999]
set_option maxRecDepth 20000 in
theorem tie_wsX11_bestProduct_r6 : wsX11_bestProduct_r6 = tk ix_wsX11_bestProduct_r6 := rfl
abbrev ix_wsX11_bestProduct_r7 : List Nat := [1000, 1001, 1002, 1003, 1004, 1005, 1006, 1007, 1008, 1009, 1010, 1011, 1012, 1013, 1014, 1015, 1016, 1017, 1018, 1019, 1020, 1021, 1022, 1023]
set_option maxRecDepth 20000 in
theorem tie_wsX11_bestProduct_r7 : wsX11_bestProduct_r7 = tk ix_wsX11_bestProduct_r7 := rfl
