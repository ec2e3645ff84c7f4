theorem dX12_depth_5 : decode cX12_depth 5 = .ok (.ifCond .eq 16, 3) := by decide +kernel
theorem dX12_depth_8 : decode cX12_depth 8 = .ok (.aload_n 0, 1) := by decide +kernel
theorem dX12_depth_9 : decode cX12_depth 9 = .ok (.aload_n 0, 1) := by decide +kernel
theorem dX12_depth_10 : decode cX12_depth 10 = .ok (.getfield 62, 3) := by decide +kernel
theorem dX12_depth_13 : decode cX12_depth 13 = .ok (.iload_n 1, 1) := by decide +kernel
theorem dX12_depth_14 : decode cX12_depth 14 = .ok (.iaload, 1) := by decide +kernel
theorem dX12_depth_15 : decode cX12_depth 15 = .ok (.invokevirtual 302, 3) := by decide +kernel
theorem dX12_depth_18 : decode cX12_depth 18 = .ok (.goto 4, 3) := by decide +kernel
theorem dX12_depth_21 : decode cX12_depth 21 = .ok (.iconst (-1), 1) := by decide +kernel
theorem dX12_depth_22 : decode cX12_depth 22 = .ok (.ireturn, 1) := by decide +kernel
set_option maxRecDepth 20000 in
theorem ggX12_isRefusedNode_X12_isRefused : GoodIn wsX12_isRefusedNode wsX12_isRefused := goodIn_k tie_wsX12_isRefusedNode tie_wsX12_isRefused (by decide +kernel)
set_option maxRecDepth 20000 in
theorem gX12_isRefusedNode_X12_isRefused : GoodIn wsX12_isRefusedNode (wsV RX12 311 RX12 yX12_isRefused wsX12_isRefused) := goodIn_app (goodIn_k (is := [1079, 1080, 1081, 5]) tie_wsX12_isRefusedNode rfl (by decide +kernel)) ggX12_isRefusedNode_X12_isRefused
set_option maxRecDepth 20000 in
theorem ggX12_isRefusedNode_X12_hasOne : GoodIn wsX12_isRefusedNode wsX12_hasOne := goodIn_k tie_wsX12_isRefusedNode tie_wsX12_hasOne (by decide +kernel)
set_option maxRecDepth 20000 in
theorem gX12_isRefusedNode_X12_hasOne : GoodIn wsX12_isRefusedNode (va_wsS RX12 299 yX12_hasOne wsX12_hasOne) := goodIn_app (goodIn_k (is := [919, 920, 5]) tie_wsX12_isRefusedNode rfl (by decide +kernel)) ggX12_isRefusedNode_X12_hasOne
set_option maxRecDepth 20000 in
theorem ggX12_isRefusedNode_X12_isRefusedNode : GoodIn wsX12_isRefusedNode wsX12_isRefusedNode := goodIn_k tie_wsX12_isRefusedNode tie_wsX12_isRefusedNode (by decide +kernel)
set_option maxRecDepth 20000 in
theorem gX12_isRefusedNode_X12_isRefusedNode : GoodIn wsX12_isRefusedNode (wsV RX12 314 RX12 yX12_isRefusedNode wsX12_isRefusedNode) := goodIn_app (goodIn_k (is := [1075, 1076, 1077, 5]) tie_wsX12_isRefusedNode rfl (by decide +kernel)) ggX12_isRefusedNode_X12_isRefusedNode
set_option maxRecDepth 20000 in
theorem ggX12_isRefusedNode_X12_hasTwo : GoodIn wsX12_isRefusedNode wsX12_hasTwo := goodIn_k tie_wsX12_isRefusedNode tie_wsX12_hasTwo (by decide +kernel)
set_option maxRecDepth 20000 in
theorem gX12_isRefusedNode_X12_hasTwo : GoodIn wsX12_isRefusedNode (va_wsS RX12 305 yX12_hasTwo wsX12_hasTwo) := goodIn_app (goodIn_k (is := [922, 923, 5]) tie_wsX12_isRefusedNode rfl (by decide +kernel)) ggX12_isRefusedNode_X12_hasTwo
theorem dX12_isRefusedNode_0 : decode cX12_isRefusedNode 0 = .ok (.aload_n 0, 1) := by decide +kernel
theorem dX12_isRefusedNode_1 : decode cX12_isRefusedNode 1 = .ok (.getfield 41, 3) := by decide +kernel
theorem dX12_isRefusedNode_4 : decode cX12_isRefusedNode 4 = .ok (.iload_n 1, 1) := by decide +kernel
theorem dX12_isRefusedNode_5 : decode cX12_isRefusedNode 5 = .ok (.iaload, 1) := by decide +kernel
theorem dX12_isRefusedNode_6 : decode cX12_isRefusedNode 6 = .ok (.bipush 66, 2) := by decide +kernel
theorem dX12_isRefusedNode_8 : decode cX12_isRefusedNode 8 = .ok (.if_icmp .ne 20, 3) := by decide +kernel
theorem dX12_isRefusedNode_11 : decode cX12_isRefusedNode 11 = .ok (.aload_n 0, 1) := by decide +kernel
theorem dX12_isRefusedNode_12 : decode cX12_isRefusedNode 12 = .ok (.aload_n 0, 1) := by decide +kernel
theorem dX12_isRefusedNode_13 : decode cX12_isRefusedNode 13 = .ok (.getfield 50, 3) := by decide +kernel
theorem dX12_isRefusedNode_16 : decode cX12_isRefusedNode 16 = .ok (.iload_n 1, 1) := by decide +kernel
theorem dX12_isRefusedNode_17 : decode cX12_isRefusedNode 17 = .ok (.iaload, 1) := by decide +kernel
theorem dX12_isRefusedNode_18 : decode cX12_isRefusedNode 18 = .ok (.invokevirtual 311, 3) := by decide +kernel
theorem dX12_isRefusedNode_21 : decode cX12_isRefusedNode 21 = .ok (.ifCond .eq 7, 3) := by decide +kernel
theorem dX12_isRefusedNode_24 : decode cX12_isRefusedNode 24 = .ok (.iconst 1, 1) := by decide +kernel
theorem dX12_isRefusedNode_25 : decode cX12_isRefusedNode 25 = .ok (.goto 4, 3) := by decide +kernel
theorem dX12_isRefusedNode_28 : decode cX12_isRefusedNode 28 = .ok (.iconst 0, 1) := by decide +kernel
theorem dX12_isRefusedNode_29 : decode cX12_isRefusedNode 29 = .ok (.istore_n 2, 1) := by decide +kernel
theorem dX12_isRefusedNode_30 : decode cX12_isRefusedNode 30 = .ok (.iload_n 2, 1) := by decide +kernel
theorem dX12_isRefusedNode_31 : decode cX12_isRefusedNode 31 = .ok (.ifCond .ne 28, 3) := by decide +kernel
theorem dX12_isRefusedNode_34 : decode cX12_isRefusedNode 34 = .ok (.aload_n 0, 1) := by decide +kernel
theorem dX12_isRefusedNode_35 : decode cX12_isRefusedNode 35 = .ok (.getfield 41, 3) := by decide +kernel
theorem dX12_isRefusedNode_38 : decode cX12_isRefusedNode 38 = .ok (.iload_n 1, 1) := by decide +kernel
theorem dX12_isRefusedNode_39 : decode cX12_isRefusedNode 39 = .ok (.iaload, 1) := by decide +kernel
theorem dX12_isRefusedNode_40 : decode cX12_isRefusedNode 40 = .ok (.invokestatic 299, 3) := by decide +kernel
theorem dX12_isRefusedNode_43 : decode cX12_isRefusedNode 43 = .ok (.ifCond .eq 20, 3) := by decide +kernel
theorem dX12_isRefusedNode_46 : decode cX12_isRefusedNode 46 = .ok (.aload_n 0, 1) := by decide +kernel
theorem dX12_isRefusedNode_47 : decode cX12_isRefusedNode 47 = .ok (.aload_n 0, 1) := by decide +kernel
theorem dX12_isRefusedNode_48 : decode cX12_isRefusedNode 48 = .ok (.getfield 44, 3) := by decide +kernel
theorem dX12_isRefusedNode_51 : decode cX12_isRefusedNode 51 = .ok (.iload_n 1, 1) := by decide +kernel
theorem dX12_isRefusedNode_52 : decode cX12_isRefusedNode 52 = .ok (.iaload, 1) := by decide +kernel
theorem dX12_isRefusedNode_53 : decode cX12_isRefusedNode 53 = .ok (.invokevirtual 314, 3) := by decide +kernel
theorem dX12_isRefusedNode_56 : decode cX12_isRefusedNode 56 = .ok (.ifCond .eq 7, 3) := by decide +kernel
theorem dX12_isRefusedNode_59 : decode cX12_isRefusedNode 59 = .ok (.iconst 1, 1) := by decide +kernel
theorem dX12_isRefusedNode_60 : decode cX12_isRefusedNode 60 = .ok (.goto 4, 3) := by decide +kernel
theorem dX12_isRefusedNode_63 : decode cX12_isRefusedNode 63 = .ok (.iconst 0, 1) := by decide +kernel
theorem dX12_isRefusedNode_64 : decode cX12_isRefusedNode 64 = .ok (.istore_n 2, 1) := by decide +kernel
theorem dX12_isRefusedNode_65 : decode cX12_isRefusedNode 65 = .ok (.iload_n 2, 1) := by decide +kernel
theorem dX12_isRefusedNode_66 : decode cX12_isRefusedNode 66 = .ok (.ifCond .ne 28, 3) := by decide +kernel
theorem dX12_isRefusedNode_69 : decode cX12_isRefusedNode 69 = .ok (.aload_n 0, 1) := by decide +kernel
theorem dX12_isRefusedNode_70 : decode cX12_isRefusedNode 70 = .ok (.getfield 41, 3) := by decide +kernel
theorem dX12_isRefusedNode_73 : decode cX12_isRefusedNode 73 = .ok (.iload_n 1, 1) := by decide +kernel
theorem dX12_isRefusedNode_74 : decode cX12_isRefusedNode 74 = .ok (.iaload, 1) := by decide +kernel
theorem dX12_isRefusedNode_75 : decode cX12_isRefusedNode 75 = .ok (.invokestatic 305, 3) := by decide +kernel
theorem dX12_isRefusedNode_78 : decode cX12_isRefusedNode 78 = .ok (.ifCond .eq 20, 3) := by decide +kernel
theorem dX12_isRefusedNode_81 : decode cX12_isRefusedNode 81 = .ok (.aload_n 0, 1) := by decide +kernel
theorem dX12_isRefusedNode_82 : decode cX12_isRefusedNode 82 = .ok (.aload_n 0, 1) := by decide +kernel
theorem dX12_isRefusedNode_83 : decode cX12_isRefusedNode 83 = .ok (.getfield 47, 3) := by decide +kernel
theorem dX12_isRefusedNode_86 : decode cX12_isRefusedNode 86 = .ok (.iload_n 1, 1) := by decide +kernel
theorem dX12_isRefusedNode_87 : decode cX12_isRefusedNode 87 = .ok (.iaload, 1) := by decide +kernel
theorem dX12_isRefusedNode_88 : decode cX12_isRefusedNode 88 = .ok (.invokevirtual 314, 3) := by decide +kernel
theorem dX12_isRefusedNode_91 : decode cX12_isRefusedNode 91 = .ok (.ifCond .eq 7, 3) := by decide +kernel
theorem dX12_isRefusedNode_94 : decode cX12_isRefusedNode 94 = .ok (.iconst 1, 1) := by decide +kernel
theorem dX12_isRefusedNode_95 : decode cX12_isRefusedNode 95 = .ok (.goto 4, 3) := by decide +kernel
theorem dX12_isRefusedNode_98 : decode cX12_isRefusedNode 98 = .ok (.iconst 0, 1) := by decide +kernel
theorem dX12_isRefusedNode_99 : decode cX12_isRefusedNode 99 = .ok (.ireturn, 1) := by decide +kernel
theorem dX12_fulfils_0 : decode cX12_fulfils 0 = .ok (.aload_n 0, 1) := by decide +kernel
theorem dX12_fulfils_1 : decode cX12_fulfils 1 = .ok (.getfield 157, 3) := by decide +kernel
theorem dX12_fulfils_4 : decode cX12_fulfils 4 = .ok (.aload_n 0, 1) := by decide +kernel
theorem dX12_fulfils_5 : decode cX12_fulfils 5 = .ok (.getfield 59, 3) := by decide +kernel
theorem dX12_fulfils_8 : decode cX12_fulfils 8 = .ok (.iload_n 1, 1) := by decide +kernel
theorem dX12_fulfils_9 : decode cX12_fulfils 9 = .ok (.iaload, 1) := by decide +kernel
theorem dX12_fulfils_10 : decode cX12_fulfils 10 = .ok (.i2l, 1) := by decide +kernel
theorem dX12_fulfils_11 : decode cX12_fulfils 11 = .ok (.lmul, 1) := by decide +kernel
theorem dX12_fulfils_12 : decode cX12_fulfils 12 = .ok (.lstore_n 2, 1) := by decide +kernel
theorem dX12_fulfils_13 : decode cX12_fulfils 13 = .ok (.aload_n 0, 1) := by decide +kernel
theorem dX12_fulfils_14 : decode cX12_fulfils 14 = .ok (.getfield 161, 3) := by decide +kernel
theorem dX12_fulfils_17 : decode cX12_fulfils 17 = .ok (.aload_n 0, 1) := by decide +kernel
theorem dX12_fulfils_18 : decode cX12_fulfils 18 = .ok (.getfield 56, 3) := by decide +kernel
theorem dX12_fulfils_21 : decode cX12_fulfils 21 = .ok (.iload_n 1, 1) := by decide +kernel
theorem dX12_fulfils_22 : decode cX12_fulfils 22 = .ok (.iaload, 1) := by decide +kernel
theorem dX12_fulfils_23 : decode cX12_fulfils 23 = .ok (.i2l, 1) := by decide +kernel
theorem dX12_fulfils_24 : decode cX12_fulfils 24 = .ok (.lmul, 1) := by decide +kernel
theorem dX12_fulfils_25 : decode cX12_fulfils 25 = .ok (.lstore 4, 2) := by decide +kernel
theorem dX12_fulfils_27 : decode cX12_fulfils 27 = .ok (.aload_n 0, 1) := by decide +kernel
theorem dX12_fulfils_28 : decode cX12_fulfils 28 = .ok (.getfield 53, 3) := by decide +kernel
theorem dX12_fulfils_31 : decode cX12_fulfils 31 = .ok (.iload_n 1, 1) := by decide +kernel
theorem dX12_fulfils_32 : decode cX12_fulfils 32 = .ok (.iaload, 1) := by decide +kernel
theorem dX12_fulfils_33 : decode cX12_fulfils 33 = .ok (.lookupswitch 74 #[(60, 35), (62, 61), (108, 48)], 35) := by decide +kernel
theorem dX12_fulfils_68 : decode cX12_fulfils 68 = .ok (.lload_n 2, 1) := by decide +kernel
theorem dX12_fulfils_69 : decode cX12_fulfils 69 = .ok (.lload 4, 2) := by decide +kernel
theorem dX12_fulfils_71 : decode cX12_fulfils 71 = .ok (.lcmp, 1) := by decide +kernel
theorem dX12_fulfils_72 : decode cX12_fulfils 72 = .ok (.ifCond .ge 7, 3) := by decide +kernel
theorem dX12_fulfils_75 : decode cX12_fulfils 75 = .ok (.iconst 1, 1) := by decide +kernel
theorem dX12_fulfils_76 : decode cX12_fulfils 76 = .ok (.goto 4, 3) := by decide +kernel
theorem dX12_fulfils_79 : decode cX12_fulfils 79 = .ok (.iconst 0, 1) := by decide +kernel
theorem dX12_fulfils_80 : decode cX12_fulfils 80 = .ok (.ireturn, 1) := by decide +kernel
theorem dX12_fulfils_81 : decode cX12_fulfils 81 = .ok (.lload_n 2, 1) := by decide +kernel
theorem dX12_fulfils_82 : decode cX12_fulfils 82 = .ok (.lload 4, 2) := by decide +kernel
theorem dX12_fulfils_84 : decode cX12_fulfils 84 = .ok (.lcmp, 1) := by decide +kernel
theorem dX12_fulfils_85 : decode cX12_fulfils 85 = .ok (.ifCond .gt 7, 3) := by decide +kernel
theorem dX12_fulfils_88 : decode cX12_fulfils 88 = .ok (.iconst 1, 1) := by decide +kernel
theorem dX12_fulfils_89 : decode cX12_fulfils 89 = .ok (.goto 4, 3) := by decide +kernel
theorem dX12_fulfils_92 : decode cX12_fulfils 92 = .ok (.iconst 0, 1) := by decide +kernel
theorem dX12_fulfils_93 : decode cX12_fulfils 93 = .ok (.ireturn, 1) := by decide +kernel
theorem dX12_fulfils_94 : decode cX12_fulfils 94 = .ok (.lload_n 2, 1) := by decide +kernel
theorem dX12_fulfils_95 : decode cX12_fulfils 95 = .ok (.lload 4, 2) := by decide +kernel
theorem dX12_fulfils_97 : decode cX12_fulfils 97 = .ok (.lcmp, 1) := by decide +kernel
theorem dX12_fulfils_98 : decode cX12_fulfils 98 = .ok (.ifCond .le 7, 3) := by decide +kernel
theorem dX12_fulfils_101 : decode cX12_fulfils 101 = .ok (.iconst 1, 1) := by decide +kernel
theorem dX12_fulfils_102 : decode cX12_fulfils 102 = .ok (.goto 4, 3) := by decide +kernel
theorem dX12_fulfils_105 : decode cX12_fulfils 105 = .ok (.iconst 0, 1) := by decide +kernel
theorem dX12_fulfils_106 : decode cX12_fulfils 106 = .ok (.ireturn, 1) := by decide +kernel
theorem dX12_fulfils_107 : decode cX12_fulfils 107 = .ok (.lload_n 2, 1) := by decide +kernel
theorem dX12_fulfils_108 : decode cX12_fulfils 108 = .ok (.lload 4, 2) := by decide +kernel
theorem dX12_fulfils_110 : decode cX12_fulfils 110 = .ok (.lcmp, 1) := by decide +kernel
theorem dX12_fulfils_111 : decode cX12_fulfils 111 = .ok (.ifCond .lt 7, 3) := by decide +kernel
theorem dX12_fulfils_114 : decode cX12_fulfils 114 = .ok (.iconst 1, 1) := by decide +kernel
theorem dX12_fulfils_115 : decode cX12_fulfils 115 = .ok (.goto 4, 3) := by decide +kernel
theorem dX12_fulfils_118 : decode cX12_fulfils 118 = .ok (.iconst 0, 1) := by decide +kernel
theorem dX12_fulfils_119 : decode cX12_fulfils 119 = .ok (.ireturn, 1) := by decide +kernel
set_option maxRecDepth 20000 in
theorem ggX12_find_X12_weightInto : GoodIn wsX12_find wsX12_weightInto := goodIn_k tie_wsX12_find tie_wsX12_weightInto (by decide +kernel)
set_option maxRecDepth 20000 in
theorem gX12_find_X12_weightInto : GoodIn wsX12_find (wsV RX12 140 RX12 yX12_weightInto wsX12_weightInto) := goodIn_app (goodIn_k (is := [427, 428, 429, 5]) tie_wsX12_find rfl (by decide +kernel)) ggX12_find_X12_weightInto
set_option maxRecDepth 20000 in
theorem ggX12_find_X12_sumOf : GoodIn wsX12_find wsX12_sumOf := goodIn_k tie_wsX12_find tie_wsX12_sumOf (by decide +kernel)
set_option maxRecDepth 20000 in
theorem gX12_find_X12_sumOf : GoodIn wsX12_find (wsV RX12 143 RX12 yX12_sumOf wsX12_sumOf) := goodIn_app (goodIn_k (is := [431, 432, 433, 5]) tie_wsX12_find rfl (by decide +kernel)) ggX12_find_X12_sumOf
set_option maxRecDepth 20000 in
theorem ggX12_find_X12_give : GoodIn wsX12_find wsX12_give := goodIn_k tie_wsX12_find tie_wsX12_give (by decide +kernel)
set_option maxRecDepth 20000 in
theorem gX12_find_X12_give : GoodIn wsX12_find (wsV RX12 169 RX12 yX12_give wsX12_give) := goodIn_app (goodIn_k (is := [482, 483, 484, 5]) tie_wsX12_find rfl (by decide +kernel)) ggX12_find_X12_give
set_option maxRecDepth 20000 in
theorem ggX12_find_X12_all : GoodIn wsX12_find wsX12_all := goodIn_k tie_wsX12_find tie_wsX12_all (by decide +kernel)
set_option maxRecDepth 20000 in
theorem gX12_find_X12_all : GoodIn wsX12_find (wsV RX12 193 RX12 yX12_all wsX12_all) := goodIn_app (goodIn_k (is := [1092, 1093, 1094, 5]) tie_wsX12_find rfl (by decide +kernel)) ggX12_find_X12_all
set_option maxRecDepth 20000 in
theorem ggX12_find_X12_findUntil : GoodIn wsX12_find wsX12_findUntil := goodIn_k tie_wsX12_find tie_wsX12_findUntil (by decide +kernel)
set_option maxRecDepth 20000 in
theorem gX12_find_X12_findUntil : GoodIn wsX12_find (wsV RX12 216 RX12 yX12_findUntil wsX12_findUntil) := goodIn_app (goodIn_k (is := [1100, 1101, 1102, 5]) tie_wsX12_find rfl (by decide +kernel)) ggX12_find_X12_findUntil
set_option maxRecDepth 20000 in
theorem ggX12_find_X12_findWithin : GoodIn wsX12_find wsX12_findWithin := goodIn_k tie_wsX12_find tie_wsX12_findWithin (by decide +kernel)
set_option maxRecDepth 20000 in
theorem gX12_find_X12_findWithin : GoodIn wsX12_find (wsV RX12 317 RX12 yX12_findWithin wsX12_findWithin) := goodIn_app (goodIn_k (is := [1134, 1135, 1136, 5]) tie_wsX12_find rfl (by decide +kernel)) ggX12_find_X12_findWithin
set_option maxRecDepth 20000 in
theorem ggX12_find_X12_findSteady : GoodIn wsX12_find wsX12_findSteady := goodIn_k tie_wsX12_find tie_wsX12_findSteady (by decide +kernel)
set_option maxRecDepth 20000 in
theorem gX12_find_X12_findSteady : GoodIn wsX12_find (wsV RX12 321 RX12 yX12_findSteady wsX12_findSteady) := goodIn_app (goodIn_k (is := [1138, 1139, 1140, 5]) tie_wsX12_find rfl (by decide +kernel)) ggX12_find_X12_findSteady
set_option maxRecDepth 20000 in
theorem ggX12_find_X12_findExpected : GoodIn wsX12_find wsX12_findExpected := goodIn_k tie_wsX12_find tie_wsX12_findExpected (by decide +kernel)
set_option maxRecDepth 20000 in
theorem gX12_find_X12_findExpected : GoodIn wsX12_find (wsV RX12 325 RX12 yX12_findExpected wsX12_findExpected) := goodIn_app (goodIn_k (is := [1146, 1147, 1148, 5]) tie_wsX12_find rfl (by decide +kernel)) ggX12_find_X12_findExpected
theorem dX12_find_0 : decode cX12_find 0 = .ok (.aload_n 0, 1) := by decide +kernel
theorem dX12_find_1 : decode cX12_find 1 = .ok (.getfield 41, 3) := by decide +kernel
theorem dX12_find_4 : decode cX12_find 4 = .ok (.iload_n 1, 1) := by decide +kernel
theorem dX12_find_5 : decode cX12_find 5 = .ok (.iaload, 1) := by decide +kernel
theorem dX12_find_6 : decode cX12_find 6 = .ok (.lookupswitch 164 #[(66, 139), (70, 79), (71, 92), (83, 155), (85, 129), (88, 58)], 58) := by decide +kernel
theorem dX12_find_64 : decode cX12_find 64 = .ok (.aload_n 0, 1) := by decide +kernel
theorem dX12_find_65 : decode cX12_find 65 = .ok (.aload_n 0, 1) := by decide +kernel
theorem dX12_find_66 : decode cX12_find 66 = .ok (.iload 4, 2) := by decide +kernel
theorem dX12_find_68 : decode cX12_find 68 = .ok (.iload_n 2, 1) := by decide +kernel
theorem dX12_find_69 : decode cX12_find 69 = .ok (.invokevirtual 140, 3) := by decide +kernel
theorem dX12_find_72 : decode cX12_find 72 = .ok (.i2l, 1) := by decide +kernel
theorem dX12_find_73 : decode cX12_find 73 = .ok (.aload_n 0, 1) := by decide +kernel
theorem dX12_find_74 : decode cX12_find 74 = .ok (.iload 4, 2) := by decide +kernel
theorem dX12_find_76 : decode cX12_find 76 = .ok (.invokevirtual 143, 3) := by decide +kernel
theorem dX12_find_79 : decode cX12_find 79 = .ok (.i2l, 1) := by decide +kernel
theorem dX12_find_80 : decode cX12_find 80 = .ok (.invokevirtual 169, 3) := by decide +kernel
theorem dX12_find_83 : decode cX12_find 83 = .ok (.iconst 1, 1) := by decide +kernel
theorem dX12_find_84 : decode cX12_find 84 = .ok (.ireturn, 1) := by decide +kernel
theorem dX12_find_85 : decode cX12_find 85 = .ok (.aload_n 0, 1) := by decide +kernel
theorem dX12_find_86 : decode cX12_find 86 = .ok (.aload_n 0, 1) := by decide +kernel
theorem dX12_find_87 : decode cX12_find 87 = .ok (.invokevirtual 193, 3) := by decide +kernel
theorem dX12_find_90 : decode cX12_find 90 = .ok (.iload_n 2, 1) := by decide +kernel
theorem dX12_find_91 : decode cX12_find 91 = .ok (.iload 4, 2) := by decide +kernel
theorem dX12_find_93 : decode cX12_find 93 = .ok (.invokevirtual 216, 3) := by decide +kernel
theorem dX12_find_96 : decode cX12_find 96 = .ok (.iconst 1, 1) := by decide +kernel
theorem dX12_find_97 : decode cX12_find 97 = .ok (.ireturn, 1) := by decide +kernel
theorem dX12_find_98 : decode cX12_find 98 = .ok (.aload_n 0, 1) := by decide +kernel
theorem dX12_find_99 : decode cX12_find 99 = .ok (.aload_n 0, 1) := by decide +kernel
theorem dX12_find_100 : decode cX12_find 100 = .ok (.invokevirtual 193, 3) := by decide +kernel
theorem dX12_find_103 : decode cX12_find 103 = .ok (.aload_n 0, 1) := by decide +kernel
theorem dX12_find_104 : decode cX12_find 104 = .ok (.invokevirtual 193, 3) := by decide +kernel
theorem dX12_find_107 : decode cX12_find 107 = .ok (.iload_n 2, 1) := by decide +kernel
theorem dX12_find_108 : decode cX12_find 108 = .ok (.iconst (-1), 1) := by decide +kernel
theorem dX12_find_109 : decode cX12_find 109 = .ok (.ixor, 1) := by decide +kernel
theorem dX12_find_110 : decode cX12_find 110 = .ok (.iand, 1) := by decide +kernel
theorem dX12_find_111 : decode cX12_find 111 = .ok (.iload 4, 2) := by decide +kernel
theorem dX12_find_113 : decode cX12_find 113 = .ok (.invokevirtual 216, 3) := by decide +kernel
theorem dX12_find_116 : decode cX12_find 116 = .ok (.aload_n 0, 1) := by decide +kernel
theorem dX12_find_117 : decode cX12_find 117 = .ok (.aload_n 0, 1) := by decide +kernel
theorem dX12_find_118 : decode cX12_find 118 = .ok (.getfield 161, 3) := by decide +kernel
theorem dX12_find_121 : decode cX12_find 121 = .ok (.aload_n 0, 1) := by decide +kernel
theorem dX12_find_122 : decode cX12_find 122 = .ok (.getfield 157, 3) := by decide +kernel
theorem dX12_find_125 : decode cX12_find 125 = .ok (.lsub, 1) := by decide +kernel
theorem dX12_find_126 : decode cX12_find 126 = .ok (.aload_n 0, 1) := by decide +kernel
theorem dX12_find_127 : decode cX12_find 127 = .ok (.getfield 161, 3) := by decide +kernel
theorem dX12_find_130 : decode cX12_find 130 = .ok (.invokevirtual 169, 3) := by decide +kernel
theorem dX12_find_133 : decode cX12_find 133 = .ok (.iconst 1, 1) := by decide +kernel
theorem dX12_find_134 : decode cX12_find 134 = .ok (.ireturn, 1) := by decide +kernel
theorem dX12_find_135 : decode cX12_find 135 = .ok (.aload_n 0, 1) := by decide +kernel
theorem dX12_find_136 : decode cX12_find 136 = .ok (.iload_n 2, 1) := by decide +kernel
theorem dX12_find_137 : decode cX12_find 137 = .ok (.iload_n 3, 1) := by decide +kernel
theorem dX12_find_138 : decode cX12_find 138 = .ok (.iload 4, 2) := by decide +kernel
theorem dX12_find_140 : decode cX12_find 140 = .ok (.invokevirtual 216, 3) := by decide +kernel
theorem dX12_find_143 : decode cX12_find 143 = .ok (.iconst 1, 1) := by decide +kernel
theorem dX12_find_144 : decode cX12_find 144 = .ok (.ireturn, 1) := by decide +kernel
theorem dX12_find_145 : decode cX12_find 145 = .ok (.aload_n 0, 1) := by decide +kernel
theorem dX12_find_146 : decode cX12_find 146 = .ok (.iload_n 2, 1) := by decide +kernel
theorem dX12_find_147 : decode cX12_find 147 = .ok (.iload_n 3, 1) := by decide +kernel
theorem dX12_find_148 : decode cX12_find 148 = .ok (.aload_n 0, 1) := by decide +kernel
theorem dX12_find_149 : decode cX12_find 149 = .ok (.getfield 50, 3) := by decide +kernel
theorem dX12_find_152 : decode cX12_find 152 = .ok (.iload_n 1, 1) := by decide +kernel
theorem dX12_find_153 : decode cX12_find 153 = .ok (.iaload, 1) := by decide +kernel
theorem dX12_find_154 : decode cX12_find 154 = .ok (.iload 4, 2) := by decide +kernel
theorem dX12_find_156 : decode cX12_find 156 = .ok (.invokevirtual 317, 3) := by decide +kernel
theorem dX12_find_159 : decode cX12_find 159 = .ok (.iconst 1, 1) := by decide +kernel
theorem dX12_find_160 : decode cX12_find 160 = .ok (.ireturn, 1) := by decide +kernel
theorem dX12_find_161 : decode cX12_find 161 = .ok (.aload_n 0, 1) := by decide +kernel
theorem dX12_find_162 : decode cX12_find 162 = .ok (.iload_n 2, 1) := by decide +kernel
theorem dX12_find_163 : decode cX12_find 163 = .ok (.iload 4, 2) := by decide +kernel
theorem dX12_find_165 : decode cX12_find 165 = .ok (.invokevirtual 321, 3) := by decide +kernel
theorem dX12_find_168 : decode cX12_find 168 = .ok (.iconst 1, 1) := by decide +kernel
theorem dX12_find_169 : decode cX12_find 169 = .ok (.ireturn, 1) := by decide +kernel
theorem dX12_find_170 : decode cX12_find 170 = .ok (.aload_n 0, 1) := by decide +kernel
theorem dX12_find_171 : decode cX12_find 171 = .ok (.iload_n 2, 1) := by decide +kernel
theorem dX12_find_172 : decode cX12_find 172 = .ok (.iload 4, 2) := by decide +kernel
theorem dX12_find_174 : decode cX12_find 174 = .ok (.invokevirtual 325, 3) := by decide +kernel
theorem dX12_find_177 : decode cX12_find 177 = .ok (.ireturn, 1) := by decide +kernel
set_option maxRecDepth 20000 in
theorem ggX12_setOf_X12_all : GoodIn wsX12_setOf wsX12_all := goodIn_k tie_wsX12_setOf tie_wsX12_all (by decide +kernel)
set_option maxRecDepth 20000 in
theorem gX12_setOf_X12_all : GoodIn wsX12_setOf (wsV RX12 193 RX12 yX12_all wsX12_all) := goodIn_app (goodIn_k (is := [1092, 1093, 1094, 5]) tie_wsX12_setOf rfl (by decide +kernel)) ggX12_setOf_X12_all
set_option maxRecDepth 20000 in
theorem ggX12_setOf_X12_has : GoodIn wsX12_setOf wsX12_has := goodIn_k tie_wsX12_setOf tie_wsX12_has (by decide +kernel)
set_option maxRecDepth 20000 in
theorem gX12_setOf_X12_has : GoodIn wsX12_setOf (va_wsS RX12 121 yX12_has wsX12_has) := goodIn_app (goodIn_k (is := [324, 325, 5]) tie_wsX12_setOf rfl (by decide +kernel)) ggX12_setOf_X12_has
set_option maxRecDepth 20000 in
theorem ggX12_setOf_X12_setOf : GoodIn wsX12_setOf wsX12_setOf := goodIn_k tie_wsX12_setOf tie_wsX12_setOf (by decide +kernel)
set_option maxRecDepth 20000 in
theorem gX12_setOf_X12_setOf : GoodIn wsX12_setOf (wsV RX12 328 RX12 yX12_setOf wsX12_setOf) := goodIn_app (goodIn_k (is := [1088, 1089, 1090, 5]) tie_wsX12_setOf rfl (by decide +kernel)) ggX12_setOf_X12_setOf
set_option maxRecDepth 20000 in
theorem ggX12_setOf_X12_hasTwo : GoodIn wsX12_setOf wsX12_hasTwo := goodIn_k tie_wsX12_setOf tie_wsX12_hasTwo (by decide +kernel)
set_option maxRecDepth 20000 in
theorem gX12_setOf_X12_hasTwo : GoodIn wsX12_setOf (va_wsS RX12 305 yX12_hasTwo wsX12_hasTwo) := goodIn_app (goodIn_k (is := [922, 923, 5]) tie_wsX12_setOf rfl (by decide +kernel)) ggX12_setOf_X12_hasTwo
set_option maxRecDepth 20000 in
theorem ggX12_setOf_X12_isBounded : GoodIn wsX12_setOf wsX12_isBounded := goodIn_k tie_wsX12_setOf tie_wsX12_isBounded (by decide +kernel)
set_option maxRecDepth 20000 in
theorem gX12_setOf_X12_isBounded : GoodIn wsX12_setOf (va_wsS RX12 308 yX12_isBounded wsX12_isBounded) := goodIn_app (goodIn_k (is := [925, 926, 5]) tie_wsX12_setOf rfl (by decide +kernel)) ggX12_setOf_X12_isBounded
set_option maxRecDepth 20000 in
theorem ggX12_setOf_X12_find : GoodIn wsX12_setOf wsX12_find := goodIn_k tie_wsX12_setOf tie_wsX12_find (by decide +kernel)
set_option maxRecDepth 20000 in
theorem gX12_setOf_X12_find : GoodIn wsX12_setOf (wsV RX12 331 RX12 yX12_find wsX12_find) := goodIn_app (goodIn_k (is := [1096, 1097, 1098, 5]) tie_wsX12_setOf rfl (by decide +kernel)) ggX12_setOf_X12_find
set_option maxRecDepth 20000 in
theorem ggX12_setOf_X12_fulfils : GoodIn wsX12_setOf wsX12_fulfils := goodIn_k tie_wsX12_setOf tie_wsX12_fulfils (by decide +kernel)
set_option maxRecDepth 20000 in
theorem gX12_setOf_X12_fulfils : GoodIn wsX12_setOf (wsV RX12 335 RX12 yX12_fulfils wsX12_fulfils) := goodIn_app (goodIn_k (is := [1154, 1155, 1156, 5]) tie_wsX12_setOf rfl (by decide +kernel)) ggX12_setOf_X12_fulfils
theorem dX12_setOf_0 : decode cX12_setOf 0 = .ok (.aload_n 0, 1) := by decide +kernel
theorem dX12_setOf_1 : decode cX12_setOf 1 = .ok (.getfield 41, 3) := by decide +kernel
theorem dX12_setOf_4 : decode cX12_setOf 4 = .ok (.iload_n 1, 1) := by decide +kernel
theorem dX12_setOf_5 : decode cX12_setOf 5 = .ok (.iaload, 1) := by decide +kernel
theorem dX12_setOf_6 : decode cX12_setOf 6 = .ok (.istore_n 2, 1) := by decide +kernel
theorem dX12_setOf_7 : decode cX12_setOf 7 = .ok (.iload_n 2, 1) := by decide +kernel
theorem dX12_setOf_8 : decode cX12_setOf 8 = .ok (.bipush 116, 2) := by decide +kernel
theorem dX12_setOf_10 : decode cX12_setOf 10 = .ok (.if_icmp .ne 8, 3) := by decide +kernel
theorem dX12_setOf_13 : decode cX12_setOf 13 = .ok (.aload_n 0, 1) := by decide +kernel
theorem dX12_setOf_14 : decode cX12_setOf 14 = .ok (.invokevirtual 193, 3) := by decide +kernel
theorem dX12_setOf_17 : decode cX12_setOf 17 = .ok (.ireturn, 1) := by decide +kernel
theorem dX12_setOf_18 : decode cX12_setOf 18 = .ok (.iconst 0, 1) := by decide +kernel
theorem dX12_setOf_19 : decode cX12_setOf 19 = .ok (.istore_n 3, 1) := by decide +kernel
theorem dX12_setOf_20 : decode cX12_setOf 20 = .ok (.iload_n 2, 1) := by decide +kernel
theorem dX12_setOf_21 : decode cX12_setOf 21 = .ok (.bipush 97, 2) := by decide +kernel
theorem dX12_setOf_23 : decode cX12_setOf 23 = .ok (.if_icmp .ne 58, 3) := by decide +kernel
theorem dX12_setOf_26 : decode cX12_setOf 26 = .ok (.iconst 0, 1) := by decide +kernel
theorem dX12_setOf_27 : decode cX12_setOf 27 = .ok (.istore 4, 2) := by decide +kernel
theorem dX12_setOf_29 : decode cX12_setOf 29 = .ok (.iload 4, 2) := by decide +kernel
theorem dX12_setOf_31 : decode cX12_setOf 31 = .ok (.aload_n 0, 1) := by decide +kernel
theorem dX12_setOf_32 : decode cX12_setOf 32 = .ok (.getfield 9, 3) := by decide +kernel
theorem dX12_setOf_35 : decode cX12_setOf 35 = .ok (.iconst 0, 1) := by decide +kernel
theorem dX12_setOf_36 : decode cX12_setOf 36 = .ok (.iaload, 1) := by decide +kernel
theorem dX12_setOf_37 : decode cX12_setOf 37 = .ok (.if_icmp .ge 42, 3) := by decide +kernel
theorem dX12_setOf_40 : decode cX12_setOf 40 = .ok (.iload_n 3, 1) := by decide +kernel
theorem dX12_setOf_41 : decode cX12_setOf 41 = .ok (.aload_n 0, 1) := by decide +kernel
theorem dX12_setOf_42 : decode cX12_setOf 42 = .ok (.getfield 9, 3) := by decide +kernel
theorem dX12_setOf_45 : decode cX12_setOf 45 = .ok (.bipush 65, 2) := by decide +kernel
theorem dX12_setOf_47 : decode cX12_setOf 47 = .ok (.iload 4, 2) := by decide +kernel
theorem dX12_setOf_49 : decode cX12_setOf 49 = .ok (.iadd, 1) := by decide +kernel
theorem dX12_setOf_50 : decode cX12_setOf 50 = .ok (.iaload, 1) := by decide +kernel
theorem dX12_setOf_51 : decode cX12_setOf 51 = .ok (.aload_n 0, 1) := by decide +kernel
theorem dX12_setOf_52 : decode cX12_setOf 52 = .ok (.getfield 50, 3) := by decide +kernel
theorem dX12_setOf_55 : decode cX12_setOf 55 = .ok (.iload_n 1, 1) := by decide +kernel
theorem dX12_setOf_56 : decode cX12_setOf 56 = .ok (.iaload, 1) := by decide +kernel
theorem dX12_setOf_57 : decode cX12_setOf 57 = .ok (.invokestatic 121, 3) := by decide +kernel
theorem dX12_setOf_60 : decode cX12_setOf 60 = .ok (.ifCond .eq 10, 3) := by decide +kernel
theorem dX12_setOf_63 : decode cX12_setOf 63 = .ok (.iconst 1, 1) := by decide +kernel
theorem dX12_setOf_64 : decode cX12_setOf 64 = .ok (.iload 4, 2) := by decide +kernel
theorem dX12_setOf_66 : decode cX12_setOf 66 = .ok (.ishl, 1) := by decide +kernel
theorem dX12_setOf_67 : decode cX12_setOf 67 = .ok (.goto 4, 3) := by decide +kernel
theorem dX12_setOf_70 : decode cX12_setOf 70 = .ok (.iconst 0, 1) := by decide +kernel
theorem dX12_setOf_71 : decode cX12_setOf 71 = .ok (.ior, 1) := by decide +kernel
theorem dX12_setOf_72 : decode cX12_setOf 72 = .ok (.istore_n 3, 1) := by decide +kernel
theorem dX12_setOf_73 : decode cX12_setOf 73 = .ok (.iinc 4 1, 3) := by decide +kernel
theorem dX12_setOf_76 : decode cX12_setOf 76 = .ok (.goto (-47), 3) := by decide +kernel
theorem dX12_setOf_79 : decode cX12_setOf 79 = .ok (.iload_n 3, 1) := by decide +kernel
theorem dX12_setOf_80 : decode cX12_setOf 80 = .ok (.ireturn, 1) := by decide +kernel
theorem dX12_setOf_81 : decode cX12_setOf 81 = .ok (.aload_n 0, 1) := by decide +kernel
theorem dX12_setOf_82 : decode cX12_setOf 82 = .ok (.aload_n 0, 1) := by decide +kernel
theorem dX12_setOf_83 : decode cX12_setOf 83 = .ok (.getfield 44, 3) := by decide +kernel
theorem dX12_setOf_86 : decode cX12_setOf 86 = .ok (.iload_n 1, 1) := by decide +kernel
theorem dX12_setOf_87 : decode cX12_setOf 87 = .ok (.iaload, 1) := by decide +kernel
theorem dX12_setOf_88 : decode cX12_setOf 88 = .ok (.invokevirtual 328, 3) := by decide +kernel
theorem dX12_setOf_91 : decode cX12_setOf 91 = .ok (.istore 4, 2) := by decide +kernel
theorem dX12_setOf_93 : decode cX12_setOf 93 = .ok (.iload_n 2, 1) := by decide +kernel
theorem dX12_setOf_94 : decode cX12_setOf 94 = .ok (.invokestatic 305, 3) := by decide +kernel
theorem dX12_setOf_97 : decode cX12_setOf 97 = .ok (.ifCond .eq 16, 3) := by decide +kernel
theorem dX12_setOf_100 : decode cX12_setOf 100 = .ok (.aload_n 0, 1) := by decide +kernel
theorem dX12_setOf_101 : decode cX12_setOf 101 = .ok (.aload_n 0, 1) := by decide +kernel
theorem dX12_setOf_102 : decode cX12_setOf 102 = .ok (.getfield 47, 3) := by decide +kernel
theorem dX12_setOf_105 : decode cX12_setOf 105 = .ok (.iload_n 1, 1) := by decide +kernel
theorem dX12_setOf_106 : decode cX12_setOf 106 = .ok (.iaload, 1) := by decide +kernel
theorem dX12_setOf_107 : decode cX12_setOf 107 = .ok (.invokevirtual 328, 3) := by decide +kernel
theorem dX12_setOf_110 : decode cX12_setOf 110 = .ok (.goto 4, 3) := by decide +kernel
theorem dX12_setOf_113 : decode cX12_setOf 113 = .ok (.iconst 0, 1) := by decide +kernel
theorem dX12_setOf_114 : decode cX12_setOf 114 = .ok (.istore 5, 2) := by decide +kernel
theorem dX12_setOf_116 : decode cX12_setOf 116 = .ok (.iload_n 2, 1) := by decide +kernel
theorem dX12_setOf_117 : decode cX12_setOf 117 = .ok (.bipush 33, 2) := by decide +kernel
theorem dX12_setOf_119 : decode cX12_setOf 119 = .ok (.if_icmp .ne 13, 3) := by decide +kernel
theorem dX12_setOf_122 : decode cX12_setOf 122 = .ok (.aload_n 0, 1) := by decide +kernel
theorem dX12_setOf_123 : decode cX12_setOf 123 = .ok (.invokevirtual 193, 3) := by decide +kernel
theorem dX12_setOf_126 : decode cX12_setOf 126 = .ok (.iload 4, 2) := by decide +kernel
theorem dX12_setOf_128 : decode cX12_setOf 128 = .ok (.iconst (-1), 1) := by decide +kernel
theorem dX12_setOf_129 : decode cX12_setOf 129 = .ok (.ixor, 1) := by decide +kernel
theorem dX12_setOf_130 : decode cX12_setOf 130 = .ok (.iand, 1) := by decide +kernel
theorem dX12_setOf_131 : decode cX12_setOf 131 = .ok (.ireturn, 1) := by decide +kernel
theorem dX12_setOf_132 : decode cX12_setOf 132 = .ok (.iload_n 2, 1) := by decide +kernel
theorem dX12_setOf_133 : decode cX12_setOf 133 = .ok (.invokestatic 308, 3) := by decide +kernel
theorem dX12_setOf_136 : decode cX12_setOf 136 = .ok (.ifCond .ne 23, 3) := by decide +kernel
theorem dX12_setOf_139 : decode cX12_setOf 139 = .ok (.iload_n 2, 1) := by decide +kernel
theorem dX12_setOf_140 : decode cX12_setOf 140 = .ok (.bipush 38, 2) := by decide +kernel
theorem dX12_setOf_142 : decode cX12_setOf 142 = .ok (.if_icmp .ne 11, 3) := by decide +kernel
theorem dX12_setOf_145 : decode cX12_setOf 145 = .ok (.iload 4, 2) := by decide +kernel
theorem dX12_setOf_147 : decode cX12_setOf 147 = .ok (.iload 5, 2) := by decide +kernel
theorem dX12_setOf_149 : decode cX12_setOf 149 = .ok (.iand, 1) := by decide +kernel
theorem dX12_setOf_150 : decode cX12_setOf 150 = .ok (.goto 8, 3) := by decide +kernel
theorem dX12_setOf_153 : decode cX12_setOf 153 = .ok (.iload 4, 2) := by decide +kernel
theorem dX12_setOf_155 : decode cX12_setOf 155 = .ok (.iload 5, 2) := by decide +kernel
theorem dX12_setOf_157 : decode cX12_setOf 157 = .ok (.ior, 1) := by decide +kernel
theorem dX12_setOf_158 : decode cX12_setOf 158 = .ok (.ireturn, 1) := by decide +kernel
theorem dX12_setOf_159 : decode cX12_setOf 159 = .ok (.iconst 0, 1) := by decide +kernel
theorem dX12_setOf_160 : decode cX12_setOf 160 = .ok (.istore 6, 2) := by decide +kernel
theorem dX12_setOf_162 : decode cX12_setOf 162 = .ok (.iload 6, 2) := by decide +kernel
theorem dX12_setOf_164 : decode cX12_setOf 164 = .ok (.aload_n 0, 1) := by decide +kernel
theorem dX12_setOf_165 : decode cX12_setOf 165 = .ok (.getfield 9, 3) := by decide +kernel
theorem dX12_setOf_168 : decode cX12_setOf 168 = .ok (.iconst 0, 1) := by decide +kernel
theorem dX12_setOf_169 : decode cX12_setOf 169 = .ok (.iaload, 1) := by decide +kernel
theorem dX12_setOf_170 : decode cX12_setOf 170 = .ok (.if_icmp .ge 80, 3) := by decide +kernel
theorem dX12_setOf_173 : decode cX12_setOf 173 = .ok (.aload_n 0, 1) := by decide +kernel
theorem dX12_setOf_174 : decode cX12_setOf 174 = .ok (.iload_n 1, 1) := by decide +kernel
theorem dX12_setOf_175 : decode cX12_setOf 175 = .ok (.iload 4, 2) := by decide +kernel
theorem dX12_setOf_177 : decode cX12_setOf 177 = .ok (.iload 5, 2) := by decide +kernel
theorem dX12_setOf_179 : decode cX12_setOf 179 = .ok (.iload 6, 2) := by decide +kernel
theorem dX12_setOf_181 : decode cX12_setOf 181 = .ok (.invokevirtual 331, 3) := by decide +kernel
theorem dX12_setOf_184 : decode cX12_setOf 184 = .ok (.istore 7, 2) := by decide +kernel
theorem dX12_setOf_186 : decode cX12_setOf 186 = .ok (.iload 7, 2) := by decide +kernel
theorem dX12_setOf_188 : decode cX12_setOf 188 = .ok (.ifCond .eq 11, 3) := by decide +kernel
theorem dX12_setOf_191 : decode cX12_setOf 191 = .ok (.aload_n 0, 1) := by decide +kernel
theorem dX12_setOf_192 : decode cX12_setOf 192 = .ok (.iload_n 1, 1) := by decide +kernel
theorem dX12_setOf_193 : decode cX12_setOf 193 = .ok (.invokevirtual 335, 3) := by decide +kernel
theorem dX12_setOf_196 : decode cX12_setOf 196 = .ok (.goto 30, 3) := by decide +kernel
theorem dX12_setOf_199 : decode cX12_setOf 199 = .ok (.aload_n 0, 1) := by decide +kernel
theorem dX12_setOf_200 : decode cX12_setOf 200 = .ok (.getfield 53, 3) := by decide +kernel
theorem dX12_setOf_203 : decode cX12_setOf 203 = .ok (.iload_n 1, 1) := by decide +kernel
theorem dX12_setOf_204 : decode cX12_setOf 204 = .ok (.iaload, 1) := by decide +kernel
theorem dX12_setOf_205 : decode cX12_setOf 205 = .ok (.bipush 62, 2) := by decide +kernel
theorem dX12_setOf_207 : decode cX12_setOf 207 = .ok (.if_icmp .eq 14, 3) := by decide +kernel
theorem dX12_setOf_210 : decode cX12_setOf 210 = .ok (.aload_n 0, 1) := by decide +kernel
theorem dX12_setOf_211 : decode cX12_setOf 211 = .ok (.getfield 53, 3) := by decide +kernel
theorem dX12_setOf_214 : decode cX12_setOf 214 = .ok (.iload_n 1, 1) := by decide +kernel
theorem dX12_setOf_215 : decode cX12_setOf 215 = .ok (.iaload, 1) := by decide +kernel
theorem dX12_setOf_216 : decode cX12_setOf 216 = .ok (.bipush 103, 2) := by decide +kernel
theorem dX12_setOf_218 : decode cX12_setOf 218 = .ok (.if_icmp .ne 7, 3) := by decide +kernel
theorem dX12_setOf_221 : decode cX12_setOf 221 = .ok (.iconst 1, 1) := by decide +kernel
theorem dX12_setOf_222 : decode cX12_setOf 222 = .ok (.goto 4, 3) := by decide +kernel
theorem dX12_setOf_225 : decode cX12_setOf 225 = .ok (.iconst 0, 1) := by decide +kernel
theorem dX12_setOf_226 : decode cX12_setOf 226 = .ok (.istore 8, 2) := by decide +kernel
theorem dX12_setOf_228 : decode cX12_setOf 228 = .ok (.iload_n 3, 1) := by decide +kernel
theorem dX12_setOf_229 : decode cX12_setOf 229 = .ok (.iload 8, 2) := by decide +kernel
theorem dX12_setOf_231 : decode cX12_setOf 231 = .ok (.ifCond .eq 10, 3) := by decide +kernel
theorem dX12_setOf_234 : decode cX12_setOf 234 = .ok (.iconst 1, 1) := by decide +kernel
theorem dX12_setOf_235 : decode cX12_setOf 235 = .ok (.iload 6, 2) := by decide +kernel
theorem dX12_setOf_237 : decode cX12_setOf 237 = .ok (.ishl, 1) := by decide +kernel
theorem dX12_setOf_238 : decode cX12_setOf 238 = .ok (.goto 4, 3) := by decide +kernel
theorem dX12_setOf_241 : decode cX12_setOf 241 = .ok (.iconst 0, 1) := by decide +kernel
theorem dX12_setOf_242 : decode cX12_setOf 242 = .ok (.ior, 1) := by decide +kernel
theorem dX12_setOf_243 : decode cX12_setOf 243 = .ok (.istore_n 3, 1) := by decide +kernel
theorem dX12_setOf_244 : decode cX12_setOf 244 = .ok (.iinc 6 1, 3) := by decide +kernel
theorem dX12_setOf_247 : decode cX12_setOf 247 = .ok (.goto (-85), 3) := by decide +kernel
theorem dX12_setOf_250 : decode cX12_setOf 250 = .ok (.iload_n 3, 1) := by decide +kernel
theorem dX12_setOf_251 : decode cX12_setOf 251 = .ok (.ireturn, 1) := by decide +kernel
set_option maxRecDepth 20000 in
theorem ggX12_holdsIn_X12_isFormula : GoodIn wsX12_holdsIn wsX12_isFormula := goodIn_k tie_wsX12_holdsIn tie_wsX12_isFormula (by decide +kernel)
set_option maxRecDepth 20000 in
theorem gX12_holdsIn_X12_isFormula : GoodIn wsX12_holdsIn (wsV RX12 296 RX12 yX12_isFormula wsX12_isFormula) := goodIn_app (goodIn_k (is := [899, 900, 901, 5]) tie_wsX12_holdsIn rfl (by decide +kernel)) ggX12_holdsIn_X12_isFormula
set_option maxRecDepth 20000 in
theorem ggX12_holdsIn_X12_isRefusedNode : GoodIn wsX12_holdsIn wsX12_isRefusedNode := goodIn_k tie_wsX12_holdsIn tie_wsX12_isRefusedNode (by decide +kernel)
set_option maxRecDepth 20000 in
theorem gX12_holdsIn_X12_isRefusedNode : GoodIn wsX12_holdsIn (wsV RX12 314 RX12 yX12_isRefusedNode wsX12_isRefusedNode) := goodIn_app (goodIn_k (is := [1075, 1076, 1077, 5]) tie_wsX12_holdsIn rfl (by decide +kernel)) ggX12_holdsIn_X12_isRefusedNode
set_option maxRecDepth 20000 in
theorem ggX12_holdsIn_X12_setOf : GoodIn wsX12_holdsIn wsX12_setOf := goodIn_k tie_wsX12_holdsIn tie_wsX12_setOf (by decide +kernel)
set_option maxRecDepth 20000 in
theorem gX12_holdsIn_X12_setOf : GoodIn wsX12_holdsIn (wsV RX12 328 RX12 yX12_setOf wsX12_setOf) := goodIn_app (goodIn_k (is := [1088, 1089, 1090, 5]) tie_wsX12_holdsIn rfl (by decide +kernel)) ggX12_holdsIn_X12_setOf
theorem dX12_holdsIn_0 : decode cX12_holdsIn 0 = .ok (.aload_n 0, 1) := by decide +kernel
theorem dX12_holdsIn_1 : decode cX12_holdsIn 1 = .ok (.iload_n 1, 1) := by decide +kernel
theorem dX12_holdsIn_2 : decode cX12_holdsIn 2 = .ok (.invokevirtual 296, 3) := by decide +kernel
theorem dX12_holdsIn_5 : decode cX12_holdsIn 5 = .ok (.ifCond .ne 5, 3) := by decide +kernel
theorem dX12_holdsIn_8 : decode cX12_holdsIn 8 = .ok (.iconst (-1), 1) := by decide +kernel
theorem dX12_holdsIn_9 : decode cX12_holdsIn 9 = .ok (.ireturn, 1) := by decide +kernel
theorem dX12_holdsIn_10 : decode cX12_holdsIn 10 = .ok (.aload_n 0, 1) := by decide +kernel
theorem dX12_holdsIn_11 : decode cX12_holdsIn 11 = .ok (.aload_n 0, 1) := by decide +kernel
theorem dX12_holdsIn_12 : decode cX12_holdsIn 12 = .ok (.getfield 62, 3) := by decide +kernel
theorem dX12_holdsIn_15 : decode cX12_holdsIn 15 = .ok (.iload_n 1, 1) := by decide +kernel
theorem dX12_holdsIn_16 : decode cX12_holdsIn 16 = .ok (.iaload, 1) := by decide +kernel
theorem dX12_holdsIn_17 : decode cX12_holdsIn 17 = .ok (.invokevirtual 314, 3) := by decide +kernel
theorem dX12_holdsIn_20 : decode cX12_holdsIn 20 = .ok (.ifCond .eq 8, 3) := by decide +kernel
theorem dX12_holdsIn_23 : decode cX12_holdsIn 23 = .ok (.bipush (-4), 2) := by decide +kernel
theorem dX12_holdsIn_25 : decode cX12_holdsIn 25 = .ok (.goto 13, 3) := by decide +kernel
theorem dX12_holdsIn_28 : decode cX12_holdsIn 28 = .ok (.aload_n 0, 1) := by decide +kernel
theorem dX12_holdsIn_29 : decode cX12_holdsIn 29 = .ok (.aload_n 0, 1) := by decide +kernel
theorem dX12_holdsIn_30 : decode cX12_holdsIn 30 = .ok (.getfield 62, 3) := by decide +kernel
theorem dX12_holdsIn_33 : decode cX12_holdsIn 33 = .ok (.iload_n 1, 1) := by decide +kernel
theorem dX12_holdsIn_34 : decode cX12_holdsIn 34 = .ok (.iaload, 1) := by decide +kernel
theorem dX12_holdsIn_35 : decode cX12_holdsIn 35 = .ok (.invokevirtual 328, 3) := by decide +kernel
theorem dX12_holdsIn_38 : decode cX12_holdsIn 38 = .ok (.ireturn, 1) := by decide +kernel
set_option maxRecDepth 20000 in
theorem ggX12_holds_X12_isFormula : GoodIn wsX12_holds wsX12_isFormula := goodIn_k tie_wsX12_holds tie_wsX12_isFormula (by decide +kernel)
set_option maxRecDepth 20000 in
theorem gX12_holds_X12_isFormula : GoodIn wsX12_holds (wsV RX12 296 RX12 yX12_isFormula wsX12_isFormula) := goodIn_app (goodIn_k (is := [899, 900, 901, 5]) tie_wsX12_holds rfl (by decide +kernel)) ggX12_holds_X12_isFormula
set_option maxRecDepth 20000 in
theorem ggX12_holds_X12_isState : GoodIn wsX12_holds wsX12_isState := goodIn_k tie_wsX12_holds tie_wsX12_isState (by decide +kernel)
set_option maxRecDepth 20000 in
theorem gX12_holds_X12_isState : GoodIn wsX12_holds (wsV RX12 103 RX12 yX12_isState wsX12_isState) := goodIn_app (goodIn_k (is := [233, 234, 235, 5]) tie_wsX12_holds rfl (by decide +kernel)) ggX12_holds_X12_isState
set_option maxRecDepth 20000 in
theorem ggX12_holds_X12_isRefusedNode : GoodIn wsX12_holds wsX12_isRefusedNode := goodIn_k tie_wsX12_holds tie_wsX12_isRefusedNode (by decide +kernel)
set_option maxRecDepth 20000 in
theorem gX12_holds_X12_isRefusedNode : GoodIn wsX12_holds (wsV RX12 314 RX12 yX12_isRefusedNode wsX12_isRefusedNode) := goodIn_app (goodIn_k (is := [1075, 1076, 1077, 5]) tie_wsX12_holds rfl (by decide +kernel)) ggX12_holds_X12_isRefusedNode
set_option maxRecDepth 20000 in
theorem ggX12_holds_X12_setOf : GoodIn wsX12_holds wsX12_setOf := goodIn_k tie_wsX12_holds tie_wsX12_setOf (by decide +kernel)
set_option maxRecDepth 20000 in
theorem gX12_holds_X12_setOf : GoodIn wsX12_holds (wsV RX12 328 RX12 yX12_setOf wsX12_setOf) := goodIn_app (goodIn_k (is := [1088, 1089, 1090, 5]) tie_wsX12_holds rfl (by decide +kernel)) ggX12_holds_X12_setOf
set_option maxRecDepth 20000 in
theorem ggX12_holds_X12_has : GoodIn wsX12_holds wsX12_has := goodIn_k tie_wsX12_holds tie_wsX12_has (by decide +kernel)
set_option maxRecDepth 20000 in
theorem gX12_holds_X12_has : GoodIn wsX12_holds (va_wsS RX12 121 yX12_has wsX12_has) := goodIn_app (goodIn_k (is := [324, 325, 5]) tie_wsX12_holds rfl (by decide +kernel)) ggX12_holds_X12_has
theorem dX12_holds_0 : decode cX12_holds 0 = .ok (.aload_n 0, 1) := by decide +kernel
theorem dX12_holds_1 : decode cX12_holds 1 = .ok (.iload_n 1, 1) := by decide +kernel
theorem dX12_holds_2 : decode cX12_holds 2 = .ok (.invokevirtual 296, 3) := by decide +kernel
theorem dX12_holds_5 : decode cX12_holds 5 = .ok (.ifCond .eq 11, 3) := by decide +kernel
theorem dX12_holds_8 : decode cX12_holds 8 = .ok (.aload_n 0, 1) := by decide +kernel
theorem dX12_holds_9 : decode cX12_holds 9 = .ok (.iload_n 2, 1) := by decide +kernel
theorem dX12_holds_10 : decode cX12_holds 10 = .ok (.invokevirtual 103, 3) := by decide +kernel
theorem dX12_holds_13 : decode cX12_holds 13 = .ok (.ifCond .ne 5, 3) := by decide +kernel
theorem dX12_holds_16 : decode cX12_holds 16 = .ok (.iconst (-1), 1) := by decide +kernel
theorem dX12_holds_17 : decode cX12_holds 17 = .ok (.ireturn, 1) := by decide +kernel
theorem dX12_holds_18 : decode cX12_holds 18 = .ok (.aload_n 0, 1) := by decide +kernel
