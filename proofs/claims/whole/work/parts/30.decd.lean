theorem dX12_begin_12 : decode cX12_begin 12 = .ok (.iconst 0, 1) := by decide +kernel
theorem dX12_begin_13 : decode cX12_begin 13 = .ok (.iaload, 1) := by decide +kernel
theorem dX12_begin_14 : decode cX12_begin 14 = .ok (.if_icmp .ge 37, 3) := by decide +kernel
theorem dX12_begin_17 : decode cX12_begin 17 = .ok (.iload_n 1, 1) := by decide +kernel
theorem dX12_begin_18 : decode cX12_begin 18 = .ok (.iload_n 2, 1) := by decide +kernel
theorem dX12_begin_19 : decode cX12_begin 19 = .ok (.invokestatic 121, 3) := by decide +kernel
theorem dX12_begin_22 : decode cX12_begin 22 = .ok (.ifCond .eq 23, 3) := by decide +kernel
theorem dX12_begin_25 : decode cX12_begin 25 = .ok (.aload_n 0, 1) := by decide +kernel
theorem dX12_begin_26 : decode cX12_begin 26 = .ok (.getfield 29, 3) := by decide +kernel
theorem dX12_begin_29 : decode cX12_begin 29 = .ok (.aload_n 0, 1) := by decide +kernel
theorem dX12_begin_30 : decode cX12_begin 30 = .ok (.getfield 180, 3) := by decide +kernel
theorem dX12_begin_33 : decode cX12_begin 33 = .ok (.iload_n 2, 1) := by decide +kernel
theorem dX12_begin_34 : decode cX12_begin 34 = .ok (.iastore, 1) := by decide +kernel
theorem dX12_begin_35 : decode cX12_begin 35 = .ok (.aload_n 0, 1) := by decide +kernel
theorem dX12_begin_36 : decode cX12_begin 36 = .ok (.dup, 1) := by decide +kernel
theorem dX12_begin_37 : decode cX12_begin 37 = .ok (.getfield 180, 3) := by decide +kernel
theorem dX12_begin_40 : decode cX12_begin 40 = .ok (.iconst 1, 1) := by decide +kernel
theorem dX12_begin_41 : decode cX12_begin 41 = .ok (.iadd, 1) := by decide +kernel
theorem dX12_begin_42 : decode cX12_begin 42 = .ok (.putfield 180, 3) := by decide +kernel
theorem dX12_begin_45 : decode cX12_begin 45 = .ok (.iinc 2 1, 3) := by decide +kernel
theorem dX12_begin_48 : decode cX12_begin 48 = .ok (.goto (-41), 3) := by decide +kernel
theorem dX12_begin_51 : decode cX12_begin 51 = .ok (.iconst 0, 1) := by decide +kernel
theorem dX12_begin_52 : decode cX12_begin 52 = .ok (.istore_n 2, 1) := by decide +kernel
theorem dX12_begin_53 : decode cX12_begin 53 = .ok (.iload_n 2, 1) := by decide +kernel
theorem dX12_begin_54 : decode cX12_begin 54 = .ok (.aload_n 0, 1) := by decide +kernel
theorem dX12_begin_55 : decode cX12_begin 55 = .ok (.getfield 180, 3) := by decide +kernel
theorem dX12_begin_58 : decode cX12_begin 58 = .ok (.if_icmp .ge 88, 3) := by decide +kernel
theorem dX12_begin_61 : decode cX12_begin 61 = .ok (.iconst 0, 1) := by decide +kernel
theorem dX12_begin_62 : decode cX12_begin 62 = .ok (.istore_n 3, 1) := by decide +kernel
theorem dX12_begin_63 : decode cX12_begin 63 = .ok (.iload_n 3, 1) := by decide +kernel
theorem dX12_begin_64 : decode cX12_begin 64 = .ok (.bipush 9, 2) := by decide +kernel
theorem dX12_begin_66 : decode cX12_begin 66 = .ok (.if_icmp .ge 74, 3) := by decide +kernel
theorem dX12_begin_69 : decode cX12_begin 69 = .ok (.iload_n 3, 1) := by decide +kernel
theorem dX12_begin_70 : decode cX12_begin 70 = .ok (.aload_n 0, 1) := by decide +kernel
theorem dX12_begin_71 : decode cX12_begin 71 = .ok (.getfield 180, 3) := by decide +kernel
theorem dX12_begin_74 : decode cX12_begin 74 = .ok (.if_icmp .ge 23, 3) := by decide +kernel
theorem dX12_begin_77 : decode cX12_begin 77 = .ok (.aload_n 0, 1) := by decide +kernel
theorem dX12_begin_78 : decode cX12_begin 78 = .ok (.aload_n 0, 1) := by decide +kernel
theorem dX12_begin_79 : decode cX12_begin 79 = .ok (.getfield 29, 3) := by decide +kernel
theorem dX12_begin_82 : decode cX12_begin 82 = .ok (.iload_n 2, 1) := by decide +kernel
theorem dX12_begin_83 : decode cX12_begin 83 = .ok (.iaload, 1) := by decide +kernel
theorem dX12_begin_84 : decode cX12_begin 84 = .ok (.aload_n 0, 1) := by decide +kernel
theorem dX12_begin_85 : decode cX12_begin 85 = .ok (.getfield 29, 3) := by decide +kernel
theorem dX12_begin_88 : decode cX12_begin 88 = .ok (.iload_n 3, 1) := by decide +kernel
theorem dX12_begin_89 : decode cX12_begin 89 = .ok (.iaload, 1) := by decide +kernel
theorem dX12_begin_90 : decode cX12_begin 90 = .ok (.invokevirtual 125, 3) := by decide +kernel
theorem dX12_begin_93 : decode cX12_begin 93 = .ok (.i2l, 1) := by decide +kernel
theorem dX12_begin_94 : decode cX12_begin 94 = .ok (.goto 4, 3) := by decide +kernel
theorem dX12_begin_97 : decode cX12_begin 97 = .ok (.lconst 0, 1) := by decide +kernel
theorem dX12_begin_98 : decode cX12_begin 98 = .ok (.lstore 4, 2) := by decide +kernel
theorem dX12_begin_100 : decode cX12_begin 100 = .ok (.aload_n 0, 1) := by decide +kernel
theorem dX12_begin_101 : decode cX12_begin 101 = .ok (.getfield 25, 3) := by decide +kernel
theorem dX12_begin_104 : decode cX12_begin 104 = .ok (.bipush 9, 2) := by decide +kernel
theorem dX12_begin_106 : decode cX12_begin 106 = .ok (.iload_n 2, 1) := by decide +kernel
theorem dX12_begin_107 : decode cX12_begin 107 = .ok (.imul, 1) := by decide +kernel
theorem dX12_begin_108 : decode cX12_begin 108 = .ok (.iload_n 3, 1) := by decide +kernel
theorem dX12_begin_109 : decode cX12_begin 109 = .ok (.iadd, 1) := by decide +kernel
theorem dX12_begin_110 : decode cX12_begin 110 = .ok (.iload_n 2, 1) := by decide +kernel
theorem dX12_begin_111 : decode cX12_begin 111 = .ok (.iload_n 3, 1) := by decide +kernel
theorem dX12_begin_112 : decode cX12_begin 112 = .ok (.if_icmp .ne 17, 3) := by decide +kernel
theorem dX12_begin_115 : decode cX12_begin 115 = .ok (.aload_n 0, 1) := by decide +kernel
theorem dX12_begin_116 : decode cX12_begin 116 = .ok (.aload_n 0, 1) := by decide +kernel
theorem dX12_begin_117 : decode cX12_begin 117 = .ok (.getfield 29, 3) := by decide +kernel
theorem dX12_begin_120 : decode cX12_begin 120 = .ok (.iload_n 2, 1) := by decide +kernel
theorem dX12_begin_121 : decode cX12_begin 121 = .ok (.iaload, 1) := by decide +kernel
theorem dX12_begin_122 : decode cX12_begin 122 = .ok (.invokevirtual 143, 3) := by decide +kernel
theorem dX12_begin_125 : decode cX12_begin 125 = .ok (.i2l, 1) := by decide +kernel
theorem dX12_begin_126 : decode cX12_begin 126 = .ok (.goto 4, 3) := by decide +kernel
theorem dX12_begin_129 : decode cX12_begin 129 = .ok (.lconst 0, 1) := by decide +kernel
theorem dX12_begin_130 : decode cX12_begin 130 = .ok (.lload 4, 2) := by decide +kernel
theorem dX12_begin_132 : decode cX12_begin 132 = .ok (.lsub, 1) := by decide +kernel
theorem dX12_begin_133 : decode cX12_begin 133 = .ok (.lastore, 1) := by decide +kernel
theorem dX12_begin_134 : decode cX12_begin 134 = .ok (.iinc 3 1, 3) := by decide +kernel
theorem dX12_begin_137 : decode cX12_begin 137 = .ok (.goto (-74), 3) := by decide +kernel
theorem dX12_begin_140 : decode cX12_begin 140 = .ok (.iinc 2 1, 3) := by decide +kernel
theorem dX12_begin_143 : decode cX12_begin 143 = .ok (.goto (-90), 3) := by decide +kernel
theorem dX12_begin_146 : decode cX12_begin 146 = .ok (.return_, 1) := by decide +kernel
theorem dX12_placeOf_0 : decode cX12_placeOf 0 = .ok (.iconst 0, 1) := by decide +kernel
theorem dX12_placeOf_1 : decode cX12_placeOf 1 = .ok (.istore_n 2, 1) := by decide +kernel
theorem dX12_placeOf_2 : decode cX12_placeOf 2 = .ok (.aload_n 0, 1) := by decide +kernel
theorem dX12_placeOf_3 : decode cX12_placeOf 3 = .ok (.getfield 29, 3) := by decide +kernel
theorem dX12_placeOf_6 : decode cX12_placeOf 6 = .ok (.iload_n 2, 1) := by decide +kernel
theorem dX12_placeOf_7 : decode cX12_placeOf 7 = .ok (.iaload, 1) := by decide +kernel
theorem dX12_placeOf_8 : decode cX12_placeOf 8 = .ok (.iload_n 1, 1) := by decide +kernel
theorem dX12_placeOf_9 : decode cX12_placeOf 9 = .ok (.if_icmp .eq 9, 3) := by decide +kernel
theorem dX12_placeOf_12 : decode cX12_placeOf 12 = .ok (.iinc 2 1, 3) := by decide +kernel
theorem dX12_placeOf_15 : decode cX12_placeOf 15 = .ok (.goto (-13), 3) := by decide +kernel
theorem dX12_placeOf_18 : decode cX12_placeOf 18 = .ok (.iload_n 2, 1) := by decide +kernel
theorem dX12_placeOf_19 : decode cX12_placeOf 19 = .ok (.ireturn, 1) := by decide +kernel
theorem dX12_right_0 : decode cX12_right 0 = .ok (.aload_n 0, 1) := by decide +kernel
theorem dX12_right_1 : decode cX12_right 1 = .ok (.getfield 25, 3) := by decide +kernel
theorem dX12_right_4 : decode cX12_right 4 = .ok (.bipush 9, 2) := by decide +kernel
theorem dX12_right_6 : decode cX12_right 6 = .ok (.iload_n 1, 1) := by decide +kernel
theorem dX12_right_7 : decode cX12_right 7 = .ok (.imul, 1) := by decide +kernel
theorem dX12_right_8 : decode cX12_right 8 = .ok (.bipush 8, 2) := by decide +kernel
theorem dX12_right_10 : decode cX12_right 10 = .ok (.iadd, 1) := by decide +kernel
theorem dX12_right_11 : decode cX12_right 11 = .ok (.lload_n 2, 1) := by decide +kernel
theorem dX12_right_12 : decode cX12_right 12 = .ok (.lastore, 1) := by decide +kernel
theorem dX12_right_13 : decode cX12_right 13 = .ok (.return_, 1) := by decide +kernel
set_option maxRecDepth 20000 in
theorem ggX12_giveSolved_X12_solve : GoodIn wsX12_giveSolved wsX12_solve := goodIn_k tie_wsX12_giveSolved tie_wsX12_solve (by decide +kernel)
set_option maxRecDepth 20000 in
theorem gX12_giveSolved_X12_solve : GoodIn wsX12_giveSolved (wsV RX12 187 RX12 yX12_solve wsX12_solve) := goodIn_app (goodIn_k (is := [1121, 1122, 1123, 5]) tie_wsX12_giveSolved rfl (by decide +kernel)) ggX12_giveSolved_X12_solve
set_option maxRecDepth 20000 in
theorem ggX12_giveSolved_X12_placeOf : GoodIn wsX12_giveSolved wsX12_placeOf := goodIn_k tie_wsX12_giveSolved tie_wsX12_placeOf (by decide +kernel)
set_option maxRecDepth 20000 in
theorem gX12_giveSolved_X12_placeOf : GoodIn wsX12_giveSolved (wsV RX12 190 RX12 yX12_placeOf wsX12_placeOf) := goodIn_app (goodIn_k (is := [1130, 1131, 1132, 5]) tie_wsX12_giveSolved rfl (by decide +kernel)) ggX12_giveSolved_X12_placeOf
set_option maxRecDepth 20000 in
theorem ggX12_giveSolved_X12_at : GoodIn wsX12_giveSolved wsX12_at := goodIn_k tie_wsX12_giveSolved tie_wsX12_at (by decide +kernel)
set_option maxRecDepth 20000 in
theorem gX12_giveSolved_X12_at : GoodIn wsX12_giveSolved (wsV RX12 183 RX12 yX12_at wsX12_at) := goodIn_app (goodIn_k (is := [1126, 1127, 1128, 5]) tie_wsX12_giveSolved rfl (by decide +kernel)) ggX12_giveSolved_X12_at
set_option maxRecDepth 20000 in
theorem ggX12_giveSolved_X12_give : GoodIn wsX12_giveSolved wsX12_give := goodIn_k tie_wsX12_giveSolved tie_wsX12_give (by decide +kernel)
set_option maxRecDepth 20000 in
theorem gX12_giveSolved_X12_give : GoodIn wsX12_giveSolved (wsV RX12 169 RX12 yX12_give wsX12_give) := goodIn_app (goodIn_k (is := [482, 483, 484, 5]) tie_wsX12_giveSolved rfl (by decide +kernel)) ggX12_giveSolved_X12_give
theorem dX12_giveSolved_0 : decode cX12_giveSolved 0 = .ok (.aload_n 0, 1) := by decide +kernel
theorem dX12_giveSolved_1 : decode cX12_giveSolved 1 = .ok (.invokevirtual 187, 3) := by decide +kernel
theorem dX12_giveSolved_4 : decode cX12_giveSolved 4 = .ok (.aload_n 0, 1) := by decide +kernel
theorem dX12_giveSolved_5 : decode cX12_giveSolved 5 = .ok (.iload_n 1, 1) := by decide +kernel
theorem dX12_giveSolved_6 : decode cX12_giveSolved 6 = .ok (.invokevirtual 190, 3) := by decide +kernel
theorem dX12_giveSolved_9 : decode cX12_giveSolved 9 = .ok (.istore_n 2, 1) := by decide +kernel
theorem dX12_giveSolved_10 : decode cX12_giveSolved 10 = .ok (.aload_n 0, 1) := by decide +kernel
theorem dX12_giveSolved_11 : decode cX12_giveSolved 11 = .ok (.aload_n 0, 1) := by decide +kernel
theorem dX12_giveSolved_12 : decode cX12_giveSolved 12 = .ok (.iload_n 2, 1) := by decide +kernel
theorem dX12_giveSolved_13 : decode cX12_giveSolved 13 = .ok (.bipush 8, 2) := by decide +kernel
theorem dX12_giveSolved_15 : decode cX12_giveSolved 15 = .ok (.invokevirtual 183, 3) := by decide +kernel
theorem dX12_giveSolved_18 : decode cX12_giveSolved 18 = .ok (.aload_n 0, 1) := by decide +kernel
theorem dX12_giveSolved_19 : decode cX12_giveSolved 19 = .ok (.iload_n 2, 1) := by decide +kernel
theorem dX12_giveSolved_20 : decode cX12_giveSolved 20 = .ok (.iload_n 2, 1) := by decide +kernel
theorem dX12_giveSolved_21 : decode cX12_giveSolved 21 = .ok (.invokevirtual 183, 3) := by decide +kernel
theorem dX12_giveSolved_24 : decode cX12_giveSolved 24 = .ok (.invokevirtual 169, 3) := by decide +kernel
theorem dX12_giveSolved_27 : decode cX12_giveSolved 27 = .ok (.return_, 1) := by decide +kernel
set_option maxRecDepth 20000 in
theorem ggX12_neverOf_X12_has : GoodIn wsX12_neverOf wsX12_has := goodIn_k tie_wsX12_neverOf tie_wsX12_has (by decide +kernel)
set_option maxRecDepth 20000 in
theorem gX12_neverOf_X12_has : GoodIn wsX12_neverOf (va_wsS RX12 121 yX12_has wsX12_has) := goodIn_app (goodIn_k (is := [324, 325, 5]) tie_wsX12_neverOf rfl (by decide +kernel)) ggX12_neverOf_X12_has
set_option maxRecDepth 20000 in
theorem ggX12_neverOf_X12_weightInto : GoodIn wsX12_neverOf wsX12_weightInto := goodIn_k tie_wsX12_neverOf tie_wsX12_weightInto (by decide +kernel)
set_option maxRecDepth 20000 in
theorem gX12_neverOf_X12_weightInto : GoodIn wsX12_neverOf (wsV RX12 140 RX12 yX12_weightInto wsX12_weightInto) := goodIn_app (goodIn_k (is := [427, 428, 429, 5]) tie_wsX12_neverOf rfl (by decide +kernel)) ggX12_neverOf_X12_weightInto
set_option maxRecDepth 20000 in
theorem ggX12_neverOf_X12_all : GoodIn wsX12_neverOf wsX12_all := goodIn_k tie_wsX12_neverOf tie_wsX12_all (by decide +kernel)
set_option maxRecDepth 20000 in
theorem gX12_neverOf_X12_all : GoodIn wsX12_neverOf (wsV RX12 193 RX12 yX12_all wsX12_all) := goodIn_app (goodIn_k (is := [1092, 1093, 1094, 5]) tie_wsX12_neverOf rfl (by decide +kernel)) ggX12_neverOf_X12_all
theorem dX12_neverOf_0 : decode cX12_neverOf 0 = .ok (.iload_n 2, 1) := by decide +kernel
theorem dX12_neverOf_1 : decode cX12_neverOf 1 = .ok (.istore_n 3, 1) := by decide +kernel
theorem dX12_neverOf_2 : decode cX12_neverOf 2 = .ok (.iconst 1, 1) := by decide +kernel
theorem dX12_neverOf_3 : decode cX12_neverOf 3 = .ok (.istore 4, 2) := by decide +kernel
theorem dX12_neverOf_5 : decode cX12_neverOf 5 = .ok (.iload 4, 2) := by decide +kernel
theorem dX12_neverOf_7 : decode cX12_neverOf 7 = .ok (.ifCond .eq 77, 3) := by decide +kernel
theorem dX12_neverOf_10 : decode cX12_neverOf 10 = .ok (.iload_n 3, 1) := by decide +kernel
theorem dX12_neverOf_11 : decode cX12_neverOf 11 = .ok (.istore 5, 2) := by decide +kernel
theorem dX12_neverOf_13 : decode cX12_neverOf 13 = .ok (.iconst 0, 1) := by decide +kernel
theorem dX12_neverOf_14 : decode cX12_neverOf 14 = .ok (.istore 6, 2) := by decide +kernel
theorem dX12_neverOf_16 : decode cX12_neverOf 16 = .ok (.iload 6, 2) := by decide +kernel
theorem dX12_neverOf_18 : decode cX12_neverOf 18 = .ok (.aload_n 0, 1) := by decide +kernel
theorem dX12_neverOf_19 : decode cX12_neverOf 19 = .ok (.getfield 9, 3) := by decide +kernel
theorem dX12_neverOf_22 : decode cX12_neverOf 22 = .ok (.iconst 0, 1) := by decide +kernel
theorem dX12_neverOf_23 : decode cX12_neverOf 23 = .ok (.iaload, 1) := by decide +kernel
theorem dX12_neverOf_24 : decode cX12_neverOf 24 = .ok (.if_icmp .ge 41, 3) := by decide +kernel
theorem dX12_neverOf_27 : decode cX12_neverOf 27 = .ok (.iload 5, 2) := by decide +kernel
theorem dX12_neverOf_29 : decode cX12_neverOf 29 = .ok (.iload_n 1, 1) := by decide +kernel
theorem dX12_neverOf_30 : decode cX12_neverOf 30 = .ok (.iload 6, 2) := by decide +kernel
theorem dX12_neverOf_32 : decode cX12_neverOf 32 = .ok (.invokestatic 121, 3) := by decide +kernel
theorem dX12_neverOf_35 : decode cX12_neverOf 35 = .ok (.ifCond .eq 20, 3) := by decide +kernel
theorem dX12_neverOf_38 : decode cX12_neverOf 38 = .ok (.aload_n 0, 1) := by decide +kernel
theorem dX12_neverOf_39 : decode cX12_neverOf 39 = .ok (.iload 6, 2) := by decide +kernel
theorem dX12_neverOf_41 : decode cX12_neverOf 41 = .ok (.iload_n 3, 1) := by decide +kernel
theorem dX12_neverOf_42 : decode cX12_neverOf 42 = .ok (.invokevirtual 140, 3) := by decide +kernel
theorem dX12_neverOf_45 : decode cX12_neverOf 45 = .ok (.ifCond .le 10, 3) := by decide +kernel
theorem dX12_neverOf_48 : decode cX12_neverOf 48 = .ok (.iconst 1, 1) := by decide +kernel
theorem dX12_neverOf_49 : decode cX12_neverOf 49 = .ok (.iload 6, 2) := by decide +kernel
theorem dX12_neverOf_51 : decode cX12_neverOf 51 = .ok (.ishl, 1) := by decide +kernel
theorem dX12_neverOf_52 : decode cX12_neverOf 52 = .ok (.goto 4, 3) := by decide +kernel
theorem dX12_neverOf_55 : decode cX12_neverOf 55 = .ok (.iconst 0, 1) := by decide +kernel
theorem dX12_neverOf_56 : decode cX12_neverOf 56 = .ok (.ior, 1) := by decide +kernel
theorem dX12_neverOf_57 : decode cX12_neverOf 57 = .ok (.istore 5, 2) := by decide +kernel
theorem dX12_neverOf_59 : decode cX12_neverOf 59 = .ok (.iinc 6 1, 3) := by decide +kernel
theorem dX12_neverOf_62 : decode cX12_neverOf 62 = .ok (.goto (-46), 3) := by decide +kernel
theorem dX12_neverOf_65 : decode cX12_neverOf 65 = .ok (.iload 5, 2) := by decide +kernel
theorem dX12_neverOf_67 : decode cX12_neverOf 67 = .ok (.iload_n 3, 1) := by decide +kernel
theorem dX12_neverOf_68 : decode cX12_neverOf 68 = .ok (.if_icmp .eq 7, 3) := by decide +kernel
theorem dX12_neverOf_71 : decode cX12_neverOf 71 = .ok (.iconst 1, 1) := by decide +kernel
theorem dX12_neverOf_72 : decode cX12_neverOf 72 = .ok (.goto 4, 3) := by decide +kernel
theorem dX12_neverOf_75 : decode cX12_neverOf 75 = .ok (.iconst 0, 1) := by decide +kernel
theorem dX12_neverOf_76 : decode cX12_neverOf 76 = .ok (.istore 4, 2) := by decide +kernel
theorem dX12_neverOf_78 : decode cX12_neverOf 78 = .ok (.iload 5, 2) := by decide +kernel
theorem dX12_neverOf_80 : decode cX12_neverOf 80 = .ok (.istore_n 3, 1) := by decide +kernel
theorem dX12_neverOf_81 : decode cX12_neverOf 81 = .ok (.goto (-76), 3) := by decide +kernel
theorem dX12_neverOf_84 : decode cX12_neverOf 84 = .ok (.aload_n 0, 1) := by decide +kernel
theorem dX12_neverOf_85 : decode cX12_neverOf 85 = .ok (.invokevirtual 193, 3) := by decide +kernel
theorem dX12_neverOf_88 : decode cX12_neverOf 88 = .ok (.iload_n 3, 1) := by decide +kernel
theorem dX12_neverOf_89 : decode cX12_neverOf 89 = .ok (.iconst (-1), 1) := by decide +kernel
theorem dX12_neverOf_90 : decode cX12_neverOf 90 = .ok (.ixor, 1) := by decide +kernel
theorem dX12_neverOf_91 : decode cX12_neverOf 91 = .ok (.iand, 1) := by decide +kernel
theorem dX12_neverOf_92 : decode cX12_neverOf 92 = .ok (.ireturn, 1) := by decide +kernel
set_option maxRecDepth 20000 in
theorem ggX12_surelyOf_X12_neverOf : GoodIn wsX12_surelyOf wsX12_neverOf := goodIn_k tie_wsX12_surelyOf tie_wsX12_neverOf (by decide +kernel)
set_option maxRecDepth 20000 in
theorem gX12_surelyOf_X12_neverOf : GoodIn wsX12_surelyOf (wsV RX12 196 RX12 yX12_neverOf wsX12_neverOf) := goodIn_app (goodIn_k (is := [1105, 1106, 1107, 5]) tie_wsX12_surelyOf rfl (by decide +kernel)) ggX12_surelyOf_X12_neverOf
set_option maxRecDepth 20000 in
theorem ggX12_surelyOf_X12_has : GoodIn wsX12_surelyOf wsX12_has := goodIn_k tie_wsX12_surelyOf tie_wsX12_has (by decide +kernel)
set_option maxRecDepth 20000 in
theorem gX12_surelyOf_X12_has : GoodIn wsX12_surelyOf (va_wsS RX12 121 yX12_has wsX12_has) := goodIn_app (goodIn_k (is := [324, 325, 5]) tie_wsX12_surelyOf rfl (by decide +kernel)) ggX12_surelyOf_X12_has
set_option maxRecDepth 20000 in
theorem ggX12_surelyOf_X12_weightInto : GoodIn wsX12_surelyOf wsX12_weightInto := goodIn_k tie_wsX12_surelyOf tie_wsX12_weightInto (by decide +kernel)
set_option maxRecDepth 20000 in
theorem gX12_surelyOf_X12_weightInto : GoodIn wsX12_surelyOf (wsV RX12 140 RX12 yX12_weightInto wsX12_weightInto) := goodIn_app (goodIn_k (is := [427, 428, 429, 5]) tie_wsX12_surelyOf rfl (by decide +kernel)) ggX12_surelyOf_X12_weightInto
set_option maxRecDepth 20000 in
theorem ggX12_surelyOf_X12_all : GoodIn wsX12_surelyOf wsX12_all := goodIn_k tie_wsX12_surelyOf tie_wsX12_all (by decide +kernel)
set_option maxRecDepth 20000 in
theorem gX12_surelyOf_X12_all : GoodIn wsX12_surelyOf (wsV RX12 193 RX12 yX12_all wsX12_all) := goodIn_app (goodIn_k (is := [1092, 1093, 1094, 5]) tie_wsX12_surelyOf rfl (by decide +kernel)) ggX12_surelyOf_X12_all
theorem dX12_surelyOf_0 : decode cX12_surelyOf 0 = .ok (.aload_n 0, 1) := by decide +kernel
theorem dX12_surelyOf_1 : decode cX12_surelyOf 1 = .ok (.iload_n 1, 1) := by decide +kernel
theorem dX12_surelyOf_2 : decode cX12_surelyOf 2 = .ok (.iload_n 2, 1) := by decide +kernel
theorem dX12_surelyOf_3 : decode cX12_surelyOf 3 = .ok (.invokevirtual 196, 3) := by decide +kernel
theorem dX12_surelyOf_6 : decode cX12_surelyOf 6 = .ok (.istore_n 3, 1) := by decide +kernel
theorem dX12_surelyOf_7 : decode cX12_surelyOf 7 = .ok (.iconst 1, 1) := by decide +kernel
theorem dX12_surelyOf_8 : decode cX12_surelyOf 8 = .ok (.istore 4, 2) := by decide +kernel
theorem dX12_surelyOf_10 : decode cX12_surelyOf 10 = .ok (.iload 4, 2) := by decide +kernel
theorem dX12_surelyOf_12 : decode cX12_surelyOf 12 = .ok (.ifCond .eq 77, 3) := by decide +kernel
theorem dX12_surelyOf_15 : decode cX12_surelyOf 15 = .ok (.iload_n 3, 1) := by decide +kernel
theorem dX12_surelyOf_16 : decode cX12_surelyOf 16 = .ok (.istore 5, 2) := by decide +kernel
theorem dX12_surelyOf_18 : decode cX12_surelyOf 18 = .ok (.iconst 0, 1) := by decide +kernel
theorem dX12_surelyOf_19 : decode cX12_surelyOf 19 = .ok (.istore 6, 2) := by decide +kernel
theorem dX12_surelyOf_21 : decode cX12_surelyOf 21 = .ok (.iload 6, 2) := by decide +kernel
theorem dX12_surelyOf_23 : decode cX12_surelyOf 23 = .ok (.aload_n 0, 1) := by decide +kernel
theorem dX12_surelyOf_24 : decode cX12_surelyOf 24 = .ok (.getfield 9, 3) := by decide +kernel
theorem dX12_surelyOf_27 : decode cX12_surelyOf 27 = .ok (.iconst 0, 1) := by decide +kernel
theorem dX12_surelyOf_28 : decode cX12_surelyOf 28 = .ok (.iaload, 1) := by decide +kernel
theorem dX12_surelyOf_29 : decode cX12_surelyOf 29 = .ok (.if_icmp .ge 41, 3) := by decide +kernel
theorem dX12_surelyOf_32 : decode cX12_surelyOf 32 = .ok (.iload 5, 2) := by decide +kernel
theorem dX12_surelyOf_34 : decode cX12_surelyOf 34 = .ok (.iload_n 2, 1) := by decide +kernel
theorem dX12_surelyOf_35 : decode cX12_surelyOf 35 = .ok (.iload 6, 2) := by decide +kernel
theorem dX12_surelyOf_37 : decode cX12_surelyOf 37 = .ok (.invokestatic 121, 3) := by decide +kernel
theorem dX12_surelyOf_40 : decode cX12_surelyOf 40 = .ok (.ifCond .ne 20, 3) := by decide +kernel
theorem dX12_surelyOf_43 : decode cX12_surelyOf 43 = .ok (.aload_n 0, 1) := by decide +kernel
theorem dX12_surelyOf_44 : decode cX12_surelyOf 44 = .ok (.iload 6, 2) := by decide +kernel
theorem dX12_surelyOf_46 : decode cX12_surelyOf 46 = .ok (.iload_n 3, 1) := by decide +kernel
theorem dX12_surelyOf_47 : decode cX12_surelyOf 47 = .ok (.invokevirtual 140, 3) := by decide +kernel
theorem dX12_surelyOf_50 : decode cX12_surelyOf 50 = .ok (.ifCond .le 10, 3) := by decide +kernel
theorem dX12_surelyOf_53 : decode cX12_surelyOf 53 = .ok (.iconst 1, 1) := by decide +kernel
theorem dX12_surelyOf_54 : decode cX12_surelyOf 54 = .ok (.iload 6, 2) := by decide +kernel
theorem dX12_surelyOf_56 : decode cX12_surelyOf 56 = .ok (.ishl, 1) := by decide +kernel
theorem dX12_surelyOf_57 : decode cX12_surelyOf 57 = .ok (.goto 4, 3) := by decide +kernel
theorem dX12_surelyOf_60 : decode cX12_surelyOf 60 = .ok (.iconst 0, 1) := by decide +kernel
theorem dX12_surelyOf_61 : decode cX12_surelyOf 61 = .ok (.ior, 1) := by decide +kernel
theorem dX12_surelyOf_62 : decode cX12_surelyOf 62 = .ok (.istore 5, 2) := by decide +kernel
theorem dX12_surelyOf_64 : decode cX12_surelyOf 64 = .ok (.iinc 6 1, 3) := by decide +kernel
theorem dX12_surelyOf_67 : decode cX12_surelyOf 67 = .ok (.goto (-46), 3) := by decide +kernel
theorem dX12_surelyOf_70 : decode cX12_surelyOf 70 = .ok (.iload 5, 2) := by decide +kernel
theorem dX12_surelyOf_72 : decode cX12_surelyOf 72 = .ok (.iload_n 3, 1) := by decide +kernel
theorem dX12_surelyOf_73 : decode cX12_surelyOf 73 = .ok (.if_icmp .eq 7, 3) := by decide +kernel
theorem dX12_surelyOf_76 : decode cX12_surelyOf 76 = .ok (.iconst 1, 1) := by decide +kernel
theorem dX12_surelyOf_77 : decode cX12_surelyOf 77 = .ok (.goto 4, 3) := by decide +kernel
theorem dX12_surelyOf_80 : decode cX12_surelyOf 80 = .ok (.iconst 0, 1) := by decide +kernel
theorem dX12_surelyOf_81 : decode cX12_surelyOf 81 = .ok (.istore 4, 2) := by decide +kernel
theorem dX12_surelyOf_83 : decode cX12_surelyOf 83 = .ok (.iload 5, 2) := by decide +kernel
theorem dX12_surelyOf_85 : decode cX12_surelyOf 85 = .ok (.istore_n 3, 1) := by decide +kernel
theorem dX12_surelyOf_86 : decode cX12_surelyOf 86 = .ok (.goto (-76), 3) := by decide +kernel
theorem dX12_surelyOf_89 : decode cX12_surelyOf 89 = .ok (.aload_n 0, 1) := by decide +kernel
theorem dX12_surelyOf_90 : decode cX12_surelyOf 90 = .ok (.invokevirtual 193, 3) := by decide +kernel
theorem dX12_surelyOf_93 : decode cX12_surelyOf 93 = .ok (.iload_n 3, 1) := by decide +kernel
theorem dX12_surelyOf_94 : decode cX12_surelyOf 94 = .ok (.iconst (-1), 1) := by decide +kernel
theorem dX12_surelyOf_95 : decode cX12_surelyOf 95 = .ok (.ixor, 1) := by decide +kernel
theorem dX12_surelyOf_96 : decode cX12_surelyOf 96 = .ok (.iand, 1) := by decide +kernel
theorem dX12_surelyOf_97 : decode cX12_surelyOf 97 = .ok (.ireturn, 1) := by decide +kernel
set_option maxRecDepth 20000 in
theorem ggX12_findUntil_X12_neverOf : GoodIn wsX12_findUntil wsX12_neverOf := goodIn_k tie_wsX12_findUntil tie_wsX12_neverOf (by decide +kernel)
set_option maxRecDepth 20000 in
theorem gX12_findUntil_X12_neverOf : GoodIn wsX12_findUntil (wsV RX12 196 RX12 yX12_neverOf wsX12_neverOf) := goodIn_app (goodIn_k (is := [1105, 1106, 1107, 5]) tie_wsX12_findUntil rfl (by decide +kernel)) ggX12_findUntil_X12_neverOf
set_option maxRecDepth 20000 in
theorem ggX12_findUntil_X12_has : GoodIn wsX12_findUntil wsX12_has := goodIn_k tie_wsX12_findUntil tie_wsX12_has (by decide +kernel)
set_option maxRecDepth 20000 in
theorem gX12_findUntil_X12_has : GoodIn wsX12_findUntil (va_wsS RX12 121 yX12_has wsX12_has) := goodIn_app (goodIn_k (is := [324, 325, 5]) tie_wsX12_findUntil rfl (by decide +kernel)) ggX12_findUntil_X12_has
set_option maxRecDepth 20000 in
theorem ggX12_findUntil_X12_give : GoodIn wsX12_findUntil wsX12_give := goodIn_k tie_wsX12_findUntil tie_wsX12_give (by decide +kernel)
set_option maxRecDepth 20000 in
theorem gX12_findUntil_X12_give : GoodIn wsX12_findUntil (wsV RX12 169 RX12 yX12_give wsX12_give) := goodIn_app (goodIn_k (is := [482, 483, 484, 5]) tie_wsX12_findUntil rfl (by decide +kernel)) ggX12_findUntil_X12_give
set_option maxRecDepth 20000 in
theorem ggX12_findUntil_X12_all : GoodIn wsX12_findUntil wsX12_all := goodIn_k tie_wsX12_findUntil tie_wsX12_all (by decide +kernel)
set_option maxRecDepth 20000 in
theorem gX12_findUntil_X12_all : GoodIn wsX12_findUntil (wsV RX12 193 RX12 yX12_all wsX12_all) := goodIn_app (goodIn_k (is := [1092, 1093, 1094, 5]) tie_wsX12_findUntil rfl (by decide +kernel)) ggX12_findUntil_X12_all
set_option maxRecDepth 20000 in
theorem ggX12_findUntil_X12_begin : GoodIn wsX12_findUntil wsX12_begin := goodIn_k tie_wsX12_findUntil tie_wsX12_begin (by decide +kernel)
set_option maxRecDepth 20000 in
theorem gX12_findUntil_X12_begin : GoodIn wsX12_findUntil (wsV RX12 199 RX12 yX12_begin wsX12_begin) := goodIn_app (goodIn_k (is := [1109, 1110, 1111, 5]) tie_wsX12_findUntil rfl (by decide +kernel)) ggX12_findUntil_X12_begin
set_option maxRecDepth 20000 in
theorem ggX12_findUntil_X12_weightInto : GoodIn wsX12_findUntil wsX12_weightInto := goodIn_k tie_wsX12_findUntil tie_wsX12_weightInto (by decide +kernel)
set_option maxRecDepth 20000 in
theorem gX12_findUntil_X12_weightInto : GoodIn wsX12_findUntil (wsV RX12 140 RX12 yX12_weightInto wsX12_weightInto) := goodIn_app (goodIn_k (is := [427, 428, 429, 5]) tie_wsX12_findUntil rfl (by decide +kernel)) ggX12_findUntil_X12_weightInto
set_option maxRecDepth 20000 in
theorem ggX12_findUntil_X12_right : GoodIn wsX12_findUntil wsX12_right := goodIn_k tie_wsX12_findUntil tie_wsX12_right (by decide +kernel)
set_option maxRecDepth 20000 in
theorem gX12_findUntil_X12_right : GoodIn wsX12_findUntil (wsV RX12 203 RX12 yX12_right wsX12_right) := goodIn_app (goodIn_k (is := [1113, 1114, 1115, 5]) tie_wsX12_findUntil rfl (by decide +kernel)) ggX12_findUntil_X12_right
set_option maxRecDepth 20000 in
theorem ggX12_findUntil_X12_giveSolved : GoodIn wsX12_findUntil wsX12_giveSolved := goodIn_k tie_wsX12_findUntil tie_wsX12_giveSolved (by decide +kernel)
set_option maxRecDepth 20000 in
theorem gX12_findUntil_X12_giveSolved : GoodIn wsX12_findUntil (wsV RX12 207 RX12 yX12_giveSolved wsX12_giveSolved) := goodIn_app (goodIn_k (is := [1117, 1118, 1119, 5]) tie_wsX12_findUntil rfl (by decide +kernel)) ggX12_findUntil_X12_giveSolved
theorem dX12_findUntil_0 : decode cX12_findUntil 0 = .ok (.aload_n 0, 1) := by decide +kernel
theorem dX12_findUntil_1 : decode cX12_findUntil 1 = .ok (.iload_n 1, 1) := by decide +kernel
theorem dX12_findUntil_2 : decode cX12_findUntil 2 = .ok (.iload_n 2, 1) := by decide +kernel
theorem dX12_findUntil_3 : decode cX12_findUntil 3 = .ok (.invokevirtual 196, 3) := by decide +kernel
theorem dX12_findUntil_6 : decode cX12_findUntil 6 = .ok (.istore 4, 2) := by decide +kernel
theorem dX12_findUntil_8 : decode cX12_findUntil 8 = .ok (.iload 4, 2) := by decide +kernel
theorem dX12_findUntil_10 : decode cX12_findUntil 10 = .ok (.iload_n 3, 1) := by decide +kernel
theorem dX12_findUntil_11 : decode cX12_findUntil 11 = .ok (.invokestatic 121, 3) := by decide +kernel
theorem dX12_findUntil_14 : decode cX12_findUntil 14 = .ok (.ifCond .ne 11, 3) := by decide +kernel
theorem dX12_findUntil_17 : decode cX12_findUntil 17 = .ok (.iload_n 2, 1) := by decide +kernel
theorem dX12_findUntil_18 : decode cX12_findUntil 18 = .ok (.iload_n 3, 1) := by decide +kernel
theorem dX12_findUntil_19 : decode cX12_findUntil 19 = .ok (.invokestatic 121, 3) := by decide +kernel
theorem dX12_findUntil_22 : decode cX12_findUntil 22 = .ok (.ifCond .eq 22, 3) := by decide +kernel
theorem dX12_findUntil_25 : decode cX12_findUntil 25 = .ok (.aload_n 0, 1) := by decide +kernel
theorem dX12_findUntil_26 : decode cX12_findUntil 26 = .ok (.iload_n 2, 1) := by decide +kernel
theorem dX12_findUntil_27 : decode cX12_findUntil 27 = .ok (.iload_n 3, 1) := by decide +kernel
theorem dX12_findUntil_28 : decode cX12_findUntil 28 = .ok (.invokestatic 121, 3) := by decide +kernel
theorem dX12_findUntil_31 : decode cX12_findUntil 31 = .ok (.ifCond .eq 7, 3) := by decide +kernel
theorem dX12_findUntil_34 : decode cX12_findUntil 34 = .ok (.lconst 1, 1) := by decide +kernel
theorem dX12_findUntil_35 : decode cX12_findUntil 35 = .ok (.goto 4, 3) := by decide +kernel
theorem dX12_findUntil_38 : decode cX12_findUntil 38 = .ok (.lconst 0, 1) := by decide +kernel
theorem dX12_findUntil_39 : decode cX12_findUntil 39 = .ok (.lconst 1, 1) := by decide +kernel
theorem dX12_findUntil_40 : decode cX12_findUntil 40 = .ok (.invokevirtual 169, 3) := by decide +kernel
theorem dX12_findUntil_43 : decode cX12_findUntil 43 = .ok (.return_, 1) := by decide +kernel
theorem dX12_findUntil_44 : decode cX12_findUntil 44 = .ok (.aload_n 0, 1) := by decide +kernel
theorem dX12_findUntil_45 : decode cX12_findUntil 45 = .ok (.aload_n 0, 1) := by decide +kernel
theorem dX12_findUntil_46 : decode cX12_findUntil 46 = .ok (.invokevirtual 193, 3) := by decide +kernel
theorem dX12_findUntil_49 : decode cX12_findUntil 49 = .ok (.iload 4, 2) := by decide +kernel
theorem dX12_findUntil_51 : decode cX12_findUntil 51 = .ok (.iconst (-1), 1) := by decide +kernel
theorem dX12_findUntil_52 : decode cX12_findUntil 52 = .ok (.ixor, 1) := by decide +kernel
theorem dX12_findUntil_53 : decode cX12_findUntil 53 = .ok (.iand, 1) := by decide +kernel
theorem dX12_findUntil_54 : decode cX12_findUntil 54 = .ok (.iload_n 2, 1) := by decide +kernel
theorem dX12_findUntil_55 : decode cX12_findUntil 55 = .ok (.iconst (-1), 1) := by decide +kernel
theorem dX12_findUntil_56 : decode cX12_findUntil 56 = .ok (.ixor, 1) := by decide +kernel
theorem dX12_findUntil_57 : decode cX12_findUntil 57 = .ok (.iand, 1) := by decide +kernel
theorem dX12_findUntil_58 : decode cX12_findUntil 58 = .ok (.invokevirtual 199, 3) := by decide +kernel
theorem dX12_findUntil_61 : decode cX12_findUntil 61 = .ok (.iconst 0, 1) := by decide +kernel
theorem dX12_findUntil_62 : decode cX12_findUntil 62 = .ok (.istore 5, 2) := by decide +kernel
theorem dX12_findUntil_64 : decode cX12_findUntil 64 = .ok (.iload 5, 2) := by decide +kernel
theorem dX12_findUntil_66 : decode cX12_findUntil 66 = .ok (.aload_n 0, 1) := by decide +kernel
theorem dX12_findUntil_67 : decode cX12_findUntil 67 = .ok (.getfield 180, 3) := by decide +kernel
theorem dX12_findUntil_70 : decode cX12_findUntil 70 = .ok (.if_icmp .ge 28, 3) := by decide +kernel
theorem dX12_findUntil_73 : decode cX12_findUntil 73 = .ok (.aload_n 0, 1) := by decide +kernel
theorem dX12_findUntil_74 : decode cX12_findUntil 74 = .ok (.iload 5, 2) := by decide +kernel
theorem dX12_findUntil_76 : decode cX12_findUntil 76 = .ok (.aload_n 0, 1) := by decide +kernel
theorem dX12_findUntil_77 : decode cX12_findUntil 77 = .ok (.aload_n 0, 1) := by decide +kernel
theorem dX12_findUntil_78 : decode cX12_findUntil 78 = .ok (.getfield 29, 3) := by decide +kernel
theorem dX12_findUntil_81 : decode cX12_findUntil 81 = .ok (.iload 5, 2) := by decide +kernel
theorem dX12_findUntil_83 : decode cX12_findUntil 83 = .ok (.iaload, 1) := by decide +kernel
theorem dX12_findUntil_84 : decode cX12_findUntil 84 = .ok (.iload_n 2, 1) := by decide +kernel
theorem dX12_findUntil_85 : decode cX12_findUntil 85 = .ok (.invokevirtual 140, 3) := by decide +kernel
theorem dX12_findUntil_88 : decode cX12_findUntil 88 = .ok (.i2l, 1) := by decide +kernel
theorem dX12_findUntil_89 : decode cX12_findUntil 89 = .ok (.invokevirtual 203, 3) := by decide +kernel
theorem dX12_findUntil_92 : decode cX12_findUntil 92 = .ok (.iinc 5 1, 3) := by decide +kernel
theorem dX12_findUntil_95 : decode cX12_findUntil 95 = .ok (.goto (-31), 3) := by decide +kernel
theorem dX12_findUntil_98 : decode cX12_findUntil 98 = .ok (.aload_n 0, 1) := by decide +kernel
theorem dX12_findUntil_99 : decode cX12_findUntil 99 = .ok (.iload_n 3, 1) := by decide +kernel
theorem dX12_findUntil_100 : decode cX12_findUntil 100 = .ok (.invokevirtual 207, 3) := by decide +kernel
theorem dX12_findUntil_103 : decode cX12_findUntil 103 = .ok (.return_, 1) := by decide +kernel
set_option maxRecDepth 20000 in
theorem ggX12_multiple_X12_sumOf : GoodIn wsX12_multiple wsX12_sumOf := goodIn_k tie_wsX12_multiple tie_wsX12_sumOf (by decide +kernel)
set_option maxRecDepth 20000 in
theorem gX12_multiple_X12_sumOf : GoodIn wsX12_multiple (wsV RX12 143 RX12 yX12_sumOf wsX12_sumOf) := goodIn_app (goodIn_k (is := [431, 432, 433, 5]) tie_wsX12_multiple rfl (by decide +kernel)) ggX12_multiple_X12_sumOf
set_option maxRecDepth 20000 in
theorem ggX12_multiple_X12_common : GoodIn wsX12_multiple wsX12_common := goodIn_k tie_wsX12_multiple tie_wsX12_common (by decide +kernel)
set_option maxRecDepth 20000 in
theorem gX12_multiple_X12_common : GoodIn wsX12_multiple (va_wsS RX12 153 yX12_common wsX12_common) := goodIn_app (goodIn_k (is := [488, 489, 5]) tie_wsX12_multiple rfl (by decide +kernel)) ggX12_multiple_X12_common
theorem dX12_multiple_0 : decode cX12_multiple 0 = .ok (.lconst 1, 1) := by decide +kernel
theorem dX12_multiple_1 : decode cX12_multiple 1 = .ok (.lstore_n 1, 1) := by decide +kernel
theorem dX12_multiple_2 : decode cX12_multiple 2 = .ok (.iconst 0, 1) := by decide +kernel
theorem dX12_multiple_3 : decode cX12_multiple 3 = .ok (.istore_n 3, 1) := by decide +kernel
theorem dX12_multiple_4 : decode cX12_multiple 4 = .ok (.iload_n 3, 1) := by decide +kernel
theorem dX12_multiple_5 : decode cX12_multiple 5 = .ok (.aload_n 0, 1) := by decide +kernel
theorem dX12_multiple_6 : decode cX12_multiple 6 = .ok (.getfield 9, 3) := by decide +kernel
theorem dX12_multiple_9 : decode cX12_multiple 9 = .ok (.iconst 0, 1) := by decide +kernel
theorem dX12_multiple_10 : decode cX12_multiple 10 = .ok (.iaload, 1) := by decide +kernel
theorem dX12_multiple_11 : decode cX12_multiple 11 = .ok (.if_icmp .ge 29, 3) := by decide +kernel
theorem dX12_multiple_14 : decode cX12_multiple 14 = .ok (.lload_n 1, 1) := by decide +kernel
theorem dX12_multiple_15 : decode cX12_multiple 15 = .ok (.lload_n 1, 1) := by decide +kernel
theorem dX12_multiple_16 : decode cX12_multiple 16 = .ok (.aload_n 0, 1) := by decide +kernel
theorem dX12_multiple_17 : decode cX12_multiple 17 = .ok (.iload_n 3, 1) := by decide +kernel
theorem dX12_multiple_18 : decode cX12_multiple 18 = .ok (.invokevirtual 143, 3) := by decide +kernel
theorem dX12_multiple_21 : decode cX12_multiple 21 = .ok (.i2l, 1) := by decide +kernel
theorem dX12_multiple_22 : decode cX12_multiple 22 = .ok (.invokestatic 153, 3) := by decide +kernel
theorem dX12_multiple_25 : decode cX12_multiple 25 = .ok (.ldiv, 1) := by decide +kernel
theorem dX12_multiple_26 : decode cX12_multiple 26 = .ok (.aload_n 0, 1) := by decide +kernel
theorem dX12_multiple_27 : decode cX12_multiple 27 = .ok (.iload_n 3, 1) := by decide +kernel
theorem dX12_multiple_28 : decode cX12_multiple 28 = .ok (.invokevirtual 143, 3) := by decide +kernel
theorem dX12_multiple_31 : decode cX12_multiple 31 = .ok (.i2l, 1) := by decide +kernel
theorem dX12_multiple_32 : decode cX12_multiple 32 = .ok (.lmul, 1) := by decide +kernel
theorem dX12_multiple_33 : decode cX12_multiple 33 = .ok (.lstore_n 1, 1) := by decide +kernel
theorem dX12_multiple_34 : decode cX12_multiple 34 = .ok (.iinc 3 1, 3) := by decide +kernel
theorem dX12_multiple_37 : decode cX12_multiple 37 = .ok (.goto (-33), 3) := by decide +kernel
theorem dX12_multiple_40 : decode cX12_multiple 40 = .ok (.lload_n 1, 1) := by decide +kernel
theorem dX12_multiple_41 : decode cX12_multiple 41 = .ok (.lreturn, 1) := by decide +kernel
set_option maxRecDepth 20000 in
theorem ggX12_isRefused_X12_multiple : GoodIn wsX12_isRefused wsX12_multiple := goodIn_k tie_wsX12_isRefused tie_wsX12_multiple (by decide +kernel)
set_option maxRecDepth 20000 in
theorem gX12_isRefused_X12_multiple : GoodIn wsX12_isRefused (wsV RX12 210 RX12 yX12_multiple wsX12_multiple) := goodIn_app (goodIn_k (is := [1084, 1085, 1086, 5]) tie_wsX12_isRefused rfl (by decide +kernel)) ggX12_isRefused_X12_multiple
theorem dX12_isRefused_0 : decode cX12_isRefused 0 = .ok (.lconst 1, 1) := by decide +kernel
theorem dX12_isRefused_1 : decode cX12_isRefused 1 = .ok (.lstore_n 2, 1) := by decide +kernel
theorem dX12_isRefused_2 : decode cX12_isRefused 2 = .ok (.aload_n 0, 1) := by decide +kernel
theorem dX12_isRefused_3 : decode cX12_isRefused 3 = .ok (.invokevirtual 210, 3) := by decide +kernel
theorem dX12_isRefused_6 : decode cX12_isRefused 6 = .ok (.lstore 4, 2) := by decide +kernel
theorem dX12_isRefused_8 : decode cX12_isRefused 8 = .ok (.iconst 0, 1) := by decide +kernel
theorem dX12_isRefused_9 : decode cX12_isRefused 9 = .ok (.istore 6, 2) := by decide +kernel
theorem dX12_isRefused_11 : decode cX12_isRefused 11 = .ok (.iload 6, 2) := by decide +kernel
theorem dX12_isRefused_13 : decode cX12_isRefused 13 = .ok (.iload_n 1, 1) := by decide +kernel
theorem dX12_isRefused_14 : decode cX12_isRefused 14 = .ok (.if_icmp .ge 22, 3) := by decide +kernel
theorem dX12_isRefused_17 : decode cX12_isRefused 17 = .ok (.lload_n 2, 1) := by decide +kernel
theorem dX12_isRefused_18 : decode cX12_isRefused 18 = .ok (.ldc2_w 214, 3) := by decide +kernel
theorem dX12_isRefused_21 : decode cX12_isRefused 21 = .ok (.lcmp, 1) := by decide +kernel
theorem dX12_isRefused_22 : decode cX12_isRefused 22 = .ok (.ifCond .gt 14, 3) := by decide +kernel
theorem dX12_isRefused_25 : decode cX12_isRefused 25 = .ok (.lload_n 2, 1) := by decide +kernel
theorem dX12_isRefused_26 : decode cX12_isRefused 26 = .ok (.lload 4, 2) := by decide +kernel
theorem dX12_isRefused_28 : decode cX12_isRefused 28 = .ok (.lmul, 1) := by decide +kernel
theorem dX12_isRefused_29 : decode cX12_isRefused 29 = .ok (.lstore_n 2, 1) := by decide +kernel
theorem dX12_isRefused_30 : decode cX12_isRefused 30 = .ok (.iinc 6 1, 3) := by decide +kernel
theorem dX12_isRefused_33 : decode cX12_isRefused 33 = .ok (.goto (-22), 3) := by decide +kernel
theorem dX12_isRefused_36 : decode cX12_isRefused 36 = .ok (.lload_n 2, 1) := by decide +kernel
theorem dX12_isRefused_37 : decode cX12_isRefused 37 = .ok (.ldc2_w 214, 3) := by decide +kernel
theorem dX12_isRefused_40 : decode cX12_isRefused 40 = .ok (.lcmp, 1) := by decide +kernel
theorem dX12_isRefused_41 : decode cX12_isRefused 41 = .ok (.ifCond .le 7, 3) := by decide +kernel
theorem dX12_isRefused_44 : decode cX12_isRefused 44 = .ok (.iconst 1, 1) := by decide +kernel
theorem dX12_isRefused_45 : decode cX12_isRefused 45 = .ok (.goto 4, 3) := by decide +kernel
theorem dX12_isRefused_48 : decode cX12_isRefused 48 = .ok (.iconst 0, 1) := by decide +kernel
theorem dX12_isRefused_49 : decode cX12_isRefused 49 = .ok (.ireturn, 1) := by decide +kernel
set_option maxRecDepth 20000 in
theorem ggX12_findWithin_X12_multiple : GoodIn wsX12_findWithin wsX12_multiple := goodIn_k tie_wsX12_findWithin tie_wsX12_multiple (by decide +kernel)
set_option maxRecDepth 20000 in
theorem gX12_findWithin_X12_multiple : GoodIn wsX12_findWithin (wsV RX12 210 RX12 yX12_multiple wsX12_multiple) := goodIn_app (goodIn_k (is := [1084, 1085, 1086, 5]) tie_wsX12_findWithin rfl (by decide +kernel)) ggX12_findWithin_X12_multiple
set_option maxRecDepth 20000 in
theorem ggX12_findWithin_X12_has : GoodIn wsX12_findWithin wsX12_has := goodIn_k tie_wsX12_findWithin tie_wsX12_has (by decide +kernel)
set_option maxRecDepth 20000 in
theorem gX12_findWithin_X12_has : GoodIn wsX12_findWithin (va_wsS RX12 121 yX12_has wsX12_has) := goodIn_app (goodIn_k (is := [324, 325, 5]) tie_wsX12_findWithin rfl (by decide +kernel)) ggX12_findWithin_X12_has
set_option maxRecDepth 20000 in
theorem ggX12_findWithin_X12_weightOf : GoodIn wsX12_findWithin wsX12_weightOf := goodIn_k tie_wsX12_findWithin tie_wsX12_weightOf (by decide +kernel)
set_option maxRecDepth 20000 in
theorem gX12_findWithin_X12_weightOf : GoodIn wsX12_findWithin (wsV RX12 125 RX12 yX12_weightOf wsX12_weightOf) := goodIn_app (goodIn_k (is := [327, 328, 329, 5]) tie_wsX12_findWithin rfl (by decide +kernel)) ggX12_findWithin_X12_weightOf
set_option maxRecDepth 20000 in
theorem ggX12_findWithin_X12_sumOf : GoodIn wsX12_findWithin wsX12_sumOf := goodIn_k tie_wsX12_findWithin tie_wsX12_sumOf (by decide +kernel)
set_option maxRecDepth 20000 in
theorem gX12_findWithin_X12_sumOf : GoodIn wsX12_findWithin (wsV RX12 143 RX12 yX12_sumOf wsX12_sumOf) := goodIn_app (goodIn_k (is := [431, 432, 433, 5]) tie_wsX12_findWithin rfl (by decide +kernel)) ggX12_findWithin_X12_sumOf
set_option maxRecDepth 20000 in
theorem ggX12_findWithin_X12_give : GoodIn wsX12_findWithin wsX12_give := goodIn_k tie_wsX12_findWithin tie_wsX12_give (by decide +kernel)
set_option maxRecDepth 20000 in
theorem gX12_findWithin_X12_give : GoodIn wsX12_findWithin (wsV RX12 169 RX12 yX12_give wsX12_give) := goodIn_app (goodIn_k (is := [482, 483, 484, 5]) tie_wsX12_findWithin rfl (by decide +kernel)) ggX12_findWithin_X12_give
theorem dX12_findWithin_0 : decode cX12_findWithin 0 = .ok (.aload_n 0, 1) := by decide +kernel
theorem dX12_findWithin_1 : decode cX12_findWithin 1 = .ok (.invokevirtual 210, 3) := by decide +kernel
theorem dX12_findWithin_4 : decode cX12_findWithin 4 = .ok (.lstore 5, 2) := by decide +kernel
theorem dX12_findWithin_6 : decode cX12_findWithin 6 = .ok (.lconst 1, 1) := by decide +kernel
theorem dX12_findWithin_7 : decode cX12_findWithin 7 = .ok (.lstore 7, 2) := by decide +kernel
theorem dX12_findWithin_9 : decode cX12_findWithin 9 = .ok (.iconst 0, 1) := by decide +kernel
theorem dX12_findWithin_10 : decode cX12_findWithin 10 = .ok (.istore 9, 2) := by decide +kernel
theorem dX12_findWithin_12 : decode cX12_findWithin 12 = .ok (.iload 9, 2) := by decide +kernel
theorem dX12_findWithin_14 : decode cX12_findWithin 14 = .ok (.aload_n 0, 1) := by decide +kernel
theorem dX12_findWithin_15 : decode cX12_findWithin 15 = .ok (.getfield 9, 3) := by decide +kernel
theorem dX12_findWithin_18 : decode cX12_findWithin 18 = .ok (.iconst 0, 1) := by decide +kernel
theorem dX12_findWithin_19 : decode cX12_findWithin 19 = .ok (.iaload, 1) := by decide +kernel
theorem dX12_findWithin_20 : decode cX12_findWithin 20 = .ok (.if_icmp .ge 30, 3) := by decide +kernel
theorem dX12_findWithin_23 : decode cX12_findWithin 23 = .ok (.aload_n 0, 1) := by decide +kernel
theorem dX12_findWithin_24 : decode cX12_findWithin 24 = .ok (.getfield 32, 3) := by decide +kernel
theorem dX12_findWithin_27 : decode cX12_findWithin 27 = .ok (.iload 9, 2) := by decide +kernel
theorem dX12_findWithin_29 : decode cX12_findWithin 29 = .ok (.iload_n 2, 1) := by decide +kernel
theorem dX12_findWithin_30 : decode cX12_findWithin 30 = .ok (.iload 9, 2) := by decide +kernel
theorem dX12_findWithin_32 : decode cX12_findWithin 32 = .ok (.invokestatic 121, 3) := by decide +kernel
theorem dX12_findWithin_35 : decode cX12_findWithin 35 = .ok (.ifCond .eq 7, 3) := by decide +kernel
theorem dX12_findWithin_38 : decode cX12_findWithin 38 = .ok (.lconst 1, 1) := by decide +kernel
theorem dX12_findWithin_39 : decode cX12_findWithin 39 = .ok (.goto 4, 3) := by decide +kernel
theorem dX12_findWithin_42 : decode cX12_findWithin 42 = .ok (.lconst 0, 1) := by decide +kernel
theorem dX12_findWithin_43 : decode cX12_findWithin 43 = .ok (.lastore, 1) := by decide +kernel
theorem dX12_findWithin_44 : decode cX12_findWithin 44 = .ok (.iinc 9 1, 3) := by decide +kernel
theorem dX12_findWithin_47 : decode cX12_findWithin 47 = .ok (.goto (-35), 3) := by decide +kernel
theorem dX12_findWithin_50 : decode cX12_findWithin 50 = .ok (.iconst 0, 1) := by decide +kernel
theorem dX12_findWithin_51 : decode cX12_findWithin 51 = .ok (.istore 9, 2) := by decide +kernel
theorem dX12_findWithin_53 : decode cX12_findWithin 53 = .ok (.iload 9, 2) := by decide +kernel
theorem dX12_findWithin_55 : decode cX12_findWithin 55 = .ok (.iload_n 3, 1) := by decide +kernel
theorem dX12_findWithin_56 : decode cX12_findWithin 56 = .ok (.if_icmp .ge 144, 3) := by decide +kernel
theorem dX12_findWithin_59 : decode cX12_findWithin 59 = .ok (.lload 7, 2) := by decide +kernel
theorem dX12_findWithin_61 : decode cX12_findWithin 61 = .ok (.lload 5, 2) := by decide +kernel
theorem dX12_findWithin_63 : decode cX12_findWithin 63 = .ok (.lmul, 1) := by decide +kernel
