theorem dX12_expected_39 : decode cX12_expected 39 = .ok (.invokevirtual 173, 3) := by decide +kernel
theorem dX12_expected_42 : decode cX12_expected 42 = .ok (.goto 6, 3) := by decide +kernel
theorem dX12_expected_45 : decode cX12_expected 45 = .ok (.ldc2_w 345, 3) := by decide +kernel
theorem dX12_expected_48 : decode cX12_expected 48 = .ok (.lreturn, 1) := by decide +kernel
set_option maxRecDepth 20000 in
theorem ggX12_compared_X12_weightOf : GoodIn wsX12_compared wsX12_weightOf := goodIn_k tie_wsX12_compared tie_wsX12_weightOf (by decide +kernel)
set_option maxRecDepth 20000 in
theorem gX12_compared_X12_weightOf : GoodIn wsX12_compared (wsV RX12 125 RX12 yX12_weightOf wsX12_weightOf) := goodIn_app (goodIn_k (is := [327, 328, 329, 5]) tie_wsX12_compared rfl (by decide +kernel)) ggX12_compared_X12_weightOf
set_option maxRecDepth 20000 in
theorem ggX12_compared_X12_sumOf : GoodIn wsX12_compared wsX12_sumOf := goodIn_k tie_wsX12_compared tie_wsX12_sumOf (by decide +kernel)
set_option maxRecDepth 20000 in
theorem gX12_compared_X12_sumOf : GoodIn wsX12_compared (wsV RX12 143 RX12 yX12_sumOf wsX12_sumOf) := goodIn_app (goodIn_k (is := [431, 432, 433, 5]) tie_wsX12_compared rfl (by decide +kernel)) ggX12_compared_X12_sumOf
theorem dX12_compared_0 : decode cX12_compared 0 = .ok (.aload_n 0, 1) := by decide +kernel
theorem dX12_compared_1 : decode cX12_compared 1 = .ok (.iload_n 1, 1) := by decide +kernel
theorem dX12_compared_2 : decode cX12_compared 2 = .ok (.iload_n 2, 1) := by decide +kernel
theorem dX12_compared_3 : decode cX12_compared 3 = .ok (.invokevirtual 125, 3) := by decide +kernel
theorem dX12_compared_6 : decode cX12_compared 6 = .ok (.i2l, 1) := by decide +kernel
theorem dX12_compared_7 : decode cX12_compared 7 = .ok (.aload_n 0, 1) := by decide +kernel
theorem dX12_compared_8 : decode cX12_compared 8 = .ok (.getfield 77, 3) := by decide +kernel
theorem dX12_compared_11 : decode cX12_compared 11 = .ok (.iload_n 2, 1) := by decide +kernel
theorem dX12_compared_12 : decode cX12_compared 12 = .ok (.laload, 1) := by decide +kernel
theorem dX12_compared_13 : decode cX12_compared 13 = .ok (.lmul, 1) := by decide +kernel
theorem dX12_compared_14 : decode cX12_compared 14 = .ok (.aload_n 0, 1) := by decide +kernel
theorem dX12_compared_15 : decode cX12_compared 15 = .ok (.getfield 80, 3) := by decide +kernel
theorem dX12_compared_18 : decode cX12_compared 18 = .ok (.iload_n 1, 1) := by decide +kernel
theorem dX12_compared_19 : decode cX12_compared 19 = .ok (.laload, 1) := by decide +kernel
theorem dX12_compared_20 : decode cX12_compared 20 = .ok (.lmul, 1) := by decide +kernel
theorem dX12_compared_21 : decode cX12_compared 21 = .ok (.lstore_n 3, 1) := by decide +kernel
theorem dX12_compared_22 : decode cX12_compared 22 = .ok (.aload_n 0, 1) := by decide +kernel
theorem dX12_compared_23 : decode cX12_compared 23 = .ok (.getfield 77, 3) := by decide +kernel
theorem dX12_compared_26 : decode cX12_compared 26 = .ok (.iload_n 1, 1) := by decide +kernel
theorem dX12_compared_27 : decode cX12_compared 27 = .ok (.laload, 1) := by decide +kernel
theorem dX12_compared_28 : decode cX12_compared 28 = .ok (.aload_n 0, 1) := by decide +kernel
theorem dX12_compared_29 : decode cX12_compared 29 = .ok (.iload_n 1, 1) := by decide +kernel
theorem dX12_compared_30 : decode cX12_compared 30 = .ok (.invokevirtual 143, 3) := by decide +kernel
theorem dX12_compared_33 : decode cX12_compared 33 = .ok (.i2l, 1) := by decide +kernel
theorem dX12_compared_34 : decode cX12_compared 34 = .ok (.lmul, 1) := by decide +kernel
theorem dX12_compared_35 : decode cX12_compared 35 = .ok (.aload_n 0, 1) := by decide +kernel
theorem dX12_compared_36 : decode cX12_compared 36 = .ok (.getfield 80, 3) := by decide +kernel
theorem dX12_compared_39 : decode cX12_compared 39 = .ok (.iload_n 2, 1) := by decide +kernel
theorem dX12_compared_40 : decode cX12_compared 40 = .ok (.laload, 1) := by decide +kernel
theorem dX12_compared_41 : decode cX12_compared 41 = .ok (.lmul, 1) := by decide +kernel
theorem dX12_compared_42 : decode cX12_compared 42 = .ok (.lstore 5, 2) := by decide +kernel
theorem dX12_compared_44 : decode cX12_compared 44 = .ok (.lload_n 3, 1) := by decide +kernel
theorem dX12_compared_45 : decode cX12_compared 45 = .ok (.lload 5, 2) := by decide +kernel
theorem dX12_compared_47 : decode cX12_compared 47 = .ok (.lcmp, 1) := by decide +kernel
theorem dX12_compared_48 : decode cX12_compared 48 = .ok (.ifCond .eq 16, 3) := by decide +kernel
theorem dX12_compared_51 : decode cX12_compared 51 = .ok (.lload_n 3, 1) := by decide +kernel
theorem dX12_compared_52 : decode cX12_compared 52 = .ok (.lload 5, 2) := by decide +kernel
theorem dX12_compared_54 : decode cX12_compared 54 = .ok (.lcmp, 1) := by decide +kernel
theorem dX12_compared_55 : decode cX12_compared 55 = .ok (.ifCond .le 7, 3) := by decide +kernel
theorem dX12_compared_58 : decode cX12_compared 58 = .ok (.iconst 1, 1) := by decide +kernel
theorem dX12_compared_59 : decode cX12_compared 59 = .ok (.goto 4, 3) := by decide +kernel
theorem dX12_compared_62 : decode cX12_compared 62 = .ok (.iconst (-1), 1) := by decide +kernel
theorem dX12_compared_63 : decode cX12_compared 63 = .ok (.ireturn, 1) := by decide +kernel
theorem dX12_compared_64 : decode cX12_compared 64 = .ok (.aload_n 0, 1) := by decide +kernel
theorem dX12_compared_65 : decode cX12_compared 65 = .ok (.getfield 83, 3) := by decide +kernel
theorem dX12_compared_68 : decode cX12_compared 68 = .ok (.iload_n 2, 1) := by decide +kernel
theorem dX12_compared_69 : decode cX12_compared 69 = .ok (.iaload, 1) := by decide +kernel
theorem dX12_compared_70 : decode cX12_compared 70 = .ok (.iconst 1, 1) := by decide +kernel
theorem dX12_compared_71 : decode cX12_compared 71 = .ok (.iadd, 1) := by decide +kernel
theorem dX12_compared_72 : decode cX12_compared 72 = .ok (.aload_n 0, 1) := by decide +kernel
theorem dX12_compared_73 : decode cX12_compared 73 = .ok (.getfield 83, 3) := by decide +kernel
theorem dX12_compared_76 : decode cX12_compared 76 = .ok (.iload_n 1, 1) := by decide +kernel
theorem dX12_compared_77 : decode cX12_compared 77 = .ok (.iaload, 1) := by decide +kernel
theorem dX12_compared_78 : decode cX12_compared 78 = .ok (.if_icmp .ge 7, 3) := by decide +kernel
theorem dX12_compared_81 : decode cX12_compared 81 = .ok (.iconst 1, 1) := by decide +kernel
theorem dX12_compared_82 : decode cX12_compared 82 = .ok (.goto 25, 3) := by decide +kernel
theorem dX12_compared_85 : decode cX12_compared 85 = .ok (.aload_n 0, 1) := by decide +kernel
theorem dX12_compared_86 : decode cX12_compared 86 = .ok (.getfield 83, 3) := by decide +kernel
theorem dX12_compared_89 : decode cX12_compared 89 = .ok (.iload_n 2, 1) := by decide +kernel
theorem dX12_compared_90 : decode cX12_compared 90 = .ok (.iaload, 1) := by decide +kernel
theorem dX12_compared_91 : decode cX12_compared 91 = .ok (.iconst 1, 1) := by decide +kernel
theorem dX12_compared_92 : decode cX12_compared 92 = .ok (.iadd, 1) := by decide +kernel
theorem dX12_compared_93 : decode cX12_compared 93 = .ok (.aload_n 0, 1) := by decide +kernel
theorem dX12_compared_94 : decode cX12_compared 94 = .ok (.getfield 83, 3) := by decide +kernel
theorem dX12_compared_97 : decode cX12_compared 97 = .ok (.iload_n 1, 1) := by decide +kernel
theorem dX12_compared_98 : decode cX12_compared 98 = .ok (.iaload, 1) := by decide +kernel
theorem dX12_compared_99 : decode cX12_compared 99 = .ok (.if_icmp .le 7, 3) := by decide +kernel
theorem dX12_compared_102 : decode cX12_compared 102 = .ok (.iconst (-1), 1) := by decide +kernel
theorem dX12_compared_103 : decode cX12_compared 103 = .ok (.goto 4, 3) := by decide +kernel
theorem dX12_compared_106 : decode cX12_compared 106 = .ok (.iconst 0, 1) := by decide +kernel
theorem dX12_compared_107 : decode cX12_compared 107 = .ok (.ireturn, 1) := by decide +kernel
set_option maxRecDepth 20000 in
theorem ggX12_findBest_X12_has : GoodIn wsX12_findBest wsX12_has := goodIn_k tie_wsX12_findBest tie_wsX12_has (by decide +kernel)
set_option maxRecDepth 20000 in
theorem gX12_findBest_X12_has : GoodIn wsX12_findBest (va_wsS RX12 121 yX12_has wsX12_has) := goodIn_app (goodIn_k (is := [324, 325, 5]) tie_wsX12_findBest rfl (by decide +kernel)) ggX12_findBest_X12_has
set_option maxRecDepth 20000 in
theorem ggX12_findBest_X12_weightOf : GoodIn wsX12_findBest wsX12_weightOf := goodIn_k tie_wsX12_findBest tie_wsX12_weightOf (by decide +kernel)
set_option maxRecDepth 20000 in
theorem gX12_findBest_X12_weightOf : GoodIn wsX12_findBest (wsV RX12 125 RX12 yX12_weightOf wsX12_weightOf) := goodIn_app (goodIn_k (is := [327, 328, 329, 5]) tie_wsX12_findBest rfl (by decide +kernel)) ggX12_findBest_X12_weightOf
set_option maxRecDepth 20000 in
theorem ggX12_findBest_X12_compared : GoodIn wsX12_findBest wsX12_compared := goodIn_k tie_wsX12_findBest tie_wsX12_compared (by decide +kernel)
set_option maxRecDepth 20000 in
theorem gX12_findBest_X12_compared : GoodIn wsX12_findBest (wsV RX12 347 RX12 yX12_compared wsX12_compared) := goodIn_app (goodIn_k (is := [1294, 1295, 1296, 5]) tie_wsX12_findBest rfl (by decide +kernel)) ggX12_findBest_X12_compared
set_option maxRecDepth 20000 in
theorem ggX12_findBest_X12_sumOf : GoodIn wsX12_findBest wsX12_sumOf := goodIn_k tie_wsX12_findBest tie_wsX12_sumOf (by decide +kernel)
set_option maxRecDepth 20000 in
theorem gX12_findBest_X12_sumOf : GoodIn wsX12_findBest (wsV RX12 143 RX12 yX12_sumOf wsX12_sumOf) := goodIn_app (goodIn_k (is := [431, 432, 433, 5]) tie_wsX12_findBest rfl (by decide +kernel)) ggX12_findBest_X12_sumOf
set_option maxRecDepth 20000 in
theorem ggX12_findBest_X12_give : GoodIn wsX12_findBest wsX12_give := goodIn_k tie_wsX12_findBest tie_wsX12_give (by decide +kernel)
set_option maxRecDepth 20000 in
theorem gX12_findBest_X12_give : GoodIn wsX12_findBest (wsV RX12 169 RX12 yX12_give wsX12_give) := goodIn_app (goodIn_k (is := [482, 483, 484, 5]) tie_wsX12_findBest rfl (by decide +kernel)) ggX12_findBest_X12_give
theorem dX12_findBest_0 : decode cX12_findBest 0 = .ok (.iconst 0, 1) := by decide +kernel
theorem dX12_findBest_1 : decode cX12_findBest 1 = .ok (.istore_n 3, 1) := by decide +kernel
theorem dX12_findBest_2 : decode cX12_findBest 2 = .ok (.iload_n 3, 1) := by decide +kernel
theorem dX12_findBest_3 : decode cX12_findBest 3 = .ok (.aload_n 0, 1) := by decide +kernel
theorem dX12_findBest_4 : decode cX12_findBest 4 = .ok (.getfield 9, 3) := by decide +kernel
theorem dX12_findBest_7 : decode cX12_findBest 7 = .ok (.iconst 0, 1) := by decide +kernel
theorem dX12_findBest_8 : decode cX12_findBest 8 = .ok (.iaload, 1) := by decide +kernel
theorem dX12_findBest_9 : decode cX12_findBest 9 = .ok (.if_icmp .ge 55, 3) := by decide +kernel
theorem dX12_findBest_12 : decode cX12_findBest 12 = .ok (.aload_n 0, 1) := by decide +kernel
theorem dX12_findBest_13 : decode cX12_findBest 13 = .ok (.getfield 77, 3) := by decide +kernel
theorem dX12_findBest_16 : decode cX12_findBest 16 = .ok (.iload_n 3, 1) := by decide +kernel
theorem dX12_findBest_17 : decode cX12_findBest 17 = .ok (.iload_n 2, 1) := by decide +kernel
theorem dX12_findBest_18 : decode cX12_findBest 18 = .ok (.iload_n 3, 1) := by decide +kernel
theorem dX12_findBest_19 : decode cX12_findBest 19 = .ok (.invokestatic 121, 3) := by decide +kernel
theorem dX12_findBest_22 : decode cX12_findBest 22 = .ok (.ifCond .eq 7, 3) := by decide +kernel
theorem dX12_findBest_25 : decode cX12_findBest 25 = .ok (.lconst 1, 1) := by decide +kernel
theorem dX12_findBest_26 : decode cX12_findBest 26 = .ok (.goto 4, 3) := by decide +kernel
theorem dX12_findBest_29 : decode cX12_findBest 29 = .ok (.lconst 0, 1) := by decide +kernel
theorem dX12_findBest_30 : decode cX12_findBest 30 = .ok (.lastore, 1) := by decide +kernel
theorem dX12_findBest_31 : decode cX12_findBest 31 = .ok (.aload_n 0, 1) := by decide +kernel
theorem dX12_findBest_32 : decode cX12_findBest 32 = .ok (.getfield 80, 3) := by decide +kernel
theorem dX12_findBest_35 : decode cX12_findBest 35 = .ok (.iload_n 3, 1) := by decide +kernel
theorem dX12_findBest_36 : decode cX12_findBest 36 = .ok (.lconst 1, 1) := by decide +kernel
theorem dX12_findBest_37 : decode cX12_findBest 37 = .ok (.lastore, 1) := by decide +kernel
theorem dX12_findBest_38 : decode cX12_findBest 38 = .ok (.aload_n 0, 1) := by decide +kernel
theorem dX12_findBest_39 : decode cX12_findBest 39 = .ok (.getfield 83, 3) := by decide +kernel
theorem dX12_findBest_42 : decode cX12_findBest 42 = .ok (.iload_n 3, 1) := by decide +kernel
theorem dX12_findBest_43 : decode cX12_findBest 43 = .ok (.iload_n 2, 1) := by decide +kernel
theorem dX12_findBest_44 : decode cX12_findBest 44 = .ok (.iload_n 3, 1) := by decide +kernel
theorem dX12_findBest_45 : decode cX12_findBest 45 = .ok (.invokestatic 121, 3) := by decide +kernel
theorem dX12_findBest_48 : decode cX12_findBest 48 = .ok (.ifCond .eq 7, 3) := by decide +kernel
theorem dX12_findBest_51 : decode cX12_findBest 51 = .ok (.iconst 0, 1) := by decide +kernel
theorem dX12_findBest_52 : decode cX12_findBest 52 = .ok (.goto 5, 3) := by decide +kernel
theorem dX12_findBest_55 : decode cX12_findBest 55 = .ok (.bipush 8, 2) := by decide +kernel
theorem dX12_findBest_57 : decode cX12_findBest 57 = .ok (.iastore, 1) := by decide +kernel
theorem dX12_findBest_58 : decode cX12_findBest 58 = .ok (.iinc 3 1, 3) := by decide +kernel
theorem dX12_findBest_61 : decode cX12_findBest 61 = .ok (.goto (-59), 3) := by decide +kernel
theorem dX12_findBest_64 : decode cX12_findBest 64 = .ok (.iconst 1, 1) := by decide +kernel
theorem dX12_findBest_65 : decode cX12_findBest 65 = .ok (.istore_n 3, 1) := by decide +kernel
theorem dX12_findBest_66 : decode cX12_findBest 66 = .ok (.iload_n 3, 1) := by decide +kernel
theorem dX12_findBest_67 : decode cX12_findBest 67 = .ok (.ifCond .eq 171, 3) := by decide +kernel
theorem dX12_findBest_70 : decode cX12_findBest 70 = .ok (.iconst 0, 1) := by decide +kernel
theorem dX12_findBest_71 : decode cX12_findBest 71 = .ok (.istore_n 3, 1) := by decide +kernel
theorem dX12_findBest_72 : decode cX12_findBest 72 = .ok (.iconst 0, 1) := by decide +kernel
theorem dX12_findBest_73 : decode cX12_findBest 73 = .ok (.istore 4, 2) := by decide +kernel
theorem dX12_findBest_75 : decode cX12_findBest 75 = .ok (.iload 4, 2) := by decide +kernel
theorem dX12_findBest_77 : decode cX12_findBest 77 = .ok (.aload_n 0, 1) := by decide +kernel
theorem dX12_findBest_78 : decode cX12_findBest 78 = .ok (.getfield 9, 3) := by decide +kernel
theorem dX12_findBest_81 : decode cX12_findBest 81 = .ok (.iconst 0, 1) := by decide +kernel
theorem dX12_findBest_82 : decode cX12_findBest 82 = .ok (.iaload, 1) := by decide +kernel
theorem dX12_findBest_83 : decode cX12_findBest 83 = .ok (.if_icmp .ge 152, 3) := by decide +kernel
theorem dX12_findBest_86 : decode cX12_findBest 86 = .ok (.iconst 0, 1) := by decide +kernel
theorem dX12_findBest_87 : decode cX12_findBest 87 = .ok (.istore 5, 2) := by decide +kernel
theorem dX12_findBest_89 : decode cX12_findBest 89 = .ok (.iload 5, 2) := by decide +kernel
theorem dX12_findBest_91 : decode cX12_findBest 91 = .ok (.aload_n 0, 1) := by decide +kernel
theorem dX12_findBest_92 : decode cX12_findBest 92 = .ok (.getfield 9, 3) := by decide +kernel
theorem dX12_findBest_95 : decode cX12_findBest 95 = .ok (.iconst 0, 1) := by decide +kernel
theorem dX12_findBest_96 : decode cX12_findBest 96 = .ok (.iaload, 1) := by decide +kernel
theorem dX12_findBest_97 : decode cX12_findBest 97 = .ok (.if_icmp .ge 132, 3) := by decide +kernel
theorem dX12_findBest_100 : decode cX12_findBest 100 = .ok (.iload_n 1, 1) := by decide +kernel
theorem dX12_findBest_101 : decode cX12_findBest 101 = .ok (.iload_n 2, 1) := by decide +kernel
theorem dX12_findBest_102 : decode cX12_findBest 102 = .ok (.iconst (-1), 1) := by decide +kernel
theorem dX12_findBest_103 : decode cX12_findBest 103 = .ok (.ixor, 1) := by decide +kernel
theorem dX12_findBest_104 : decode cX12_findBest 104 = .ok (.iand, 1) := by decide +kernel
theorem dX12_findBest_105 : decode cX12_findBest 105 = .ok (.iload 4, 2) := by decide +kernel
theorem dX12_findBest_107 : decode cX12_findBest 107 = .ok (.invokestatic 121, 3) := by decide +kernel
theorem dX12_findBest_110 : decode cX12_findBest 110 = .ok (.ifCond .eq 119, 3) := by decide +kernel
theorem dX12_findBest_113 : decode cX12_findBest 113 = .ok (.aload_n 0, 1) := by decide +kernel
theorem dX12_findBest_114 : decode cX12_findBest 114 = .ok (.iload 4, 2) := by decide +kernel
theorem dX12_findBest_116 : decode cX12_findBest 116 = .ok (.iload 5, 2) := by decide +kernel
theorem dX12_findBest_118 : decode cX12_findBest 118 = .ok (.invokevirtual 125, 3) := by decide +kernel
theorem dX12_findBest_121 : decode cX12_findBest 121 = .ok (.ifCond .le 102, 3) := by decide +kernel
theorem dX12_findBest_124 : decode cX12_findBest 124 = .ok (.aload_n 0, 1) := by decide +kernel
theorem dX12_findBest_125 : decode cX12_findBest 125 = .ok (.getfield 77, 3) := by decide +kernel
theorem dX12_findBest_128 : decode cX12_findBest 128 = .ok (.iload 5, 2) := by decide +kernel
theorem dX12_findBest_130 : decode cX12_findBest 130 = .ok (.laload, 1) := by decide +kernel
theorem dX12_findBest_131 : decode cX12_findBest 131 = .ok (.lconst 0, 1) := by decide +kernel
theorem dX12_findBest_132 : decode cX12_findBest 132 = .ok (.lcmp, 1) := by decide +kernel
theorem dX12_findBest_133 : decode cX12_findBest 133 = .ok (.ifCond .le 90, 3) := by decide +kernel
theorem dX12_findBest_136 : decode cX12_findBest 136 = .ok (.aload_n 0, 1) := by decide +kernel
theorem dX12_findBest_137 : decode cX12_findBest 137 = .ok (.iload 4, 2) := by decide +kernel
theorem dX12_findBest_139 : decode cX12_findBest 139 = .ok (.iload 5, 2) := by decide +kernel
theorem dX12_findBest_141 : decode cX12_findBest 141 = .ok (.invokevirtual 347, 3) := by decide +kernel
theorem dX12_findBest_144 : decode cX12_findBest 144 = .ok (.ifCond .le 79, 3) := by decide +kernel
theorem dX12_findBest_147 : decode cX12_findBest 147 = .ok (.aload_n 0, 1) := by decide +kernel
theorem dX12_findBest_148 : decode cX12_findBest 148 = .ok (.aload_n 0, 1) := by decide +kernel
theorem dX12_findBest_149 : decode cX12_findBest 149 = .ok (.iload 4, 2) := by decide +kernel
theorem dX12_findBest_151 : decode cX12_findBest 151 = .ok (.iload 5, 2) := by decide +kernel
theorem dX12_findBest_153 : decode cX12_findBest 153 = .ok (.invokevirtual 125, 3) := by decide +kernel
theorem dX12_findBest_156 : decode cX12_findBest 156 = .ok (.i2l, 1) := by decide +kernel
theorem dX12_findBest_157 : decode cX12_findBest 157 = .ok (.aload_n 0, 1) := by decide +kernel
theorem dX12_findBest_158 : decode cX12_findBest 158 = .ok (.getfield 77, 3) := by decide +kernel
theorem dX12_findBest_161 : decode cX12_findBest 161 = .ok (.iload 5, 2) := by decide +kernel
theorem dX12_findBest_163 : decode cX12_findBest 163 = .ok (.laload, 1) := by decide +kernel
theorem dX12_findBest_164 : decode cX12_findBest 164 = .ok (.lmul, 1) := by decide +kernel
theorem dX12_findBest_165 : decode cX12_findBest 165 = .ok (.aload_n 0, 1) := by decide +kernel
theorem dX12_findBest_166 : decode cX12_findBest 166 = .ok (.iload 4, 2) := by decide +kernel
theorem dX12_findBest_168 : decode cX12_findBest 168 = .ok (.invokevirtual 143, 3) := by decide +kernel
theorem dX12_findBest_171 : decode cX12_findBest 171 = .ok (.i2l, 1) := by decide +kernel
theorem dX12_findBest_172 : decode cX12_findBest 172 = .ok (.aload_n 0, 1) := by decide +kernel
theorem dX12_findBest_173 : decode cX12_findBest 173 = .ok (.getfield 80, 3) := by decide +kernel
theorem dX12_findBest_176 : decode cX12_findBest 176 = .ok (.iload 5, 2) := by decide +kernel
theorem dX12_findBest_178 : decode cX12_findBest 178 = .ok (.laload, 1) := by decide +kernel
theorem dX12_findBest_179 : decode cX12_findBest 179 = .ok (.lmul, 1) := by decide +kernel
theorem dX12_findBest_180 : decode cX12_findBest 180 = .ok (.invokevirtual 169, 3) := by decide +kernel
theorem dX12_findBest_183 : decode cX12_findBest 183 = .ok (.aload_n 0, 1) := by decide +kernel
theorem dX12_findBest_184 : decode cX12_findBest 184 = .ok (.getfield 77, 3) := by decide +kernel
theorem dX12_findBest_187 : decode cX12_findBest 187 = .ok (.iload 4, 2) := by decide +kernel
theorem dX12_findBest_189 : decode cX12_findBest 189 = .ok (.aload_n 0, 1) := by decide +kernel
theorem dX12_findBest_190 : decode cX12_findBest 190 = .ok (.getfield 157, 3) := by decide +kernel
theorem dX12_findBest_193 : decode cX12_findBest 193 = .ok (.lastore, 1) := by decide +kernel
theorem dX12_findBest_194 : decode cX12_findBest 194 = .ok (.aload_n 0, 1) := by decide +kernel
theorem dX12_findBest_195 : decode cX12_findBest 195 = .ok (.getfield 80, 3) := by decide +kernel
theorem dX12_findBest_198 : decode cX12_findBest 198 = .ok (.iload 4, 2) := by decide +kernel
theorem dX12_findBest_200 : decode cX12_findBest 200 = .ok (.aload_n 0, 1) := by decide +kernel
theorem dX12_findBest_201 : decode cX12_findBest 201 = .ok (.getfield 161, 3) := by decide +kernel
theorem dX12_findBest_204 : decode cX12_findBest 204 = .ok (.lastore, 1) := by decide +kernel
theorem dX12_findBest_205 : decode cX12_findBest 205 = .ok (.aload_n 0, 1) := by decide +kernel
theorem dX12_findBest_206 : decode cX12_findBest 206 = .ok (.getfield 83, 3) := by decide +kernel
theorem dX12_findBest_209 : decode cX12_findBest 209 = .ok (.iload 4, 2) := by decide +kernel
theorem dX12_findBest_211 : decode cX12_findBest 211 = .ok (.aload_n 0, 1) := by decide +kernel
theorem dX12_findBest_212 : decode cX12_findBest 212 = .ok (.getfield 83, 3) := by decide +kernel
theorem dX12_findBest_215 : decode cX12_findBest 215 = .ok (.iload 5, 2) := by decide +kernel
theorem dX12_findBest_217 : decode cX12_findBest 217 = .ok (.iaload, 1) := by decide +kernel
theorem dX12_findBest_218 : decode cX12_findBest 218 = .ok (.iconst 1, 1) := by decide +kernel
theorem dX12_findBest_219 : decode cX12_findBest 219 = .ok (.iadd, 1) := by decide +kernel
theorem dX12_findBest_220 : decode cX12_findBest 220 = .ok (.iastore, 1) := by decide +kernel
theorem dX12_findBest_221 : decode cX12_findBest 221 = .ok (.iconst 1, 1) := by decide +kernel
theorem dX12_findBest_222 : decode cX12_findBest 222 = .ok (.istore_n 3, 1) := by decide +kernel
theorem dX12_findBest_223 : decode cX12_findBest 223 = .ok (.iinc 5 1, 3) := by decide +kernel
theorem dX12_findBest_226 : decode cX12_findBest 226 = .ok (.goto (-137), 3) := by decide +kernel
theorem dX12_findBest_229 : decode cX12_findBest 229 = .ok (.iinc 4 1, 3) := by decide +kernel
theorem dX12_findBest_232 : decode cX12_findBest 232 = .ok (.goto (-157), 3) := by decide +kernel
theorem dX12_findBest_235 : decode cX12_findBest 235 = .ok (.goto (-169), 3) := by decide +kernel
theorem dX12_findBest_238 : decode cX12_findBest 238 = .ok (.return_, 1) := by decide +kernel
set_option maxRecDepth 20000 in
theorem ggX12_nextOnBest_X12_weightOf : GoodIn wsX12_nextOnBest wsX12_weightOf := goodIn_k tie_wsX12_nextOnBest tie_wsX12_weightOf (by decide +kernel)
set_option maxRecDepth 20000 in
theorem gX12_nextOnBest_X12_weightOf : GoodIn wsX12_nextOnBest (wsV RX12 125 RX12 yX12_weightOf wsX12_weightOf) := goodIn_app (goodIn_k (is := [327, 328, 329, 5]) tie_wsX12_nextOnBest rfl (by decide +kernel)) ggX12_nextOnBest_X12_weightOf
set_option maxRecDepth 20000 in
theorem ggX12_nextOnBest_X12_compared : GoodIn wsX12_nextOnBest wsX12_compared := goodIn_k tie_wsX12_nextOnBest tie_wsX12_compared (by decide +kernel)
set_option maxRecDepth 20000 in
theorem gX12_nextOnBest_X12_compared : GoodIn wsX12_nextOnBest (wsV RX12 347 RX12 yX12_compared wsX12_compared) := goodIn_app (goodIn_k (is := [1294, 1295, 1296, 5]) tie_wsX12_nextOnBest rfl (by decide +kernel)) ggX12_nextOnBest_X12_compared
theorem dX12_nextOnBest_0 : decode cX12_nextOnBest 0 = .ok (.iconst 0, 1) := by decide +kernel
theorem dX12_nextOnBest_1 : decode cX12_nextOnBest 1 = .ok (.istore_n 2, 1) := by decide +kernel
theorem dX12_nextOnBest_2 : decode cX12_nextOnBest 2 = .ok (.aload_n 0, 1) := by decide +kernel
theorem dX12_nextOnBest_3 : decode cX12_nextOnBest 3 = .ok (.iload_n 1, 1) := by decide +kernel
theorem dX12_nextOnBest_4 : decode cX12_nextOnBest 4 = .ok (.iload_n 2, 1) := by decide +kernel
theorem dX12_nextOnBest_5 : decode cX12_nextOnBest 5 = .ok (.invokevirtual 125, 3) := by decide +kernel
theorem dX12_nextOnBest_8 : decode cX12_nextOnBest 8 = .ok (.ifCond .eq 23, 3) := by decide +kernel
theorem dX12_nextOnBest_11 : decode cX12_nextOnBest 11 = .ok (.aload_n 0, 1) := by decide +kernel
theorem dX12_nextOnBest_12 : decode cX12_nextOnBest 12 = .ok (.getfield 77, 3) := by decide +kernel
theorem dX12_nextOnBest_15 : decode cX12_nextOnBest 15 = .ok (.iload_n 2, 1) := by decide +kernel
theorem dX12_nextOnBest_16 : decode cX12_nextOnBest 16 = .ok (.laload, 1) := by decide +kernel
theorem dX12_nextOnBest_17 : decode cX12_nextOnBest 17 = .ok (.lconst 0, 1) := by decide +kernel
theorem dX12_nextOnBest_18 : decode cX12_nextOnBest 18 = .ok (.lcmp, 1) := by decide +kernel
theorem dX12_nextOnBest_19 : decode cX12_nextOnBest 19 = .ok (.ifCond .eq 12, 3) := by decide +kernel
theorem dX12_nextOnBest_22 : decode cX12_nextOnBest 22 = .ok (.aload_n 0, 1) := by decide +kernel
theorem dX12_nextOnBest_23 : decode cX12_nextOnBest 23 = .ok (.iload_n 1, 1) := by decide +kernel
theorem dX12_nextOnBest_24 : decode cX12_nextOnBest 24 = .ok (.iload_n 2, 1) := by decide +kernel
theorem dX12_nextOnBest_25 : decode cX12_nextOnBest 25 = .ok (.invokevirtual 347, 3) := by decide +kernel
theorem dX12_nextOnBest_28 : decode cX12_nextOnBest 28 = .ok (.ifCond .eq 9, 3) := by decide +kernel
theorem dX12_nextOnBest_31 : decode cX12_nextOnBest 31 = .ok (.iinc 2 1, 3) := by decide +kernel
theorem dX12_nextOnBest_34 : decode cX12_nextOnBest 34 = .ok (.goto (-32), 3) := by decide +kernel
theorem dX12_nextOnBest_37 : decode cX12_nextOnBest 37 = .ok (.iload_n 2, 1) := by decide +kernel
theorem dX12_nextOnBest_38 : decode cX12_nextOnBest 38 = .ok (.ireturn, 1) := by decide +kernel
set_option maxRecDepth 20000 in
theorem ggX12_bestPath_X12_isState : GoodIn wsX12_bestPath wsX12_isState := goodIn_k tie_wsX12_bestPath tie_wsX12_isState (by decide +kernel)
set_option maxRecDepth 20000 in
theorem gX12_bestPath_X12_isState : GoodIn wsX12_bestPath (wsV RX12 103 RX12 yX12_isState wsX12_isState) := goodIn_app (goodIn_k (is := [233, 234, 235, 5]) tie_wsX12_bestPath rfl (by decide +kernel)) ggX12_bestPath_X12_isState
set_option maxRecDepth 20000 in
theorem ggX12_bestPath_X12_hindersSets : GoodIn wsX12_bestPath wsX12_hindersSets := goodIn_k tie_wsX12_bestPath tie_wsX12_hindersSets (by decide +kernel)
set_option maxRecDepth 20000 in
theorem gX12_bestPath_X12_hindersSets : GoodIn wsX12_bestPath (wsV RX12 342 RX12 yX12_hindersSets wsX12_hindersSets) := goodIn_app (goodIn_k (is := [1208, 1209, 1210, 5]) tie_wsX12_bestPath rfl (by decide +kernel)) ggX12_bestPath_X12_hindersSets
set_option maxRecDepth 20000 in
theorem ggX12_bestPath_X12_setOf : GoodIn wsX12_bestPath wsX12_setOf := goodIn_k tie_wsX12_bestPath tie_wsX12_setOf (by decide +kernel)
set_option maxRecDepth 20000 in
theorem gX12_bestPath_X12_setOf : GoodIn wsX12_bestPath (wsV RX12 328 RX12 yX12_setOf wsX12_setOf) := goodIn_app (goodIn_k (is := [1088, 1089, 1090, 5]) tie_wsX12_bestPath rfl (by decide +kernel)) ggX12_bestPath_X12_setOf
set_option maxRecDepth 20000 in
theorem ggX12_bestPath_X12_findBest : GoodIn wsX12_bestPath wsX12_findBest := goodIn_k tie_wsX12_bestPath tie_wsX12_findBest (by decide +kernel)
set_option maxRecDepth 20000 in
theorem gX12_bestPath_X12_findBest : GoodIn wsX12_bestPath (wsV RX12 350 RX12 yX12_findBest wsX12_findBest) := goodIn_app (goodIn_k (is := [1290, 1291, 1292, 5]) tie_wsX12_bestPath rfl (by decide +kernel)) ggX12_bestPath_X12_findBest
set_option maxRecDepth 20000 in
theorem ggX12_bestPath_X12_nextOnBest : GoodIn wsX12_bestPath wsX12_nextOnBest := goodIn_k tie_wsX12_bestPath tie_wsX12_nextOnBest (by decide +kernel)
set_option maxRecDepth 20000 in
theorem gX12_bestPath_X12_nextOnBest : GoodIn wsX12_bestPath (wsV RX12 353 RX12 yX12_nextOnBest wsX12_nextOnBest) := goodIn_app (goodIn_k (is := [1298, 1299, 1300, 5]) tie_wsX12_bestPath rfl (by decide +kernel)) ggX12_bestPath_X12_nextOnBest
theorem dX12_bestPath_0 : decode cX12_bestPath 0 = .ok (.iload 4, 2) := by decide +kernel
theorem dX12_bestPath_2 : decode cX12_bestPath 2 = .ok (.iconst (-1), 1) := by decide +kernel
theorem dX12_bestPath_3 : decode cX12_bestPath 3 = .ok (.if_icmp .lt 11, 3) := by decide +kernel
theorem dX12_bestPath_6 : decode cX12_bestPath 6 = .ok (.aload_n 0, 1) := by decide +kernel
theorem dX12_bestPath_7 : decode cX12_bestPath 7 = .ok (.iload_n 3, 1) := by decide +kernel
theorem dX12_bestPath_8 : decode cX12_bestPath 8 = .ok (.invokevirtual 103, 3) := by decide +kernel
theorem dX12_bestPath_11 : decode cX12_bestPath 11 = .ok (.ifCond .ne 5, 3) := by decide +kernel
theorem dX12_bestPath_14 : decode cX12_bestPath 14 = .ok (.iconst (-1), 1) := by decide +kernel
theorem dX12_bestPath_15 : decode cX12_bestPath 15 = .ok (.ireturn, 1) := by decide +kernel
theorem dX12_bestPath_16 : decode cX12_bestPath 16 = .ok (.aload_n 0, 1) := by decide +kernel
theorem dX12_bestPath_17 : decode cX12_bestPath 17 = .ok (.iload_n 1, 1) := by decide +kernel
theorem dX12_bestPath_18 : decode cX12_bestPath 18 = .ok (.iload_n 2, 1) := by decide +kernel
theorem dX12_bestPath_19 : decode cX12_bestPath 19 = .ok (.invokevirtual 342, 3) := by decide +kernel
theorem dX12_bestPath_22 : decode cX12_bestPath 22 = .ok (.istore 5, 2) := by decide +kernel
theorem dX12_bestPath_24 : decode cX12_bestPath 24 = .ok (.iload 5, 2) := by decide +kernel
theorem dX12_bestPath_26 : decode cX12_bestPath 26 = .ok (.ifCond .ge 6, 3) := by decide +kernel
theorem dX12_bestPath_29 : decode cX12_bestPath 29 = .ok (.iload 5, 2) := by decide +kernel
theorem dX12_bestPath_31 : decode cX12_bestPath 31 = .ok (.ireturn, 1) := by decide +kernel
theorem dX12_bestPath_32 : decode cX12_bestPath 32 = .ok (.aload_n 0, 1) := by decide +kernel
theorem dX12_bestPath_33 : decode cX12_bestPath 33 = .ok (.aload_n 0, 1) := by decide +kernel
theorem dX12_bestPath_34 : decode cX12_bestPath 34 = .ok (.aload_n 0, 1) := by decide +kernel
theorem dX12_bestPath_35 : decode cX12_bestPath 35 = .ok (.getfield 62, 3) := by decide +kernel
theorem dX12_bestPath_38 : decode cX12_bestPath 38 = .ok (.iload_n 1, 1) := by decide +kernel
theorem dX12_bestPath_39 : decode cX12_bestPath 39 = .ok (.iaload, 1) := by decide +kernel
theorem dX12_bestPath_40 : decode cX12_bestPath 40 = .ok (.invokevirtual 328, 3) := by decide +kernel
theorem dX12_bestPath_43 : decode cX12_bestPath 43 = .ok (.aload_n 0, 1) := by decide +kernel
theorem dX12_bestPath_44 : decode cX12_bestPath 44 = .ok (.aload_n 0, 1) := by decide +kernel
theorem dX12_bestPath_45 : decode cX12_bestPath 45 = .ok (.getfield 62, 3) := by decide +kernel
theorem dX12_bestPath_48 : decode cX12_bestPath 48 = .ok (.iload_n 2, 1) := by decide +kernel
theorem dX12_bestPath_49 : decode cX12_bestPath 49 = .ok (.iaload, 1) := by decide +kernel
theorem dX12_bestPath_50 : decode cX12_bestPath 50 = .ok (.invokevirtual 328, 3) := by decide +kernel
theorem dX12_bestPath_53 : decode cX12_bestPath 53 = .ok (.invokevirtual 350, 3) := by decide +kernel
theorem dX12_bestPath_56 : decode cX12_bestPath 56 = .ok (.aload_n 0, 1) := by decide +kernel
theorem dX12_bestPath_57 : decode cX12_bestPath 57 = .ok (.getfield 77, 3) := by decide +kernel
theorem dX12_bestPath_60 : decode cX12_bestPath 60 = .ok (.iload_n 3, 1) := by decide +kernel
theorem dX12_bestPath_61 : decode cX12_bestPath 61 = .ok (.laload, 1) := by decide +kernel
theorem dX12_bestPath_62 : decode cX12_bestPath 62 = .ok (.lconst 0, 1) := by decide +kernel
theorem dX12_bestPath_63 : decode cX12_bestPath 63 = .ok (.lcmp, 1) := by decide +kernel
theorem dX12_bestPath_64 : decode cX12_bestPath 64 = .ok (.ifCond .eq 14, 3) := by decide +kernel
theorem dX12_bestPath_67 : decode cX12_bestPath 67 = .ok (.iload 4, 2) := by decide +kernel
theorem dX12_bestPath_69 : decode cX12_bestPath 69 = .ok (.aload_n 0, 1) := by decide +kernel
theorem dX12_bestPath_70 : decode cX12_bestPath 70 = .ok (.getfield 83, 3) := by decide +kernel
theorem dX12_bestPath_73 : decode cX12_bestPath 73 = .ok (.iload_n 3, 1) := by decide +kernel
theorem dX12_bestPath_74 : decode cX12_bestPath 74 = .ok (.iaload, 1) := by decide +kernel
theorem dX12_bestPath_75 : decode cX12_bestPath 75 = .ok (.if_icmp .le 6, 3) := by decide +kernel
theorem dX12_bestPath_78 : decode cX12_bestPath 78 = .ok (.bipush (-2), 2) := by decide +kernel
theorem dX12_bestPath_80 : decode cX12_bestPath 80 = .ok (.ireturn, 1) := by decide +kernel
theorem dX12_bestPath_81 : decode cX12_bestPath 81 = .ok (.iload 4, 2) := by decide +kernel
theorem dX12_bestPath_83 : decode cX12_bestPath 83 = .ok (.ifCond .ge 12, 3) := by decide +kernel
theorem dX12_bestPath_86 : decode cX12_bestPath 86 = .ok (.aload_n 0, 1) := by decide +kernel
theorem dX12_bestPath_87 : decode cX12_bestPath 87 = .ok (.getfield 83, 3) := by decide +kernel
theorem dX12_bestPath_90 : decode cX12_bestPath 90 = .ok (.iload_n 3, 1) := by decide +kernel
theorem dX12_bestPath_91 : decode cX12_bestPath 91 = .ok (.iaload, 1) := by decide +kernel
theorem dX12_bestPath_92 : decode cX12_bestPath 92 = .ok (.iconst 1, 1) := by decide +kernel
theorem dX12_bestPath_93 : decode cX12_bestPath 93 = .ok (.iadd, 1) := by decide +kernel
theorem dX12_bestPath_94 : decode cX12_bestPath 94 = .ok (.ireturn, 1) := by decide +kernel
theorem dX12_bestPath_95 : decode cX12_bestPath 95 = .ok (.iload_n 3, 1) := by decide +kernel
theorem dX12_bestPath_96 : decode cX12_bestPath 96 = .ok (.istore 6, 2) := by decide +kernel
theorem dX12_bestPath_98 : decode cX12_bestPath 98 = .ok (.iconst 0, 1) := by decide +kernel
theorem dX12_bestPath_99 : decode cX12_bestPath 99 = .ok (.istore 7, 2) := by decide +kernel
theorem dX12_bestPath_101 : decode cX12_bestPath 101 = .ok (.iload 7, 2) := by decide +kernel
theorem dX12_bestPath_103 : decode cX12_bestPath 103 = .ok (.iload 4, 2) := by decide +kernel
theorem dX12_bestPath_105 : decode cX12_bestPath 105 = .ok (.if_icmp .ge 17, 3) := by decide +kernel
theorem dX12_bestPath_108 : decode cX12_bestPath 108 = .ok (.aload_n 0, 1) := by decide +kernel
theorem dX12_bestPath_109 : decode cX12_bestPath 109 = .ok (.iload 6, 2) := by decide +kernel
theorem dX12_bestPath_111 : decode cX12_bestPath 111 = .ok (.invokevirtual 353, 3) := by decide +kernel
theorem dX12_bestPath_114 : decode cX12_bestPath 114 = .ok (.istore 6, 2) := by decide +kernel
theorem dX12_bestPath_116 : decode cX12_bestPath 116 = .ok (.iinc 7 1, 3) := by decide +kernel
theorem dX12_bestPath_119 : decode cX12_bestPath 119 = .ok (.goto (-18), 3) := by decide +kernel
theorem dX12_bestPath_122 : decode cX12_bestPath 122 = .ok (.iload 6, 2) := by decide +kernel
theorem dX12_bestPath_124 : decode cX12_bestPath 124 = .ok (.ireturn, 1) := by decide +kernel
set_option maxRecDepth 20000 in
theorem ggX12_bestProduct_X12_hinders : GoodIn wsX12_bestProduct wsX12_hinders := goodIn_k tie_wsX12_bestProduct tie_wsX12_hinders (by decide +kernel)
set_option maxRecDepth 20000 in
theorem gX12_bestProduct_X12_hinders : GoodIn wsX12_bestProduct (wsV RX12 338 RX12 yX12_hinders wsX12_hinders) := goodIn_app (goodIn_k (is := [1175, 1176, 1177, 5]) tie_wsX12_bestProduct rfl (by decide +kernel)) ggX12_bestProduct_X12_hinders
set_option maxRecDepth 20000 in
theorem ggX12_bestProduct_X12_setOf : GoodIn wsX12_bestProduct wsX12_setOf := goodIn_k tie_wsX12_bestProduct tie_wsX12_setOf (by decide +kernel)
set_option maxRecDepth 20000 in
theorem gX12_bestProduct_X12_setOf : GoodIn wsX12_bestProduct (wsV RX12 328 RX12 yX12_setOf wsX12_setOf) := goodIn_app (goodIn_k (is := [1088, 1089, 1090, 5]) tie_wsX12_bestProduct rfl (by decide +kernel)) ggX12_bestProduct_X12_setOf
set_option maxRecDepth 20000 in
theorem ggX12_bestProduct_X12_findBest : GoodIn wsX12_bestProduct wsX12_findBest := goodIn_k tie_wsX12_bestProduct tie_wsX12_findBest (by decide +kernel)
set_option maxRecDepth 20000 in
theorem gX12_bestProduct_X12_findBest : GoodIn wsX12_bestProduct (wsV RX12 350 RX12 yX12_findBest wsX12_findBest) := goodIn_app (goodIn_k (is := [1290, 1291, 1292, 5]) tie_wsX12_bestProduct rfl (by decide +kernel)) ggX12_bestProduct_X12_findBest
theorem dX12_bestProduct_0 : decode cX12_bestProduct 0 = .ok (.aload_n 0, 1) := by decide +kernel
theorem dX12_bestProduct_1 : decode cX12_bestProduct 1 = .ok (.iload_n 1, 1) := by decide +kernel
theorem dX12_bestProduct_2 : decode cX12_bestProduct 2 = .ok (.iload_n 2, 1) := by decide +kernel
theorem dX12_bestProduct_3 : decode cX12_bestProduct 3 = .ok (.iload_n 3, 1) := by decide +kernel
theorem dX12_bestProduct_4 : decode cX12_bestProduct 4 = .ok (.iload 4, 2) := by decide +kernel
theorem dX12_bestProduct_6 : decode cX12_bestProduct 6 = .ok (.invokevirtual 338, 3) := by decide +kernel
theorem dX12_bestProduct_9 : decode cX12_bestProduct 9 = .ok (.istore 5, 2) := by decide +kernel
theorem dX12_bestProduct_11 : decode cX12_bestProduct 11 = .ok (.iload 5, 2) := by decide +kernel
theorem dX12_bestProduct_13 : decode cX12_bestProduct 13 = .ok (.ifCond .ge 7, 3) := by decide +kernel
theorem dX12_bestProduct_16 : decode cX12_bestProduct 16 = .ok (.iload 5, 2) := by decide +kernel
theorem dX12_bestProduct_18 : decode cX12_bestProduct 18 = .ok (.i2l, 1) := by decide +kernel
theorem dX12_bestProduct_19 : decode cX12_bestProduct 19 = .ok (.lreturn, 1) := by decide +kernel
theorem dX12_bestProduct_20 : decode cX12_bestProduct 20 = .ok (.aload_n 0, 1) := by decide +kernel
theorem dX12_bestProduct_21 : decode cX12_bestProduct 21 = .ok (.aload_n 0, 1) := by decide +kernel
theorem dX12_bestProduct_22 : decode cX12_bestProduct 22 = .ok (.aload_n 0, 1) := by decide +kernel
theorem dX12_bestProduct_23 : decode cX12_bestProduct 23 = .ok (.getfield 62, 3) := by decide +kernel
theorem dX12_bestProduct_26 : decode cX12_bestProduct 26 = .ok (.iload_n 1, 1) := by decide +kernel
theorem dX12_bestProduct_27 : decode cX12_bestProduct 27 = .ok (.iaload, 1) := by decide +kernel
theorem dX12_bestProduct_28 : decode cX12_bestProduct 28 = .ok (.invokevirtual 328, 3) := by decide +kernel
theorem dX12_bestProduct_31 : decode cX12_bestProduct 31 = .ok (.aload_n 0, 1) := by decide +kernel
theorem dX12_bestProduct_32 : decode cX12_bestProduct 32 = .ok (.aload_n 0, 1) := by decide +kernel
theorem dX12_bestProduct_33 : decode cX12_bestProduct 33 = .ok (.getfield 62, 3) := by decide +kernel
theorem dX12_bestProduct_36 : decode cX12_bestProduct 36 = .ok (.iload_n 2, 1) := by decide +kernel
theorem dX12_bestProduct_37 : decode cX12_bestProduct 37 = .ok (.iaload, 1) := by decide +kernel
theorem dX12_bestProduct_38 : decode cX12_bestProduct 38 = .ok (.invokevirtual 328, 3) := by decide +kernel
theorem dX12_bestProduct_41 : decode cX12_bestProduct 41 = .ok (.invokevirtual 350, 3) := by decide +kernel
theorem dX12_bestProduct_44 : decode cX12_bestProduct 44 = .ok (.aload_n 0, 1) := by decide +kernel
theorem dX12_bestProduct_45 : decode cX12_bestProduct 45 = .ok (.getfield 77, 3) := by decide +kernel
theorem dX12_bestProduct_48 : decode cX12_bestProduct 48 = .ok (.iload_n 3, 1) := by decide +kernel
theorem dX12_bestProduct_49 : decode cX12_bestProduct 49 = .ok (.laload, 1) := by decide +kernel
theorem dX12_bestProduct_50 : decode cX12_bestProduct 50 = .ok (.lconst 0, 1) := by decide +kernel
theorem dX12_bestProduct_51 : decode cX12_bestProduct 51 = .ok (.lcmp, 1) := by decide +kernel
theorem dX12_bestProduct_52 : decode cX12_bestProduct 52 = .ok (.ifCond .ne 7, 3) := by decide +kernel
theorem dX12_bestProduct_55 : decode cX12_bestProduct 55 = .ok (.ldc2_w 356, 3) := by decide +kernel
theorem dX12_bestProduct_58 : decode cX12_bestProduct 58 = .ok (.lreturn, 1) := by decide +kernel
theorem dX12_bestProduct_59 : decode cX12_bestProduct 59 = .ok (.iload 4, 2) := by decide +kernel
theorem dX12_bestProduct_61 : decode cX12_bestProduct 61 = .ok (.ifCond .ne 12, 3) := by decide +kernel
theorem dX12_bestProduct_64 : decode cX12_bestProduct 64 = .ok (.aload_n 0, 1) := by decide +kernel
theorem dX12_bestProduct_65 : decode cX12_bestProduct 65 = .ok (.getfield 77, 3) := by decide +kernel
theorem dX12_bestProduct_68 : decode cX12_bestProduct 68 = .ok (.iload_n 3, 1) := by decide +kernel
theorem dX12_bestProduct_69 : decode cX12_bestProduct 69 = .ok (.laload, 1) := by decide +kernel
theorem dX12_bestProduct_70 : decode cX12_bestProduct 70 = .ok (.goto 9, 3) := by decide +kernel
theorem dX12_bestProduct_73 : decode cX12_bestProduct 73 = .ok (.aload_n 0, 1) := by decide +kernel
theorem dX12_bestProduct_74 : decode cX12_bestProduct 74 = .ok (.getfield 80, 3) := by decide +kernel
theorem dX12_bestProduct_77 : decode cX12_bestProduct 77 = .ok (.iload_n 3, 1) := by decide +kernel
theorem dX12_bestProduct_78 : decode cX12_bestProduct 78 = .ok (.laload, 1) := by decide +kernel
theorem dX12_bestProduct_79 : decode cX12_bestProduct 79 = .ok (.lreturn, 1) := by decide +kernel
set_option maxRecDepth 20000 in
theorem ggX12_walk_X12_isState : GoodIn wsX12_walk wsX12_isState := goodIn_k tie_wsX12_walk tie_wsX12_isState (by decide +kernel)
set_option maxRecDepth 20000 in
theorem gX12_walk_X12_isState : GoodIn wsX12_walk (wsV RX12 103 RX12 yX12_isState wsX12_isState) := goodIn_app (goodIn_k (is := [233, 234, 235, 5]) tie_wsX12_walk rfl (by decide +kernel)) ggX12_walk_X12_isState
set_option maxRecDepth 20000 in
theorem ggX12_walk_X12_in : GoodIn wsX12_walk wsX12_in := goodIn_k tie_wsX12_walk tie_wsX12_in (by decide +kernel)
set_option maxRecDepth 20000 in
theorem gX12_walk_X12_in : GoodIn wsX12_walk (va_wsS RX12 86 yX12_in wsX12_in) := goodIn_app (goodIn_k (is := [237, 238, 5]) tie_wsX12_walk rfl (by decide +kernel)) ggX12_walk_X12_in
set_option maxRecDepth 20000 in
theorem ggX12_walk_X12_sumOf : GoodIn wsX12_walk wsX12_sumOf := goodIn_k tie_wsX12_walk tie_wsX12_sumOf (by decide +kernel)
set_option maxRecDepth 20000 in
theorem gX12_walk_X12_sumOf : GoodIn wsX12_walk (wsV RX12 143 RX12 yX12_sumOf wsX12_sumOf) := goodIn_app (goodIn_k (is := [431, 432, 433, 5]) tie_wsX12_walk rfl (by decide +kernel)) ggX12_walk_X12_sumOf
set_option maxRecDepth 20000 in
theorem ggX12_walk_X12_weightOf : GoodIn wsX12_walk wsX12_weightOf := goodIn_k tie_wsX12_walk tie_wsX12_weightOf (by decide +kernel)
set_option maxRecDepth 20000 in
theorem gX12_walk_X12_weightOf : GoodIn wsX12_walk (wsV RX12 125 RX12 yX12_weightOf wsX12_weightOf) := goodIn_app (goodIn_k (is := [327, 328, 329, 5]) tie_wsX12_walk rfl (by decide +kernel)) ggX12_walk_X12_weightOf
theorem dX12_walk_0 : decode cX12_walk 0 = .ok (.aload_n 0, 1) := by decide +kernel
theorem dX12_walk_1 : decode cX12_walk 1 = .ok (.iload_n 1, 1) := by decide +kernel
theorem dX12_walk_2 : decode cX12_walk 2 = .ok (.invokevirtual 103, 3) := by decide +kernel
theorem dX12_walk_5 : decode cX12_walk 5 = .ok (.ifCond .eq 13, 3) := by decide +kernel
theorem dX12_walk_8 : decode cX12_walk 8 = .ok (.iload_n 2, 1) := by decide +kernel
theorem dX12_walk_9 : decode cX12_walk 9 = .ok (.iconst 0, 1) := by decide +kernel
theorem dX12_walk_10 : decode cX12_walk 10 = .ok (.bipush 100, 2) := by decide +kernel
theorem dX12_walk_12 : decode cX12_walk 12 = .ok (.invokestatic 86, 3) := by decide +kernel
theorem dX12_walk_15 : decode cX12_walk 15 = .ok (.ifCond .ne 5, 3) := by decide +kernel
theorem dX12_walk_18 : decode cX12_walk 18 = .ok (.iconst (-1), 1) := by decide +kernel
theorem dX12_walk_19 : decode cX12_walk 19 = .ok (.ireturn, 1) := by decide +kernel
theorem dX12_walk_20 : decode cX12_walk 20 = .ok (.iload_n 3, 1) := by decide +kernel
theorem dX12_walk_21 : decode cX12_walk 21 = .ok (.istore 4, 2) := by decide +kernel
theorem dX12_walk_23 : decode cX12_walk 23 = .ok (.iload_n 1, 1) := by decide +kernel
theorem dX12_walk_24 : decode cX12_walk 24 = .ok (.istore 5, 2) := by decide +kernel
theorem dX12_walk_26 : decode cX12_walk 26 = .ok (.iconst 0, 1) := by decide +kernel
theorem dX12_walk_27 : decode cX12_walk 27 = .ok (.istore 6, 2) := by decide +kernel
theorem dX12_walk_29 : decode cX12_walk 29 = .ok (.iload 6, 2) := by decide +kernel
theorem dX12_walk_31 : decode cX12_walk 31 = .ok (.iload_n 2, 1) := by decide +kernel
theorem dX12_walk_32 : decode cX12_walk 32 = .ok (.if_icmp .ge 74, 3) := by decide +kernel
theorem dX12_walk_35 : decode cX12_walk 35 = .ok (.iload 4, 2) := by decide +kernel
theorem dX12_walk_37 : decode cX12_walk 37 = .ok (.ldc_w 358, 3) := by decide +kernel
theorem dX12_walk_40 : decode cX12_walk 40 = .ok (.imul, 1) := by decide +kernel
theorem dX12_walk_41 : decode cX12_walk 41 = .ok (.sipush 12345, 3) := by decide +kernel
theorem dX12_walk_44 : decode cX12_walk 44 = .ok (.iadd, 1) := by decide +kernel
theorem dX12_walk_45 : decode cX12_walk 45 = .ok (.istore 4, 2) := by decide +kernel
theorem dX12_walk_47 : decode cX12_walk 47 = .ok (.iload 4, 2) := by decide +kernel
theorem dX12_walk_49 : decode cX12_walk 49 = .ok (.bipush 8, 2) := by decide +kernel
theorem dX12_walk_51 : decode cX12_walk 51 = .ok (.iushr, 1) := by decide +kernel
theorem dX12_walk_52 : decode cX12_walk 52 = .ok (.aload_n 0, 1) := by decide +kernel
theorem dX12_walk_53 : decode cX12_walk 53 = .ok (.iload 5, 2) := by decide +kernel
theorem dX12_walk_55 : decode cX12_walk 55 = .ok (.invokevirtual 143, 3) := by decide +kernel
theorem dX12_walk_58 : decode cX12_walk 58 = .ok (.irem, 1) := by decide +kernel
theorem dX12_walk_59 : decode cX12_walk 59 = .ok (.istore 7, 2) := by decide +kernel
theorem dX12_walk_61 : decode cX12_walk 61 = .ok (.iconst 0, 1) := by decide +kernel
theorem dX12_walk_62 : decode cX12_walk 62 = .ok (.istore 8, 2) := by decide +kernel
theorem dX12_walk_64 : decode cX12_walk 64 = .ok (.aload_n 0, 1) := by decide +kernel
theorem dX12_walk_65 : decode cX12_walk 65 = .ok (.iload 5, 2) := by decide +kernel
theorem dX12_walk_67 : decode cX12_walk 67 = .ok (.iload 8, 2) := by decide +kernel
theorem dX12_walk_69 : decode cX12_walk 69 = .ok (.invokevirtual 125, 3) := by decide +kernel
theorem dX12_walk_72 : decode cX12_walk 72 = .ok (.iload 7, 2) := by decide +kernel
theorem dX12_walk_74 : decode cX12_walk 74 = .ok (.if_icmp .gt 22, 3) := by decide +kernel
theorem dX12_walk_77 : decode cX12_walk 77 = .ok (.iload 7, 2) := by decide +kernel
theorem dX12_walk_79 : decode cX12_walk 79 = .ok (.aload_n 0, 1) := by decide +kernel
theorem dX12_walk_80 : decode cX12_walk 80 = .ok (.iload 5, 2) := by decide +kernel
