theorem dX12_findWithin_64 : decode cX12_findWithin 64 = .ok (.lstore 7, 2) := by decide +kernel
theorem dX12_findWithin_66 : decode cX12_findWithin 66 = .ok (.iconst 0, 1) := by decide +kernel
theorem dX12_findWithin_67 : decode cX12_findWithin 67 = .ok (.istore 10, 2) := by decide +kernel
theorem dX12_findWithin_69 : decode cX12_findWithin 69 = .ok (.iload 10, 2) := by decide +kernel
theorem dX12_findWithin_71 : decode cX12_findWithin 71 = .ok (.aload_n 0, 1) := by decide +kernel
theorem dX12_findWithin_72 : decode cX12_findWithin 72 = .ok (.getfield 9, 3) := by decide +kernel
theorem dX12_findWithin_75 : decode cX12_findWithin 75 = .ok (.iconst 0, 1) := by decide +kernel
theorem dX12_findWithin_76 : decode cX12_findWithin 76 = .ok (.iaload, 1) := by decide +kernel
theorem dX12_findWithin_77 : decode cX12_findWithin 77 = .ok (.if_icmp .ge 102, 3) := by decide +kernel
theorem dX12_findWithin_80 : decode cX12_findWithin 80 = .ok (.aload_n 0, 1) := by decide +kernel
theorem dX12_findWithin_81 : decode cX12_findWithin 81 = .ok (.getfield 35, 3) := by decide +kernel
theorem dX12_findWithin_84 : decode cX12_findWithin 84 = .ok (.iload 10, 2) := by decide +kernel
theorem dX12_findWithin_86 : decode cX12_findWithin 86 = .ok (.iload_n 2, 1) := by decide +kernel
theorem dX12_findWithin_87 : decode cX12_findWithin 87 = .ok (.iload 10, 2) := by decide +kernel
theorem dX12_findWithin_89 : decode cX12_findWithin 89 = .ok (.invokestatic 121, 3) := by decide +kernel
theorem dX12_findWithin_92 : decode cX12_findWithin 92 = .ok (.ifCond .eq 8, 3) := by decide +kernel
theorem dX12_findWithin_95 : decode cX12_findWithin 95 = .ok (.lload 7, 2) := by decide +kernel
theorem dX12_findWithin_97 : decode cX12_findWithin 97 = .ok (.goto 4, 3) := by decide +kernel
theorem dX12_findWithin_100 : decode cX12_findWithin 100 = .ok (.lconst 0, 1) := by decide +kernel
theorem dX12_findWithin_101 : decode cX12_findWithin 101 = .ok (.lastore, 1) := by decide +kernel
theorem dX12_findWithin_102 : decode cX12_findWithin 102 = .ok (.iconst 0, 1) := by decide +kernel
theorem dX12_findWithin_103 : decode cX12_findWithin 103 = .ok (.istore 11, 2) := by decide +kernel
theorem dX12_findWithin_105 : decode cX12_findWithin 105 = .ok (.iload 11, 2) := by decide +kernel
theorem dX12_findWithin_107 : decode cX12_findWithin 107 = .ok (.aload_n 0, 1) := by decide +kernel
theorem dX12_findWithin_108 : decode cX12_findWithin 108 = .ok (.getfield 9, 3) := by decide +kernel
theorem dX12_findWithin_111 : decode cX12_findWithin 111 = .ok (.iconst 0, 1) := by decide +kernel
theorem dX12_findWithin_112 : decode cX12_findWithin 112 = .ok (.iaload, 1) := by decide +kernel
theorem dX12_findWithin_113 : decode cX12_findWithin 113 = .ok (.if_icmp .ge 60, 3) := by decide +kernel
theorem dX12_findWithin_116 : decode cX12_findWithin 116 = .ok (.iload_n 1, 1) := by decide +kernel
theorem dX12_findWithin_117 : decode cX12_findWithin 117 = .ok (.iload_n 2, 1) := by decide +kernel
theorem dX12_findWithin_118 : decode cX12_findWithin 118 = .ok (.iconst (-1), 1) := by decide +kernel
theorem dX12_findWithin_119 : decode cX12_findWithin 119 = .ok (.ixor, 1) := by decide +kernel
theorem dX12_findWithin_120 : decode cX12_findWithin 120 = .ok (.iand, 1) := by decide +kernel
theorem dX12_findWithin_121 : decode cX12_findWithin 121 = .ok (.iload 10, 2) := by decide +kernel
theorem dX12_findWithin_123 : decode cX12_findWithin 123 = .ok (.invokestatic 121, 3) := by decide +kernel
theorem dX12_findWithin_126 : decode cX12_findWithin 126 = .ok (.ifCond .eq 47, 3) := by decide +kernel
theorem dX12_findWithin_129 : decode cX12_findWithin 129 = .ok (.aload_n 0, 1) := by decide +kernel
theorem dX12_findWithin_130 : decode cX12_findWithin 130 = .ok (.getfield 35, 3) := by decide +kernel
theorem dX12_findWithin_133 : decode cX12_findWithin 133 = .ok (.iload 10, 2) := by decide +kernel
theorem dX12_findWithin_135 : decode cX12_findWithin 135 = .ok (.dup2, 1) := by decide +kernel
theorem dX12_findWithin_136 : decode cX12_findWithin 136 = .ok (.laload, 1) := by decide +kernel
theorem dX12_findWithin_137 : decode cX12_findWithin 137 = .ok (.aload_n 0, 1) := by decide +kernel
theorem dX12_findWithin_138 : decode cX12_findWithin 138 = .ok (.iload 10, 2) := by decide +kernel
theorem dX12_findWithin_140 : decode cX12_findWithin 140 = .ok (.iload 11, 2) := by decide +kernel
theorem dX12_findWithin_142 : decode cX12_findWithin 142 = .ok (.invokevirtual 125, 3) := by decide +kernel
theorem dX12_findWithin_145 : decode cX12_findWithin 145 = .ok (.i2l, 1) := by decide +kernel
theorem dX12_findWithin_146 : decode cX12_findWithin 146 = .ok (.lload 5, 2) := by decide +kernel
theorem dX12_findWithin_148 : decode cX12_findWithin 148 = .ok (.aload_n 0, 1) := by decide +kernel
theorem dX12_findWithin_149 : decode cX12_findWithin 149 = .ok (.iload 10, 2) := by decide +kernel
theorem dX12_findWithin_151 : decode cX12_findWithin 151 = .ok (.invokevirtual 143, 3) := by decide +kernel
theorem dX12_findWithin_154 : decode cX12_findWithin 154 = .ok (.i2l, 1) := by decide +kernel
theorem dX12_findWithin_155 : decode cX12_findWithin 155 = .ok (.ldiv, 1) := by decide +kernel
theorem dX12_findWithin_156 : decode cX12_findWithin 156 = .ok (.lmul, 1) := by decide +kernel
theorem dX12_findWithin_157 : decode cX12_findWithin 157 = .ok (.aload_n 0, 1) := by decide +kernel
theorem dX12_findWithin_158 : decode cX12_findWithin 158 = .ok (.getfield 32, 3) := by decide +kernel
theorem dX12_findWithin_161 : decode cX12_findWithin 161 = .ok (.iload 11, 2) := by decide +kernel
theorem dX12_findWithin_163 : decode cX12_findWithin 163 = .ok (.laload, 1) := by decide +kernel
theorem dX12_findWithin_164 : decode cX12_findWithin 164 = .ok (.lmul, 1) := by decide +kernel
theorem dX12_findWithin_165 : decode cX12_findWithin 165 = .ok (.ladd, 1) := by decide +kernel
theorem dX12_findWithin_166 : decode cX12_findWithin 166 = .ok (.lastore, 1) := by decide +kernel
theorem dX12_findWithin_167 : decode cX12_findWithin 167 = .ok (.iinc 11 1, 3) := by decide +kernel
theorem dX12_findWithin_170 : decode cX12_findWithin 170 = .ok (.goto (-65), 3) := by decide +kernel
theorem dX12_findWithin_173 : decode cX12_findWithin 173 = .ok (.iinc 10 1, 3) := by decide +kernel
theorem dX12_findWithin_176 : decode cX12_findWithin 176 = .ok (.goto (-107), 3) := by decide +kernel
theorem dX12_findWithin_179 : decode cX12_findWithin 179 = .ok (.aload_n 0, 1) := by decide +kernel
theorem dX12_findWithin_180 : decode cX12_findWithin 180 = .ok (.getfield 35, 3) := by decide +kernel
theorem dX12_findWithin_183 : decode cX12_findWithin 183 = .ok (.iconst 0, 1) := by decide +kernel
theorem dX12_findWithin_184 : decode cX12_findWithin 184 = .ok (.aload_n 0, 1) := by decide +kernel
theorem dX12_findWithin_185 : decode cX12_findWithin 185 = .ok (.getfield 32, 3) := by decide +kernel
theorem dX12_findWithin_188 : decode cX12_findWithin 188 = .ok (.iconst 0, 1) := by decide +kernel
theorem dX12_findWithin_189 : decode cX12_findWithin 189 = .ok (.bipush 8, 2) := by decide +kernel
theorem dX12_findWithin_191 : decode cX12_findWithin 191 = .ok (.invokestatic 94, 3) := by decide +kernel
theorem dX12_findWithin_194 : decode cX12_findWithin 194 = .ok (.iinc 9 1, 3) := by decide +kernel
theorem dX12_findWithin_197 : decode cX12_findWithin 197 = .ok (.goto (-144), 3) := by decide +kernel
theorem dX12_findWithin_200 : decode cX12_findWithin 200 = .ok (.aload_n 0, 1) := by decide +kernel
theorem dX12_findWithin_201 : decode cX12_findWithin 201 = .ok (.aload_n 0, 1) := by decide +kernel
theorem dX12_findWithin_202 : decode cX12_findWithin 202 = .ok (.getfield 32, 3) := by decide +kernel
theorem dX12_findWithin_205 : decode cX12_findWithin 205 = .ok (.iload 4, 2) := by decide +kernel
theorem dX12_findWithin_207 : decode cX12_findWithin 207 = .ok (.laload, 1) := by decide +kernel
theorem dX12_findWithin_208 : decode cX12_findWithin 208 = .ok (.lload 7, 2) := by decide +kernel
theorem dX12_findWithin_210 : decode cX12_findWithin 210 = .ok (.invokevirtual 169, 3) := by decide +kernel
theorem dX12_findWithin_213 : decode cX12_findWithin 213 = .ok (.return_, 1) := by decide +kernel
set_option maxRecDepth 20000 in
theorem ggX12_findShares_X12_has : GoodIn wsX12_findShares wsX12_has := goodIn_k tie_wsX12_findShares tie_wsX12_has (by decide +kernel)
set_option maxRecDepth 20000 in
theorem gX12_findShares_X12_has : GoodIn wsX12_findShares (va_wsS RX12 121 yX12_has wsX12_has) := goodIn_app (goodIn_k (is := [324, 325, 5]) tie_wsX12_findShares rfl (by decide +kernel)) ggX12_findShares_X12_has
set_option maxRecDepth 20000 in
theorem ggX12_findShares_X12_begin : GoodIn wsX12_findShares wsX12_begin := goodIn_k tie_wsX12_findShares tie_wsX12_begin (by decide +kernel)
set_option maxRecDepth 20000 in
theorem gX12_findShares_X12_begin : GoodIn wsX12_findShares (wsV RX12 199 RX12 yX12_begin wsX12_begin) := goodIn_app (goodIn_k (is := [1109, 1110, 1111, 5]) tie_wsX12_findShares rfl (by decide +kernel)) ggX12_findShares_X12_begin
set_option maxRecDepth 20000 in
theorem ggX12_findShares_X12_solve : GoodIn wsX12_findShares wsX12_solve := goodIn_k tie_wsX12_findShares tie_wsX12_solve (by decide +kernel)
set_option maxRecDepth 20000 in
theorem gX12_findShares_X12_solve : GoodIn wsX12_findShares (wsV RX12 187 RX12 yX12_solve wsX12_solve) := goodIn_app (goodIn_k (is := [1121, 1122, 1123, 5]) tie_wsX12_findShares rfl (by decide +kernel)) ggX12_findShares_X12_solve
set_option maxRecDepth 20000 in
theorem ggX12_findShares_X12_sumOf : GoodIn wsX12_findShares wsX12_sumOf := goodIn_k tie_wsX12_findShares tie_wsX12_sumOf (by decide +kernel)
set_option maxRecDepth 20000 in
theorem gX12_findShares_X12_sumOf : GoodIn wsX12_findShares (wsV RX12 143 RX12 yX12_sumOf wsX12_sumOf) := goodIn_app (goodIn_k (is := [431, 432, 433, 5]) tie_wsX12_findShares rfl (by decide +kernel)) ggX12_findShares_X12_sumOf
theorem dX12_findShares_0 : decode cX12_findShares 0 = .ok (.lconst 0, 1) := by decide +kernel
theorem dX12_findShares_1 : decode cX12_findShares 1 = .ok (.lstore_n 2, 1) := by decide +kernel
theorem dX12_findShares_2 : decode cX12_findShares 2 = .ok (.iconst 0, 1) := by decide +kernel
theorem dX12_findShares_3 : decode cX12_findShares 3 = .ok (.istore 4, 2) := by decide +kernel
theorem dX12_findShares_5 : decode cX12_findShares 5 = .ok (.iload 4, 2) := by decide +kernel
theorem dX12_findShares_7 : decode cX12_findShares 7 = .ok (.aload_n 0, 1) := by decide +kernel
theorem dX12_findShares_8 : decode cX12_findShares 8 = .ok (.getfield 9, 3) := by decide +kernel
theorem dX12_findShares_11 : decode cX12_findShares 11 = .ok (.iconst 0, 1) := by decide +kernel
theorem dX12_findShares_12 : decode cX12_findShares 12 = .ok (.iaload, 1) := by decide +kernel
theorem dX12_findShares_13 : decode cX12_findShares 13 = .ok (.if_icmp .ge 88, 3) := by decide +kernel
theorem dX12_findShares_16 : decode cX12_findShares 16 = .ok (.aload_n 0, 1) := by decide +kernel
theorem dX12_findShares_17 : decode cX12_findShares 17 = .ok (.getfield 38, 3) := by decide +kernel
theorem dX12_findShares_20 : decode cX12_findShares 20 = .ok (.iload 4, 2) := by decide +kernel
theorem dX12_findShares_22 : decode cX12_findShares 22 = .ok (.lconst 0, 1) := by decide +kernel
theorem dX12_findShares_23 : decode cX12_findShares 23 = .ok (.lastore, 1) := by decide +kernel
theorem dX12_findShares_24 : decode cX12_findShares 24 = .ok (.iload_n 1, 1) := by decide +kernel
theorem dX12_findShares_25 : decode cX12_findShares 25 = .ok (.iload 4, 2) := by decide +kernel
theorem dX12_findShares_27 : decode cX12_findShares 27 = .ok (.invokestatic 121, 3) := by decide +kernel
theorem dX12_findShares_30 : decode cX12_findShares 30 = .ok (.ifCond .eq 65, 3) := by decide +kernel
theorem dX12_findShares_33 : decode cX12_findShares 33 = .ok (.aload_n 0, 1) := by decide +kernel
theorem dX12_findShares_34 : decode cX12_findShares 34 = .ok (.iload_n 1, 1) := by decide +kernel
theorem dX12_findShares_35 : decode cX12_findShares 35 = .ok (.iconst 1, 1) := by decide +kernel
theorem dX12_findShares_36 : decode cX12_findShares 36 = .ok (.iload 4, 2) := by decide +kernel
theorem dX12_findShares_38 : decode cX12_findShares 38 = .ok (.ishl, 1) := by decide +kernel
theorem dX12_findShares_39 : decode cX12_findShares 39 = .ok (.iconst (-1), 1) := by decide +kernel
theorem dX12_findShares_40 : decode cX12_findShares 40 = .ok (.ixor, 1) := by decide +kernel
theorem dX12_findShares_41 : decode cX12_findShares 41 = .ok (.iand, 1) := by decide +kernel
theorem dX12_findShares_42 : decode cX12_findShares 42 = .ok (.invokevirtual 199, 3) := by decide +kernel
theorem dX12_findShares_45 : decode cX12_findShares 45 = .ok (.aload_n 0, 1) := by decide +kernel
theorem dX12_findShares_46 : decode cX12_findShares 46 = .ok (.invokevirtual 187, 3) := by decide +kernel
theorem dX12_findShares_49 : decode cX12_findShares 49 = .ok (.aload_n 0, 1) := by decide +kernel
theorem dX12_findShares_50 : decode cX12_findShares 50 = .ok (.getfield 38, 3) := by decide +kernel
theorem dX12_findShares_53 : decode cX12_findShares 53 = .ok (.iload 4, 2) := by decide +kernel
theorem dX12_findShares_55 : decode cX12_findShares 55 = .ok (.aload_n 0, 1) := by decide +kernel
theorem dX12_findShares_56 : decode cX12_findShares 56 = .ok (.getfield 177, 3) := by decide +kernel
theorem dX12_findShares_59 : decode cX12_findShares 59 = .ok (.lconst 0, 1) := by decide +kernel
theorem dX12_findShares_60 : decode cX12_findShares 60 = .ok (.lcmp, 1) := by decide +kernel
theorem dX12_findShares_61 : decode cX12_findShares 61 = .ok (.ifCond .ge 11, 3) := by decide +kernel
theorem dX12_findShares_64 : decode cX12_findShares 64 = .ok (.aload_n 0, 1) := by decide +kernel
theorem dX12_findShares_65 : decode cX12_findShares 65 = .ok (.getfield 177, 3) := by decide +kernel
theorem dX12_findShares_68 : decode cX12_findShares 68 = .ok (.lneg, 1) := by decide +kernel
theorem dX12_findShares_69 : decode cX12_findShares 69 = .ok (.goto 7, 3) := by decide +kernel
theorem dX12_findShares_72 : decode cX12_findShares 72 = .ok (.aload_n 0, 1) := by decide +kernel
theorem dX12_findShares_73 : decode cX12_findShares 73 = .ok (.getfield 177, 3) := by decide +kernel
theorem dX12_findShares_76 : decode cX12_findShares 76 = .ok (.aload_n 0, 1) := by decide +kernel
theorem dX12_findShares_77 : decode cX12_findShares 77 = .ok (.iload 4, 2) := by decide +kernel
theorem dX12_findShares_79 : decode cX12_findShares 79 = .ok (.invokevirtual 143, 3) := by decide +kernel
theorem dX12_findShares_82 : decode cX12_findShares 82 = .ok (.i2l, 1) := by decide +kernel
theorem dX12_findShares_83 : decode cX12_findShares 83 = .ok (.lmul, 1) := by decide +kernel
theorem dX12_findShares_84 : decode cX12_findShares 84 = .ok (.lastore, 1) := by decide +kernel
theorem dX12_findShares_85 : decode cX12_findShares 85 = .ok (.lload_n 2, 1) := by decide +kernel
theorem dX12_findShares_86 : decode cX12_findShares 86 = .ok (.aload_n 0, 1) := by decide +kernel
theorem dX12_findShares_87 : decode cX12_findShares 87 = .ok (.getfield 38, 3) := by decide +kernel
theorem dX12_findShares_90 : decode cX12_findShares 90 = .ok (.iload 4, 2) := by decide +kernel
theorem dX12_findShares_92 : decode cX12_findShares 92 = .ok (.laload, 1) := by decide +kernel
theorem dX12_findShares_93 : decode cX12_findShares 93 = .ok (.ladd, 1) := by decide +kernel
theorem dX12_findShares_94 : decode cX12_findShares 94 = .ok (.lstore_n 2, 1) := by decide +kernel
theorem dX12_findShares_95 : decode cX12_findShares 95 = .ok (.iinc 4 1, 3) := by decide +kernel
theorem dX12_findShares_98 : decode cX12_findShares 98 = .ok (.goto (-93), 3) := by decide +kernel
theorem dX12_findShares_101 : decode cX12_findShares 101 = .ok (.lload_n 2, 1) := by decide +kernel
theorem dX12_findShares_102 : decode cX12_findShares 102 = .ok (.lreturn, 1) := by decide +kernel
set_option maxRecDepth 20000 in
theorem ggX12_findSteady_X12_isBottom : GoodIn wsX12_findSteady wsX12_isBottom := goodIn_k tie_wsX12_findSteady tie_wsX12_isBottom (by decide +kernel)
set_option maxRecDepth 20000 in
theorem gX12_findSteady_X12_isBottom : GoodIn wsX12_findSteady (wsV RX12 134 RX12 yX12_isBottom wsX12_isBottom) := goodIn_app (goodIn_k (is := [364, 365, 366, 5]) tie_wsX12_findSteady rfl (by decide +kernel)) ggX12_findSteady_X12_isBottom
set_option maxRecDepth 20000 in
theorem ggX12_findSteady_X12_has : GoodIn wsX12_findSteady wsX12_has := goodIn_k tie_wsX12_findSteady tie_wsX12_has (by decide +kernel)
set_option maxRecDepth 20000 in
theorem gX12_findSteady_X12_has : GoodIn wsX12_findSteady (va_wsS RX12 121 yX12_has wsX12_has) := goodIn_app (goodIn_k (is := [324, 325, 5]) tie_wsX12_findSteady rfl (by decide +kernel)) ggX12_findSteady_X12_has
set_option maxRecDepth 20000 in
theorem ggX12_findSteady_X12_componentOf : GoodIn wsX12_findSteady wsX12_componentOf := goodIn_k tie_wsX12_findSteady tie_wsX12_componentOf (by decide +kernel)
set_option maxRecDepth 20000 in
theorem gX12_findSteady_X12_componentOf : GoodIn wsX12_findSteady (wsV RX12 131 RX12 yX12_componentOf wsX12_componentOf) := goodIn_app (goodIn_k (is := [344, 345, 346, 5]) tie_wsX12_findSteady rfl (by decide +kernel)) ggX12_findSteady_X12_componentOf
set_option maxRecDepth 20000 in
theorem ggX12_findSteady_X12_all : GoodIn wsX12_findSteady wsX12_all := goodIn_k tie_wsX12_findSteady tie_wsX12_all (by decide +kernel)
set_option maxRecDepth 20000 in
theorem gX12_findSteady_X12_all : GoodIn wsX12_findSteady (wsV RX12 193 RX12 yX12_all wsX12_all) := goodIn_app (goodIn_k (is := [1092, 1093, 1094, 5]) tie_wsX12_findSteady rfl (by decide +kernel)) ggX12_findSteady_X12_all
set_option maxRecDepth 20000 in
theorem ggX12_findSteady_X12_findUntil : GoodIn wsX12_findSteady wsX12_findUntil := goodIn_k tie_wsX12_findSteady tie_wsX12_findUntil (by decide +kernel)
set_option maxRecDepth 20000 in
theorem gX12_findSteady_X12_findUntil : GoodIn wsX12_findSteady (wsV RX12 216 RX12 yX12_findUntil wsX12_findUntil) := goodIn_app (goodIn_k (is := [1100, 1101, 1102, 5]) tie_wsX12_findSteady rfl (by decide +kernel)) ggX12_findSteady_X12_findUntil
set_option maxRecDepth 20000 in
theorem ggX12_findSteady_X12_findShares : GoodIn wsX12_findSteady wsX12_findShares := goodIn_k tie_wsX12_findSteady tie_wsX12_findShares (by decide +kernel)
set_option maxRecDepth 20000 in
theorem gX12_findSteady_X12_findShares : GoodIn wsX12_findSteady (wsV RX12 220 RX12 yX12_findShares wsX12_findShares) := goodIn_app (goodIn_k (is := [1142, 1143, 1144, 5]) tie_wsX12_findSteady rfl (by decide +kernel)) ggX12_findSteady_X12_findShares
set_option maxRecDepth 20000 in
theorem ggX12_findSteady_X12_give : GoodIn wsX12_findSteady wsX12_give := goodIn_k tie_wsX12_findSteady tie_wsX12_give (by decide +kernel)
set_option maxRecDepth 20000 in
theorem gX12_findSteady_X12_give : GoodIn wsX12_findSteady (wsV RX12 169 RX12 yX12_give wsX12_give) := goodIn_app (goodIn_k (is := [482, 483, 484, 5]) tie_wsX12_findSteady rfl (by decide +kernel)) ggX12_findSteady_X12_give
set_option maxRecDepth 20000 in
theorem ggX12_findSteady_X12_common : GoodIn wsX12_findSteady wsX12_common := goodIn_k tie_wsX12_findSteady tie_wsX12_common (by decide +kernel)
set_option maxRecDepth 20000 in
theorem gX12_findSteady_X12_common : GoodIn wsX12_findSteady (va_wsS RX12 153 yX12_common wsX12_common) := goodIn_app (goodIn_k (is := [488, 489, 5]) tie_wsX12_findSteady rfl (by decide +kernel)) ggX12_findSteady_X12_common
theorem dX12_findSteady_0 : decode cX12_findSteady 0 = .ok (.lconst 0, 1) := by decide +kernel
theorem dX12_findSteady_1 : decode cX12_findSteady 1 = .ok (.lstore_n 3, 1) := by decide +kernel
theorem dX12_findSteady_2 : decode cX12_findSteady 2 = .ok (.lconst 1, 1) := by decide +kernel
theorem dX12_findSteady_3 : decode cX12_findSteady 3 = .ok (.lstore 5, 2) := by decide +kernel
theorem dX12_findSteady_5 : decode cX12_findSteady 5 = .ok (.iconst 0, 1) := by decide +kernel
theorem dX12_findSteady_6 : decode cX12_findSteady 6 = .ok (.istore 7, 2) := by decide +kernel
theorem dX12_findSteady_8 : decode cX12_findSteady 8 = .ok (.iconst 0, 1) := by decide +kernel
theorem dX12_findSteady_9 : decode cX12_findSteady 9 = .ok (.istore 8, 2) := by decide +kernel
theorem dX12_findSteady_11 : decode cX12_findSteady 11 = .ok (.iload 8, 2) := by decide +kernel
theorem dX12_findSteady_13 : decode cX12_findSteady 13 = .ok (.aload_n 0, 1) := by decide +kernel
theorem dX12_findSteady_14 : decode cX12_findSteady 14 = .ok (.getfield 9, 3) := by decide +kernel
theorem dX12_findSteady_17 : decode cX12_findSteady 17 = .ok (.iconst 0, 1) := by decide +kernel
theorem dX12_findSteady_18 : decode cX12_findSteady 18 = .ok (.iaload, 1) := by decide +kernel
theorem dX12_findSteady_19 : decode cX12_findSteady 19 = .ok (.if_icmp .ge 207, 3) := by decide +kernel
theorem dX12_findSteady_22 : decode cX12_findSteady 22 = .ok (.aload_n 0, 1) := by decide +kernel
theorem dX12_findSteady_23 : decode cX12_findSteady 23 = .ok (.iload 8, 2) := by decide +kernel
theorem dX12_findSteady_25 : decode cX12_findSteady 25 = .ok (.invokevirtual 134, 3) := by decide +kernel
theorem dX12_findSteady_28 : decode cX12_findSteady 28 = .ok (.ifCond .eq 192, 3) := by decide +kernel
theorem dX12_findSteady_31 : decode cX12_findSteady 31 = .ok (.iload 7, 2) := by decide +kernel
theorem dX12_findSteady_33 : decode cX12_findSteady 33 = .ok (.iload 8, 2) := by decide +kernel
theorem dX12_findSteady_35 : decode cX12_findSteady 35 = .ok (.invokestatic 121, 3) := by decide +kernel
theorem dX12_findSteady_38 : decode cX12_findSteady 38 = .ok (.ifCond .ne 182, 3) := by decide +kernel
theorem dX12_findSteady_41 : decode cX12_findSteady 41 = .ok (.aload_n 0, 1) := by decide +kernel
theorem dX12_findSteady_42 : decode cX12_findSteady 42 = .ok (.iload 8, 2) := by decide +kernel
theorem dX12_findSteady_44 : decode cX12_findSteady 44 = .ok (.invokevirtual 131, 3) := by decide +kernel
theorem dX12_findSteady_47 : decode cX12_findSteady 47 = .ok (.istore 9, 2) := by decide +kernel
theorem dX12_findSteady_49 : decode cX12_findSteady 49 = .ok (.iload 7, 2) := by decide +kernel
theorem dX12_findSteady_51 : decode cX12_findSteady 51 = .ok (.iload 9, 2) := by decide +kernel
theorem dX12_findSteady_53 : decode cX12_findSteady 53 = .ok (.ior, 1) := by decide +kernel
theorem dX12_findSteady_54 : decode cX12_findSteady 54 = .ok (.istore 7, 2) := by decide +kernel
theorem dX12_findSteady_56 : decode cX12_findSteady 56 = .ok (.aload_n 0, 1) := by decide +kernel
theorem dX12_findSteady_57 : decode cX12_findSteady 57 = .ok (.aload_n 0, 1) := by decide +kernel
theorem dX12_findSteady_58 : decode cX12_findSteady 58 = .ok (.invokevirtual 193, 3) := by decide +kernel
theorem dX12_findSteady_61 : decode cX12_findSteady 61 = .ok (.iload 9, 2) := by decide +kernel
theorem dX12_findSteady_63 : decode cX12_findSteady 63 = .ok (.iload_n 2, 1) := by decide +kernel
theorem dX12_findSteady_64 : decode cX12_findSteady 64 = .ok (.invokevirtual 216, 3) := by decide +kernel
theorem dX12_findSteady_67 : decode cX12_findSteady 67 = .ok (.aload_n 0, 1) := by decide +kernel
theorem dX12_findSteady_68 : decode cX12_findSteady 68 = .ok (.getfield 157, 3) := by decide +kernel
theorem dX12_findSteady_71 : decode cX12_findSteady 71 = .ok (.lstore 10, 2) := by decide +kernel
theorem dX12_findSteady_73 : decode cX12_findSteady 73 = .ok (.aload_n 0, 1) := by decide +kernel
theorem dX12_findSteady_74 : decode cX12_findSteady 74 = .ok (.getfield 161, 3) := by decide +kernel
theorem dX12_findSteady_77 : decode cX12_findSteady 77 = .ok (.lstore 12, 2) := by decide +kernel
theorem dX12_findSteady_79 : decode cX12_findSteady 79 = .ok (.aload_n 0, 1) := by decide +kernel
theorem dX12_findSteady_80 : decode cX12_findSteady 80 = .ok (.iload 9, 2) := by decide +kernel
theorem dX12_findSteady_82 : decode cX12_findSteady 82 = .ok (.invokevirtual 220, 3) := by decide +kernel
theorem dX12_findSteady_85 : decode cX12_findSteady 85 = .ok (.lstore 14, 2) := by decide +kernel
theorem dX12_findSteady_87 : decode cX12_findSteady 87 = .ok (.lconst 0, 1) := by decide +kernel
theorem dX12_findSteady_88 : decode cX12_findSteady 88 = .ok (.lstore 16, 2) := by decide +kernel
theorem dX12_findSteady_90 : decode cX12_findSteady 90 = .ok (.iconst 0, 1) := by decide +kernel
theorem dX12_findSteady_91 : decode cX12_findSteady 91 = .ok (.istore 18, 2) := by decide +kernel
theorem dX12_findSteady_93 : decode cX12_findSteady 93 = .ok (.iload 18, 2) := by decide +kernel
theorem dX12_findSteady_95 : decode cX12_findSteady 95 = .ok (.aload_n 0, 1) := by decide +kernel
theorem dX12_findSteady_96 : decode cX12_findSteady 96 = .ok (.getfield 9, 3) := by decide +kernel
theorem dX12_findSteady_99 : decode cX12_findSteady 99 = .ok (.iconst 0, 1) := by decide +kernel
theorem dX12_findSteady_100 : decode cX12_findSteady 100 = .ok (.iaload, 1) := by decide +kernel
theorem dX12_findSteady_101 : decode cX12_findSteady 101 = .ok (.if_icmp .ge 37, 3) := by decide +kernel
theorem dX12_findSteady_104 : decode cX12_findSteady 104 = .ok (.lload 16, 2) := by decide +kernel
theorem dX12_findSteady_106 : decode cX12_findSteady 106 = .ok (.iload_n 1, 1) := by decide +kernel
theorem dX12_findSteady_107 : decode cX12_findSteady 107 = .ok (.iload 9, 2) := by decide +kernel
theorem dX12_findSteady_109 : decode cX12_findSteady 109 = .ok (.iand, 1) := by decide +kernel
theorem dX12_findSteady_110 : decode cX12_findSteady 110 = .ok (.iload 18, 2) := by decide +kernel
theorem dX12_findSteady_112 : decode cX12_findSteady 112 = .ok (.invokestatic 121, 3) := by decide +kernel
theorem dX12_findSteady_115 : decode cX12_findSteady 115 = .ok (.ifCond .eq 13, 3) := by decide +kernel
theorem dX12_findSteady_118 : decode cX12_findSteady 118 = .ok (.aload_n 0, 1) := by decide +kernel
theorem dX12_findSteady_119 : decode cX12_findSteady 119 = .ok (.getfield 38, 3) := by decide +kernel
theorem dX12_findSteady_122 : decode cX12_findSteady 122 = .ok (.iload 18, 2) := by decide +kernel
theorem dX12_findSteady_124 : decode cX12_findSteady 124 = .ok (.laload, 1) := by decide +kernel
theorem dX12_findSteady_125 : decode cX12_findSteady 125 = .ok (.goto 4, 3) := by decide +kernel
theorem dX12_findSteady_128 : decode cX12_findSteady 128 = .ok (.lconst 0, 1) := by decide +kernel
theorem dX12_findSteady_129 : decode cX12_findSteady 129 = .ok (.ladd, 1) := by decide +kernel
theorem dX12_findSteady_130 : decode cX12_findSteady 130 = .ok (.lstore 16, 2) := by decide +kernel
theorem dX12_findSteady_132 : decode cX12_findSteady 132 = .ok (.iinc 18 1, 3) := by decide +kernel
theorem dX12_findSteady_135 : decode cX12_findSteady 135 = .ok (.goto (-42), 3) := by decide +kernel
theorem dX12_findSteady_138 : decode cX12_findSteady 138 = .ok (.aload_n 0, 1) := by decide +kernel
theorem dX12_findSteady_139 : decode cX12_findSteady 139 = .ok (.lload 16, 2) := by decide +kernel
theorem dX12_findSteady_141 : decode cX12_findSteady 141 = .ok (.lload 14, 2) := by decide +kernel
theorem dX12_findSteady_143 : decode cX12_findSteady 143 = .ok (.invokevirtual 169, 3) := by decide +kernel
theorem dX12_findSteady_146 : decode cX12_findSteady 146 = .ok (.aload_n 0, 1) := by decide +kernel
theorem dX12_findSteady_147 : decode cX12_findSteady 147 = .ok (.lload 10, 2) := by decide +kernel
theorem dX12_findSteady_149 : decode cX12_findSteady 149 = .ok (.aload_n 0, 1) := by decide +kernel
theorem dX12_findSteady_150 : decode cX12_findSteady 150 = .ok (.getfield 157, 3) := by decide +kernel
theorem dX12_findSteady_153 : decode cX12_findSteady 153 = .ok (.lmul, 1) := by decide +kernel
theorem dX12_findSteady_154 : decode cX12_findSteady 154 = .ok (.lload 12, 2) := by decide +kernel
theorem dX12_findSteady_156 : decode cX12_findSteady 156 = .ok (.aload_n 0, 1) := by decide +kernel
theorem dX12_findSteady_157 : decode cX12_findSteady 157 = .ok (.getfield 161, 3) := by decide +kernel
theorem dX12_findSteady_160 : decode cX12_findSteady 160 = .ok (.lmul, 1) := by decide +kernel
theorem dX12_findSteady_161 : decode cX12_findSteady 161 = .ok (.invokevirtual 169, 3) := by decide +kernel
theorem dX12_findSteady_164 : decode cX12_findSteady 164 = .ok (.lload 5, 2) := by decide +kernel
theorem dX12_findSteady_166 : decode cX12_findSteady 166 = .ok (.aload_n 0, 1) := by decide +kernel
theorem dX12_findSteady_167 : decode cX12_findSteady 167 = .ok (.getfield 161, 3) := by decide +kernel
theorem dX12_findSteady_170 : decode cX12_findSteady 170 = .ok (.invokestatic 153, 3) := by decide +kernel
theorem dX12_findSteady_173 : decode cX12_findSteady 173 = .ok (.lstore 18, 2) := by decide +kernel
theorem dX12_findSteady_175 : decode cX12_findSteady 175 = .ok (.aload_n 0, 1) := by decide +kernel
theorem dX12_findSteady_176 : decode cX12_findSteady 176 = .ok (.lload_n 3, 1) := by decide +kernel
theorem dX12_findSteady_177 : decode cX12_findSteady 177 = .ok (.aload_n 0, 1) := by decide +kernel
theorem dX12_findSteady_178 : decode cX12_findSteady 178 = .ok (.getfield 161, 3) := by decide +kernel
theorem dX12_findSteady_181 : decode cX12_findSteady 181 = .ok (.lload 18, 2) := by decide +kernel
theorem dX12_findSteady_183 : decode cX12_findSteady 183 = .ok (.ldiv, 1) := by decide +kernel
theorem dX12_findSteady_184 : decode cX12_findSteady 184 = .ok (.lmul, 1) := by decide +kernel
theorem dX12_findSteady_185 : decode cX12_findSteady 185 = .ok (.aload_n 0, 1) := by decide +kernel
theorem dX12_findSteady_186 : decode cX12_findSteady 186 = .ok (.getfield 157, 3) := by decide +kernel
theorem dX12_findSteady_189 : decode cX12_findSteady 189 = .ok (.lload 5, 2) := by decide +kernel
theorem dX12_findSteady_191 : decode cX12_findSteady 191 = .ok (.lload 18, 2) := by decide +kernel
theorem dX12_findSteady_193 : decode cX12_findSteady 193 = .ok (.ldiv, 1) := by decide +kernel
theorem dX12_findSteady_194 : decode cX12_findSteady 194 = .ok (.lmul, 1) := by decide +kernel
theorem dX12_findSteady_195 : decode cX12_findSteady 195 = .ok (.ladd, 1) := by decide +kernel
theorem dX12_findSteady_196 : decode cX12_findSteady 196 = .ok (.lload 5, 2) := by decide +kernel
theorem dX12_findSteady_198 : decode cX12_findSteady 198 = .ok (.lload 18, 2) := by decide +kernel
theorem dX12_findSteady_200 : decode cX12_findSteady 200 = .ok (.ldiv, 1) := by decide +kernel
theorem dX12_findSteady_201 : decode cX12_findSteady 201 = .ok (.aload_n 0, 1) := by decide +kernel
theorem dX12_findSteady_202 : decode cX12_findSteady 202 = .ok (.getfield 161, 3) := by decide +kernel
theorem dX12_findSteady_205 : decode cX12_findSteady 205 = .ok (.lmul, 1) := by decide +kernel
theorem dX12_findSteady_206 : decode cX12_findSteady 206 = .ok (.invokevirtual 169, 3) := by decide +kernel
theorem dX12_findSteady_209 : decode cX12_findSteady 209 = .ok (.aload_n 0, 1) := by decide +kernel
theorem dX12_findSteady_210 : decode cX12_findSteady 210 = .ok (.getfield 157, 3) := by decide +kernel
theorem dX12_findSteady_213 : decode cX12_findSteady 213 = .ok (.lstore_n 3, 1) := by decide +kernel
theorem dX12_findSteady_214 : decode cX12_findSteady 214 = .ok (.aload_n 0, 1) := by decide +kernel
theorem dX12_findSteady_215 : decode cX12_findSteady 215 = .ok (.getfield 161, 3) := by decide +kernel
theorem dX12_findSteady_218 : decode cX12_findSteady 218 = .ok (.lstore 5, 2) := by decide +kernel
theorem dX12_findSteady_220 : decode cX12_findSteady 220 = .ok (.iinc 8 1, 3) := by decide +kernel
theorem dX12_findSteady_223 : decode cX12_findSteady 223 = .ok (.goto (-212), 3) := by decide +kernel
theorem dX12_findSteady_226 : decode cX12_findSteady 226 = .ok (.aload_n 0, 1) := by decide +kernel
theorem dX12_findSteady_227 : decode cX12_findSteady 227 = .ok (.lload_n 3, 1) := by decide +kernel
theorem dX12_findSteady_228 : decode cX12_findSteady 228 = .ok (.lload 5, 2) := by decide +kernel
theorem dX12_findSteady_230 : decode cX12_findSteady 230 = .ok (.invokevirtual 169, 3) := by decide +kernel
theorem dX12_findSteady_233 : decode cX12_findSteady 233 = .ok (.return_, 1) := by decide +kernel
set_option maxRecDepth 20000 in
theorem ggX12_findExpected_X12_all : GoodIn wsX12_findExpected wsX12_all := goodIn_k tie_wsX12_findExpected tie_wsX12_all (by decide +kernel)
set_option maxRecDepth 20000 in
theorem gX12_findExpected_X12_all : GoodIn wsX12_findExpected (wsV RX12 193 RX12 yX12_all wsX12_all) := goodIn_app (goodIn_k (is := [1092, 1093, 1094, 5]) tie_wsX12_findExpected rfl (by decide +kernel)) ggX12_findExpected_X12_all
set_option maxRecDepth 20000 in
theorem ggX12_findExpected_X12_surelyOf : GoodIn wsX12_findExpected wsX12_surelyOf := goodIn_k tie_wsX12_findExpected tie_wsX12_surelyOf (by decide +kernel)
set_option maxRecDepth 20000 in
theorem gX12_findExpected_X12_surelyOf : GoodIn wsX12_findExpected (wsV RX12 223 RX12 yX12_surelyOf wsX12_surelyOf) := goodIn_app (goodIn_k (is := [1150, 1151, 1152, 5]) tie_wsX12_findExpected rfl (by decide +kernel)) ggX12_findExpected_X12_surelyOf
set_option maxRecDepth 20000 in
theorem ggX12_findExpected_X12_has : GoodIn wsX12_findExpected wsX12_has := goodIn_k tie_wsX12_findExpected tie_wsX12_has (by decide +kernel)
set_option maxRecDepth 20000 in
theorem gX12_findExpected_X12_has : GoodIn wsX12_findExpected (va_wsS RX12 121 yX12_has wsX12_has) := goodIn_app (goodIn_k (is := [324, 325, 5]) tie_wsX12_findExpected rfl (by decide +kernel)) ggX12_findExpected_X12_has
set_option maxRecDepth 20000 in
theorem ggX12_findExpected_X12_give : GoodIn wsX12_findExpected wsX12_give := goodIn_k tie_wsX12_findExpected tie_wsX12_give (by decide +kernel)
set_option maxRecDepth 20000 in
theorem gX12_findExpected_X12_give : GoodIn wsX12_findExpected (wsV RX12 169 RX12 yX12_give wsX12_give) := goodIn_app (goodIn_k (is := [482, 483, 484, 5]) tie_wsX12_findExpected rfl (by decide +kernel)) ggX12_findExpected_X12_give
set_option maxRecDepth 20000 in
theorem ggX12_findExpected_X12_begin : GoodIn wsX12_findExpected wsX12_begin := goodIn_k tie_wsX12_findExpected tie_wsX12_begin (by decide +kernel)
set_option maxRecDepth 20000 in
theorem gX12_findExpected_X12_begin : GoodIn wsX12_findExpected (wsV RX12 199 RX12 yX12_begin wsX12_begin) := goodIn_app (goodIn_k (is := [1109, 1110, 1111, 5]) tie_wsX12_findExpected rfl (by decide +kernel)) ggX12_findExpected_X12_begin
set_option maxRecDepth 20000 in
theorem ggX12_findExpected_X12_sumOf : GoodIn wsX12_findExpected wsX12_sumOf := goodIn_k tie_wsX12_findExpected tie_wsX12_sumOf (by decide +kernel)
set_option maxRecDepth 20000 in
theorem gX12_findExpected_X12_sumOf : GoodIn wsX12_findExpected (wsV RX12 143 RX12 yX12_sumOf wsX12_sumOf) := goodIn_app (goodIn_k (is := [431, 432, 433, 5]) tie_wsX12_findExpected rfl (by decide +kernel)) ggX12_findExpected_X12_sumOf
set_option maxRecDepth 20000 in
theorem ggX12_findExpected_X12_right : GoodIn wsX12_findExpected wsX12_right := goodIn_k tie_wsX12_findExpected tie_wsX12_right (by decide +kernel)
set_option maxRecDepth 20000 in
theorem gX12_findExpected_X12_right : GoodIn wsX12_findExpected (wsV RX12 203 RX12 yX12_right wsX12_right) := goodIn_app (goodIn_k (is := [1113, 1114, 1115, 5]) tie_wsX12_findExpected rfl (by decide +kernel)) ggX12_findExpected_X12_right
set_option maxRecDepth 20000 in
theorem ggX12_findExpected_X12_giveSolved : GoodIn wsX12_findExpected wsX12_giveSolved := goodIn_k tie_wsX12_findExpected tie_wsX12_giveSolved (by decide +kernel)
set_option maxRecDepth 20000 in
theorem gX12_findExpected_X12_giveSolved : GoodIn wsX12_findExpected (wsV RX12 207 RX12 yX12_giveSolved wsX12_giveSolved) := goodIn_app (goodIn_k (is := [1117, 1118, 1119, 5]) tie_wsX12_findExpected rfl (by decide +kernel)) ggX12_findExpected_X12_giveSolved
theorem dX12_findExpected_0 : decode cX12_findExpected 0 = .ok (.aload_n 0, 1) := by decide +kernel
theorem dX12_findExpected_1 : decode cX12_findExpected 1 = .ok (.aload_n 0, 1) := by decide +kernel
theorem dX12_findExpected_2 : decode cX12_findExpected 2 = .ok (.invokevirtual 193, 3) := by decide +kernel
theorem dX12_findExpected_5 : decode cX12_findExpected 5 = .ok (.iload_n 1, 1) := by decide +kernel
theorem dX12_findExpected_6 : decode cX12_findExpected 6 = .ok (.invokevirtual 223, 3) := by decide +kernel
theorem dX12_findExpected_9 : decode cX12_findExpected 9 = .ok (.iload_n 2, 1) := by decide +kernel
theorem dX12_findExpected_10 : decode cX12_findExpected 10 = .ok (.invokestatic 121, 3) := by decide +kernel
theorem dX12_findExpected_13 : decode cX12_findExpected 13 = .ok (.ifCond .ne 5, 3) := by decide +kernel
theorem dX12_findExpected_16 : decode cX12_findExpected 16 = .ok (.iconst 0, 1) := by decide +kernel
theorem dX12_findExpected_17 : decode cX12_findExpected 17 = .ok (.ireturn, 1) := by decide +kernel
theorem dX12_findExpected_18 : decode cX12_findExpected 18 = .ok (.iload_n 1, 1) := by decide +kernel
theorem dX12_findExpected_19 : decode cX12_findExpected 19 = .ok (.iload_n 2, 1) := by decide +kernel
theorem dX12_findExpected_20 : decode cX12_findExpected 20 = .ok (.invokestatic 121, 3) := by decide +kernel
theorem dX12_findExpected_23 : decode cX12_findExpected 23 = .ok (.ifCond .eq 11, 3) := by decide +kernel
theorem dX12_findExpected_26 : decode cX12_findExpected 26 = .ok (.aload_n 0, 1) := by decide +kernel
theorem dX12_findExpected_27 : decode cX12_findExpected 27 = .ok (.lconst 0, 1) := by decide +kernel
theorem dX12_findExpected_28 : decode cX12_findExpected 28 = .ok (.lconst 1, 1) := by decide +kernel
theorem dX12_findExpected_29 : decode cX12_findExpected 29 = .ok (.invokevirtual 169, 3) := by decide +kernel
theorem dX12_findExpected_32 : decode cX12_findExpected 32 = .ok (.iconst 1, 1) := by decide +kernel
theorem dX12_findExpected_33 : decode cX12_findExpected 33 = .ok (.ireturn, 1) := by decide +kernel
theorem dX12_findExpected_34 : decode cX12_findExpected 34 = .ok (.aload_n 0, 1) := by decide +kernel
theorem dX12_findExpected_35 : decode cX12_findExpected 35 = .ok (.aload_n 0, 1) := by decide +kernel
theorem dX12_findExpected_36 : decode cX12_findExpected 36 = .ok (.aload_n 0, 1) := by decide +kernel
theorem dX12_findExpected_37 : decode cX12_findExpected 37 = .ok (.invokevirtual 193, 3) := by decide +kernel
theorem dX12_findExpected_40 : decode cX12_findExpected 40 = .ok (.iload_n 1, 1) := by decide +kernel
theorem dX12_findExpected_41 : decode cX12_findExpected 41 = .ok (.invokevirtual 223, 3) := by decide +kernel
theorem dX12_findExpected_44 : decode cX12_findExpected 44 = .ok (.iload_n 1, 1) := by decide +kernel
theorem dX12_findExpected_45 : decode cX12_findExpected 45 = .ok (.iconst (-1), 1) := by decide +kernel
theorem dX12_findExpected_46 : decode cX12_findExpected 46 = .ok (.ixor, 1) := by decide +kernel
theorem dX12_findExpected_47 : decode cX12_findExpected 47 = .ok (.iand, 1) := by decide +kernel
theorem dX12_findExpected_48 : decode cX12_findExpected 48 = .ok (.invokevirtual 199, 3) := by decide +kernel
theorem dX12_findExpected_51 : decode cX12_findExpected 51 = .ok (.iconst 0, 1) := by decide +kernel
theorem dX12_findExpected_52 : decode cX12_findExpected 52 = .ok (.istore_n 3, 1) := by decide +kernel
theorem dX12_findExpected_53 : decode cX12_findExpected 53 = .ok (.iload_n 3, 1) := by decide +kernel
theorem dX12_findExpected_54 : decode cX12_findExpected 54 = .ok (.aload_n 0, 1) := by decide +kernel
theorem dX12_findExpected_55 : decode cX12_findExpected 55 = .ok (.getfield 180, 3) := by decide +kernel
theorem dX12_findExpected_58 : decode cX12_findExpected 58 = .ok (.if_icmp .ge 41, 3) := by decide +kernel
theorem dX12_findExpected_61 : decode cX12_findExpected 61 = .ok (.aload_n 0, 1) := by decide +kernel
theorem dX12_findExpected_62 : decode cX12_findExpected 62 = .ok (.iload_n 3, 1) := by decide +kernel
theorem dX12_findExpected_63 : decode cX12_findExpected 63 = .ok (.aload_n 0, 1) := by decide +kernel
theorem dX12_findExpected_64 : decode cX12_findExpected 64 = .ok (.aload_n 0, 1) := by decide +kernel
theorem dX12_findExpected_65 : decode cX12_findExpected 65 = .ok (.getfield 29, 3) := by decide +kernel
theorem dX12_findExpected_68 : decode cX12_findExpected 68 = .ok (.iload_n 3, 1) := by decide +kernel
theorem dX12_findExpected_69 : decode cX12_findExpected 69 = .ok (.iaload, 1) := by decide +kernel
theorem dX12_findExpected_70 : decode cX12_findExpected 70 = .ok (.invokevirtual 143, 3) := by decide +kernel
theorem dX12_findExpected_73 : decode cX12_findExpected 73 = .ok (.i2l, 1) := by decide +kernel
theorem dX12_findExpected_74 : decode cX12_findExpected 74 = .ok (.aload_n 0, 1) := by decide +kernel
theorem dX12_findExpected_75 : decode cX12_findExpected 75 = .ok (.getfield 9, 3) := by decide +kernel
theorem dX12_findExpected_78 : decode cX12_findExpected 78 = .ok (.bipush 73, 2) := by decide +kernel
theorem dX12_findExpected_80 : decode cX12_findExpected 80 = .ok (.aload_n 0, 1) := by decide +kernel
theorem dX12_findExpected_81 : decode cX12_findExpected 81 = .ok (.getfield 29, 3) := by decide +kernel
theorem dX12_findExpected_84 : decode cX12_findExpected 84 = .ok (.iload_n 3, 1) := by decide +kernel
theorem dX12_findExpected_85 : decode cX12_findExpected 85 = .ok (.iaload, 1) := by decide +kernel
theorem dX12_findExpected_86 : decode cX12_findExpected 86 = .ok (.iadd, 1) := by decide +kernel
theorem dX12_findExpected_87 : decode cX12_findExpected 87 = .ok (.iaload, 1) := by decide +kernel
theorem dX12_findExpected_88 : decode cX12_findExpected 88 = .ok (.i2l, 1) := by decide +kernel
theorem dX12_findExpected_89 : decode cX12_findExpected 89 = .ok (.lmul, 1) := by decide +kernel
theorem dX12_findExpected_90 : decode cX12_findExpected 90 = .ok (.invokevirtual 203, 3) := by decide +kernel
theorem dX12_findExpected_93 : decode cX12_findExpected 93 = .ok (.iinc 3 1, 3) := by decide +kernel
theorem dX12_findExpected_96 : decode cX12_findExpected 96 = .ok (.goto (-43), 3) := by decide +kernel
theorem dX12_findExpected_99 : decode cX12_findExpected 99 = .ok (.aload_n 0, 1) := by decide +kernel
theorem dX12_findExpected_100 : decode cX12_findExpected 100 = .ok (.iload_n 2, 1) := by decide +kernel
theorem dX12_findExpected_101 : decode cX12_findExpected 101 = .ok (.invokevirtual 207, 3) := by decide +kernel
theorem dX12_findExpected_104 : decode cX12_findExpected 104 = .ok (.iconst 1, 1) := by decide +kernel
theorem dX12_findExpected_105 : decode cX12_findExpected 105 = .ok (.ireturn, 1) := by decide +kernel
set_option maxRecDepth 20000 in
theorem ggX12_feed_X12_in : GoodIn wsX12_feed wsX12_in := goodIn_k tie_wsX12_feed tie_wsX12_in (by decide +kernel)
set_option maxRecDepth 20000 in
theorem gX12_feed_X12_in : GoodIn wsX12_feed (va_wsS RX12 86 yX12_in wsX12_in) := goodIn_app (goodIn_k (is := [237, 238, 5]) tie_wsX12_feed rfl (by decide +kernel)) ggX12_feed_X12_in
theorem dX12_feed_0 : decode cX12_feed 0 = .ok (.iload_n 1, 1) := by decide +kernel
theorem dX12_feed_1 : decode cX12_feed 1 = .ok (.bipush 33, 2) := by decide +kernel
theorem dX12_feed_3 : decode cX12_feed 3 = .ok (.bipush 126, 2) := by decide +kernel
theorem dX12_feed_5 : decode cX12_feed 5 = .ok (.invokestatic 86, 3) := by decide +kernel
theorem dX12_feed_8 : decode cX12_feed 8 = .ok (.ifCond .ne 5, 3) := by decide +kernel
theorem dX12_feed_11 : decode cX12_feed 11 = .ok (.iconst (-1), 1) := by decide +kernel
theorem dX12_feed_12 : decode cX12_feed 12 = .ok (.ireturn, 1) := by decide +kernel
theorem dX12_feed_13 : decode cX12_feed 13 = .ok (.aload_n 0, 1) := by decide +kernel
theorem dX12_feed_14 : decode cX12_feed 14 = .ok (.getfield 226, 3) := by decide +kernel
theorem dX12_feed_17 : decode cX12_feed 17 = .ok (.bipush 50, 2) := by decide +kernel
theorem dX12_feed_19 : decode cX12_feed 19 = .ok (.if_icmp .ne 6, 3) := by decide +kernel
theorem dX12_feed_22 : decode cX12_feed 22 = .ok (.bipush (-3), 2) := by decide +kernel
theorem dX12_feed_24 : decode cX12_feed 24 = .ok (.ireturn, 1) := by decide +kernel
theorem dX12_feed_25 : decode cX12_feed 25 = .ok (.aload_n 0, 1) := by decide +kernel
theorem dX12_feed_26 : decode cX12_feed 26 = .ok (.getfield 74, 3) := by decide +kernel
theorem dX12_feed_29 : decode cX12_feed 29 = .ok (.aload_n 0, 1) := by decide +kernel
theorem dX12_feed_30 : decode cX12_feed 30 = .ok (.getfield 226, 3) := by decide +kernel
theorem dX12_feed_33 : decode cX12_feed 33 = .ok (.iload_n 1, 1) := by decide +kernel
theorem dX12_feed_34 : decode cX12_feed 34 = .ok (.iastore, 1) := by decide +kernel
theorem dX12_feed_35 : decode cX12_feed 35 = .ok (.aload_n 0, 1) := by decide +kernel
theorem dX12_feed_36 : decode cX12_feed 36 = .ok (.dup, 1) := by decide +kernel
theorem dX12_feed_37 : decode cX12_feed 37 = .ok (.getfield 226, 3) := by decide +kernel
theorem dX12_feed_40 : decode cX12_feed 40 = .ok (.iconst 1, 1) := by decide +kernel
theorem dX12_feed_41 : decode cX12_feed 41 = .ok (.iadd, 1) := by decide +kernel
theorem dX12_feed_42 : decode cX12_feed 42 = .ok (.putfield 226, 3) := by decide +kernel
theorem dX12_feed_45 : decode cX12_feed 45 = .ok (.aload_n 0, 1) := by decide +kernel
theorem dX12_feed_46 : decode cX12_feed 46 = .ok (.getfield 226, 3) := by decide +kernel
theorem dX12_feed_49 : decode cX12_feed 49 = .ok (.ireturn, 1) := by decide +kernel
theorem dX12_here_0 : decode cX12_here 0 = .ok (.aload_n 0, 1) := by decide +kernel
theorem dX12_here_1 : decode cX12_here 1 = .ok (.getfield 229, 3) := by decide +kernel
theorem dX12_here_4 : decode cX12_here 4 = .ok (.aload_n 0, 1) := by decide +kernel
theorem dX12_here_5 : decode cX12_here 5 = .ok (.getfield 226, 3) := by decide +kernel
theorem dX12_here_8 : decode cX12_here 8 = .ok (.if_icmp .ge 15, 3) := by decide +kernel
theorem dX12_here_11 : decode cX12_here 11 = .ok (.aload_n 0, 1) := by decide +kernel
theorem dX12_here_12 : decode cX12_here 12 = .ok (.getfield 74, 3) := by decide +kernel
theorem dX12_here_15 : decode cX12_here 15 = .ok (.aload_n 0, 1) := by decide +kernel
theorem dX12_here_16 : decode cX12_here 16 = .ok (.getfield 229, 3) := by decide +kernel
theorem dX12_here_19 : decode cX12_here 19 = .ok (.iaload, 1) := by decide +kernel
theorem dX12_here_20 : decode cX12_here 20 = .ok (.goto 4, 3) := by decide +kernel
theorem dX12_here_23 : decode cX12_here 23 = .ok (.iconst 0, 1) := by decide +kernel
theorem dX12_here_24 : decode cX12_here 24 = .ok (.ireturn, 1) := by decide +kernel
set_option maxRecDepth 20000 in
theorem ggX12_isDigit_X12_here : GoodIn wsX12_isDigit wsX12_here := goodIn_k tie_wsX12_isDigit tie_wsX12_here (by decide +kernel)
set_option maxRecDepth 20000 in
theorem gX12_isDigit_X12_here : GoodIn wsX12_isDigit (wsV RX12 232 RX12 yX12_here wsX12_here) := goodIn_app (goodIn_k (is := [815, 816, 817, 5]) tie_wsX12_isDigit rfl (by decide +kernel)) ggX12_isDigit_X12_here
set_option maxRecDepth 20000 in
theorem ggX12_isDigit_X12_in : GoodIn wsX12_isDigit wsX12_in := goodIn_k tie_wsX12_isDigit tie_wsX12_in (by decide +kernel)
set_option maxRecDepth 20000 in
theorem gX12_isDigit_X12_in : GoodIn wsX12_isDigit (va_wsS RX12 86 yX12_in wsX12_in) := goodIn_app (goodIn_k (is := [237, 238, 5]) tie_wsX12_isDigit rfl (by decide +kernel)) ggX12_isDigit_X12_in
theorem dX12_isDigit_0 : decode cX12_isDigit 0 = .ok (.aload_n 0, 1) := by decide +kernel
theorem dX12_isDigit_1 : decode cX12_isDigit 1 = .ok (.invokevirtual 232, 3) := by decide +kernel
theorem dX12_isDigit_4 : decode cX12_isDigit 4 = .ok (.bipush 48, 2) := by decide +kernel
theorem dX12_isDigit_6 : decode cX12_isDigit 6 = .ok (.bipush 57, 2) := by decide +kernel
theorem dX12_isDigit_8 : decode cX12_isDigit 8 = .ok (.invokestatic 86, 3) := by decide +kernel
theorem dX12_isDigit_11 : decode cX12_isDigit 11 = .ok (.ireturn, 1) := by decide +kernel
set_option maxRecDepth 20000 in
theorem ggX12_wants_X12_here : GoodIn wsX12_wants wsX12_here := goodIn_k tie_wsX12_wants tie_wsX12_here (by decide +kernel)
set_option maxRecDepth 20000 in
theorem gX12_wants_X12_here : GoodIn wsX12_wants (wsV RX12 232 RX12 yX12_here wsX12_here) := goodIn_app (goodIn_k (is := [815, 816, 817, 5]) tie_wsX12_wants rfl (by decide +kernel)) ggX12_wants_X12_here
theorem dX12_wants_0 : decode cX12_wants 0 = .ok (.aload_n 0, 1) := by decide +kernel
theorem dX12_wants_1 : decode cX12_wants 1 = .ok (.getfield 235, 3) := by decide +kernel
theorem dX12_wants_4 : decode cX12_wants 4 = .ok (.ifCond .ne 24, 3) := by decide +kernel
