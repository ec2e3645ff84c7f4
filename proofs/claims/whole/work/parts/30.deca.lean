theorem dX12_init_0 : decode cX12_init 0 = .ok (.aload_n 0, 1) := by decide +kernel
theorem dX12_init_1 : decode cX12_init 1 = .ok (.invokespecial 3, 3) := by decide +kernel
theorem dX12_init_4 : decode cX12_init 4 = .ok (.aload_n 0, 1) := by decide +kernel
theorem dX12_init_5 : decode cX12_init 5 = .ok (.bipush 81, 2) := by decide +kernel
theorem dX12_init_7 : decode cX12_init 7 = .ok (.newarray .int, 2) := by decide +kernel
theorem dX12_init_9 : decode cX12_init 9 = .ok (.putfield 9, 3) := by decide +kernel
theorem dX12_init_12 : decode cX12_init 12 = .ok (.aload_n 0, 1) := by decide +kernel
theorem dX12_init_13 : decode cX12_init 13 = .ok (.bipush 81, 2) := by decide +kernel
theorem dX12_init_15 : decode cX12_init 15 = .ok (.newarray .int, 2) := by decide +kernel
theorem dX12_init_17 : decode cX12_init 17 = .ok (.putfield 13, 3) := by decide +kernel
theorem dX12_init_20 : decode cX12_init 20 = .ok (.aload_n 0, 1) := by decide +kernel
theorem dX12_init_21 : decode cX12_init 21 = .ok (.sipush 648, 3) := by decide +kernel
theorem dX12_init_24 : decode cX12_init 24 = .ok (.newarray .int, 2) := by decide +kernel
theorem dX12_init_26 : decode cX12_init 26 = .ok (.putfield 16, 3) := by decide +kernel
theorem dX12_init_29 : decode cX12_init 29 = .ok (.aload_n 0, 1) := by decide +kernel
theorem dX12_init_30 : decode cX12_init 30 = .ok (.bipush 8, 2) := by decide +kernel
theorem dX12_init_32 : decode cX12_init 32 = .ok (.newarray .int, 2) := by decide +kernel
theorem dX12_init_34 : decode cX12_init 34 = .ok (.putfield 19, 3) := by decide +kernel
theorem dX12_init_37 : decode cX12_init 37 = .ok (.aload_n 0, 1) := by decide +kernel
theorem dX12_init_38 : decode cX12_init 38 = .ok (.bipush 8, 2) := by decide +kernel
theorem dX12_init_40 : decode cX12_init 40 = .ok (.newarray .int, 2) := by decide +kernel
theorem dX12_init_42 : decode cX12_init 42 = .ok (.putfield 22, 3) := by decide +kernel
theorem dX12_init_45 : decode cX12_init 45 = .ok (.aload_n 0, 1) := by decide +kernel
theorem dX12_init_46 : decode cX12_init 46 = .ok (.bipush 72, 2) := by decide +kernel
theorem dX12_init_48 : decode cX12_init 48 = .ok (.newarray .long, 2) := by decide +kernel
theorem dX12_init_50 : decode cX12_init 50 = .ok (.putfield 25, 3) := by decide +kernel
theorem dX12_init_53 : decode cX12_init 53 = .ok (.aload_n 0, 1) := by decide +kernel
theorem dX12_init_54 : decode cX12_init 54 = .ok (.bipush 8, 2) := by decide +kernel
theorem dX12_init_56 : decode cX12_init 56 = .ok (.newarray .int, 2) := by decide +kernel
theorem dX12_init_58 : decode cX12_init 58 = .ok (.putfield 29, 3) := by decide +kernel
theorem dX12_init_61 : decode cX12_init 61 = .ok (.aload_n 0, 1) := by decide +kernel
theorem dX12_init_62 : decode cX12_init 62 = .ok (.bipush 8, 2) := by decide +kernel
theorem dX12_init_64 : decode cX12_init 64 = .ok (.newarray .long, 2) := by decide +kernel
theorem dX12_init_66 : decode cX12_init 66 = .ok (.putfield 32, 3) := by decide +kernel
theorem dX12_init_69 : decode cX12_init 69 = .ok (.aload_n 0, 1) := by decide +kernel
theorem dX12_init_70 : decode cX12_init 70 = .ok (.bipush 8, 2) := by decide +kernel
theorem dX12_init_72 : decode cX12_init 72 = .ok (.newarray .long, 2) := by decide +kernel
theorem dX12_init_74 : decode cX12_init 74 = .ok (.putfield 35, 3) := by decide +kernel
theorem dX12_init_77 : decode cX12_init 77 = .ok (.aload_n 0, 1) := by decide +kernel
theorem dX12_init_78 : decode cX12_init 78 = .ok (.bipush 8, 2) := by decide +kernel
theorem dX12_init_80 : decode cX12_init 80 = .ok (.newarray .long, 2) := by decide +kernel
theorem dX12_init_82 : decode cX12_init 82 = .ok (.putfield 38, 3) := by decide +kernel
theorem dX12_init_85 : decode cX12_init 85 = .ok (.aload_n 0, 1) := by decide +kernel
theorem dX12_init_86 : decode cX12_init 86 = .ok (.sipush 300, 3) := by decide +kernel
theorem dX12_init_89 : decode cX12_init 89 = .ok (.newarray .int, 2) := by decide +kernel
theorem dX12_init_91 : decode cX12_init 91 = .ok (.putfield 41, 3) := by decide +kernel
theorem dX12_init_94 : decode cX12_init 94 = .ok (.aload_n 0, 1) := by decide +kernel
theorem dX12_init_95 : decode cX12_init 95 = .ok (.sipush 300, 3) := by decide +kernel
theorem dX12_init_98 : decode cX12_init 98 = .ok (.newarray .int, 2) := by decide +kernel
theorem dX12_init_100 : decode cX12_init 100 = .ok (.putfield 44, 3) := by decide +kernel
theorem dX12_init_103 : decode cX12_init 103 = .ok (.aload_n 0, 1) := by decide +kernel
theorem dX12_init_104 : decode cX12_init 104 = .ok (.sipush 300, 3) := by decide +kernel
theorem dX12_init_107 : decode cX12_init 107 = .ok (.newarray .int, 2) := by decide +kernel
theorem dX12_init_109 : decode cX12_init 109 = .ok (.putfield 47, 3) := by decide +kernel
theorem dX12_init_112 : decode cX12_init 112 = .ok (.aload_n 0, 1) := by decide +kernel
theorem dX12_init_113 : decode cX12_init 113 = .ok (.sipush 300, 3) := by decide +kernel
theorem dX12_init_116 : decode cX12_init 116 = .ok (.newarray .int, 2) := by decide +kernel
theorem dX12_init_118 : decode cX12_init 118 = .ok (.putfield 50, 3) := by decide +kernel
theorem dX12_init_121 : decode cX12_init 121 = .ok (.aload_n 0, 1) := by decide +kernel
theorem dX12_init_122 : decode cX12_init 122 = .ok (.sipush 300, 3) := by decide +kernel
theorem dX12_init_125 : decode cX12_init 125 = .ok (.newarray .int, 2) := by decide +kernel
theorem dX12_init_127 : decode cX12_init 127 = .ok (.putfield 53, 3) := by decide +kernel
theorem dX12_init_130 : decode cX12_init 130 = .ok (.aload_n 0, 1) := by decide +kernel
theorem dX12_init_131 : decode cX12_init 131 = .ok (.sipush 300, 3) := by decide +kernel
theorem dX12_init_134 : decode cX12_init 134 = .ok (.newarray .int, 2) := by decide +kernel
theorem dX12_init_136 : decode cX12_init 136 = .ok (.putfield 56, 3) := by decide +kernel
theorem dX12_init_139 : decode cX12_init 139 = .ok (.aload_n 0, 1) := by decide +kernel
theorem dX12_init_140 : decode cX12_init 140 = .ok (.sipush 300, 3) := by decide +kernel
theorem dX12_init_143 : decode cX12_init 143 = .ok (.newarray .int, 2) := by decide +kernel
theorem dX12_init_145 : decode cX12_init 145 = .ok (.putfield 59, 3) := by decide +kernel
theorem dX12_init_148 : decode cX12_init 148 = .ok (.aload_n 0, 1) := by decide +kernel
theorem dX12_init_149 : decode cX12_init 149 = .ok (.bipush 6, 2) := by decide +kernel
theorem dX12_init_151 : decode cX12_init 151 = .ok (.newarray .int, 2) := by decide +kernel
theorem dX12_init_153 : decode cX12_init 153 = .ok (.putfield 62, 3) := by decide +kernel
theorem dX12_init_156 : decode cX12_init 156 = .ok (.aload_n 0, 1) := by decide +kernel
theorem dX12_init_157 : decode cX12_init 157 = .ok (.bipush 7, 2) := by decide +kernel
theorem dX12_init_159 : decode cX12_init 159 = .ok (.newarray .int, 2) := by decide +kernel
theorem dX12_init_161 : decode cX12_init 161 = .ok (.putfield 65, 3) := by decide +kernel
theorem dX12_init_164 : decode cX12_init 164 = .ok (.aload_n 0, 1) := by decide +kernel
theorem dX12_init_165 : decode cX12_init 165 = .ok (.sipush 300, 3) := by decide +kernel
theorem dX12_init_168 : decode cX12_init 168 = .ok (.newarray .int, 2) := by decide +kernel
theorem dX12_init_170 : decode cX12_init 170 = .ok (.putfield 68, 3) := by decide +kernel
theorem dX12_init_173 : decode cX12_init 173 = .ok (.aload_n 0, 1) := by decide +kernel
theorem dX12_init_174 : decode cX12_init 174 = .ok (.bipush 6, 2) := by decide +kernel
theorem dX12_init_176 : decode cX12_init 176 = .ok (.newarray .int, 2) := by decide +kernel
theorem dX12_init_178 : decode cX12_init 178 = .ok (.putfield 71, 3) := by decide +kernel
theorem dX12_init_181 : decode cX12_init 181 = .ok (.aload_n 0, 1) := by decide +kernel
theorem dX12_init_182 : decode cX12_init 182 = .ok (.bipush 50, 2) := by decide +kernel
theorem dX12_init_184 : decode cX12_init 184 = .ok (.newarray .int, 2) := by decide +kernel
theorem dX12_init_186 : decode cX12_init 186 = .ok (.putfield 74, 3) := by decide +kernel
theorem dX12_init_189 : decode cX12_init 189 = .ok (.aload_n 0, 1) := by decide +kernel
theorem dX12_init_190 : decode cX12_init 190 = .ok (.bipush 8, 2) := by decide +kernel
theorem dX12_init_192 : decode cX12_init 192 = .ok (.newarray .long, 2) := by decide +kernel
theorem dX12_init_194 : decode cX12_init 194 = .ok (.putfield 77, 3) := by decide +kernel
theorem dX12_init_197 : decode cX12_init 197 = .ok (.aload_n 0, 1) := by decide +kernel
theorem dX12_init_198 : decode cX12_init 198 = .ok (.bipush 8, 2) := by decide +kernel
theorem dX12_init_200 : decode cX12_init 200 = .ok (.newarray .long, 2) := by decide +kernel
theorem dX12_init_202 : decode cX12_init 202 = .ok (.putfield 80, 3) := by decide +kernel
theorem dX12_init_205 : decode cX12_init 205 = .ok (.aload_n 0, 1) := by decide +kernel
theorem dX12_init_206 : decode cX12_init 206 = .ok (.bipush 8, 2) := by decide +kernel
theorem dX12_init_208 : decode cX12_init 208 = .ok (.newarray .int, 2) := by decide +kernel
theorem dX12_init_210 : decode cX12_init 210 = .ok (.putfield 83, 3) := by decide +kernel
theorem dX12_init_213 : decode cX12_init 213 = .ok (.return_, 1) := by decide +kernel
theorem dX12_in_0 : decode cX12_in 0 = .ok (.iload_n 0, 1) := by decide +kernel
theorem dX12_in_1 : decode cX12_in 1 = .ok (.iload_n 1, 1) := by decide +kernel
theorem dX12_in_2 : decode cX12_in 2 = .ok (.if_icmp .lt 12, 3) := by decide +kernel
theorem dX12_in_5 : decode cX12_in 5 = .ok (.iload_n 0, 1) := by decide +kernel
theorem dX12_in_6 : decode cX12_in 6 = .ok (.iload_n 2, 1) := by decide +kernel
theorem dX12_in_7 : decode cX12_in 7 = .ok (.if_icmp .gt 7, 3) := by decide +kernel
theorem dX12_in_10 : decode cX12_in 10 = .ok (.iconst 1, 1) := by decide +kernel
theorem dX12_in_11 : decode cX12_in 11 = .ok (.goto 4, 3) := by decide +kernel
theorem dX12_in_14 : decode cX12_in 14 = .ok (.iconst 0, 1) := by decide +kernel
theorem dX12_in_15 : decode cX12_in 15 = .ok (.ireturn, 1) := by decide +kernel
set_option maxRecDepth 20000 in
theorem ggX12_isState_X12_in : GoodIn wsX12_isState wsX12_in := goodIn_k tie_wsX12_isState tie_wsX12_in (by decide +kernel)
set_option maxRecDepth 20000 in
theorem gX12_isState_X12_in : GoodIn wsX12_isState (va_wsS RX12 86 yX12_in wsX12_in) := goodIn_app (goodIn_k (is := [237, 238, 5]) tie_wsX12_isState rfl (by decide +kernel)) ggX12_isState_X12_in
theorem dX12_isState_0 : decode cX12_isState 0 = .ok (.iload_n 1, 1) := by decide +kernel
theorem dX12_isState_1 : decode cX12_isState 1 = .ok (.iconst 0, 1) := by decide +kernel
theorem dX12_isState_2 : decode cX12_isState 2 = .ok (.aload_n 0, 1) := by decide +kernel
theorem dX12_isState_3 : decode cX12_isState 3 = .ok (.getfield 9, 3) := by decide +kernel
theorem dX12_isState_6 : decode cX12_isState 6 = .ok (.iconst 0, 1) := by decide +kernel
theorem dX12_isState_7 : decode cX12_isState 7 = .ok (.iaload, 1) := by decide +kernel
theorem dX12_isState_8 : decode cX12_isState 8 = .ok (.iconst 1, 1) := by decide +kernel
theorem dX12_isState_9 : decode cX12_isState 9 = .ok (.isub, 1) := by decide +kernel
theorem dX12_isState_10 : decode cX12_isState 10 = .ok (.invokestatic 86, 3) := by decide +kernel
theorem dX12_isState_13 : decode cX12_isState 13 = .ok (.ireturn, 1) := by decide +kernel
theorem dX12_has_0 : decode cX12_has 0 = .ok (.iload_n 0, 1) := by decide +kernel
theorem dX12_has_1 : decode cX12_has 1 = .ok (.iload_n 1, 1) := by decide +kernel
theorem dX12_has_2 : decode cX12_has 2 = .ok (.ishr, 1) := by decide +kernel
theorem dX12_has_3 : decode cX12_has 3 = .ok (.iconst 1, 1) := by decide +kernel
theorem dX12_has_4 : decode cX12_has 4 = .ok (.iand, 1) := by decide +kernel
theorem dX12_has_5 : decode cX12_has 5 = .ok (.iconst 1, 1) := by decide +kernel
theorem dX12_has_6 : decode cX12_has 6 = .ok (.if_icmp .ne 7, 3) := by decide +kernel
theorem dX12_has_9 : decode cX12_has 9 = .ok (.iconst 1, 1) := by decide +kernel
theorem dX12_has_10 : decode cX12_has 10 = .ok (.goto 4, 3) := by decide +kernel
theorem dX12_has_13 : decode cX12_has 13 = .ok (.iconst 0, 1) := by decide +kernel
theorem dX12_has_14 : decode cX12_has 14 = .ok (.ireturn, 1) := by decide +kernel
theorem dX12_all_0 : decode cX12_all 0 = .ok (.iconst 1, 1) := by decide +kernel
theorem dX12_all_1 : decode cX12_all 1 = .ok (.aload_n 0, 1) := by decide +kernel
theorem dX12_all_2 : decode cX12_all 2 = .ok (.getfield 9, 3) := by decide +kernel
theorem dX12_all_5 : decode cX12_all 5 = .ok (.iconst 0, 1) := by decide +kernel
theorem dX12_all_6 : decode cX12_all 6 = .ok (.iaload, 1) := by decide +kernel
theorem dX12_all_7 : decode cX12_all 7 = .ok (.ishl, 1) := by decide +kernel
theorem dX12_all_8 : decode cX12_all 8 = .ok (.iconst 1, 1) := by decide +kernel
theorem dX12_all_9 : decode cX12_all 9 = .ok (.isub, 1) := by decide +kernel
theorem dX12_all_10 : decode cX12_all 10 = .ok (.ireturn, 1) := by decide +kernel
theorem dX12_change_0 : decode cX12_change 0 = .ok (.aload_n 0, 1) := by decide +kernel
theorem dX12_change_1 : decode cX12_change 1 = .ok (.getfield 90, 3) := by decide +kernel
theorem dX12_change_4 : decode cX12_change 4 = .ok (.bipush 8, 2) := by decide +kernel
theorem dX12_change_6 : decode cX12_change 6 = .ok (.if_icmp .ne 30, 3) := by decide +kernel
theorem dX12_change_9 : decode cX12_change 9 = .ok (.aload_n 0, 1) := by decide +kernel
theorem dX12_change_10 : decode cX12_change 10 = .ok (.getfield 16, 3) := by decide +kernel
theorem dX12_change_13 : decode cX12_change 13 = .ok (.bipush 81, 2) := by decide +kernel
theorem dX12_change_15 : decode cX12_change 15 = .ok (.aload_n 0, 1) := by decide +kernel
theorem dX12_change_16 : decode cX12_change 16 = .ok (.getfield 16, 3) := by decide +kernel
theorem dX12_change_19 : decode cX12_change 19 = .ok (.iconst 0, 1) := by decide +kernel
theorem dX12_change_20 : decode cX12_change 20 = .ok (.sipush 567, 3) := by decide +kernel
theorem dX12_change_23 : decode cX12_change 23 = .ok (.invokestatic 94, 3) := by decide +kernel
theorem dX12_change_26 : decode cX12_change 26 = .ok (.aload_n 0, 1) := by decide +kernel
theorem dX12_change_27 : decode cX12_change 27 = .ok (.dup, 1) := by decide +kernel
theorem dX12_change_28 : decode cX12_change 28 = .ok (.getfield 90, 3) := by decide +kernel
theorem dX12_change_31 : decode cX12_change 31 = .ok (.iconst 1, 1) := by decide +kernel
theorem dX12_change_32 : decode cX12_change 32 = .ok (.isub, 1) := by decide +kernel
theorem dX12_change_33 : decode cX12_change 33 = .ok (.putfield 90, 3) := by decide +kernel
theorem dX12_change_36 : decode cX12_change 36 = .ok (.aload_n 0, 1) := by decide +kernel
theorem dX12_change_37 : decode cX12_change 37 = .ok (.getfield 9, 3) := by decide +kernel
theorem dX12_change_40 : decode cX12_change 40 = .ok (.iconst 0, 1) := by decide +kernel
theorem dX12_change_41 : decode cX12_change 41 = .ok (.aload_n 0, 1) := by decide +kernel
theorem dX12_change_42 : decode cX12_change 42 = .ok (.getfield 16, 3) := by decide +kernel
theorem dX12_change_45 : decode cX12_change 45 = .ok (.bipush 81, 2) := by decide +kernel
theorem dX12_change_47 : decode cX12_change 47 = .ok (.aload_n 0, 1) := by decide +kernel
theorem dX12_change_48 : decode cX12_change 48 = .ok (.getfield 90, 3) := by decide +kernel
theorem dX12_change_51 : decode cX12_change 51 = .ok (.imul, 1) := by decide +kernel
theorem dX12_change_52 : decode cX12_change 52 = .ok (.bipush 81, 2) := by decide +kernel
theorem dX12_change_54 : decode cX12_change 54 = .ok (.invokestatic 94, 3) := by decide +kernel
theorem dX12_change_57 : decode cX12_change 57 = .ok (.aload_n 0, 1) := by decide +kernel
theorem dX12_change_58 : decode cX12_change 58 = .ok (.dup, 1) := by decide +kernel
theorem dX12_change_59 : decode cX12_change 59 = .ok (.getfield 90, 3) := by decide +kernel
theorem dX12_change_62 : decode cX12_change 62 = .ok (.iconst 1, 1) := by decide +kernel
theorem dX12_change_63 : decode cX12_change 63 = .ok (.iadd, 1) := by decide +kernel
theorem dX12_change_64 : decode cX12_change 64 = .ok (.putfield 90, 3) := by decide +kernel
theorem dX12_change_67 : decode cX12_change 67 = .ok (.return_, 1) := by decide +kernel
set_option maxRecDepth 20000 in
theorem ggX12_addState_X12_change : GoodIn wsX12_addState wsX12_change := goodIn_k tie_wsX12_addState tie_wsX12_change (by decide +kernel)
set_option maxRecDepth 20000 in
theorem gX12_addState_X12_change : GoodIn wsX12_addState (wsV RX12 100 RX12 yX12_change wsX12_change) := goodIn_app (goodIn_k (is := [169, 170, 171, 5]) tie_wsX12_addState rfl (by decide +kernel)) ggX12_addState_X12_change
theorem dX12_addState_0 : decode cX12_addState 0 = .ok (.aload_n 0, 1) := by decide +kernel
theorem dX12_addState_1 : decode cX12_addState 1 = .ok (.getfield 9, 3) := by decide +kernel
theorem dX12_addState_4 : decode cX12_addState 4 = .ok (.iconst 0, 1) := by decide +kernel
theorem dX12_addState_5 : decode cX12_addState 5 = .ok (.iaload, 1) := by decide +kernel
theorem dX12_addState_6 : decode cX12_addState 6 = .ok (.bipush 8, 2) := by decide +kernel
theorem dX12_addState_8 : decode cX12_addState 8 = .ok (.if_icmp .ne 6, 3) := by decide +kernel
theorem dX12_addState_11 : decode cX12_addState 11 = .ok (.bipush (-3), 2) := by decide +kernel
theorem dX12_addState_13 : decode cX12_addState 13 = .ok (.ireturn, 1) := by decide +kernel
theorem dX12_addState_14 : decode cX12_addState 14 = .ok (.aload_n 0, 1) := by decide +kernel
theorem dX12_addState_15 : decode cX12_addState 15 = .ok (.invokevirtual 100, 3) := by decide +kernel
theorem dX12_addState_18 : decode cX12_addState 18 = .ok (.aload_n 0, 1) := by decide +kernel
theorem dX12_addState_19 : decode cX12_addState 19 = .ok (.getfield 9, 3) := by decide +kernel
theorem dX12_addState_22 : decode cX12_addState 22 = .ok (.iconst 0, 1) := by decide +kernel
theorem dX12_addState_23 : decode cX12_addState 23 = .ok (.dup2, 1) := by decide +kernel
theorem dX12_addState_24 : decode cX12_addState 24 = .ok (.iaload, 1) := by decide +kernel
theorem dX12_addState_25 : decode cX12_addState 25 = .ok (.iconst 1, 1) := by decide +kernel
theorem dX12_addState_26 : decode cX12_addState 26 = .ok (.iadd, 1) := by decide +kernel
theorem dX12_addState_27 : decode cX12_addState 27 = .ok (.iastore, 1) := by decide +kernel
theorem dX12_addState_28 : decode cX12_addState 28 = .ok (.aload_n 0, 1) := by decide +kernel
theorem dX12_addState_29 : decode cX12_addState 29 = .ok (.getfield 9, 3) := by decide +kernel
theorem dX12_addState_32 : decode cX12_addState 32 = .ok (.iconst 0, 1) := by decide +kernel
theorem dX12_addState_33 : decode cX12_addState 33 = .ok (.iaload, 1) := by decide +kernel
theorem dX12_addState_34 : decode cX12_addState 34 = .ok (.iconst 1, 1) := by decide +kernel
theorem dX12_addState_35 : decode cX12_addState 35 = .ok (.isub, 1) := by decide +kernel
theorem dX12_addState_36 : decode cX12_addState 36 = .ok (.ireturn, 1) := by decide +kernel
set_option maxRecDepth 20000 in
theorem ggX12_removeState_X12_change : GoodIn wsX12_removeState wsX12_change := goodIn_k tie_wsX12_removeState tie_wsX12_change (by decide +kernel)
set_option maxRecDepth 20000 in
theorem gX12_removeState_X12_change : GoodIn wsX12_removeState (wsV RX12 100 RX12 yX12_change wsX12_change) := goodIn_app (goodIn_k (is := [169, 170, 171, 5]) tie_wsX12_removeState rfl (by decide +kernel)) ggX12_removeState_X12_change
theorem dX12_removeState_0 : decode cX12_removeState 0 = .ok (.aload_n 0, 1) := by decide +kernel
theorem dX12_removeState_1 : decode cX12_removeState 1 = .ok (.getfield 9, 3) := by decide +kernel
theorem dX12_removeState_4 : decode cX12_removeState 4 = .ok (.iconst 0, 1) := by decide +kernel
theorem dX12_removeState_5 : decode cX12_removeState 5 = .ok (.iaload, 1) := by decide +kernel
theorem dX12_removeState_6 : decode cX12_removeState 6 = .ok (.ifCond .ne 6, 3) := by decide +kernel
theorem dX12_removeState_9 : decode cX12_removeState 9 = .ok (.bipush (-2), 2) := by decide +kernel
theorem dX12_removeState_11 : decode cX12_removeState 11 = .ok (.ireturn, 1) := by decide +kernel
theorem dX12_removeState_12 : decode cX12_removeState 12 = .ok (.aload_n 0, 1) := by decide +kernel
theorem dX12_removeState_13 : decode cX12_removeState 13 = .ok (.invokevirtual 100, 3) := by decide +kernel
theorem dX12_removeState_16 : decode cX12_removeState 16 = .ok (.aload_n 0, 1) := by decide +kernel
theorem dX12_removeState_17 : decode cX12_removeState 17 = .ok (.getfield 9, 3) := by decide +kernel
theorem dX12_removeState_20 : decode cX12_removeState 20 = .ok (.iconst 0, 1) := by decide +kernel
theorem dX12_removeState_21 : decode cX12_removeState 21 = .ok (.dup2, 1) := by decide +kernel
theorem dX12_removeState_22 : decode cX12_removeState 22 = .ok (.iaload, 1) := by decide +kernel
theorem dX12_removeState_23 : decode cX12_removeState 23 = .ok (.iconst 1, 1) := by decide +kernel
theorem dX12_removeState_24 : decode cX12_removeState 24 = .ok (.isub, 1) := by decide +kernel
theorem dX12_removeState_25 : decode cX12_removeState 25 = .ok (.iastore, 1) := by decide +kernel
theorem dX12_removeState_26 : decode cX12_removeState 26 = .ok (.aload_n 0, 1) := by decide +kernel
theorem dX12_removeState_27 : decode cX12_removeState 27 = .ok (.getfield 9, 3) := by decide +kernel
theorem dX12_removeState_30 : decode cX12_removeState 30 = .ok (.iconst 0, 1) := by decide +kernel
theorem dX12_removeState_31 : decode cX12_removeState 31 = .ok (.iaload, 1) := by decide +kernel
theorem dX12_removeState_32 : decode cX12_removeState 32 = .ok (.istore_n 1, 1) := by decide +kernel
theorem dX12_removeState_33 : decode cX12_removeState 33 = .ok (.iconst 0, 1) := by decide +kernel
theorem dX12_removeState_34 : decode cX12_removeState 34 = .ok (.istore_n 2, 1) := by decide +kernel
theorem dX12_removeState_35 : decode cX12_removeState 35 = .ok (.iload_n 2, 1) := by decide +kernel
theorem dX12_removeState_36 : decode cX12_removeState 36 = .ok (.bipush 8, 2) := by decide +kernel
theorem dX12_removeState_38 : decode cX12_removeState 38 = .ok (.if_icmp .ge 37, 3) := by decide +kernel
theorem dX12_removeState_41 : decode cX12_removeState 41 = .ok (.aload_n 0, 1) := by decide +kernel
theorem dX12_removeState_42 : decode cX12_removeState 42 = .ok (.getfield 9, 3) := by decide +kernel
theorem dX12_removeState_45 : decode cX12_removeState 45 = .ok (.iconst 1, 1) := by decide +kernel
theorem dX12_removeState_46 : decode cX12_removeState 46 = .ok (.bipush 8, 2) := by decide +kernel
theorem dX12_removeState_48 : decode cX12_removeState 48 = .ok (.iload_n 2, 1) := by decide +kernel
theorem dX12_removeState_49 : decode cX12_removeState 49 = .ok (.imul, 1) := by decide +kernel
theorem dX12_removeState_50 : decode cX12_removeState 50 = .ok (.iadd, 1) := by decide +kernel
theorem dX12_removeState_51 : decode cX12_removeState 51 = .ok (.iload_n 1, 1) := by decide +kernel
theorem dX12_removeState_52 : decode cX12_removeState 52 = .ok (.iadd, 1) := by decide +kernel
theorem dX12_removeState_53 : decode cX12_removeState 53 = .ok (.iconst 0, 1) := by decide +kernel
theorem dX12_removeState_54 : decode cX12_removeState 54 = .ok (.iastore, 1) := by decide +kernel
theorem dX12_removeState_55 : decode cX12_removeState 55 = .ok (.aload_n 0, 1) := by decide +kernel
theorem dX12_removeState_56 : decode cX12_removeState 56 = .ok (.getfield 9, 3) := by decide +kernel
theorem dX12_removeState_59 : decode cX12_removeState 59 = .ok (.iconst 1, 1) := by decide +kernel
theorem dX12_removeState_60 : decode cX12_removeState 60 = .ok (.bipush 8, 2) := by decide +kernel
theorem dX12_removeState_62 : decode cX12_removeState 62 = .ok (.iload_n 1, 1) := by decide +kernel
theorem dX12_removeState_63 : decode cX12_removeState 63 = .ok (.imul, 1) := by decide +kernel
theorem dX12_removeState_64 : decode cX12_removeState 64 = .ok (.iadd, 1) := by decide +kernel
theorem dX12_removeState_65 : decode cX12_removeState 65 = .ok (.iload_n 2, 1) := by decide +kernel
theorem dX12_removeState_66 : decode cX12_removeState 66 = .ok (.iadd, 1) := by decide +kernel
theorem dX12_removeState_67 : decode cX12_removeState 67 = .ok (.iconst 0, 1) := by decide +kernel
theorem dX12_removeState_68 : decode cX12_removeState 68 = .ok (.iastore, 1) := by decide +kernel
theorem dX12_removeState_69 : decode cX12_removeState 69 = .ok (.iinc 2 1, 3) := by decide +kernel
theorem dX12_removeState_72 : decode cX12_removeState 72 = .ok (.goto (-37), 3) := by decide +kernel
theorem dX12_removeState_75 : decode cX12_removeState 75 = .ok (.aload_n 0, 1) := by decide +kernel
theorem dX12_removeState_76 : decode cX12_removeState 76 = .ok (.getfield 9, 3) := by decide +kernel
theorem dX12_removeState_79 : decode cX12_removeState 79 = .ok (.bipush 65, 2) := by decide +kernel
theorem dX12_removeState_81 : decode cX12_removeState 81 = .ok (.iload_n 1, 1) := by decide +kernel
theorem dX12_removeState_82 : decode cX12_removeState 82 = .ok (.iadd, 1) := by decide +kernel
theorem dX12_removeState_83 : decode cX12_removeState 83 = .ok (.iconst 0, 1) := by decide +kernel
theorem dX12_removeState_84 : decode cX12_removeState 84 = .ok (.iastore, 1) := by decide +kernel
theorem dX12_removeState_85 : decode cX12_removeState 85 = .ok (.aload_n 0, 1) := by decide +kernel
theorem dX12_removeState_86 : decode cX12_removeState 86 = .ok (.getfield 9, 3) := by decide +kernel
theorem dX12_removeState_89 : decode cX12_removeState 89 = .ok (.bipush 73, 2) := by decide +kernel
theorem dX12_removeState_91 : decode cX12_removeState 91 = .ok (.iload_n 1, 1) := by decide +kernel
theorem dX12_removeState_92 : decode cX12_removeState 92 = .ok (.iadd, 1) := by decide +kernel
theorem dX12_removeState_93 : decode cX12_removeState 93 = .ok (.iconst 0, 1) := by decide +kernel
theorem dX12_removeState_94 : decode cX12_removeState 94 = .ok (.iastore, 1) := by decide +kernel
theorem dX12_removeState_95 : decode cX12_removeState 95 = .ok (.iload_n 1, 1) := by decide +kernel
theorem dX12_removeState_96 : decode cX12_removeState 96 = .ok (.ireturn, 1) := by decide +kernel
theorem dX12_stateCount_0 : decode cX12_stateCount 0 = .ok (.aload_n 0, 1) := by decide +kernel
theorem dX12_stateCount_1 : decode cX12_stateCount 1 = .ok (.getfield 9, 3) := by decide +kernel
theorem dX12_stateCount_4 : decode cX12_stateCount 4 = .ok (.iconst 0, 1) := by decide +kernel
theorem dX12_stateCount_5 : decode cX12_stateCount 5 = .ok (.iaload, 1) := by decide +kernel
theorem dX12_stateCount_6 : decode cX12_stateCount 6 = .ok (.ireturn, 1) := by decide +kernel
theorem dX12_toldSum_0 : decode cX12_toldSum 0 = .ok (.iconst 0, 1) := by decide +kernel
theorem dX12_toldSum_1 : decode cX12_toldSum 1 = .ok (.istore_n 2, 1) := by decide +kernel
theorem dX12_toldSum_2 : decode cX12_toldSum 2 = .ok (.iconst 0, 1) := by decide +kernel
theorem dX12_toldSum_3 : decode cX12_toldSum 3 = .ok (.istore_n 3, 1) := by decide +kernel
theorem dX12_toldSum_4 : decode cX12_toldSum 4 = .ok (.iload_n 3, 1) := by decide +kernel
theorem dX12_toldSum_5 : decode cX12_toldSum 5 = .ok (.bipush 8, 2) := by decide +kernel
theorem dX12_toldSum_7 : decode cX12_toldSum 7 = .ok (.if_icmp .ge 25, 3) := by decide +kernel
theorem dX12_toldSum_10 : decode cX12_toldSum 10 = .ok (.iload_n 2, 1) := by decide +kernel
theorem dX12_toldSum_11 : decode cX12_toldSum 11 = .ok (.aload_n 0, 1) := by decide +kernel
theorem dX12_toldSum_12 : decode cX12_toldSum 12 = .ok (.getfield 9, 3) := by decide +kernel
theorem dX12_toldSum_15 : decode cX12_toldSum 15 = .ok (.iconst 1, 1) := by decide +kernel
theorem dX12_toldSum_16 : decode cX12_toldSum 16 = .ok (.bipush 8, 2) := by decide +kernel
theorem dX12_toldSum_18 : decode cX12_toldSum 18 = .ok (.iload_n 1, 1) := by decide +kernel
theorem dX12_toldSum_19 : decode cX12_toldSum 19 = .ok (.imul, 1) := by decide +kernel
theorem dX12_toldSum_20 : decode cX12_toldSum 20 = .ok (.iadd, 1) := by decide +kernel
theorem dX12_toldSum_21 : decode cX12_toldSum 21 = .ok (.iload_n 3, 1) := by decide +kernel
theorem dX12_toldSum_22 : decode cX12_toldSum 22 = .ok (.iadd, 1) := by decide +kernel
theorem dX12_toldSum_23 : decode cX12_toldSum 23 = .ok (.iaload, 1) := by decide +kernel
theorem dX12_toldSum_24 : decode cX12_toldSum 24 = .ok (.iadd, 1) := by decide +kernel
theorem dX12_toldSum_25 : decode cX12_toldSum 25 = .ok (.istore_n 2, 1) := by decide +kernel
theorem dX12_toldSum_26 : decode cX12_toldSum 26 = .ok (.iinc 3 1, 3) := by decide +kernel
theorem dX12_toldSum_29 : decode cX12_toldSum 29 = .ok (.goto (-25), 3) := by decide +kernel
theorem dX12_toldSum_32 : decode cX12_toldSum 32 = .ok (.iload_n 2, 1) := by decide +kernel
theorem dX12_toldSum_33 : decode cX12_toldSum 33 = .ok (.ireturn, 1) := by decide +kernel
set_option maxRecDepth 20000 in
theorem ggX12_setWeight_X12_isState : GoodIn wsX12_setWeight wsX12_isState := goodIn_k tie_wsX12_setWeight tie_wsX12_isState (by decide +kernel)
set_option maxRecDepth 20000 in
theorem gX12_setWeight_X12_isState : GoodIn wsX12_setWeight (wsV RX12 103 RX12 yX12_isState wsX12_isState) := goodIn_app (goodIn_k (is := [233, 234, 235, 5]) tie_wsX12_setWeight rfl (by decide +kernel)) ggX12_setWeight_X12_isState
set_option maxRecDepth 20000 in
theorem ggX12_setWeight_X12_in : GoodIn wsX12_setWeight wsX12_in := goodIn_k tie_wsX12_setWeight tie_wsX12_in (by decide +kernel)
set_option maxRecDepth 20000 in
theorem gX12_setWeight_X12_in : GoodIn wsX12_setWeight (va_wsS RX12 86 yX12_in wsX12_in) := goodIn_app (goodIn_k (is := [237, 238, 5]) tie_wsX12_setWeight rfl (by decide +kernel)) ggX12_setWeight_X12_in
set_option maxRecDepth 20000 in
theorem ggX12_setWeight_X12_toldSum : GoodIn wsX12_setWeight wsX12_toldSum := goodIn_k tie_wsX12_setWeight tie_wsX12_toldSum (by decide +kernel)
set_option maxRecDepth 20000 in
theorem gX12_setWeight_X12_toldSum : GoodIn wsX12_setWeight (wsV RX12 107 RX12 yX12_toldSum wsX12_toldSum) := goodIn_app (goodIn_k (is := [240, 241, 242, 5]) tie_wsX12_setWeight rfl (by decide +kernel)) ggX12_setWeight_X12_toldSum
set_option maxRecDepth 20000 in
theorem ggX12_setWeight_X12_change : GoodIn wsX12_setWeight wsX12_change := goodIn_k tie_wsX12_setWeight tie_wsX12_change (by decide +kernel)
set_option maxRecDepth 20000 in
theorem gX12_setWeight_X12_change : GoodIn wsX12_setWeight (wsV RX12 100 RX12 yX12_change wsX12_change) := goodIn_app (goodIn_k (is := [169, 170, 171, 5]) tie_wsX12_setWeight rfl (by decide +kernel)) ggX12_setWeight_X12_change
theorem dX12_setWeight_0 : decode cX12_setWeight 0 = .ok (.aload_n 0, 1) := by decide +kernel
theorem dX12_setWeight_1 : decode cX12_setWeight 1 = .ok (.iload_n 1, 1) := by decide +kernel
theorem dX12_setWeight_2 : decode cX12_setWeight 2 = .ok (.invokevirtual 103, 3) := by decide +kernel
theorem dX12_setWeight_5 : decode cX12_setWeight 5 = .ok (.ifCond .eq 21, 3) := by decide +kernel
theorem dX12_setWeight_8 : decode cX12_setWeight 8 = .ok (.aload_n 0, 1) := by decide +kernel
theorem dX12_setWeight_9 : decode cX12_setWeight 9 = .ok (.iload_n 2, 1) := by decide +kernel
theorem dX12_setWeight_10 : decode cX12_setWeight 10 = .ok (.invokevirtual 103, 3) := by decide +kernel
theorem dX12_setWeight_13 : decode cX12_setWeight 13 = .ok (.ifCond .eq 13, 3) := by decide +kernel
theorem dX12_setWeight_16 : decode cX12_setWeight 16 = .ok (.iload_n 3, 1) := by decide +kernel
theorem dX12_setWeight_17 : decode cX12_setWeight 17 = .ok (.iconst 0, 1) := by decide +kernel
theorem dX12_setWeight_18 : decode cX12_setWeight 18 = .ok (.bipush 9, 2) := by decide +kernel
theorem dX12_setWeight_20 : decode cX12_setWeight 20 = .ok (.invokestatic 86, 3) := by decide +kernel
theorem dX12_setWeight_23 : decode cX12_setWeight 23 = .ok (.ifCond .ne 5, 3) := by decide +kernel
theorem dX12_setWeight_26 : decode cX12_setWeight 26 = .ok (.iconst (-1), 1) := by decide +kernel
theorem dX12_setWeight_27 : decode cX12_setWeight 27 = .ok (.ireturn, 1) := by decide +kernel
theorem dX12_setWeight_28 : decode cX12_setWeight 28 = .ok (.aload_n 0, 1) := by decide +kernel
theorem dX12_setWeight_29 : decode cX12_setWeight 29 = .ok (.getfield 9, 3) := by decide +kernel
theorem dX12_setWeight_32 : decode cX12_setWeight 32 = .ok (.iconst 1, 1) := by decide +kernel
theorem dX12_setWeight_33 : decode cX12_setWeight 33 = .ok (.bipush 8, 2) := by decide +kernel
theorem dX12_setWeight_35 : decode cX12_setWeight 35 = .ok (.iload_n 1, 1) := by decide +kernel
theorem dX12_setWeight_36 : decode cX12_setWeight 36 = .ok (.imul, 1) := by decide +kernel
theorem dX12_setWeight_37 : decode cX12_setWeight 37 = .ok (.iadd, 1) := by decide +kernel
theorem dX12_setWeight_38 : decode cX12_setWeight 38 = .ok (.iload_n 2, 1) := by decide +kernel
theorem dX12_setWeight_39 : decode cX12_setWeight 39 = .ok (.iadd, 1) := by decide +kernel
theorem dX12_setWeight_40 : decode cX12_setWeight 40 = .ok (.iaload, 1) := by decide +kernel
theorem dX12_setWeight_41 : decode cX12_setWeight 41 = .ok (.istore 4, 2) := by decide +kernel
theorem dX12_setWeight_43 : decode cX12_setWeight 43 = .ok (.aload_n 0, 1) := by decide +kernel
theorem dX12_setWeight_44 : decode cX12_setWeight 44 = .ok (.iload_n 1, 1) := by decide +kernel
theorem dX12_setWeight_45 : decode cX12_setWeight 45 = .ok (.invokevirtual 107, 3) := by decide +kernel
theorem dX12_setWeight_48 : decode cX12_setWeight 48 = .ok (.iload 4, 2) := by decide +kernel
theorem dX12_setWeight_50 : decode cX12_setWeight 50 = .ok (.isub, 1) := by decide +kernel
theorem dX12_setWeight_51 : decode cX12_setWeight 51 = .ok (.iload_n 3, 1) := by decide +kernel
theorem dX12_setWeight_52 : decode cX12_setWeight 52 = .ok (.iadd, 1) := by decide +kernel
theorem dX12_setWeight_53 : decode cX12_setWeight 53 = .ok (.bipush 10, 2) := by decide +kernel
theorem dX12_setWeight_55 : decode cX12_setWeight 55 = .ok (.if_icmp .le 6, 3) := by decide +kernel
theorem dX12_setWeight_58 : decode cX12_setWeight 58 = .ok (.bipush (-3), 2) := by decide +kernel
theorem dX12_setWeight_60 : decode cX12_setWeight 60 = .ok (.ireturn, 1) := by decide +kernel
theorem dX12_setWeight_61 : decode cX12_setWeight 61 = .ok (.aload_n 0, 1) := by decide +kernel
theorem dX12_setWeight_62 : decode cX12_setWeight 62 = .ok (.invokevirtual 100, 3) := by decide +kernel
theorem dX12_setWeight_65 : decode cX12_setWeight 65 = .ok (.aload_n 0, 1) := by decide +kernel
theorem dX12_setWeight_66 : decode cX12_setWeight 66 = .ok (.getfield 9, 3) := by decide +kernel
theorem dX12_setWeight_69 : decode cX12_setWeight 69 = .ok (.iconst 1, 1) := by decide +kernel
theorem dX12_setWeight_70 : decode cX12_setWeight 70 = .ok (.bipush 8, 2) := by decide +kernel
theorem dX12_setWeight_72 : decode cX12_setWeight 72 = .ok (.iload_n 1, 1) := by decide +kernel
theorem dX12_setWeight_73 : decode cX12_setWeight 73 = .ok (.imul, 1) := by decide +kernel
theorem dX12_setWeight_74 : decode cX12_setWeight 74 = .ok (.iadd, 1) := by decide +kernel
theorem dX12_setWeight_75 : decode cX12_setWeight 75 = .ok (.iload_n 2, 1) := by decide +kernel
theorem dX12_setWeight_76 : decode cX12_setWeight 76 = .ok (.iadd, 1) := by decide +kernel
theorem dX12_setWeight_77 : decode cX12_setWeight 77 = .ok (.iload_n 3, 1) := by decide +kernel
theorem dX12_setWeight_78 : decode cX12_setWeight 78 = .ok (.iastore, 1) := by decide +kernel
theorem dX12_setWeight_79 : decode cX12_setWeight 79 = .ok (.iload 4, 2) := by decide +kernel
theorem dX12_setWeight_81 : decode cX12_setWeight 81 = .ok (.ireturn, 1) := by decide +kernel
set_option maxRecDepth 20000 in
theorem ggX12_weight_X12_isState : GoodIn wsX12_weight wsX12_isState := goodIn_k tie_wsX12_weight tie_wsX12_isState (by decide +kernel)
set_option maxRecDepth 20000 in
theorem gX12_weight_X12_isState : GoodIn wsX12_weight (wsV RX12 103 RX12 yX12_isState wsX12_isState) := goodIn_app (goodIn_k (is := [233, 234, 235, 5]) tie_wsX12_weight rfl (by decide +kernel)) ggX12_weight_X12_isState
theorem dX12_weight_0 : decode cX12_weight 0 = .ok (.aload_n 0, 1) := by decide +kernel
theorem dX12_weight_1 : decode cX12_weight 1 = .ok (.iload_n 1, 1) := by decide +kernel
theorem dX12_weight_2 : decode cX12_weight 2 = .ok (.invokevirtual 103, 3) := by decide +kernel
theorem dX12_weight_5 : decode cX12_weight 5 = .ok (.ifCond .eq 27, 3) := by decide +kernel
theorem dX12_weight_8 : decode cX12_weight 8 = .ok (.aload_n 0, 1) := by decide +kernel
theorem dX12_weight_9 : decode cX12_weight 9 = .ok (.iload_n 2, 1) := by decide +kernel
theorem dX12_weight_10 : decode cX12_weight 10 = .ok (.invokevirtual 103, 3) := by decide +kernel
theorem dX12_weight_13 : decode cX12_weight 13 = .ok (.ifCond .eq 19, 3) := by decide +kernel
theorem dX12_weight_16 : decode cX12_weight 16 = .ok (.aload_n 0, 1) := by decide +kernel
theorem dX12_weight_17 : decode cX12_weight 17 = .ok (.getfield 9, 3) := by decide +kernel
theorem dX12_weight_20 : decode cX12_weight 20 = .ok (.iconst 1, 1) := by decide +kernel
theorem dX12_weight_21 : decode cX12_weight 21 = .ok (.bipush 8, 2) := by decide +kernel
theorem dX12_weight_23 : decode cX12_weight 23 = .ok (.iload_n 1, 1) := by decide +kernel
theorem dX12_weight_24 : decode cX12_weight 24 = .ok (.imul, 1) := by decide +kernel
theorem dX12_weight_25 : decode cX12_weight 25 = .ok (.iadd, 1) := by decide +kernel
theorem dX12_weight_26 : decode cX12_weight 26 = .ok (.iload_n 2, 1) := by decide +kernel
theorem dX12_weight_27 : decode cX12_weight 27 = .ok (.iadd, 1) := by decide +kernel
theorem dX12_weight_28 : decode cX12_weight 28 = .ok (.iaload, 1) := by decide +kernel
theorem dX12_weight_29 : decode cX12_weight 29 = .ok (.goto 4, 3) := by decide +kernel
theorem dX12_weight_32 : decode cX12_weight 32 = .ok (.iconst (-1), 1) := by decide +kernel
theorem dX12_weight_33 : decode cX12_weight 33 = .ok (.ireturn, 1) := by decide +kernel
set_option maxRecDepth 20000 in
theorem ggX12_sum_X12_isState : GoodIn wsX12_sum wsX12_isState := goodIn_k tie_wsX12_sum tie_wsX12_isState (by decide +kernel)
set_option maxRecDepth 20000 in
theorem gX12_sum_X12_isState : GoodIn wsX12_sum (wsV RX12 103 RX12 yX12_isState wsX12_isState) := goodIn_app (goodIn_k (is := [233, 234, 235, 5]) tie_wsX12_sum rfl (by decide +kernel)) ggX12_sum_X12_isState
set_option maxRecDepth 20000 in
theorem ggX12_sum_X12_toldSum : GoodIn wsX12_sum wsX12_toldSum := goodIn_k tie_wsX12_sum tie_wsX12_toldSum (by decide +kernel)
set_option maxRecDepth 20000 in
theorem gX12_sum_X12_toldSum : GoodIn wsX12_sum (wsV RX12 107 RX12 yX12_toldSum wsX12_toldSum) := goodIn_app (goodIn_k (is := [240, 241, 242, 5]) tie_wsX12_sum rfl (by decide +kernel)) ggX12_sum_X12_toldSum
theorem dX12_sum_0 : decode cX12_sum 0 = .ok (.aload_n 0, 1) := by decide +kernel
theorem dX12_sum_1 : decode cX12_sum 1 = .ok (.iload_n 1, 1) := by decide +kernel
theorem dX12_sum_2 : decode cX12_sum 2 = .ok (.invokevirtual 103, 3) := by decide +kernel
theorem dX12_sum_5 : decode cX12_sum 5 = .ok (.ifCond .eq 11, 3) := by decide +kernel
theorem dX12_sum_8 : decode cX12_sum 8 = .ok (.aload_n 0, 1) := by decide +kernel
theorem dX12_sum_9 : decode cX12_sum 9 = .ok (.iload_n 1, 1) := by decide +kernel
theorem dX12_sum_10 : decode cX12_sum 10 = .ok (.invokevirtual 107, 3) := by decide +kernel
theorem dX12_sum_13 : decode cX12_sum 13 = .ok (.goto 4, 3) := by decide +kernel
theorem dX12_sum_16 : decode cX12_sum 16 = .ok (.iconst (-1), 1) := by decide +kernel
theorem dX12_sum_17 : decode cX12_sum 17 = .ok (.ireturn, 1) := by decide +kernel
set_option maxRecDepth 20000 in
theorem ggX12_setLabels_X12_isState : GoodIn wsX12_setLabels wsX12_isState := goodIn_k tie_wsX12_setLabels tie_wsX12_isState (by decide +kernel)
set_option maxRecDepth 20000 in
theorem gX12_setLabels_X12_isState : GoodIn wsX12_setLabels (wsV RX12 103 RX12 yX12_isState wsX12_isState) := goodIn_app (goodIn_k (is := [233, 234, 235, 5]) tie_wsX12_setLabels rfl (by decide +kernel)) ggX12_setLabels_X12_isState
set_option maxRecDepth 20000 in
theorem ggX12_setLabels_X12_in : GoodIn wsX12_setLabels wsX12_in := goodIn_k tie_wsX12_setLabels tie_wsX12_in (by decide +kernel)
set_option maxRecDepth 20000 in
theorem gX12_setLabels_X12_in : GoodIn wsX12_setLabels (va_wsS RX12 86 yX12_in wsX12_in) := goodIn_app (goodIn_k (is := [237, 238, 5]) tie_wsX12_setLabels rfl (by decide +kernel)) ggX12_setLabels_X12_in
set_option maxRecDepth 20000 in
theorem ggX12_setLabels_X12_change : GoodIn wsX12_setLabels wsX12_change := goodIn_k tie_wsX12_setLabels tie_wsX12_change (by decide +kernel)
set_option maxRecDepth 20000 in
theorem gX12_setLabels_X12_change : GoodIn wsX12_setLabels (wsV RX12 100 RX12 yX12_change wsX12_change) := goodIn_app (goodIn_k (is := [169, 170, 171, 5]) tie_wsX12_setLabels rfl (by decide +kernel)) ggX12_setLabels_X12_change
theorem dX12_setLabels_0 : decode cX12_setLabels 0 = .ok (.aload_n 0, 1) := by decide +kernel
theorem dX12_setLabels_1 : decode cX12_setLabels 1 = .ok (.iload_n 1, 1) := by decide +kernel
theorem dX12_setLabels_2 : decode cX12_setLabels 2 = .ok (.invokevirtual 103, 3) := by decide +kernel
theorem dX12_setLabels_5 : decode cX12_setLabels 5 = .ok (.ifCond .eq 13, 3) := by decide +kernel
theorem dX12_setLabels_8 : decode cX12_setLabels 8 = .ok (.iload_n 2, 1) := by decide +kernel
theorem dX12_setLabels_9 : decode cX12_setLabels 9 = .ok (.iconst 0, 1) := by decide +kernel
theorem dX12_setLabels_10 : decode cX12_setLabels 10 = .ok (.bipush 15, 2) := by decide +kernel
theorem dX12_setLabels_12 : decode cX12_setLabels 12 = .ok (.invokestatic 86, 3) := by decide +kernel
theorem dX12_setLabels_15 : decode cX12_setLabels 15 = .ok (.ifCond .ne 5, 3) := by decide +kernel
theorem dX12_setLabels_18 : decode cX12_setLabels 18 = .ok (.iconst (-1), 1) := by decide +kernel
theorem dX12_setLabels_19 : decode cX12_setLabels 19 = .ok (.ireturn, 1) := by decide +kernel
theorem dX12_setLabels_20 : decode cX12_setLabels 20 = .ok (.aload_n 0, 1) := by decide +kernel
theorem dX12_setLabels_21 : decode cX12_setLabels 21 = .ok (.invokevirtual 100, 3) := by decide +kernel
theorem dX12_setLabels_24 : decode cX12_setLabels 24 = .ok (.aload_n 0, 1) := by decide +kernel
theorem dX12_setLabels_25 : decode cX12_setLabels 25 = .ok (.getfield 9, 3) := by decide +kernel
theorem dX12_setLabels_28 : decode cX12_setLabels 28 = .ok (.bipush 65, 2) := by decide +kernel
theorem dX12_setLabels_30 : decode cX12_setLabels 30 = .ok (.iload_n 1, 1) := by decide +kernel
theorem dX12_setLabels_31 : decode cX12_setLabels 31 = .ok (.iadd, 1) := by decide +kernel
theorem dX12_setLabels_32 : decode cX12_setLabels 32 = .ok (.iaload, 1) := by decide +kernel
theorem dX12_setLabels_33 : decode cX12_setLabels 33 = .ok (.istore_n 3, 1) := by decide +kernel
theorem dX12_setLabels_34 : decode cX12_setLabels 34 = .ok (.aload_n 0, 1) := by decide +kernel
theorem dX12_setLabels_35 : decode cX12_setLabels 35 = .ok (.getfield 9, 3) := by decide +kernel
theorem dX12_setLabels_38 : decode cX12_setLabels 38 = .ok (.bipush 65, 2) := by decide +kernel
theorem dX12_setLabels_40 : decode cX12_setLabels 40 = .ok (.iload_n 1, 1) := by decide +kernel
theorem dX12_setLabels_41 : decode cX12_setLabels 41 = .ok (.iadd, 1) := by decide +kernel
theorem dX12_setLabels_42 : decode cX12_setLabels 42 = .ok (.iload_n 2, 1) := by decide +kernel
theorem dX12_setLabels_43 : decode cX12_setLabels 43 = .ok (.iastore, 1) := by decide +kernel
theorem dX12_setLabels_44 : decode cX12_setLabels 44 = .ok (.iload_n 3, 1) := by decide +kernel
theorem dX12_setLabels_45 : decode cX12_setLabels 45 = .ok (.ireturn, 1) := by decide +kernel
set_option maxRecDepth 20000 in
theorem ggX12_labels_X12_isState : GoodIn wsX12_labels wsX12_isState := goodIn_k tie_wsX12_labels tie_wsX12_isState (by decide +kernel)
set_option maxRecDepth 20000 in
theorem gX12_labels_X12_isState : GoodIn wsX12_labels (wsV RX12 103 RX12 yX12_isState wsX12_isState) := goodIn_app (goodIn_k (is := [233, 234, 235, 5]) tie_wsX12_labels rfl (by decide +kernel)) ggX12_labels_X12_isState
theorem dX12_labels_0 : decode cX12_labels 0 = .ok (.aload_n 0, 1) := by decide +kernel
theorem dX12_labels_1 : decode cX12_labels 1 = .ok (.iload_n 1, 1) := by decide +kernel
theorem dX12_labels_2 : decode cX12_labels 2 = .ok (.invokevirtual 103, 3) := by decide +kernel
theorem dX12_labels_5 : decode cX12_labels 5 = .ok (.ifCond .eq 15, 3) := by decide +kernel
theorem dX12_labels_8 : decode cX12_labels 8 = .ok (.aload_n 0, 1) := by decide +kernel
theorem dX12_labels_9 : decode cX12_labels 9 = .ok (.getfield 9, 3) := by decide +kernel
theorem dX12_labels_12 : decode cX12_labels 12 = .ok (.bipush 65, 2) := by decide +kernel
theorem dX12_labels_14 : decode cX12_labels 14 = .ok (.iload_n 1, 1) := by decide +kernel
theorem dX12_labels_15 : decode cX12_labels 15 = .ok (.iadd, 1) := by decide +kernel
theorem dX12_labels_16 : decode cX12_labels 16 = .ok (.iaload, 1) := by decide +kernel
theorem dX12_labels_17 : decode cX12_labels 17 = .ok (.goto 4, 3) := by decide +kernel
theorem dX12_labels_20 : decode cX12_labels 20 = .ok (.iconst (-1), 1) := by decide +kernel
