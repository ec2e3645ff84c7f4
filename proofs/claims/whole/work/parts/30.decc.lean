set_option maxRecDepth 20000 in
theorem gX12_findClasses_X12_stepAlike : GoodIn wsX12_findClasses (wsV RX12 146 RX12 yX12_stepAlike wsX12_stepAlike) := goodIn_app (goodIn_k (is := [419, 420, 421, 5]) tie_wsX12_findClasses rfl (by decide +kernel)) ggX12_findClasses_X12_stepAlike
theorem dX12_findClasses_0 : decode cX12_findClasses 0 = .ok (.iconst 0, 1) := by decide +kernel
theorem dX12_findClasses_1 : decode cX12_findClasses 1 = .ok (.istore_n 1, 1) := by decide +kernel
theorem dX12_findClasses_2 : decode cX12_findClasses 2 = .ok (.iconst 0, 1) := by decide +kernel
theorem dX12_findClasses_3 : decode cX12_findClasses 3 = .ok (.istore_n 2, 1) := by decide +kernel
theorem dX12_findClasses_4 : decode cX12_findClasses 4 = .ok (.iload_n 2, 1) := by decide +kernel
theorem dX12_findClasses_5 : decode cX12_findClasses 5 = .ok (.aload_n 0, 1) := by decide +kernel
theorem dX12_findClasses_6 : decode cX12_findClasses 6 = .ok (.getfield 9, 3) := by decide +kernel
theorem dX12_findClasses_9 : decode cX12_findClasses 9 = .ok (.iconst 0, 1) := by decide +kernel
theorem dX12_findClasses_10 : decode cX12_findClasses 10 = .ok (.iaload, 1) := by decide +kernel
theorem dX12_findClasses_11 : decode cX12_findClasses 11 = .ok (.if_icmp .ge 115, 3) := by decide +kernel
theorem dX12_findClasses_14 : decode cX12_findClasses 14 = .ok (.aload_n 0, 1) := by decide +kernel
theorem dX12_findClasses_15 : decode cX12_findClasses 15 = .ok (.getfield 19, 3) := by decide +kernel
theorem dX12_findClasses_18 : decode cX12_findClasses 18 = .ok (.iload_n 2, 1) := by decide +kernel
theorem dX12_findClasses_19 : decode cX12_findClasses 19 = .ok (.iload_n 1, 1) := by decide +kernel
theorem dX12_findClasses_20 : decode cX12_findClasses 20 = .ok (.iastore, 1) := by decide +kernel
theorem dX12_findClasses_21 : decode cX12_findClasses 21 = .ok (.iconst 0, 1) := by decide +kernel
theorem dX12_findClasses_22 : decode cX12_findClasses 22 = .ok (.istore_n 3, 1) := by decide +kernel
theorem dX12_findClasses_23 : decode cX12_findClasses 23 = .ok (.iload_n 3, 1) := by decide +kernel
theorem dX12_findClasses_24 : decode cX12_findClasses 24 = .ok (.iload_n 2, 1) := by decide +kernel
theorem dX12_findClasses_25 : decode cX12_findClasses 25 = .ok (.if_icmp .ge 77, 3) := by decide +kernel
theorem dX12_findClasses_28 : decode cX12_findClasses 28 = .ok (.aload_n 0, 1) := by decide +kernel
theorem dX12_findClasses_29 : decode cX12_findClasses 29 = .ok (.getfield 19, 3) := by decide +kernel
theorem dX12_findClasses_32 : decode cX12_findClasses 32 = .ok (.iload_n 2, 1) := by decide +kernel
theorem dX12_findClasses_33 : decode cX12_findClasses 33 = .ok (.iaload, 1) := by decide +kernel
theorem dX12_findClasses_34 : decode cX12_findClasses 34 = .ok (.iload_n 1, 1) := by decide +kernel
theorem dX12_findClasses_35 : decode cX12_findClasses 35 = .ok (.if_icmp .ne 67, 3) := by decide +kernel
theorem dX12_findClasses_38 : decode cX12_findClasses 38 = .ok (.aload_n 0, 1) := by decide +kernel
theorem dX12_findClasses_39 : decode cX12_findClasses 39 = .ok (.getfield 19, 3) := by decide +kernel
theorem dX12_findClasses_42 : decode cX12_findClasses 42 = .ok (.iload_n 2, 1) := by decide +kernel
theorem dX12_findClasses_43 : decode cX12_findClasses 43 = .ok (.aload_n 0, 1) := by decide +kernel
theorem dX12_findClasses_44 : decode cX12_findClasses 44 = .ok (.getfield 9, 3) := by decide +kernel
theorem dX12_findClasses_47 : decode cX12_findClasses 47 = .ok (.bipush 65, 2) := by decide +kernel
theorem dX12_findClasses_49 : decode cX12_findClasses 49 = .ok (.iload_n 2, 1) := by decide +kernel
theorem dX12_findClasses_50 : decode cX12_findClasses 50 = .ok (.iadd, 1) := by decide +kernel
theorem dX12_findClasses_51 : decode cX12_findClasses 51 = .ok (.iaload, 1) := by decide +kernel
theorem dX12_findClasses_52 : decode cX12_findClasses 52 = .ok (.aload_n 0, 1) := by decide +kernel
theorem dX12_findClasses_53 : decode cX12_findClasses 53 = .ok (.getfield 9, 3) := by decide +kernel
theorem dX12_findClasses_56 : decode cX12_findClasses 56 = .ok (.bipush 65, 2) := by decide +kernel
theorem dX12_findClasses_58 : decode cX12_findClasses 58 = .ok (.iload_n 3, 1) := by decide +kernel
theorem dX12_findClasses_59 : decode cX12_findClasses 59 = .ok (.iadd, 1) := by decide +kernel
theorem dX12_findClasses_60 : decode cX12_findClasses 60 = .ok (.iaload, 1) := by decide +kernel
theorem dX12_findClasses_61 : decode cX12_findClasses 61 = .ok (.if_icmp .ne 33, 3) := by decide +kernel
theorem dX12_findClasses_64 : decode cX12_findClasses 64 = .ok (.aload_n 0, 1) := by decide +kernel
theorem dX12_findClasses_65 : decode cX12_findClasses 65 = .ok (.getfield 9, 3) := by decide +kernel
theorem dX12_findClasses_68 : decode cX12_findClasses 68 = .ok (.bipush 73, 2) := by decide +kernel
theorem dX12_findClasses_70 : decode cX12_findClasses 70 = .ok (.iload_n 2, 1) := by decide +kernel
theorem dX12_findClasses_71 : decode cX12_findClasses 71 = .ok (.iadd, 1) := by decide +kernel
theorem dX12_findClasses_72 : decode cX12_findClasses 72 = .ok (.iaload, 1) := by decide +kernel
theorem dX12_findClasses_73 : decode cX12_findClasses 73 = .ok (.aload_n 0, 1) := by decide +kernel
theorem dX12_findClasses_74 : decode cX12_findClasses 74 = .ok (.getfield 9, 3) := by decide +kernel
theorem dX12_findClasses_77 : decode cX12_findClasses 77 = .ok (.bipush 73, 2) := by decide +kernel
theorem dX12_findClasses_79 : decode cX12_findClasses 79 = .ok (.iload_n 3, 1) := by decide +kernel
theorem dX12_findClasses_80 : decode cX12_findClasses 80 = .ok (.iadd, 1) := by decide +kernel
theorem dX12_findClasses_81 : decode cX12_findClasses 81 = .ok (.iaload, 1) := by decide +kernel
theorem dX12_findClasses_82 : decode cX12_findClasses 82 = .ok (.if_icmp .ne 12, 3) := by decide +kernel
theorem dX12_findClasses_85 : decode cX12_findClasses 85 = .ok (.aload_n 0, 1) := by decide +kernel
theorem dX12_findClasses_86 : decode cX12_findClasses 86 = .ok (.getfield 19, 3) := by decide +kernel
theorem dX12_findClasses_89 : decode cX12_findClasses 89 = .ok (.iload_n 3, 1) := by decide +kernel
theorem dX12_findClasses_90 : decode cX12_findClasses 90 = .ok (.iaload, 1) := by decide +kernel
theorem dX12_findClasses_91 : decode cX12_findClasses 91 = .ok (.goto 4, 3) := by decide +kernel
theorem dX12_findClasses_94 : decode cX12_findClasses 94 = .ok (.iload_n 1, 1) := by decide +kernel
theorem dX12_findClasses_95 : decode cX12_findClasses 95 = .ok (.iastore, 1) := by decide +kernel
theorem dX12_findClasses_96 : decode cX12_findClasses 96 = .ok (.iinc 3 1, 3) := by decide +kernel
theorem dX12_findClasses_99 : decode cX12_findClasses 99 = .ok (.goto (-76), 3) := by decide +kernel
theorem dX12_findClasses_102 : decode cX12_findClasses 102 = .ok (.iload_n 1, 1) := by decide +kernel
theorem dX12_findClasses_103 : decode cX12_findClasses 103 = .ok (.aload_n 0, 1) := by decide +kernel
theorem dX12_findClasses_104 : decode cX12_findClasses 104 = .ok (.getfield 19, 3) := by decide +kernel
theorem dX12_findClasses_107 : decode cX12_findClasses 107 = .ok (.iload_n 2, 1) := by decide +kernel
theorem dX12_findClasses_108 : decode cX12_findClasses 108 = .ok (.iaload, 1) := by decide +kernel
theorem dX12_findClasses_109 : decode cX12_findClasses 109 = .ok (.iload_n 1, 1) := by decide +kernel
theorem dX12_findClasses_110 : decode cX12_findClasses 110 = .ok (.if_icmp .ne 7, 3) := by decide +kernel
theorem dX12_findClasses_113 : decode cX12_findClasses 113 = .ok (.iconst 1, 1) := by decide +kernel
theorem dX12_findClasses_114 : decode cX12_findClasses 114 = .ok (.goto 4, 3) := by decide +kernel
theorem dX12_findClasses_117 : decode cX12_findClasses 117 = .ok (.iconst 0, 1) := by decide +kernel
theorem dX12_findClasses_118 : decode cX12_findClasses 118 = .ok (.iadd, 1) := by decide +kernel
theorem dX12_findClasses_119 : decode cX12_findClasses 119 = .ok (.istore_n 1, 1) := by decide +kernel
theorem dX12_findClasses_120 : decode cX12_findClasses 120 = .ok (.iinc 2 1, 3) := by decide +kernel
theorem dX12_findClasses_123 : decode cX12_findClasses 123 = .ok (.goto (-119), 3) := by decide +kernel
theorem dX12_findClasses_126 : decode cX12_findClasses 126 = .ok (.iconst 0, 1) := by decide +kernel
theorem dX12_findClasses_127 : decode cX12_findClasses 127 = .ok (.istore_n 2, 1) := by decide +kernel
theorem dX12_findClasses_128 : decode cX12_findClasses 128 = .ok (.iload_n 2, 1) := by decide +kernel
theorem dX12_findClasses_129 : decode cX12_findClasses 129 = .ok (.iload_n 1, 1) := by decide +kernel
theorem dX12_findClasses_130 : decode cX12_findClasses 130 = .ok (.if_icmp .eq 121, 3) := by decide +kernel
theorem dX12_findClasses_133 : decode cX12_findClasses 133 = .ok (.iload_n 1, 1) := by decide +kernel
theorem dX12_findClasses_134 : decode cX12_findClasses 134 = .ok (.istore_n 2, 1) := by decide +kernel
theorem dX12_findClasses_135 : decode cX12_findClasses 135 = .ok (.iconst 0, 1) := by decide +kernel
theorem dX12_findClasses_136 : decode cX12_findClasses 136 = .ok (.istore_n 1, 1) := by decide +kernel
theorem dX12_findClasses_137 : decode cX12_findClasses 137 = .ok (.iconst 0, 1) := by decide +kernel
theorem dX12_findClasses_138 : decode cX12_findClasses 138 = .ok (.istore_n 3, 1) := by decide +kernel
theorem dX12_findClasses_139 : decode cX12_findClasses 139 = .ok (.iload_n 3, 1) := by decide +kernel
theorem dX12_findClasses_140 : decode cX12_findClasses 140 = .ok (.aload_n 0, 1) := by decide +kernel
theorem dX12_findClasses_141 : decode cX12_findClasses 141 = .ok (.getfield 9, 3) := by decide +kernel
theorem dX12_findClasses_144 : decode cX12_findClasses 144 = .ok (.iconst 0, 1) := by decide +kernel
theorem dX12_findClasses_145 : decode cX12_findClasses 145 = .ok (.iaload, 1) := by decide +kernel
theorem dX12_findClasses_146 : decode cX12_findClasses 146 = .ok (.if_icmp .ge 87, 3) := by decide +kernel
theorem dX12_findClasses_149 : decode cX12_findClasses 149 = .ok (.aload_n 0, 1) := by decide +kernel
theorem dX12_findClasses_150 : decode cX12_findClasses 150 = .ok (.getfield 22, 3) := by decide +kernel
theorem dX12_findClasses_153 : decode cX12_findClasses 153 = .ok (.iload_n 3, 1) := by decide +kernel
theorem dX12_findClasses_154 : decode cX12_findClasses 154 = .ok (.iload_n 1, 1) := by decide +kernel
theorem dX12_findClasses_155 : decode cX12_findClasses 155 = .ok (.iastore, 1) := by decide +kernel
theorem dX12_findClasses_156 : decode cX12_findClasses 156 = .ok (.iconst 0, 1) := by decide +kernel
theorem dX12_findClasses_157 : decode cX12_findClasses 157 = .ok (.istore 4, 2) := by decide +kernel
theorem dX12_findClasses_159 : decode cX12_findClasses 159 = .ok (.iload 4, 2) := by decide +kernel
theorem dX12_findClasses_161 : decode cX12_findClasses 161 = .ok (.iload_n 3, 1) := by decide +kernel
theorem dX12_findClasses_162 : decode cX12_findClasses 162 = .ok (.if_icmp .ge 47, 3) := by decide +kernel
theorem dX12_findClasses_165 : decode cX12_findClasses 165 = .ok (.aload_n 0, 1) := by decide +kernel
theorem dX12_findClasses_166 : decode cX12_findClasses 166 = .ok (.getfield 22, 3) := by decide +kernel
theorem dX12_findClasses_169 : decode cX12_findClasses 169 = .ok (.iload_n 3, 1) := by decide +kernel
theorem dX12_findClasses_170 : decode cX12_findClasses 170 = .ok (.iaload, 1) := by decide +kernel
theorem dX12_findClasses_171 : decode cX12_findClasses 171 = .ok (.iload_n 1, 1) := by decide +kernel
theorem dX12_findClasses_172 : decode cX12_findClasses 172 = .ok (.if_icmp .ne 37, 3) := by decide +kernel
theorem dX12_findClasses_175 : decode cX12_findClasses 175 = .ok (.aload_n 0, 1) := by decide +kernel
theorem dX12_findClasses_176 : decode cX12_findClasses 176 = .ok (.getfield 22, 3) := by decide +kernel
theorem dX12_findClasses_179 : decode cX12_findClasses 179 = .ok (.iload_n 3, 1) := by decide +kernel
theorem dX12_findClasses_180 : decode cX12_findClasses 180 = .ok (.aload_n 0, 1) := by decide +kernel
theorem dX12_findClasses_181 : decode cX12_findClasses 181 = .ok (.iload_n 3, 1) := by decide +kernel
theorem dX12_findClasses_182 : decode cX12_findClasses 182 = .ok (.iload 4, 2) := by decide +kernel
theorem dX12_findClasses_184 : decode cX12_findClasses 184 = .ok (.iload_n 2, 1) := by decide +kernel
theorem dX12_findClasses_185 : decode cX12_findClasses 185 = .ok (.invokevirtual 146, 3) := by decide +kernel
theorem dX12_findClasses_188 : decode cX12_findClasses 188 = .ok (.ifCond .eq 13, 3) := by decide +kernel
theorem dX12_findClasses_191 : decode cX12_findClasses 191 = .ok (.aload_n 0, 1) := by decide +kernel
theorem dX12_findClasses_192 : decode cX12_findClasses 192 = .ok (.getfield 22, 3) := by decide +kernel
theorem dX12_findClasses_195 : decode cX12_findClasses 195 = .ok (.iload 4, 2) := by decide +kernel
theorem dX12_findClasses_197 : decode cX12_findClasses 197 = .ok (.iaload, 1) := by decide +kernel
theorem dX12_findClasses_198 : decode cX12_findClasses 198 = .ok (.goto 4, 3) := by decide +kernel
theorem dX12_findClasses_201 : decode cX12_findClasses 201 = .ok (.iload_n 1, 1) := by decide +kernel
theorem dX12_findClasses_202 : decode cX12_findClasses 202 = .ok (.iastore, 1) := by decide +kernel
theorem dX12_findClasses_203 : decode cX12_findClasses 203 = .ok (.iinc 4 1, 3) := by decide +kernel
theorem dX12_findClasses_206 : decode cX12_findClasses 206 = .ok (.goto (-47), 3) := by decide +kernel
theorem dX12_findClasses_209 : decode cX12_findClasses 209 = .ok (.iload_n 1, 1) := by decide +kernel
theorem dX12_findClasses_210 : decode cX12_findClasses 210 = .ok (.aload_n 0, 1) := by decide +kernel
theorem dX12_findClasses_211 : decode cX12_findClasses 211 = .ok (.getfield 22, 3) := by decide +kernel
theorem dX12_findClasses_214 : decode cX12_findClasses 214 = .ok (.iload_n 3, 1) := by decide +kernel
theorem dX12_findClasses_215 : decode cX12_findClasses 215 = .ok (.iaload, 1) := by decide +kernel
theorem dX12_findClasses_216 : decode cX12_findClasses 216 = .ok (.iload_n 1, 1) := by decide +kernel
theorem dX12_findClasses_217 : decode cX12_findClasses 217 = .ok (.if_icmp .ne 7, 3) := by decide +kernel
theorem dX12_findClasses_220 : decode cX12_findClasses 220 = .ok (.iconst 1, 1) := by decide +kernel
theorem dX12_findClasses_221 : decode cX12_findClasses 221 = .ok (.goto 4, 3) := by decide +kernel
theorem dX12_findClasses_224 : decode cX12_findClasses 224 = .ok (.iconst 0, 1) := by decide +kernel
theorem dX12_findClasses_225 : decode cX12_findClasses 225 = .ok (.iadd, 1) := by decide +kernel
theorem dX12_findClasses_226 : decode cX12_findClasses 226 = .ok (.istore_n 1, 1) := by decide +kernel
theorem dX12_findClasses_227 : decode cX12_findClasses 227 = .ok (.iinc 3 1, 3) := by decide +kernel
theorem dX12_findClasses_230 : decode cX12_findClasses 230 = .ok (.goto (-91), 3) := by decide +kernel
theorem dX12_findClasses_233 : decode cX12_findClasses 233 = .ok (.aload_n 0, 1) := by decide +kernel
theorem dX12_findClasses_234 : decode cX12_findClasses 234 = .ok (.getfield 22, 3) := by decide +kernel
theorem dX12_findClasses_237 : decode cX12_findClasses 237 = .ok (.iconst 0, 1) := by decide +kernel
theorem dX12_findClasses_238 : decode cX12_findClasses 238 = .ok (.aload_n 0, 1) := by decide +kernel
theorem dX12_findClasses_239 : decode cX12_findClasses 239 = .ok (.getfield 19, 3) := by decide +kernel
theorem dX12_findClasses_242 : decode cX12_findClasses 242 = .ok (.iconst 0, 1) := by decide +kernel
theorem dX12_findClasses_243 : decode cX12_findClasses 243 = .ok (.bipush 8, 2) := by decide +kernel
theorem dX12_findClasses_245 : decode cX12_findClasses 245 = .ok (.invokestatic 94, 3) := by decide +kernel
theorem dX12_findClasses_248 : decode cX12_findClasses 248 = .ok (.goto (-120), 3) := by decide +kernel
theorem dX12_findClasses_251 : decode cX12_findClasses 251 = .ok (.iload_n 1, 1) := by decide +kernel
theorem dX12_findClasses_252 : decode cX12_findClasses 252 = .ok (.ireturn, 1) := by decide +kernel
set_option maxRecDepth 20000 in
theorem ggX12_classCount_X12_findClasses : GoodIn wsX12_classCount wsX12_findClasses := goodIn_k tie_wsX12_classCount tie_wsX12_findClasses (by decide +kernel)
set_option maxRecDepth 20000 in
theorem gX12_classCount_X12_findClasses : GoodIn wsX12_classCount (wsV RX12 149 RX12 yX12_findClasses wsX12_findClasses) := goodIn_app (goodIn_k (is := [415, 416, 417, 5]) tie_wsX12_classCount rfl (by decide +kernel)) ggX12_classCount_X12_findClasses
theorem dX12_classCount_0 : decode cX12_classCount 0 = .ok (.aload_n 0, 1) := by decide +kernel
theorem dX12_classCount_1 : decode cX12_classCount 1 = .ok (.invokevirtual 149, 3) := by decide +kernel
theorem dX12_classCount_4 : decode cX12_classCount 4 = .ok (.ireturn, 1) := by decide +kernel
set_option maxRecDepth 20000 in
theorem ggX12_classOf_X12_isState : GoodIn wsX12_classOf wsX12_isState := goodIn_k tie_wsX12_classOf tie_wsX12_isState (by decide +kernel)
set_option maxRecDepth 20000 in
theorem gX12_classOf_X12_isState : GoodIn wsX12_classOf (wsV RX12 103 RX12 yX12_isState wsX12_isState) := goodIn_app (goodIn_k (is := [233, 234, 235, 5]) tie_wsX12_classOf rfl (by decide +kernel)) ggX12_classOf_X12_isState
set_option maxRecDepth 20000 in
theorem ggX12_classOf_X12_findClasses : GoodIn wsX12_classOf wsX12_findClasses := goodIn_k tie_wsX12_classOf tie_wsX12_findClasses (by decide +kernel)
set_option maxRecDepth 20000 in
theorem gX12_classOf_X12_findClasses : GoodIn wsX12_classOf (wsV RX12 149 RX12 yX12_findClasses wsX12_findClasses) := goodIn_app (goodIn_k (is := [415, 416, 417, 5]) tie_wsX12_classOf rfl (by decide +kernel)) ggX12_classOf_X12_findClasses
theorem dX12_classOf_0 : decode cX12_classOf 0 = .ok (.aload_n 0, 1) := by decide +kernel
theorem dX12_classOf_1 : decode cX12_classOf 1 = .ok (.iload_n 1, 1) := by decide +kernel
theorem dX12_classOf_2 : decode cX12_classOf 2 = .ok (.invokevirtual 103, 3) := by decide +kernel
theorem dX12_classOf_5 : decode cX12_classOf 5 = .ok (.ifCond .ne 5, 3) := by decide +kernel
theorem dX12_classOf_8 : decode cX12_classOf 8 = .ok (.iconst (-1), 1) := by decide +kernel
theorem dX12_classOf_9 : decode cX12_classOf 9 = .ok (.ireturn, 1) := by decide +kernel
theorem dX12_classOf_10 : decode cX12_classOf 10 = .ok (.aload_n 0, 1) := by decide +kernel
theorem dX12_classOf_11 : decode cX12_classOf 11 = .ok (.invokevirtual 149, 3) := by decide +kernel
theorem dX12_classOf_14 : decode cX12_classOf 14 = .ok (.istore_n 2, 1) := by decide +kernel
theorem dX12_classOf_15 : decode cX12_classOf 15 = .ok (.aload_n 0, 1) := by decide +kernel
theorem dX12_classOf_16 : decode cX12_classOf 16 = .ok (.getfield 19, 3) := by decide +kernel
theorem dX12_classOf_19 : decode cX12_classOf 19 = .ok (.iload_n 1, 1) := by decide +kernel
theorem dX12_classOf_20 : decode cX12_classOf 20 = .ok (.iaload, 1) := by decide +kernel
theorem dX12_classOf_21 : decode cX12_classOf 21 = .ok (.ireturn, 1) := by decide +kernel
theorem dX12_common_0 : decode cX12_common 0 = .ok (.lload_n 0, 1) := by decide +kernel
theorem dX12_common_1 : decode cX12_common 1 = .ok (.lconst 0, 1) := by decide +kernel
theorem dX12_common_2 : decode cX12_common 2 = .ok (.lcmp, 1) := by decide +kernel
theorem dX12_common_3 : decode cX12_common 3 = .ok (.ifCond .ge 8, 3) := by decide +kernel
theorem dX12_common_6 : decode cX12_common 6 = .ok (.lload_n 0, 1) := by decide +kernel
theorem dX12_common_7 : decode cX12_common 7 = .ok (.lneg, 1) := by decide +kernel
theorem dX12_common_8 : decode cX12_common 8 = .ok (.goto 4, 3) := by decide +kernel
theorem dX12_common_11 : decode cX12_common 11 = .ok (.lload_n 0, 1) := by decide +kernel
theorem dX12_common_12 : decode cX12_common 12 = .ok (.lstore 4, 2) := by decide +kernel
theorem dX12_common_14 : decode cX12_common 14 = .ok (.lload_n 2, 1) := by decide +kernel
theorem dX12_common_15 : decode cX12_common 15 = .ok (.lconst 0, 1) := by decide +kernel
theorem dX12_common_16 : decode cX12_common 16 = .ok (.lcmp, 1) := by decide +kernel
theorem dX12_common_17 : decode cX12_common 17 = .ok (.ifCond .ge 8, 3) := by decide +kernel
theorem dX12_common_20 : decode cX12_common 20 = .ok (.lload_n 2, 1) := by decide +kernel
theorem dX12_common_21 : decode cX12_common 21 = .ok (.lneg, 1) := by decide +kernel
theorem dX12_common_22 : decode cX12_common 22 = .ok (.goto 4, 3) := by decide +kernel
theorem dX12_common_25 : decode cX12_common 25 = .ok (.lload_n 2, 1) := by decide +kernel
theorem dX12_common_26 : decode cX12_common 26 = .ok (.lstore 6, 2) := by decide +kernel
theorem dX12_common_28 : decode cX12_common 28 = .ok (.lload 6, 2) := by decide +kernel
theorem dX12_common_30 : decode cX12_common 30 = .ok (.lconst 0, 1) := by decide +kernel
theorem dX12_common_31 : decode cX12_common 31 = .ok (.lcmp, 1) := by decide +kernel
theorem dX12_common_32 : decode cX12_common 32 = .ok (.ifCond .le 21, 3) := by decide +kernel
theorem dX12_common_35 : decode cX12_common 35 = .ok (.lload 4, 2) := by decide +kernel
theorem dX12_common_37 : decode cX12_common 37 = .ok (.lload 6, 2) := by decide +kernel
theorem dX12_common_39 : decode cX12_common 39 = .ok (.lrem, 1) := by decide +kernel
theorem dX12_common_40 : decode cX12_common 40 = .ok (.lstore 8, 2) := by decide +kernel
theorem dX12_common_42 : decode cX12_common 42 = .ok (.lload 6, 2) := by decide +kernel
theorem dX12_common_44 : decode cX12_common 44 = .ok (.lstore 4, 2) := by decide +kernel
theorem dX12_common_46 : decode cX12_common 46 = .ok (.lload 8, 2) := by decide +kernel
theorem dX12_common_48 : decode cX12_common 48 = .ok (.lstore 6, 2) := by decide +kernel
theorem dX12_common_50 : decode cX12_common 50 = .ok (.goto (-22), 3) := by decide +kernel
theorem dX12_common_53 : decode cX12_common 53 = .ok (.lload 4, 2) := by decide +kernel
theorem dX12_common_55 : decode cX12_common 55 = .ok (.lreturn, 1) := by decide +kernel
set_option maxRecDepth 20000 in
theorem ggX12_isPart_X12_in : GoodIn wsX12_isPart wsX12_in := goodIn_k tie_wsX12_isPart tie_wsX12_in (by decide +kernel)
set_option maxRecDepth 20000 in
theorem gX12_isPart_X12_in : GoodIn wsX12_isPart (va_wsS RX12 86 yX12_in wsX12_in) := goodIn_app (goodIn_k (is := [237, 238, 5]) tie_wsX12_isPart rfl (by decide +kernel)) ggX12_isPart_X12_in
theorem dX12_isPart_0 : decode cX12_isPart 0 = .ok (.iload_n 0, 1) := by decide +kernel
theorem dX12_isPart_1 : decode cX12_isPart 1 = .ok (.iconst 0, 1) := by decide +kernel
theorem dX12_isPart_2 : decode cX12_isPart 2 = .ok (.iconst 1, 1) := by decide +kernel
theorem dX12_isPart_3 : decode cX12_isPart 3 = .ok (.invokestatic 86, 3) := by decide +kernel
theorem dX12_isPart_6 : decode cX12_isPart 6 = .ok (.ireturn, 1) := by decide +kernel
set_option maxRecDepth 20000 in
theorem ggX12_give_X12_common : GoodIn wsX12_give wsX12_common := goodIn_k tie_wsX12_give tie_wsX12_common (by decide +kernel)
set_option maxRecDepth 20000 in
theorem gX12_give_X12_common : GoodIn wsX12_give (va_wsS RX12 153 yX12_common wsX12_common) := goodIn_app (goodIn_k (is := [488, 489, 5]) tie_wsX12_give rfl (by decide +kernel)) ggX12_give_X12_common
theorem dX12_give_0 : decode cX12_give 0 = .ok (.lload_n 1, 1) := by decide +kernel
theorem dX12_give_1 : decode cX12_give 1 = .ok (.lload_n 3, 1) := by decide +kernel
theorem dX12_give_2 : decode cX12_give 2 = .ok (.invokestatic 153, 3) := by decide +kernel
theorem dX12_give_5 : decode cX12_give 5 = .ok (.lstore 5, 2) := by decide +kernel
theorem dX12_give_7 : decode cX12_give 7 = .ok (.lload_n 3, 1) := by decide +kernel
theorem dX12_give_8 : decode cX12_give 8 = .ok (.lconst 0, 1) := by decide +kernel
theorem dX12_give_9 : decode cX12_give 9 = .ok (.lcmp, 1) := by decide +kernel
theorem dX12_give_10 : decode cX12_give 10 = .ok (.ifCond .ge 9, 3) := by decide +kernel
theorem dX12_give_13 : decode cX12_give 13 = .ok (.lload 5, 2) := by decide +kernel
theorem dX12_give_15 : decode cX12_give 15 = .ok (.lneg, 1) := by decide +kernel
theorem dX12_give_16 : decode cX12_give 16 = .ok (.goto 5, 3) := by decide +kernel
theorem dX12_give_19 : decode cX12_give 19 = .ok (.lload 5, 2) := by decide +kernel
theorem dX12_give_21 : decode cX12_give 21 = .ok (.lstore 5, 2) := by decide +kernel
theorem dX12_give_23 : decode cX12_give 23 = .ok (.aload_n 0, 1) := by decide +kernel
theorem dX12_give_24 : decode cX12_give 24 = .ok (.lload_n 1, 1) := by decide +kernel
theorem dX12_give_25 : decode cX12_give 25 = .ok (.lload 5, 2) := by decide +kernel
theorem dX12_give_27 : decode cX12_give 27 = .ok (.ldiv, 1) := by decide +kernel
theorem dX12_give_28 : decode cX12_give 28 = .ok (.putfield 157, 3) := by decide +kernel
theorem dX12_give_31 : decode cX12_give 31 = .ok (.aload_n 0, 1) := by decide +kernel
theorem dX12_give_32 : decode cX12_give 32 = .ok (.lload_n 3, 1) := by decide +kernel
theorem dX12_give_33 : decode cX12_give 33 = .ok (.lload 5, 2) := by decide +kernel
theorem dX12_give_35 : decode cX12_give 35 = .ok (.ldiv, 1) := by decide +kernel
theorem dX12_give_36 : decode cX12_give 36 = .ok (.putfield 161, 3) := by decide +kernel
theorem dX12_give_39 : decode cX12_give 39 = .ok (.return_, 1) := by decide +kernel
theorem dX12_part_0 : decode cX12_part 0 = .ok (.iload_n 1, 1) := by decide +kernel
theorem dX12_part_1 : decode cX12_part 1 = .ok (.ifCond .ne 10, 3) := by decide +kernel
theorem dX12_part_4 : decode cX12_part 4 = .ok (.aload_n 0, 1) := by decide +kernel
theorem dX12_part_5 : decode cX12_part 5 = .ok (.getfield 157, 3) := by decide +kernel
theorem dX12_part_8 : decode cX12_part 8 = .ok (.goto 7, 3) := by decide +kernel
theorem dX12_part_11 : decode cX12_part 11 = .ok (.aload_n 0, 1) := by decide +kernel
theorem dX12_part_12 : decode cX12_part 12 = .ok (.getfield 161, 3) := by decide +kernel
theorem dX12_part_15 : decode cX12_part 15 = .ok (.lreturn, 1) := by decide +kernel
set_option maxRecDepth 20000 in
theorem ggX12_lumped_X12_isState : GoodIn wsX12_lumped wsX12_isState := goodIn_k tie_wsX12_lumped tie_wsX12_isState (by decide +kernel)
set_option maxRecDepth 20000 in
theorem gX12_lumped_X12_isState : GoodIn wsX12_lumped (wsV RX12 103 RX12 yX12_isState wsX12_isState) := goodIn_app (goodIn_k (is := [233, 234, 235, 5]) tie_wsX12_lumped rfl (by decide +kernel)) ggX12_lumped_X12_isState
set_option maxRecDepth 20000 in
theorem ggX12_lumped_X12_isPart : GoodIn wsX12_lumped wsX12_isPart := goodIn_k tie_wsX12_lumped tie_wsX12_isPart (by decide +kernel)
set_option maxRecDepth 20000 in
theorem gX12_lumped_X12_isPart : GoodIn wsX12_lumped (va_wsS RX12 164 yX12_isPart wsX12_isPart) := goodIn_app (goodIn_k (is := [479, 480, 5]) tie_wsX12_lumped rfl (by decide +kernel)) ggX12_lumped_X12_isPart
set_option maxRecDepth 20000 in
theorem ggX12_lumped_X12_findClasses : GoodIn wsX12_lumped wsX12_findClasses := goodIn_k tie_wsX12_lumped tie_wsX12_findClasses (by decide +kernel)
set_option maxRecDepth 20000 in
theorem gX12_lumped_X12_findClasses : GoodIn wsX12_lumped (wsV RX12 149 RX12 yX12_findClasses wsX12_findClasses) := goodIn_app (goodIn_k (is := [415, 416, 417, 5]) tie_wsX12_lumped rfl (by decide +kernel)) ggX12_lumped_X12_findClasses
set_option maxRecDepth 20000 in
theorem ggX12_lumped_X12_in : GoodIn wsX12_lumped wsX12_in := goodIn_k tie_wsX12_lumped tie_wsX12_in (by decide +kernel)
set_option maxRecDepth 20000 in
theorem gX12_lumped_X12_in : GoodIn wsX12_lumped (va_wsS RX12 86 yX12_in wsX12_in) := goodIn_app (goodIn_k (is := [237, 238, 5]) tie_wsX12_lumped rfl (by decide +kernel)) ggX12_lumped_X12_in
set_option maxRecDepth 20000 in
theorem ggX12_lumped_X12_statesOf : GoodIn wsX12_lumped wsX12_statesOf := goodIn_k tie_wsX12_lumped tie_wsX12_statesOf (by decide +kernel)
set_option maxRecDepth 20000 in
theorem gX12_lumped_X12_statesOf : GoodIn wsX12_lumped (wsV RX12 137 RX12 yX12_statesOf wsX12_statesOf) := goodIn_app (goodIn_k (is := [423, 424, 425, 5]) tie_wsX12_lumped rfl (by decide +kernel)) ggX12_lumped_X12_statesOf
set_option maxRecDepth 20000 in
theorem ggX12_lumped_X12_weightInto : GoodIn wsX12_lumped wsX12_weightInto := goodIn_k tie_wsX12_lumped tie_wsX12_weightInto (by decide +kernel)
set_option maxRecDepth 20000 in
theorem gX12_lumped_X12_weightInto : GoodIn wsX12_lumped (wsV RX12 140 RX12 yX12_weightInto wsX12_weightInto) := goodIn_app (goodIn_k (is := [427, 428, 429, 5]) tie_wsX12_lumped rfl (by decide +kernel)) ggX12_lumped_X12_weightInto
set_option maxRecDepth 20000 in
theorem ggX12_lumped_X12_sumOf : GoodIn wsX12_lumped wsX12_sumOf := goodIn_k tie_wsX12_lumped tie_wsX12_sumOf (by decide +kernel)
set_option maxRecDepth 20000 in
theorem gX12_lumped_X12_sumOf : GoodIn wsX12_lumped (wsV RX12 143 RX12 yX12_sumOf wsX12_sumOf) := goodIn_app (goodIn_k (is := [431, 432, 433, 5]) tie_wsX12_lumped rfl (by decide +kernel)) ggX12_lumped_X12_sumOf
set_option maxRecDepth 20000 in
theorem ggX12_lumped_X12_give : GoodIn wsX12_lumped wsX12_give := goodIn_k tie_wsX12_lumped tie_wsX12_give (by decide +kernel)
set_option maxRecDepth 20000 in
theorem gX12_lumped_X12_give : GoodIn wsX12_lumped (wsV RX12 169 RX12 yX12_give wsX12_give) := goodIn_app (goodIn_k (is := [482, 483, 484, 5]) tie_wsX12_lumped rfl (by decide +kernel)) ggX12_lumped_X12_give
set_option maxRecDepth 20000 in
theorem ggX12_lumped_X12_part : GoodIn wsX12_lumped wsX12_part := goodIn_k tie_wsX12_lumped tie_wsX12_part (by decide +kernel)
set_option maxRecDepth 20000 in
theorem gX12_lumped_X12_part : GoodIn wsX12_lumped (wsV RX12 173 RX12 yX12_part wsX12_part) := goodIn_app (goodIn_k (is := [491, 492, 493, 5]) tie_wsX12_lumped rfl (by decide +kernel)) ggX12_lumped_X12_part
theorem dX12_lumped_0 : decode cX12_lumped 0 = .ok (.aload_n 0, 1) := by decide +kernel
theorem dX12_lumped_1 : decode cX12_lumped 1 = .ok (.iload_n 1, 1) := by decide +kernel
theorem dX12_lumped_2 : decode cX12_lumped 2 = .ok (.invokevirtual 103, 3) := by decide +kernel
theorem dX12_lumped_5 : decode cX12_lumped 5 = .ok (.ifCond .eq 24, 3) := by decide +kernel
theorem dX12_lumped_8 : decode cX12_lumped 8 = .ok (.iload_n 3, 1) := by decide +kernel
theorem dX12_lumped_9 : decode cX12_lumped 9 = .ok (.invokestatic 164, 3) := by decide +kernel
theorem dX12_lumped_12 : decode cX12_lumped 12 = .ok (.ifCond .eq 17, 3) := by decide +kernel
theorem dX12_lumped_15 : decode cX12_lumped 15 = .ok (.iload_n 2, 1) := by decide +kernel
theorem dX12_lumped_16 : decode cX12_lumped 16 = .ok (.iconst 0, 1) := by decide +kernel
theorem dX12_lumped_17 : decode cX12_lumped 17 = .ok (.aload_n 0, 1) := by decide +kernel
theorem dX12_lumped_18 : decode cX12_lumped 18 = .ok (.invokevirtual 149, 3) := by decide +kernel
theorem dX12_lumped_21 : decode cX12_lumped 21 = .ok (.iconst 1, 1) := by decide +kernel
theorem dX12_lumped_22 : decode cX12_lumped 22 = .ok (.isub, 1) := by decide +kernel
theorem dX12_lumped_23 : decode cX12_lumped 23 = .ok (.invokestatic 86, 3) := by decide +kernel
theorem dX12_lumped_26 : decode cX12_lumped 26 = .ok (.ifCond .ne 7, 3) := by decide +kernel
theorem dX12_lumped_29 : decode cX12_lumped 29 = .ok (.ldc2_w 167, 3) := by decide +kernel
theorem dX12_lumped_32 : decode cX12_lumped 32 = .ok (.lreturn, 1) := by decide +kernel
theorem dX12_lumped_33 : decode cX12_lumped 33 = .ok (.aload_n 0, 1) := by decide +kernel
theorem dX12_lumped_34 : decode cX12_lumped 34 = .ok (.aload_n 0, 1) := by decide +kernel
theorem dX12_lumped_35 : decode cX12_lumped 35 = .ok (.iload_n 1, 1) := by decide +kernel
theorem dX12_lumped_36 : decode cX12_lumped 36 = .ok (.aload_n 0, 1) := by decide +kernel
theorem dX12_lumped_37 : decode cX12_lumped 37 = .ok (.iload_n 2, 1) := by decide +kernel
theorem dX12_lumped_38 : decode cX12_lumped 38 = .ok (.invokevirtual 137, 3) := by decide +kernel
theorem dX12_lumped_41 : decode cX12_lumped 41 = .ok (.invokevirtual 140, 3) := by decide +kernel
theorem dX12_lumped_44 : decode cX12_lumped 44 = .ok (.i2l, 1) := by decide +kernel
theorem dX12_lumped_45 : decode cX12_lumped 45 = .ok (.aload_n 0, 1) := by decide +kernel
theorem dX12_lumped_46 : decode cX12_lumped 46 = .ok (.iload_n 1, 1) := by decide +kernel
theorem dX12_lumped_47 : decode cX12_lumped 47 = .ok (.invokevirtual 143, 3) := by decide +kernel
theorem dX12_lumped_50 : decode cX12_lumped 50 = .ok (.i2l, 1) := by decide +kernel
theorem dX12_lumped_51 : decode cX12_lumped 51 = .ok (.invokevirtual 169, 3) := by decide +kernel
theorem dX12_lumped_54 : decode cX12_lumped 54 = .ok (.aload_n 0, 1) := by decide +kernel
theorem dX12_lumped_55 : decode cX12_lumped 55 = .ok (.iload_n 3, 1) := by decide +kernel
theorem dX12_lumped_56 : decode cX12_lumped 56 = .ok (.invokevirtual 173, 3) := by decide +kernel
theorem dX12_lumped_59 : decode cX12_lumped 59 = .ok (.lreturn, 1) := by decide +kernel
theorem dX12_at_0 : decode cX12_at 0 = .ok (.aload_n 0, 1) := by decide +kernel
theorem dX12_at_1 : decode cX12_at 1 = .ok (.getfield 25, 3) := by decide +kernel
theorem dX12_at_4 : decode cX12_at 4 = .ok (.bipush 9, 2) := by decide +kernel
theorem dX12_at_6 : decode cX12_at 6 = .ok (.iload_n 1, 1) := by decide +kernel
theorem dX12_at_7 : decode cX12_at 7 = .ok (.imul, 1) := by decide +kernel
theorem dX12_at_8 : decode cX12_at 8 = .ok (.iload_n 2, 1) := by decide +kernel
theorem dX12_at_9 : decode cX12_at 9 = .ok (.iadd, 1) := by decide +kernel
theorem dX12_at_10 : decode cX12_at 10 = .ok (.laload, 1) := by decide +kernel
theorem dX12_at_11 : decode cX12_at 11 = .ok (.lreturn, 1) := by decide +kernel
set_option maxRecDepth 20000 in
theorem ggX12_solve_X12_at : GoodIn wsX12_solve wsX12_at := goodIn_k tie_wsX12_solve tie_wsX12_at (by decide +kernel)
set_option maxRecDepth 20000 in
theorem gX12_solve_X12_at : GoodIn wsX12_solve (wsV RX12 183 RX12 yX12_at wsX12_at) := goodIn_app (goodIn_k (is := [1126, 1127, 1128, 5]) tie_wsX12_solve rfl (by decide +kernel)) ggX12_solve_X12_at
theorem dX12_solve_0 : decode cX12_solve 0 = .ok (.lconst 1, 1) := by decide +kernel
theorem dX12_solve_1 : decode cX12_solve 1 = .ok (.lstore_n 1, 1) := by decide +kernel
theorem dX12_solve_2 : decode cX12_solve 2 = .ok (.aload_n 0, 1) := by decide +kernel
theorem dX12_solve_3 : decode cX12_solve 3 = .ok (.lconst 1, 1) := by decide +kernel
theorem dX12_solve_4 : decode cX12_solve 4 = .ok (.putfield 177, 3) := by decide +kernel
theorem dX12_solve_7 : decode cX12_solve 7 = .ok (.iconst 0, 1) := by decide +kernel
theorem dX12_solve_8 : decode cX12_solve 8 = .ok (.istore_n 3, 1) := by decide +kernel
theorem dX12_solve_9 : decode cX12_solve 9 = .ok (.iload_n 3, 1) := by decide +kernel
theorem dX12_solve_10 : decode cX12_solve 10 = .ok (.aload_n 0, 1) := by decide +kernel
theorem dX12_solve_11 : decode cX12_solve 11 = .ok (.getfield 180, 3) := by decide +kernel
theorem dX12_solve_14 : decode cX12_solve 14 = .ok (.if_icmp .ge 187, 3) := by decide +kernel
theorem dX12_solve_17 : decode cX12_solve 17 = .ok (.iload_n 3, 1) := by decide +kernel
theorem dX12_solve_18 : decode cX12_solve 18 = .ok (.istore 4, 2) := by decide +kernel
theorem dX12_solve_20 : decode cX12_solve 20 = .ok (.aload_n 0, 1) := by decide +kernel
theorem dX12_solve_21 : decode cX12_solve 21 = .ok (.iload 4, 2) := by decide +kernel
theorem dX12_solve_23 : decode cX12_solve 23 = .ok (.iload_n 3, 1) := by decide +kernel
theorem dX12_solve_24 : decode cX12_solve 24 = .ok (.invokevirtual 183, 3) := by decide +kernel
theorem dX12_solve_27 : decode cX12_solve 27 = .ok (.lconst 0, 1) := by decide +kernel
theorem dX12_solve_28 : decode cX12_solve 28 = .ok (.lcmp, 1) := by decide +kernel
theorem dX12_solve_29 : decode cX12_solve 29 = .ok (.ifCond .ne 9, 3) := by decide +kernel
theorem dX12_solve_32 : decode cX12_solve 32 = .ok (.iinc 4 1, 3) := by decide +kernel
theorem dX12_solve_35 : decode cX12_solve 35 = .ok (.goto (-15), 3) := by decide +kernel
theorem dX12_solve_38 : decode cX12_solve 38 = .ok (.iconst 0, 1) := by decide +kernel
theorem dX12_solve_39 : decode cX12_solve 39 = .ok (.istore 5, 2) := by decide +kernel
theorem dX12_solve_41 : decode cX12_solve 41 = .ok (.iload 5, 2) := by decide +kernel
theorem dX12_solve_43 : decode cX12_solve 43 = .ok (.bipush 9, 2) := by decide +kernel
theorem dX12_solve_45 : decode cX12_solve 45 = .ok (.if_icmp .ge 53, 3) := by decide +kernel
theorem dX12_solve_48 : decode cX12_solve 48 = .ok (.aload_n 0, 1) := by decide +kernel
theorem dX12_solve_49 : decode cX12_solve 49 = .ok (.iload_n 3, 1) := by decide +kernel
theorem dX12_solve_50 : decode cX12_solve 50 = .ok (.iload 5, 2) := by decide +kernel
theorem dX12_solve_52 : decode cX12_solve 52 = .ok (.invokevirtual 183, 3) := by decide +kernel
theorem dX12_solve_55 : decode cX12_solve 55 = .ok (.lstore 6, 2) := by decide +kernel
theorem dX12_solve_57 : decode cX12_solve 57 = .ok (.aload_n 0, 1) := by decide +kernel
theorem dX12_solve_58 : decode cX12_solve 58 = .ok (.getfield 25, 3) := by decide +kernel
theorem dX12_solve_61 : decode cX12_solve 61 = .ok (.bipush 9, 2) := by decide +kernel
theorem dX12_solve_63 : decode cX12_solve 63 = .ok (.iload_n 3, 1) := by decide +kernel
theorem dX12_solve_64 : decode cX12_solve 64 = .ok (.imul, 1) := by decide +kernel
theorem dX12_solve_65 : decode cX12_solve 65 = .ok (.iload 5, 2) := by decide +kernel
theorem dX12_solve_67 : decode cX12_solve 67 = .ok (.iadd, 1) := by decide +kernel
theorem dX12_solve_68 : decode cX12_solve 68 = .ok (.aload_n 0, 1) := by decide +kernel
theorem dX12_solve_69 : decode cX12_solve 69 = .ok (.iload 4, 2) := by decide +kernel
theorem dX12_solve_71 : decode cX12_solve 71 = .ok (.iload 5, 2) := by decide +kernel
theorem dX12_solve_73 : decode cX12_solve 73 = .ok (.invokevirtual 183, 3) := by decide +kernel
theorem dX12_solve_76 : decode cX12_solve 76 = .ok (.lastore, 1) := by decide +kernel
theorem dX12_solve_77 : decode cX12_solve 77 = .ok (.aload_n 0, 1) := by decide +kernel
theorem dX12_solve_78 : decode cX12_solve 78 = .ok (.getfield 25, 3) := by decide +kernel
theorem dX12_solve_81 : decode cX12_solve 81 = .ok (.bipush 9, 2) := by decide +kernel
theorem dX12_solve_83 : decode cX12_solve 83 = .ok (.iload 4, 2) := by decide +kernel
theorem dX12_solve_85 : decode cX12_solve 85 = .ok (.imul, 1) := by decide +kernel
theorem dX12_solve_86 : decode cX12_solve 86 = .ok (.iload 5, 2) := by decide +kernel
theorem dX12_solve_88 : decode cX12_solve 88 = .ok (.iadd, 1) := by decide +kernel
theorem dX12_solve_89 : decode cX12_solve 89 = .ok (.lload 6, 2) := by decide +kernel
theorem dX12_solve_91 : decode cX12_solve 91 = .ok (.lastore, 1) := by decide +kernel
theorem dX12_solve_92 : decode cX12_solve 92 = .ok (.iinc 5 1, 3) := by decide +kernel
theorem dX12_solve_95 : decode cX12_solve 95 = .ok (.goto (-54), 3) := by decide +kernel
theorem dX12_solve_98 : decode cX12_solve 98 = .ok (.aload_n 0, 1) := by decide +kernel
theorem dX12_solve_99 : decode cX12_solve 99 = .ok (.iload_n 3, 1) := by decide +kernel
theorem dX12_solve_100 : decode cX12_solve 100 = .ok (.iload_n 3, 1) := by decide +kernel
theorem dX12_solve_101 : decode cX12_solve 101 = .ok (.invokevirtual 183, 3) := by decide +kernel
theorem dX12_solve_104 : decode cX12_solve 104 = .ok (.lstore 5, 2) := by decide +kernel
theorem dX12_solve_106 : decode cX12_solve 106 = .ok (.iconst 0, 1) := by decide +kernel
theorem dX12_solve_107 : decode cX12_solve 107 = .ok (.istore 7, 2) := by decide +kernel
theorem dX12_solve_109 : decode cX12_solve 109 = .ok (.iload 7, 2) := by decide +kernel
theorem dX12_solve_111 : decode cX12_solve 111 = .ok (.aload_n 0, 1) := by decide +kernel
theorem dX12_solve_112 : decode cX12_solve 112 = .ok (.getfield 180, 3) := by decide +kernel
theorem dX12_solve_115 : decode cX12_solve 115 = .ok (.if_icmp .ge 77, 3) := by decide +kernel
theorem dX12_solve_118 : decode cX12_solve 118 = .ok (.iload 7, 2) := by decide +kernel
theorem dX12_solve_120 : decode cX12_solve 120 = .ok (.iload_n 3, 1) := by decide +kernel
theorem dX12_solve_121 : decode cX12_solve 121 = .ok (.if_icmp .eq 65, 3) := by decide +kernel
theorem dX12_solve_124 : decode cX12_solve 124 = .ok (.aload_n 0, 1) := by decide +kernel
theorem dX12_solve_125 : decode cX12_solve 125 = .ok (.iload 7, 2) := by decide +kernel
theorem dX12_solve_127 : decode cX12_solve 127 = .ok (.iload_n 3, 1) := by decide +kernel
theorem dX12_solve_128 : decode cX12_solve 128 = .ok (.invokevirtual 183, 3) := by decide +kernel
theorem dX12_solve_131 : decode cX12_solve 131 = .ok (.lstore 8, 2) := by decide +kernel
theorem dX12_solve_133 : decode cX12_solve 133 = .ok (.iconst 0, 1) := by decide +kernel
theorem dX12_solve_134 : decode cX12_solve 134 = .ok (.istore 10, 2) := by decide +kernel
theorem dX12_solve_136 : decode cX12_solve 136 = .ok (.iload 10, 2) := by decide +kernel
theorem dX12_solve_138 : decode cX12_solve 138 = .ok (.bipush 9, 2) := by decide +kernel
theorem dX12_solve_140 : decode cX12_solve 140 = .ok (.if_icmp .ge 46, 3) := by decide +kernel
theorem dX12_solve_143 : decode cX12_solve 143 = .ok (.aload_n 0, 1) := by decide +kernel
theorem dX12_solve_144 : decode cX12_solve 144 = .ok (.getfield 25, 3) := by decide +kernel
theorem dX12_solve_147 : decode cX12_solve 147 = .ok (.bipush 9, 2) := by decide +kernel
theorem dX12_solve_149 : decode cX12_solve 149 = .ok (.iload 7, 2) := by decide +kernel
theorem dX12_solve_151 : decode cX12_solve 151 = .ok (.imul, 1) := by decide +kernel
theorem dX12_solve_152 : decode cX12_solve 152 = .ok (.iload 10, 2) := by decide +kernel
theorem dX12_solve_154 : decode cX12_solve 154 = .ok (.iadd, 1) := by decide +kernel
theorem dX12_solve_155 : decode cX12_solve 155 = .ok (.lload 5, 2) := by decide +kernel
theorem dX12_solve_157 : decode cX12_solve 157 = .ok (.aload_n 0, 1) := by decide +kernel
theorem dX12_solve_158 : decode cX12_solve 158 = .ok (.iload 7, 2) := by decide +kernel
theorem dX12_solve_160 : decode cX12_solve 160 = .ok (.iload 10, 2) := by decide +kernel
theorem dX12_solve_162 : decode cX12_solve 162 = .ok (.invokevirtual 183, 3) := by decide +kernel
theorem dX12_solve_165 : decode cX12_solve 165 = .ok (.lmul, 1) := by decide +kernel
theorem dX12_solve_166 : decode cX12_solve 166 = .ok (.lload 8, 2) := by decide +kernel
theorem dX12_solve_168 : decode cX12_solve 168 = .ok (.aload_n 0, 1) := by decide +kernel
theorem dX12_solve_169 : decode cX12_solve 169 = .ok (.iload_n 3, 1) := by decide +kernel
theorem dX12_solve_170 : decode cX12_solve 170 = .ok (.iload 10, 2) := by decide +kernel
theorem dX12_solve_172 : decode cX12_solve 172 = .ok (.invokevirtual 183, 3) := by decide +kernel
theorem dX12_solve_175 : decode cX12_solve 175 = .ok (.lmul, 1) := by decide +kernel
theorem dX12_solve_176 : decode cX12_solve 176 = .ok (.lsub, 1) := by decide +kernel
theorem dX12_solve_177 : decode cX12_solve 177 = .ok (.lload_n 1, 1) := by decide +kernel
theorem dX12_solve_178 : decode cX12_solve 178 = .ok (.ldiv, 1) := by decide +kernel
theorem dX12_solve_179 : decode cX12_solve 179 = .ok (.lastore, 1) := by decide +kernel
theorem dX12_solve_180 : decode cX12_solve 180 = .ok (.iinc 10 1, 3) := by decide +kernel
theorem dX12_solve_183 : decode cX12_solve 183 = .ok (.goto (-47), 3) := by decide +kernel
theorem dX12_solve_186 : decode cX12_solve 186 = .ok (.iinc 7 1, 3) := by decide +kernel
theorem dX12_solve_189 : decode cX12_solve 189 = .ok (.goto (-80), 3) := by decide +kernel
theorem dX12_solve_192 : decode cX12_solve 192 = .ok (.lload 5, 2) := by decide +kernel
theorem dX12_solve_194 : decode cX12_solve 194 = .ok (.lstore_n 1, 1) := by decide +kernel
theorem dX12_solve_195 : decode cX12_solve 195 = .ok (.iinc 3 1, 3) := by decide +kernel
theorem dX12_solve_198 : decode cX12_solve 198 = .ok (.goto (-189), 3) := by decide +kernel
theorem dX12_solve_201 : decode cX12_solve 201 = .ok (.aload_n 0, 1) := by decide +kernel
theorem dX12_solve_202 : decode cX12_solve 202 = .ok (.lload_n 1, 1) := by decide +kernel
theorem dX12_solve_203 : decode cX12_solve 203 = .ok (.putfield 177, 3) := by decide +kernel
theorem dX12_solve_206 : decode cX12_solve 206 = .ok (.return_, 1) := by decide +kernel
set_option maxRecDepth 20000 in
theorem ggX12_begin_X12_has : GoodIn wsX12_begin wsX12_has := goodIn_k tie_wsX12_begin tie_wsX12_has (by decide +kernel)
set_option maxRecDepth 20000 in
theorem gX12_begin_X12_has : GoodIn wsX12_begin (va_wsS RX12 121 yX12_has wsX12_has) := goodIn_app (goodIn_k (is := [324, 325, 5]) tie_wsX12_begin rfl (by decide +kernel)) ggX12_begin_X12_has
set_option maxRecDepth 20000 in
theorem ggX12_begin_X12_weightOf : GoodIn wsX12_begin wsX12_weightOf := goodIn_k tie_wsX12_begin tie_wsX12_weightOf (by decide +kernel)
set_option maxRecDepth 20000 in
theorem gX12_begin_X12_weightOf : GoodIn wsX12_begin (wsV RX12 125 RX12 yX12_weightOf wsX12_weightOf) := goodIn_app (goodIn_k (is := [327, 328, 329, 5]) tie_wsX12_begin rfl (by decide +kernel)) ggX12_begin_X12_weightOf
set_option maxRecDepth 20000 in
theorem ggX12_begin_X12_sumOf : GoodIn wsX12_begin wsX12_sumOf := goodIn_k tie_wsX12_begin tie_wsX12_sumOf (by decide +kernel)
set_option maxRecDepth 20000 in
theorem gX12_begin_X12_sumOf : GoodIn wsX12_begin (wsV RX12 143 RX12 yX12_sumOf wsX12_sumOf) := goodIn_app (goodIn_k (is := [431, 432, 433, 5]) tie_wsX12_begin rfl (by decide +kernel)) ggX12_begin_X12_sumOf
theorem dX12_begin_0 : decode cX12_begin 0 = .ok (.aload_n 0, 1) := by decide +kernel
theorem dX12_begin_1 : decode cX12_begin 1 = .ok (.iconst 0, 1) := by decide +kernel
theorem dX12_begin_2 : decode cX12_begin 2 = .ok (.putfield 180, 3) := by decide +kernel
theorem dX12_begin_5 : decode cX12_begin 5 = .ok (.iconst 0, 1) := by decide +kernel
theorem dX12_begin_6 : decode cX12_begin 6 = .ok (.istore_n 2, 1) := by decide +kernel
theorem dX12_begin_7 : decode cX12_begin 7 = .ok (.iload_n 2, 1) := by decide +kernel
theorem dX12_begin_8 : decode cX12_begin 8 = .ok (.aload_n 0, 1) := by decide +kernel
theorem dX12_begin_9 : decode cX12_begin 9 = .ok (.getfield 9, 3) := by decide +kernel
