set_option maxRecDepth 20000 in
theorem ggX12_readFormula_X12_readNested : GoodIn wsX12_readFormula wsX12_readNested := goodIn_k tie_wsX12_readFormula tie_wsX12_readNested (by decide +kernel)
set_option maxRecDepth 20000 in
theorem gX12_readFormula_X12_readNested : GoodIn wsX12_readFormula (wsV RX12 279 RX12 yX12_readNested wsX12_readNested) := goodIn_app (goodIn_k (is := [823, 824, 825, 5]) tie_wsX12_readFormula rfl (by decide +kernel)) ggX12_readFormula_X12_readNested
theorem dX12_readFormula_0 : decode cX12_readFormula 0 = .ok (.aload_n 0, 1) := by decide +kernel
theorem dX12_readFormula_1 : decode cX12_readFormula 1 = .ok (.getfield 235, 3) := by decide +kernel
theorem dX12_readFormula_4 : decode cX12_readFormula 4 = .ok (.ifCond .eq 5, 3) := by decide +kernel
theorem dX12_readFormula_7 : decode cX12_readFormula 7 = .ok (.iconst 0, 1) := by decide +kernel
theorem dX12_readFormula_8 : decode cX12_readFormula 8 = .ok (.ireturn, 1) := by decide +kernel
theorem dX12_readFormula_9 : decode cX12_readFormula 9 = .ok (.aload_n 0, 1) := by decide +kernel
theorem dX12_readFormula_10 : decode cX12_readFormula 10 = .ok (.invokevirtual 232, 3) := by decide +kernel
theorem dX12_readFormula_13 : decode cX12_readFormula 13 = .ok (.istore_n 1, 1) := by decide +kernel
theorem dX12_readFormula_14 : decode cX12_readFormula 14 = .ok (.iload_n 1, 1) := by decide +kernel
theorem dX12_readFormula_15 : decode cX12_readFormula 15 = .ok (.bipush 116, 2) := by decide +kernel
theorem dX12_readFormula_17 : decode cX12_readFormula 17 = .ok (.if_icmp .eq 14, 3) := by decide +kernel
theorem dX12_readFormula_20 : decode cX12_readFormula 20 = .ok (.iload_n 1, 1) := by decide +kernel
theorem dX12_readFormula_21 : decode cX12_readFormula 21 = .ok (.bipush 97, 2) := by decide +kernel
theorem dX12_readFormula_23 : decode cX12_readFormula 23 = .ok (.bipush 100, 2) := by decide +kernel
theorem dX12_readFormula_25 : decode cX12_readFormula 25 = .ok (.invokestatic 86, 3) := by decide +kernel
theorem dX12_readFormula_28 : decode cX12_readFormula 28 = .ok (.ifCond .eq 55, 3) := by decide +kernel
theorem dX12_readFormula_31 : decode cX12_readFormula 31 = .ok (.aload_n 0, 1) := by decide +kernel
theorem dX12_readFormula_32 : decode cX12_readFormula 32 = .ok (.dup, 1) := by decide +kernel
theorem dX12_readFormula_33 : decode cX12_readFormula 33 = .ok (.getfield 229, 3) := by decide +kernel
theorem dX12_readFormula_36 : decode cX12_readFormula 36 = .ok (.iconst 1, 1) := by decide +kernel
theorem dX12_readFormula_37 : decode cX12_readFormula 37 = .ok (.iadd, 1) := by decide +kernel
theorem dX12_readFormula_38 : decode cX12_readFormula 38 = .ok (.putfield 229, 3) := by decide +kernel
theorem dX12_readFormula_41 : decode cX12_readFormula 41 = .ok (.aload_n 0, 1) := by decide +kernel
theorem dX12_readFormula_42 : decode cX12_readFormula 42 = .ok (.iload_n 1, 1) := by decide +kernel
theorem dX12_readFormula_43 : decode cX12_readFormula 43 = .ok (.bipush 116, 2) := by decide +kernel
theorem dX12_readFormula_45 : decode cX12_readFormula 45 = .ok (.if_icmp .ne 8, 3) := by decide +kernel
theorem dX12_readFormula_48 : decode cX12_readFormula 48 = .ok (.bipush 116, 2) := by decide +kernel
theorem dX12_readFormula_50 : decode cX12_readFormula 50 = .ok (.goto 5, 3) := by decide +kernel
theorem dX12_readFormula_53 : decode cX12_readFormula 53 = .ok (.bipush 97, 2) := by decide +kernel
theorem dX12_readFormula_55 : decode cX12_readFormula 55 = .ok (.iconst 0, 1) := by decide +kernel
theorem dX12_readFormula_56 : decode cX12_readFormula 56 = .ok (.iconst 0, 1) := by decide +kernel
theorem dX12_readFormula_57 : decode cX12_readFormula 57 = .ok (.invokevirtual 263, 3) := by decide +kernel
theorem dX12_readFormula_60 : decode cX12_readFormula 60 = .ok (.istore_n 2, 1) := by decide +kernel
theorem dX12_readFormula_61 : decode cX12_readFormula 61 = .ok (.aload_n 0, 1) := by decide +kernel
theorem dX12_readFormula_62 : decode cX12_readFormula 62 = .ok (.getfield 50, 3) := by decide +kernel
theorem dX12_readFormula_65 : decode cX12_readFormula 65 = .ok (.iload_n 2, 1) := by decide +kernel
theorem dX12_readFormula_66 : decode cX12_readFormula 66 = .ok (.iload_n 1, 1) := by decide +kernel
theorem dX12_readFormula_67 : decode cX12_readFormula 67 = .ok (.bipush 116, 2) := by decide +kernel
theorem dX12_readFormula_69 : decode cX12_readFormula 69 = .ok (.if_icmp .ne 7, 3) := by decide +kernel
theorem dX12_readFormula_72 : decode cX12_readFormula 72 = .ok (.iconst 0, 1) := by decide +kernel
theorem dX12_readFormula_73 : decode cX12_readFormula 73 = .ok (.goto 7, 3) := by decide +kernel
theorem dX12_readFormula_76 : decode cX12_readFormula 76 = .ok (.iload_n 1, 1) := by decide +kernel
theorem dX12_readFormula_77 : decode cX12_readFormula 77 = .ok (.bipush 97, 2) := by decide +kernel
theorem dX12_readFormula_79 : decode cX12_readFormula 79 = .ok (.isub, 1) := by decide +kernel
theorem dX12_readFormula_80 : decode cX12_readFormula 80 = .ok (.iastore, 1) := by decide +kernel
theorem dX12_readFormula_81 : decode cX12_readFormula 81 = .ok (.iload_n 2, 1) := by decide +kernel
theorem dX12_readFormula_82 : decode cX12_readFormula 82 = .ok (.ireturn, 1) := by decide +kernel
theorem dX12_readFormula_83 : decode cX12_readFormula 83 = .ok (.iload_n 1, 1) := by decide +kernel
theorem dX12_readFormula_84 : decode cX12_readFormula 84 = .ok (.bipush 33, 2) := by decide +kernel
theorem dX12_readFormula_86 : decode cX12_readFormula 86 = .ok (.if_icmp .eq 27, 3) := by decide +kernel
theorem dX12_readFormula_89 : decode cX12_readFormula 89 = .ok (.iload_n 1, 1) := by decide +kernel
theorem dX12_readFormula_90 : decode cX12_readFormula 90 = .ok (.bipush 40, 2) := by decide +kernel
theorem dX12_readFormula_92 : decode cX12_readFormula 92 = .ok (.if_icmp .eq 21, 3) := by decide +kernel
theorem dX12_readFormula_95 : decode cX12_readFormula 95 = .ok (.iload_n 1, 1) := by decide +kernel
theorem dX12_readFormula_96 : decode cX12_readFormula 96 = .ok (.bipush 80, 2) := by decide +kernel
theorem dX12_readFormula_98 : decode cX12_readFormula 98 = .ok (.if_icmp .eq 15, 3) := by decide +kernel
theorem dX12_readFormula_101 : decode cX12_readFormula 101 = .ok (.iload_n 1, 1) := by decide +kernel
theorem dX12_readFormula_102 : decode cX12_readFormula 102 = .ok (.bipush 83, 2) := by decide +kernel
theorem dX12_readFormula_104 : decode cX12_readFormula 104 = .ok (.if_icmp .eq 9, 3) := by decide +kernel
theorem dX12_readFormula_107 : decode cX12_readFormula 107 = .ok (.iload_n 1, 1) := by decide +kernel
theorem dX12_readFormula_108 : decode cX12_readFormula 108 = .ok (.bipush 82, 2) := by decide +kernel
theorem dX12_readFormula_110 : decode cX12_readFormula 110 = .ok (.if_icmp .ne 7, 3) := by decide +kernel
theorem dX12_readFormula_113 : decode cX12_readFormula 113 = .ok (.iconst 1, 1) := by decide +kernel
theorem dX12_readFormula_114 : decode cX12_readFormula 114 = .ok (.goto 4, 3) := by decide +kernel
theorem dX12_readFormula_117 : decode cX12_readFormula 117 = .ok (.iconst 0, 1) := by decide +kernel
theorem dX12_readFormula_118 : decode cX12_readFormula 118 = .ok (.istore_n 2, 1) := by decide +kernel
theorem dX12_readFormula_119 : decode cX12_readFormula 119 = .ok (.iload_n 2, 1) := by decide +kernel
theorem dX12_readFormula_120 : decode cX12_readFormula 120 = .ok (.ifCond .eq 11, 3) := by decide +kernel
theorem dX12_readFormula_123 : decode cX12_readFormula 123 = .ok (.aload_n 0, 1) := by decide +kernel
theorem dX12_readFormula_124 : decode cX12_readFormula 124 = .ok (.getfield 276, 3) := by decide +kernel
theorem dX12_readFormula_127 : decode cX12_readFormula 127 = .ok (.iconst 5, 1) := by decide +kernel
theorem dX12_readFormula_128 : decode cX12_readFormula 128 = .ok (.if_icmp .ne 10, 3) := by decide +kernel
theorem dX12_readFormula_131 : decode cX12_readFormula 131 = .ok (.aload_n 0, 1) := by decide +kernel
theorem dX12_readFormula_132 : decode cX12_readFormula 132 = .ok (.iconst 1, 1) := by decide +kernel
theorem dX12_readFormula_133 : decode cX12_readFormula 133 = .ok (.putfield 235, 3) := by decide +kernel
theorem dX12_readFormula_136 : decode cX12_readFormula 136 = .ok (.iconst 0, 1) := by decide +kernel
theorem dX12_readFormula_137 : decode cX12_readFormula 137 = .ok (.ireturn, 1) := by decide +kernel
theorem dX12_readFormula_138 : decode cX12_readFormula 138 = .ok (.aload_n 0, 1) := by decide +kernel
theorem dX12_readFormula_139 : decode cX12_readFormula 139 = .ok (.dup, 1) := by decide +kernel
theorem dX12_readFormula_140 : decode cX12_readFormula 140 = .ok (.getfield 276, 3) := by decide +kernel
theorem dX12_readFormula_143 : decode cX12_readFormula 143 = .ok (.iconst 1, 1) := by decide +kernel
theorem dX12_readFormula_144 : decode cX12_readFormula 144 = .ok (.iadd, 1) := by decide +kernel
theorem dX12_readFormula_145 : decode cX12_readFormula 145 = .ok (.putfield 276, 3) := by decide +kernel
theorem dX12_readFormula_148 : decode cX12_readFormula 148 = .ok (.aload_n 0, 1) := by decide +kernel
theorem dX12_readFormula_149 : decode cX12_readFormula 149 = .ok (.iload_n 1, 1) := by decide +kernel
theorem dX12_readFormula_150 : decode cX12_readFormula 150 = .ok (.invokevirtual 279, 3) := by decide +kernel
theorem dX12_readFormula_153 : decode cX12_readFormula 153 = .ok (.istore_n 3, 1) := by decide +kernel
theorem dX12_readFormula_154 : decode cX12_readFormula 154 = .ok (.aload_n 0, 1) := by decide +kernel
theorem dX12_readFormula_155 : decode cX12_readFormula 155 = .ok (.dup, 1) := by decide +kernel
theorem dX12_readFormula_156 : decode cX12_readFormula 156 = .ok (.getfield 276, 3) := by decide +kernel
theorem dX12_readFormula_159 : decode cX12_readFormula 159 = .ok (.iconst 1, 1) := by decide +kernel
theorem dX12_readFormula_160 : decode cX12_readFormula 160 = .ok (.isub, 1) := by decide +kernel
theorem dX12_readFormula_161 : decode cX12_readFormula 161 = .ok (.putfield 276, 3) := by decide +kernel
theorem dX12_readFormula_164 : decode cX12_readFormula 164 = .ok (.iload_n 3, 1) := by decide +kernel
theorem dX12_readFormula_165 : decode cX12_readFormula 165 = .ok (.ireturn, 1) := by decide +kernel
set_option maxRecDepth 20000 in
theorem ggX12_addFormula_X12_readFormula : GoodIn wsX12_addFormula wsX12_readFormula := goodIn_k tie_wsX12_addFormula tie_wsX12_readFormula (by decide +kernel)
set_option maxRecDepth 20000 in
theorem gX12_addFormula_X12_readFormula : GoodIn wsX12_addFormula (wsV RX12 257 RX12 yX12_readFormula wsX12_readFormula) := goodIn_app (goodIn_k (is := [811, 812, 813, 5]) tie_wsX12_addFormula rfl (by decide +kernel)) ggX12_addFormula_X12_readFormula
set_option maxRecDepth 20000 in
theorem ggX12_addFormula_X12_tryFormula : GoodIn wsX12_addFormula wsX12_tryFormula := goodIn_k tie_wsX12_addFormula tie_wsX12_tryFormula (by decide +kernel)
set_option maxRecDepth 20000 in
theorem gX12_addFormula_X12_tryFormula : GoodIn wsX12_addFormula (wsV RX12 285 RX12 yX12_tryFormula wsX12_tryFormula) := goodIn_app (goodIn_k (is := [854, 855, 856, 5]) tie_wsX12_addFormula rfl (by decide +kernel)) ggX12_addFormula_X12_tryFormula
theorem dX12_addFormula_0 : decode cX12_addFormula 0 = .ok (.aload_n 0, 1) := by decide +kernel
theorem dX12_addFormula_1 : decode cX12_addFormula 1 = .ok (.iconst 0, 1) := by decide +kernel
theorem dX12_addFormula_2 : decode cX12_addFormula 2 = .ok (.putfield 229, 3) := by decide +kernel
theorem dX12_addFormula_5 : decode cX12_addFormula 5 = .ok (.aload_n 0, 1) := by decide +kernel
theorem dX12_addFormula_6 : decode cX12_addFormula 6 = .ok (.iconst 0, 1) := by decide +kernel
theorem dX12_addFormula_7 : decode cX12_addFormula 7 = .ok (.putfield 276, 3) := by decide +kernel
theorem dX12_addFormula_10 : decode cX12_addFormula 10 = .ok (.aload_n 0, 1) := by decide +kernel
theorem dX12_addFormula_11 : decode cX12_addFormula 11 = .ok (.iconst 0, 1) := by decide +kernel
theorem dX12_addFormula_12 : decode cX12_addFormula 12 = .ok (.putfield 235, 3) := by decide +kernel
theorem dX12_addFormula_15 : decode cX12_addFormula 15 = .ok (.aload_n 0, 1) := by decide +kernel
theorem dX12_addFormula_16 : decode cX12_addFormula 16 = .ok (.getfield 238, 3) := by decide +kernel
theorem dX12_addFormula_19 : decode cX12_addFormula 19 = .ok (.istore_n 1, 1) := by decide +kernel
theorem dX12_addFormula_20 : decode cX12_addFormula 20 = .ok (.aload_n 0, 1) := by decide +kernel
theorem dX12_addFormula_21 : decode cX12_addFormula 21 = .ok (.getfield 226, 3) := by decide +kernel
theorem dX12_addFormula_24 : decode cX12_addFormula 24 = .ok (.istore_n 2, 1) := by decide +kernel
theorem dX12_addFormula_25 : decode cX12_addFormula 25 = .ok (.aload_n 0, 1) := by decide +kernel
theorem dX12_addFormula_26 : decode cX12_addFormula 26 = .ok (.getfield 282, 3) := by decide +kernel
theorem dX12_addFormula_29 : decode cX12_addFormula 29 = .ok (.bipush 6, 2) := by decide +kernel
theorem dX12_addFormula_31 : decode cX12_addFormula 31 = .ok (.if_icmp .ge 10, 3) := by decide +kernel
theorem dX12_addFormula_34 : decode cX12_addFormula 34 = .ok (.aload_n 0, 1) := by decide +kernel
theorem dX12_addFormula_35 : decode cX12_addFormula 35 = .ok (.invokevirtual 257, 3) := by decide +kernel
theorem dX12_addFormula_38 : decode cX12_addFormula 38 = .ok (.goto 7, 3) := by decide +kernel
theorem dX12_addFormula_41 : decode cX12_addFormula 41 = .ok (.aload_n 0, 1) := by decide +kernel
theorem dX12_addFormula_42 : decode cX12_addFormula 42 = .ok (.invokevirtual 285, 3) := by decide +kernel
theorem dX12_addFormula_45 : decode cX12_addFormula 45 = .ok (.istore_n 3, 1) := by decide +kernel
theorem dX12_addFormula_46 : decode cX12_addFormula 46 = .ok (.aload_n 0, 1) := by decide +kernel
theorem dX12_addFormula_47 : decode cX12_addFormula 47 = .ok (.aload_n 0, 1) := by decide +kernel
theorem dX12_addFormula_48 : decode cX12_addFormula 48 = .ok (.getfield 235, 3) := by decide +kernel
theorem dX12_addFormula_51 : decode cX12_addFormula 51 = .ok (.ifCond .ne 14, 3) := by decide +kernel
theorem dX12_addFormula_54 : decode cX12_addFormula 54 = .ok (.aload_n 0, 1) := by decide +kernel
theorem dX12_addFormula_55 : decode cX12_addFormula 55 = .ok (.getfield 229, 3) := by decide +kernel
theorem dX12_addFormula_58 : decode cX12_addFormula 58 = .ok (.aload_n 0, 1) := by decide +kernel
theorem dX12_addFormula_59 : decode cX12_addFormula 59 = .ok (.getfield 226, 3) := by decide +kernel
theorem dX12_addFormula_62 : decode cX12_addFormula 62 = .ok (.if_icmp .ge 7, 3) := by decide +kernel
theorem dX12_addFormula_65 : decode cX12_addFormula 65 = .ok (.iconst 1, 1) := by decide +kernel
theorem dX12_addFormula_66 : decode cX12_addFormula 66 = .ok (.goto 4, 3) := by decide +kernel
theorem dX12_addFormula_69 : decode cX12_addFormula 69 = .ok (.iconst 0, 1) := by decide +kernel
theorem dX12_addFormula_70 : decode cX12_addFormula 70 = .ok (.putfield 235, 3) := by decide +kernel
theorem dX12_addFormula_73 : decode cX12_addFormula 73 = .ok (.aload_n 0, 1) := by decide +kernel
theorem dX12_addFormula_74 : decode cX12_addFormula 74 = .ok (.iconst 0, 1) := by decide +kernel
theorem dX12_addFormula_75 : decode cX12_addFormula 75 = .ok (.putfield 226, 3) := by decide +kernel
theorem dX12_addFormula_78 : decode cX12_addFormula 78 = .ok (.aload_n 0, 1) := by decide +kernel
theorem dX12_addFormula_79 : decode cX12_addFormula 79 = .ok (.getfield 235, 3) := by decide +kernel
theorem dX12_addFormula_82 : decode cX12_addFormula 82 = .ok (.ifCond .eq 16, 3) := by decide +kernel
theorem dX12_addFormula_85 : decode cX12_addFormula 85 = .ok (.aload_n 0, 1) := by decide +kernel
theorem dX12_addFormula_86 : decode cX12_addFormula 86 = .ok (.iload_n 1, 1) := by decide +kernel
theorem dX12_addFormula_87 : decode cX12_addFormula 87 = .ok (.putfield 238, 3) := by decide +kernel
theorem dX12_addFormula_90 : decode cX12_addFormula 90 = .ok (.bipush (-100), 2) := by decide +kernel
theorem dX12_addFormula_92 : decode cX12_addFormula 92 = .ok (.aload_n 0, 1) := by decide +kernel
theorem dX12_addFormula_93 : decode cX12_addFormula 93 = .ok (.getfield 229, 3) := by decide +kernel
theorem dX12_addFormula_96 : decode cX12_addFormula 96 = .ok (.isub, 1) := by decide +kernel
theorem dX12_addFormula_97 : decode cX12_addFormula 97 = .ok (.ireturn, 1) := by decide +kernel
theorem dX12_addFormula_98 : decode cX12_addFormula 98 = .ok (.aload_n 0, 1) := by decide +kernel
theorem dX12_addFormula_99 : decode cX12_addFormula 99 = .ok (.getfield 282, 3) := by decide +kernel
theorem dX12_addFormula_102 : decode cX12_addFormula 102 = .ok (.bipush 6, 2) := by decide +kernel
theorem dX12_addFormula_104 : decode cX12_addFormula 104 = .ok (.if_icmp .ne 11, 3) := by decide +kernel
theorem dX12_addFormula_107 : decode cX12_addFormula 107 = .ok (.aload_n 0, 1) := by decide +kernel
theorem dX12_addFormula_108 : decode cX12_addFormula 108 = .ok (.iload_n 1, 1) := by decide +kernel
theorem dX12_addFormula_109 : decode cX12_addFormula 109 = .ok (.putfield 238, 3) := by decide +kernel
theorem dX12_addFormula_112 : decode cX12_addFormula 112 = .ok (.bipush (-3), 2) := by decide +kernel
theorem dX12_addFormula_114 : decode cX12_addFormula 114 = .ok (.ireturn, 1) := by decide +kernel
theorem dX12_addFormula_115 : decode cX12_addFormula 115 = .ok (.aload_n 0, 1) := by decide +kernel
theorem dX12_addFormula_116 : decode cX12_addFormula 116 = .ok (.getfield 74, 3) := by decide +kernel
theorem dX12_addFormula_119 : decode cX12_addFormula 119 = .ok (.iconst 0, 1) := by decide +kernel
theorem dX12_addFormula_120 : decode cX12_addFormula 120 = .ok (.aload_n 0, 1) := by decide +kernel
theorem dX12_addFormula_121 : decode cX12_addFormula 121 = .ok (.getfield 68, 3) := by decide +kernel
theorem dX12_addFormula_124 : decode cX12_addFormula 124 = .ok (.bipush 50, 2) := by decide +kernel
theorem dX12_addFormula_126 : decode cX12_addFormula 126 = .ok (.aload_n 0, 1) := by decide +kernel
theorem dX12_addFormula_127 : decode cX12_addFormula 127 = .ok (.getfield 282, 3) := by decide +kernel
theorem dX12_addFormula_130 : decode cX12_addFormula 130 = .ok (.imul, 1) := by decide +kernel
theorem dX12_addFormula_131 : decode cX12_addFormula 131 = .ok (.iload_n 2, 1) := by decide +kernel
theorem dX12_addFormula_132 : decode cX12_addFormula 132 = .ok (.invokestatic 94, 3) := by decide +kernel
theorem dX12_addFormula_135 : decode cX12_addFormula 135 = .ok (.aload_n 0, 1) := by decide +kernel
theorem dX12_addFormula_136 : decode cX12_addFormula 136 = .ok (.getfield 71, 3) := by decide +kernel
theorem dX12_addFormula_139 : decode cX12_addFormula 139 = .ok (.aload_n 0, 1) := by decide +kernel
theorem dX12_addFormula_140 : decode cX12_addFormula 140 = .ok (.getfield 282, 3) := by decide +kernel
theorem dX12_addFormula_143 : decode cX12_addFormula 143 = .ok (.iload_n 2, 1) := by decide +kernel
theorem dX12_addFormula_144 : decode cX12_addFormula 144 = .ok (.iastore, 1) := by decide +kernel
theorem dX12_addFormula_145 : decode cX12_addFormula 145 = .ok (.aload_n 0, 1) := by decide +kernel
theorem dX12_addFormula_146 : decode cX12_addFormula 146 = .ok (.getfield 62, 3) := by decide +kernel
theorem dX12_addFormula_149 : decode cX12_addFormula 149 = .ok (.aload_n 0, 1) := by decide +kernel
theorem dX12_addFormula_150 : decode cX12_addFormula 150 = .ok (.getfield 282, 3) := by decide +kernel
theorem dX12_addFormula_153 : decode cX12_addFormula 153 = .ok (.iload_n 3, 1) := by decide +kernel
theorem dX12_addFormula_154 : decode cX12_addFormula 154 = .ok (.iastore, 1) := by decide +kernel
theorem dX12_addFormula_155 : decode cX12_addFormula 155 = .ok (.aload_n 0, 1) := by decide +kernel
theorem dX12_addFormula_156 : decode cX12_addFormula 156 = .ok (.dup, 1) := by decide +kernel
theorem dX12_addFormula_157 : decode cX12_addFormula 157 = .ok (.getfield 282, 3) := by decide +kernel
theorem dX12_addFormula_160 : decode cX12_addFormula 160 = .ok (.iconst 1, 1) := by decide +kernel
theorem dX12_addFormula_161 : decode cX12_addFormula 161 = .ok (.iadd, 1) := by decide +kernel
theorem dX12_addFormula_162 : decode cX12_addFormula 162 = .ok (.putfield 282, 3) := by decide +kernel
theorem dX12_addFormula_165 : decode cX12_addFormula 165 = .ok (.aload_n 0, 1) := by decide +kernel
theorem dX12_addFormula_166 : decode cX12_addFormula 166 = .ok (.getfield 282, 3) := by decide +kernel
theorem dX12_addFormula_169 : decode cX12_addFormula 169 = .ok (.iconst 1, 1) := by decide +kernel
theorem dX12_addFormula_170 : decode cX12_addFormula 170 = .ok (.isub, 1) := by decide +kernel
theorem dX12_addFormula_171 : decode cX12_addFormula 171 = .ok (.ireturn, 1) := by decide +kernel
set_option maxRecDepth 20000 in
theorem ggX12_tryFormula_X12_keep : GoodIn wsX12_tryFormula wsX12_keep := goodIn_k tie_wsX12_tryFormula tie_wsX12_keep (by decide +kernel)
set_option maxRecDepth 20000 in
theorem gX12_tryFormula_X12_keep : GoodIn wsX12_tryFormula (wsV RX12 288 RX12 yX12_keep wsX12_keep) := goodIn_app (goodIn_k (is := [858, 859, 860, 5]) tie_wsX12_tryFormula rfl (by decide +kernel)) ggX12_tryFormula_X12_keep
set_option maxRecDepth 20000 in
theorem ggX12_tryFormula_X12_readFormula : GoodIn wsX12_tryFormula wsX12_readFormula := goodIn_k tie_wsX12_tryFormula tie_wsX12_readFormula (by decide +kernel)
set_option maxRecDepth 20000 in
theorem gX12_tryFormula_X12_readFormula : GoodIn wsX12_tryFormula (wsV RX12 257 RX12 yX12_readFormula wsX12_readFormula) := goodIn_app (goodIn_k (is := [811, 812, 813, 5]) tie_wsX12_tryFormula rfl (by decide +kernel)) ggX12_tryFormula_X12_readFormula
theorem dX12_tryFormula_0 : decode cX12_tryFormula 0 = .ok (.sipush 350, 3) := by decide +kernel
theorem dX12_tryFormula_3 : decode cX12_tryFormula 3 = .ok (.newarray .int, 2) := by decide +kernel
theorem dX12_tryFormula_5 : decode cX12_tryFormula 5 = .ok (.astore_n 1, 1) := by decide +kernel
theorem dX12_tryFormula_6 : decode cX12_tryFormula 6 = .ok (.sipush 250, 3) := by decide +kernel
theorem dX12_tryFormula_9 : decode cX12_tryFormula 9 = .ok (.istore_n 2, 1) := by decide +kernel
theorem dX12_tryFormula_10 : decode cX12_tryFormula 10 = .ok (.aload_n 0, 1) := by decide +kernel
theorem dX12_tryFormula_11 : decode cX12_tryFormula 11 = .ok (.aload_n 1, 1) := by decide +kernel
theorem dX12_tryFormula_12 : decode cX12_tryFormula 12 = .ok (.iload_n 2, 1) := by decide +kernel
theorem dX12_tryFormula_13 : decode cX12_tryFormula 13 = .ok (.iconst 1, 1) := by decide +kernel
theorem dX12_tryFormula_14 : decode cX12_tryFormula 14 = .ok (.invokevirtual 288, 3) := by decide +kernel
theorem dX12_tryFormula_17 : decode cX12_tryFormula 17 = .ok (.aload_n 0, 1) := by decide +kernel
theorem dX12_tryFormula_18 : decode cX12_tryFormula 18 = .ok (.getfield 238, 3) := by decide +kernel
theorem dX12_tryFormula_21 : decode cX12_tryFormula 21 = .ok (.istore_n 3, 1) := by decide +kernel
theorem dX12_tryFormula_22 : decode cX12_tryFormula 22 = .ok (.aload_n 0, 1) := by decide +kernel
theorem dX12_tryFormula_23 : decode cX12_tryFormula 23 = .ok (.iload_n 2, 1) := by decide +kernel
theorem dX12_tryFormula_24 : decode cX12_tryFormula 24 = .ok (.putfield 238, 3) := by decide +kernel
theorem dX12_tryFormula_27 : decode cX12_tryFormula 27 = .ok (.aload_n 0, 1) := by decide +kernel
theorem dX12_tryFormula_28 : decode cX12_tryFormula 28 = .ok (.invokevirtual 257, 3) := by decide +kernel
theorem dX12_tryFormula_31 : decode cX12_tryFormula 31 = .ok (.istore 4, 2) := by decide +kernel
theorem dX12_tryFormula_33 : decode cX12_tryFormula 33 = .ok (.aload_n 0, 1) := by decide +kernel
theorem dX12_tryFormula_34 : decode cX12_tryFormula 34 = .ok (.iload_n 3, 1) := by decide +kernel
theorem dX12_tryFormula_35 : decode cX12_tryFormula 35 = .ok (.putfield 238, 3) := by decide +kernel
theorem dX12_tryFormula_38 : decode cX12_tryFormula 38 = .ok (.aload_n 0, 1) := by decide +kernel
theorem dX12_tryFormula_39 : decode cX12_tryFormula 39 = .ok (.aload_n 1, 1) := by decide +kernel
theorem dX12_tryFormula_40 : decode cX12_tryFormula 40 = .ok (.iload_n 2, 1) := by decide +kernel
theorem dX12_tryFormula_41 : decode cX12_tryFormula 41 = .ok (.iconst 0, 1) := by decide +kernel
theorem dX12_tryFormula_42 : decode cX12_tryFormula 42 = .ok (.invokevirtual 288, 3) := by decide +kernel
theorem dX12_tryFormula_45 : decode cX12_tryFormula 45 = .ok (.iload 4, 2) := by decide +kernel
theorem dX12_tryFormula_47 : decode cX12_tryFormula 47 = .ok (.ireturn, 1) := by decide +kernel
set_option maxRecDepth 20000 in
theorem ggX12_keep_X12_move : GoodIn wsX12_keep wsX12_move := goodIn_k tie_wsX12_keep tie_wsX12_move (by decide +kernel)
set_option maxRecDepth 20000 in
theorem gX12_keep_X12_move : GoodIn wsX12_keep (va_wsS RX12 292 yX12_move wsX12_move) := goodIn_app (goodIn_k (is := [862, 863, 5]) tie_wsX12_keep rfl (by decide +kernel)) ggX12_keep_X12_move
theorem dX12_keep_0 : decode cX12_keep 0 = .ok (.aload_n 0, 1) := by decide +kernel
theorem dX12_keep_1 : decode cX12_keep 1 = .ok (.getfield 41, 3) := by decide +kernel
theorem dX12_keep_4 : decode cX12_keep 4 = .ok (.aload_n 1, 1) := by decide +kernel
theorem dX12_keep_5 : decode cX12_keep 5 = .ok (.iload_n 2, 1) := by decide +kernel
theorem dX12_keep_6 : decode cX12_keep 6 = .ok (.iconst 0, 1) := by decide +kernel
theorem dX12_keep_7 : decode cX12_keep 7 = .ok (.iload_n 3, 1) := by decide +kernel
theorem dX12_keep_8 : decode cX12_keep 8 = .ok (.invokestatic 292, 3) := by decide +kernel
theorem dX12_keep_11 : decode cX12_keep 11 = .ok (.aload_n 0, 1) := by decide +kernel
theorem dX12_keep_12 : decode cX12_keep 12 = .ok (.getfield 44, 3) := by decide +kernel
theorem dX12_keep_15 : decode cX12_keep 15 = .ok (.aload_n 1, 1) := by decide +kernel
theorem dX12_keep_16 : decode cX12_keep 16 = .ok (.iload_n 2, 1) := by decide +kernel
theorem dX12_keep_17 : decode cX12_keep 17 = .ok (.iconst 1, 1) := by decide +kernel
theorem dX12_keep_18 : decode cX12_keep 18 = .ok (.iload_n 3, 1) := by decide +kernel
theorem dX12_keep_19 : decode cX12_keep 19 = .ok (.invokestatic 292, 3) := by decide +kernel
theorem dX12_keep_22 : decode cX12_keep 22 = .ok (.aload_n 0, 1) := by decide +kernel
theorem dX12_keep_23 : decode cX12_keep 23 = .ok (.getfield 47, 3) := by decide +kernel
theorem dX12_keep_26 : decode cX12_keep 26 = .ok (.aload_n 1, 1) := by decide +kernel
theorem dX12_keep_27 : decode cX12_keep 27 = .ok (.iload_n 2, 1) := by decide +kernel
theorem dX12_keep_28 : decode cX12_keep 28 = .ok (.iconst 2, 1) := by decide +kernel
theorem dX12_keep_29 : decode cX12_keep 29 = .ok (.iload_n 3, 1) := by decide +kernel
theorem dX12_keep_30 : decode cX12_keep 30 = .ok (.invokestatic 292, 3) := by decide +kernel
theorem dX12_keep_33 : decode cX12_keep 33 = .ok (.aload_n 0, 1) := by decide +kernel
theorem dX12_keep_34 : decode cX12_keep 34 = .ok (.getfield 50, 3) := by decide +kernel
theorem dX12_keep_37 : decode cX12_keep 37 = .ok (.aload_n 1, 1) := by decide +kernel
theorem dX12_keep_38 : decode cX12_keep 38 = .ok (.iload_n 2, 1) := by decide +kernel
theorem dX12_keep_39 : decode cX12_keep 39 = .ok (.iconst 3, 1) := by decide +kernel
theorem dX12_keep_40 : decode cX12_keep 40 = .ok (.iload_n 3, 1) := by decide +kernel
theorem dX12_keep_41 : decode cX12_keep 41 = .ok (.invokestatic 292, 3) := by decide +kernel
theorem dX12_keep_44 : decode cX12_keep 44 = .ok (.aload_n 0, 1) := by decide +kernel
theorem dX12_keep_45 : decode cX12_keep 45 = .ok (.getfield 53, 3) := by decide +kernel
theorem dX12_keep_48 : decode cX12_keep 48 = .ok (.aload_n 1, 1) := by decide +kernel
theorem dX12_keep_49 : decode cX12_keep 49 = .ok (.iload_n 2, 1) := by decide +kernel
theorem dX12_keep_50 : decode cX12_keep 50 = .ok (.iconst 4, 1) := by decide +kernel
theorem dX12_keep_51 : decode cX12_keep 51 = .ok (.iload_n 3, 1) := by decide +kernel
theorem dX12_keep_52 : decode cX12_keep 52 = .ok (.invokestatic 292, 3) := by decide +kernel
theorem dX12_keep_55 : decode cX12_keep 55 = .ok (.aload_n 0, 1) := by decide +kernel
theorem dX12_keep_56 : decode cX12_keep 56 = .ok (.getfield 56, 3) := by decide +kernel
theorem dX12_keep_59 : decode cX12_keep 59 = .ok (.aload_n 1, 1) := by decide +kernel
theorem dX12_keep_60 : decode cX12_keep 60 = .ok (.iload_n 2, 1) := by decide +kernel
theorem dX12_keep_61 : decode cX12_keep 61 = .ok (.iconst 5, 1) := by decide +kernel
theorem dX12_keep_62 : decode cX12_keep 62 = .ok (.iload_n 3, 1) := by decide +kernel
theorem dX12_keep_63 : decode cX12_keep 63 = .ok (.invokestatic 292, 3) := by decide +kernel
theorem dX12_keep_66 : decode cX12_keep 66 = .ok (.aload_n 0, 1) := by decide +kernel
theorem dX12_keep_67 : decode cX12_keep 67 = .ok (.getfield 59, 3) := by decide +kernel
theorem dX12_keep_70 : decode cX12_keep 70 = .ok (.aload_n 1, 1) := by decide +kernel
theorem dX12_keep_71 : decode cX12_keep 71 = .ok (.iload_n 2, 1) := by decide +kernel
theorem dX12_keep_72 : decode cX12_keep 72 = .ok (.bipush 6, 2) := by decide +kernel
theorem dX12_keep_74 : decode cX12_keep 74 = .ok (.iload_n 3, 1) := by decide +kernel
theorem dX12_keep_75 : decode cX12_keep 75 = .ok (.invokestatic 292, 3) := by decide +kernel
theorem dX12_keep_78 : decode cX12_keep 78 = .ok (.return_, 1) := by decide +kernel
theorem dX12_move_0 : decode cX12_move 0 = .ok (.iload 4, 2) := by decide +kernel
theorem dX12_move_2 : decode cX12_move 2 = .ok (.ifCond .eq 18, 3) := by decide +kernel
theorem dX12_move_5 : decode cX12_move 5 = .ok (.aload_n 0, 1) := by decide +kernel
theorem dX12_move_6 : decode cX12_move 6 = .ok (.iload_n 2, 1) := by decide +kernel
theorem dX12_move_7 : decode cX12_move 7 = .ok (.aload_n 1, 1) := by decide +kernel
theorem dX12_move_8 : decode cX12_move 8 = .ok (.bipush 50, 2) := by decide +kernel
theorem dX12_move_10 : decode cX12_move 10 = .ok (.iload_n 3, 1) := by decide +kernel
theorem dX12_move_11 : decode cX12_move 11 = .ok (.imul, 1) := by decide +kernel
theorem dX12_move_12 : decode cX12_move 12 = .ok (.bipush 50, 2) := by decide +kernel
theorem dX12_move_14 : decode cX12_move 14 = .ok (.invokestatic 94, 3) := by decide +kernel
theorem dX12_move_17 : decode cX12_move 17 = .ok (.goto 15, 3) := by decide +kernel
theorem dX12_move_20 : decode cX12_move 20 = .ok (.aload_n 1, 1) := by decide +kernel
theorem dX12_move_21 : decode cX12_move 21 = .ok (.bipush 50, 2) := by decide +kernel
theorem dX12_move_23 : decode cX12_move 23 = .ok (.iload_n 3, 1) := by decide +kernel
theorem dX12_move_24 : decode cX12_move 24 = .ok (.imul, 1) := by decide +kernel
theorem dX12_move_25 : decode cX12_move 25 = .ok (.aload_n 0, 1) := by decide +kernel
theorem dX12_move_26 : decode cX12_move 26 = .ok (.iload_n 2, 1) := by decide +kernel
theorem dX12_move_27 : decode cX12_move 27 = .ok (.bipush 50, 2) := by decide +kernel
theorem dX12_move_29 : decode cX12_move 29 = .ok (.invokestatic 94, 3) := by decide +kernel
theorem dX12_move_32 : decode cX12_move 32 = .ok (.return_, 1) := by decide +kernel
theorem dX12_formulaCount_0 : decode cX12_formulaCount 0 = .ok (.aload_n 0, 1) := by decide +kernel
theorem dX12_formulaCount_1 : decode cX12_formulaCount 1 = .ok (.getfield 282, 3) := by decide +kernel
theorem dX12_formulaCount_4 : decode cX12_formulaCount 4 = .ok (.ireturn, 1) := by decide +kernel
theorem dX12_clearFormulas_0 : decode cX12_clearFormulas 0 = .ok (.aload_n 0, 1) := by decide +kernel
theorem dX12_clearFormulas_1 : decode cX12_clearFormulas 1 = .ok (.getfield 282, 3) := by decide +kernel
theorem dX12_clearFormulas_4 : decode cX12_clearFormulas 4 = .ok (.istore_n 1, 1) := by decide +kernel
theorem dX12_clearFormulas_5 : decode cX12_clearFormulas 5 = .ok (.aload_n 0, 1) := by decide +kernel
theorem dX12_clearFormulas_6 : decode cX12_clearFormulas 6 = .ok (.iconst 0, 1) := by decide +kernel
theorem dX12_clearFormulas_7 : decode cX12_clearFormulas 7 = .ok (.putfield 282, 3) := by decide +kernel
theorem dX12_clearFormulas_10 : decode cX12_clearFormulas 10 = .ok (.aload_n 0, 1) := by decide +kernel
theorem dX12_clearFormulas_11 : decode cX12_clearFormulas 11 = .ok (.iconst 0, 1) := by decide +kernel
theorem dX12_clearFormulas_12 : decode cX12_clearFormulas 12 = .ok (.putfield 238, 3) := by decide +kernel
theorem dX12_clearFormulas_15 : decode cX12_clearFormulas 15 = .ok (.iload_n 1, 1) := by decide +kernel
theorem dX12_clearFormulas_16 : decode cX12_clearFormulas 16 = .ok (.ireturn, 1) := by decide +kernel
set_option maxRecDepth 20000 in
theorem ggX12_isFormula_X12_in : GoodIn wsX12_isFormula wsX12_in := goodIn_k tie_wsX12_isFormula tie_wsX12_in (by decide +kernel)
set_option maxRecDepth 20000 in
theorem gX12_isFormula_X12_in : GoodIn wsX12_isFormula (va_wsS RX12 86 yX12_in wsX12_in) := goodIn_app (goodIn_k (is := [237, 238, 5]) tie_wsX12_isFormula rfl (by decide +kernel)) ggX12_isFormula_X12_in
theorem dX12_isFormula_0 : decode cX12_isFormula 0 = .ok (.iload_n 1, 1) := by decide +kernel
theorem dX12_isFormula_1 : decode cX12_isFormula 1 = .ok (.iconst 0, 1) := by decide +kernel
theorem dX12_isFormula_2 : decode cX12_isFormula 2 = .ok (.aload_n 0, 1) := by decide +kernel
theorem dX12_isFormula_3 : decode cX12_isFormula 3 = .ok (.getfield 282, 3) := by decide +kernel
theorem dX12_isFormula_6 : decode cX12_isFormula 6 = .ok (.iconst 1, 1) := by decide +kernel
theorem dX12_isFormula_7 : decode cX12_isFormula 7 = .ok (.isub, 1) := by decide +kernel
theorem dX12_isFormula_8 : decode cX12_isFormula 8 = .ok (.invokestatic 86, 3) := by decide +kernel
theorem dX12_isFormula_11 : decode cX12_isFormula 11 = .ok (.ireturn, 1) := by decide +kernel
set_option maxRecDepth 20000 in
theorem ggX12_letter_X12_isFormula : GoodIn wsX12_letter wsX12_isFormula := goodIn_k tie_wsX12_letter tie_wsX12_isFormula (by decide +kernel)
set_option maxRecDepth 20000 in
theorem gX12_letter_X12_isFormula : GoodIn wsX12_letter (wsV RX12 296 RX12 yX12_isFormula wsX12_isFormula) := goodIn_app (goodIn_k (is := [899, 900, 901, 5]) tie_wsX12_letter rfl (by decide +kernel)) ggX12_letter_X12_isFormula
set_option maxRecDepth 20000 in
theorem ggX12_letter_X12_in : GoodIn wsX12_letter wsX12_in := goodIn_k tie_wsX12_letter tie_wsX12_in (by decide +kernel)
set_option maxRecDepth 20000 in
theorem gX12_letter_X12_in : GoodIn wsX12_letter (va_wsS RX12 86 yX12_in wsX12_in) := goodIn_app (goodIn_k (is := [237, 238, 5]) tie_wsX12_letter rfl (by decide +kernel)) ggX12_letter_X12_in
theorem dX12_letter_0 : decode cX12_letter 0 = .ok (.aload_n 0, 1) := by decide +kernel
theorem dX12_letter_1 : decode cX12_letter 1 = .ok (.iload_n 1, 1) := by decide +kernel
theorem dX12_letter_2 : decode cX12_letter 2 = .ok (.invokevirtual 296, 3) := by decide +kernel
theorem dX12_letter_5 : decode cX12_letter 5 = .ok (.ifCond .ne 5, 3) := by decide +kernel
theorem dX12_letter_8 : decode cX12_letter 8 = .ok (.iconst (-1), 1) := by decide +kernel
theorem dX12_letter_9 : decode cX12_letter 9 = .ok (.ireturn, 1) := by decide +kernel
theorem dX12_letter_10 : decode cX12_letter 10 = .ok (.iload_n 2, 1) := by decide +kernel
theorem dX12_letter_11 : decode cX12_letter 11 = .ok (.iconst 0, 1) := by decide +kernel
theorem dX12_letter_12 : decode cX12_letter 12 = .ok (.aload_n 0, 1) := by decide +kernel
theorem dX12_letter_13 : decode cX12_letter 13 = .ok (.getfield 71, 3) := by decide +kernel
theorem dX12_letter_16 : decode cX12_letter 16 = .ok (.iload_n 1, 1) := by decide +kernel
theorem dX12_letter_17 : decode cX12_letter 17 = .ok (.iaload, 1) := by decide +kernel
theorem dX12_letter_18 : decode cX12_letter 18 = .ok (.iconst 1, 1) := by decide +kernel
theorem dX12_letter_19 : decode cX12_letter 19 = .ok (.isub, 1) := by decide +kernel
theorem dX12_letter_20 : decode cX12_letter 20 = .ok (.invokestatic 86, 3) := by decide +kernel
theorem dX12_letter_23 : decode cX12_letter 23 = .ok (.ifCond .eq 17, 3) := by decide +kernel
theorem dX12_letter_26 : decode cX12_letter 26 = .ok (.aload_n 0, 1) := by decide +kernel
theorem dX12_letter_27 : decode cX12_letter 27 = .ok (.getfield 68, 3) := by decide +kernel
theorem dX12_letter_30 : decode cX12_letter 30 = .ok (.bipush 50, 2) := by decide +kernel
theorem dX12_letter_32 : decode cX12_letter 32 = .ok (.iload_n 1, 1) := by decide +kernel
theorem dX12_letter_33 : decode cX12_letter 33 = .ok (.imul, 1) := by decide +kernel
theorem dX12_letter_34 : decode cX12_letter 34 = .ok (.iload_n 2, 1) := by decide +kernel
theorem dX12_letter_35 : decode cX12_letter 35 = .ok (.iadd, 1) := by decide +kernel
theorem dX12_letter_36 : decode cX12_letter 36 = .ok (.iaload, 1) := by decide +kernel
theorem dX12_letter_37 : decode cX12_letter 37 = .ok (.goto 5, 3) := by decide +kernel
theorem dX12_letter_40 : decode cX12_letter 40 = .ok (.bipush (-2), 2) := by decide +kernel
theorem dX12_letter_42 : decode cX12_letter 42 = .ok (.ireturn, 1) := by decide +kernel
set_option maxRecDepth 20000 in
theorem ggX12_isBounded_X12_in : GoodIn wsX12_isBounded wsX12_in := goodIn_k tie_wsX12_isBounded tie_wsX12_in (by decide +kernel)
set_option maxRecDepth 20000 in
theorem gX12_isBounded_X12_in : GoodIn wsX12_isBounded (va_wsS RX12 86 yX12_in wsX12_in) := goodIn_app (goodIn_k (is := [237, 238, 5]) tie_wsX12_isBounded rfl (by decide +kernel)) ggX12_isBounded_X12_in
theorem dX12_isBounded_0 : decode cX12_isBounded 0 = .ok (.iload_n 0, 1) := by decide +kernel
theorem dX12_isBounded_1 : decode cX12_isBounded 1 = .ok (.bipush 65, 2) := by decide +kernel
theorem dX12_isBounded_3 : decode cX12_isBounded 3 = .ok (.bipush 90, 2) := by decide +kernel
theorem dX12_isBounded_5 : decode cX12_isBounded 5 = .ok (.invokestatic 86, 3) := by decide +kernel
theorem dX12_isBounded_8 : decode cX12_isBounded 8 = .ok (.ireturn, 1) := by decide +kernel
theorem dX12_hasOne_0 : decode cX12_hasOne 0 = .ok (.iload_n 0, 1) := by decide +kernel
theorem dX12_hasOne_1 : decode cX12_hasOne 1 = .ok (.bipush 116, 2) := by decide +kernel
theorem dX12_hasOne_3 : decode cX12_hasOne 3 = .ok (.if_icmp .eq 13, 3) := by decide +kernel
theorem dX12_hasOne_6 : decode cX12_hasOne 6 = .ok (.iload_n 0, 1) := by decide +kernel
theorem dX12_hasOne_7 : decode cX12_hasOne 7 = .ok (.bipush 97, 2) := by decide +kernel
theorem dX12_hasOne_9 : decode cX12_hasOne 9 = .ok (.if_icmp .eq 7, 3) := by decide +kernel
theorem dX12_hasOne_12 : decode cX12_hasOne 12 = .ok (.iconst 1, 1) := by decide +kernel
theorem dX12_hasOne_13 : decode cX12_hasOne 13 = .ok (.goto 4, 3) := by decide +kernel
theorem dX12_hasOne_16 : decode cX12_hasOne 16 = .ok (.iconst 0, 1) := by decide +kernel
theorem dX12_hasOne_17 : decode cX12_hasOne 17 = .ok (.ireturn, 1) := by decide +kernel
theorem dX12_hasTwo_0 : decode cX12_hasTwo 0 = .ok (.iload_n 0, 1) := by decide +kernel
theorem dX12_hasTwo_1 : decode cX12_hasTwo 1 = .ok (.bipush 38, 2) := by decide +kernel
theorem dX12_hasTwo_3 : decode cX12_hasTwo 3 = .ok (.if_icmp .eq 21, 3) := by decide +kernel
theorem dX12_hasTwo_6 : decode cX12_hasTwo 6 = .ok (.iload_n 0, 1) := by decide +kernel
theorem dX12_hasTwo_7 : decode cX12_hasTwo 7 = .ok (.bipush 124, 2) := by decide +kernel
theorem dX12_hasTwo_9 : decode cX12_hasTwo 9 = .ok (.if_icmp .eq 15, 3) := by decide +kernel
theorem dX12_hasTwo_12 : decode cX12_hasTwo 12 = .ok (.iload_n 0, 1) := by decide +kernel
theorem dX12_hasTwo_13 : decode cX12_hasTwo 13 = .ok (.bipush 85, 2) := by decide +kernel
theorem dX12_hasTwo_15 : decode cX12_hasTwo 15 = .ok (.if_icmp .eq 9, 3) := by decide +kernel
theorem dX12_hasTwo_18 : decode cX12_hasTwo 18 = .ok (.iload_n 0, 1) := by decide +kernel
theorem dX12_hasTwo_19 : decode cX12_hasTwo 19 = .ok (.bipush 66, 2) := by decide +kernel
theorem dX12_hasTwo_21 : decode cX12_hasTwo 21 = .ok (.if_icmp .ne 7, 3) := by decide +kernel
theorem dX12_hasTwo_24 : decode cX12_hasTwo 24 = .ok (.iconst 1, 1) := by decide +kernel
theorem dX12_hasTwo_25 : decode cX12_hasTwo 25 = .ok (.goto 4, 3) := by decide +kernel
theorem dX12_hasTwo_28 : decode cX12_hasTwo 28 = .ok (.iconst 0, 1) := by decide +kernel
theorem dX12_hasTwo_29 : decode cX12_hasTwo 29 = .ok (.ireturn, 1) := by decide +kernel
set_option maxRecDepth 20000 in
theorem ggX12_depthOf_X12_hasOne : GoodIn wsX12_depthOf wsX12_hasOne := goodIn_k tie_wsX12_depthOf tie_wsX12_hasOne (by decide +kernel)
set_option maxRecDepth 20000 in
theorem gX12_depthOf_X12_hasOne : GoodIn wsX12_depthOf (va_wsS RX12 299 yX12_hasOne wsX12_hasOne) := goodIn_app (goodIn_k (is := [919, 920, 5]) tie_wsX12_depthOf rfl (by decide +kernel)) ggX12_depthOf_X12_hasOne
set_option maxRecDepth 20000 in
theorem ggX12_depthOf_X12_depthOf : GoodIn wsX12_depthOf wsX12_depthOf := goodIn_k tie_wsX12_depthOf tie_wsX12_depthOf (by decide +kernel)
set_option maxRecDepth 20000 in
theorem gX12_depthOf_X12_depthOf : GoodIn wsX12_depthOf (wsV RX12 302 RX12 yX12_depthOf wsX12_depthOf) := goodIn_app (goodIn_k (is := [915, 916, 917, 5]) tie_wsX12_depthOf rfl (by decide +kernel)) ggX12_depthOf_X12_depthOf
set_option maxRecDepth 20000 in
theorem ggX12_depthOf_X12_hasTwo : GoodIn wsX12_depthOf wsX12_hasTwo := goodIn_k tie_wsX12_depthOf tie_wsX12_hasTwo (by decide +kernel)
set_option maxRecDepth 20000 in
theorem gX12_depthOf_X12_hasTwo : GoodIn wsX12_depthOf (va_wsS RX12 305 yX12_hasTwo wsX12_hasTwo) := goodIn_app (goodIn_k (is := [922, 923, 5]) tie_wsX12_depthOf rfl (by decide +kernel)) ggX12_depthOf_X12_hasTwo
set_option maxRecDepth 20000 in
theorem ggX12_depthOf_X12_isBounded : GoodIn wsX12_depthOf wsX12_isBounded := goodIn_k tie_wsX12_depthOf tie_wsX12_isBounded (by decide +kernel)
set_option maxRecDepth 20000 in
theorem gX12_depthOf_X12_isBounded : GoodIn wsX12_depthOf (va_wsS RX12 308 yX12_isBounded wsX12_isBounded) := goodIn_app (goodIn_k (is := [925, 926, 5]) tie_wsX12_depthOf rfl (by decide +kernel)) ggX12_depthOf_X12_isBounded
theorem dX12_depthOf_0 : decode cX12_depthOf 0 = .ok (.aload_n 0, 1) := by decide +kernel
theorem dX12_depthOf_1 : decode cX12_depthOf 1 = .ok (.getfield 41, 3) := by decide +kernel
theorem dX12_depthOf_4 : decode cX12_depthOf 4 = .ok (.iload_n 1, 1) := by decide +kernel
theorem dX12_depthOf_5 : decode cX12_depthOf 5 = .ok (.iaload, 1) := by decide +kernel
theorem dX12_depthOf_6 : decode cX12_depthOf 6 = .ok (.invokestatic 299, 3) := by decide +kernel
theorem dX12_depthOf_9 : decode cX12_depthOf 9 = .ok (.ifCond .eq 16, 3) := by decide +kernel
theorem dX12_depthOf_12 : decode cX12_depthOf 12 = .ok (.aload_n 0, 1) := by decide +kernel
theorem dX12_depthOf_13 : decode cX12_depthOf 13 = .ok (.aload_n 0, 1) := by decide +kernel
theorem dX12_depthOf_14 : decode cX12_depthOf 14 = .ok (.getfield 44, 3) := by decide +kernel
theorem dX12_depthOf_17 : decode cX12_depthOf 17 = .ok (.iload_n 1, 1) := by decide +kernel
theorem dX12_depthOf_18 : decode cX12_depthOf 18 = .ok (.iaload, 1) := by decide +kernel
theorem dX12_depthOf_19 : decode cX12_depthOf 19 = .ok (.invokevirtual 302, 3) := by decide +kernel
theorem dX12_depthOf_22 : decode cX12_depthOf 22 = .ok (.goto 4, 3) := by decide +kernel
theorem dX12_depthOf_25 : decode cX12_depthOf 25 = .ok (.iconst 0, 1) := by decide +kernel
theorem dX12_depthOf_26 : decode cX12_depthOf 26 = .ok (.istore_n 2, 1) := by decide +kernel
theorem dX12_depthOf_27 : decode cX12_depthOf 27 = .ok (.aload_n 0, 1) := by decide +kernel
theorem dX12_depthOf_28 : decode cX12_depthOf 28 = .ok (.getfield 41, 3) := by decide +kernel
theorem dX12_depthOf_31 : decode cX12_depthOf 31 = .ok (.iload_n 1, 1) := by decide +kernel
theorem dX12_depthOf_32 : decode cX12_depthOf 32 = .ok (.iaload, 1) := by decide +kernel
theorem dX12_depthOf_33 : decode cX12_depthOf 33 = .ok (.invokestatic 305, 3) := by decide +kernel
theorem dX12_depthOf_36 : decode cX12_depthOf 36 = .ok (.ifCond .eq 20, 3) := by decide +kernel
theorem dX12_depthOf_39 : decode cX12_depthOf 39 = .ok (.iload_n 2, 1) := by decide +kernel
theorem dX12_depthOf_40 : decode cX12_depthOf 40 = .ok (.aload_n 0, 1) := by decide +kernel
theorem dX12_depthOf_41 : decode cX12_depthOf 41 = .ok (.aload_n 0, 1) := by decide +kernel
theorem dX12_depthOf_42 : decode cX12_depthOf 42 = .ok (.getfield 47, 3) := by decide +kernel
theorem dX12_depthOf_45 : decode cX12_depthOf 45 = .ok (.iload_n 1, 1) := by decide +kernel
theorem dX12_depthOf_46 : decode cX12_depthOf 46 = .ok (.iaload, 1) := by decide +kernel
theorem dX12_depthOf_47 : decode cX12_depthOf 47 = .ok (.invokevirtual 302, 3) := by decide +kernel
theorem dX12_depthOf_50 : decode cX12_depthOf 50 = .ok (.invokestatic 115, 3) := by decide +kernel
theorem dX12_depthOf_53 : decode cX12_depthOf 53 = .ok (.goto 4, 3) := by decide +kernel
theorem dX12_depthOf_56 : decode cX12_depthOf 56 = .ok (.iload_n 2, 1) := by decide +kernel
theorem dX12_depthOf_57 : decode cX12_depthOf 57 = .ok (.istore_n 2, 1) := by decide +kernel
theorem dX12_depthOf_58 : decode cX12_depthOf 58 = .ok (.aload_n 0, 1) := by decide +kernel
theorem dX12_depthOf_59 : decode cX12_depthOf 59 = .ok (.getfield 41, 3) := by decide +kernel
theorem dX12_depthOf_62 : decode cX12_depthOf 62 = .ok (.iload_n 1, 1) := by decide +kernel
theorem dX12_depthOf_63 : decode cX12_depthOf 63 = .ok (.iaload, 1) := by decide +kernel
theorem dX12_depthOf_64 : decode cX12_depthOf 64 = .ok (.invokestatic 308, 3) := by decide +kernel
theorem dX12_depthOf_67 : decode cX12_depthOf 67 = .ok (.ifCond .eq 9, 3) := by decide +kernel
theorem dX12_depthOf_70 : decode cX12_depthOf 70 = .ok (.iload_n 2, 1) := by decide +kernel
theorem dX12_depthOf_71 : decode cX12_depthOf 71 = .ok (.iconst 1, 1) := by decide +kernel
theorem dX12_depthOf_72 : decode cX12_depthOf 72 = .ok (.iadd, 1) := by decide +kernel
theorem dX12_depthOf_73 : decode cX12_depthOf 73 = .ok (.goto 4, 3) := by decide +kernel
theorem dX12_depthOf_76 : decode cX12_depthOf 76 = .ok (.iload_n 2, 1) := by decide +kernel
theorem dX12_depthOf_77 : decode cX12_depthOf 77 = .ok (.ireturn, 1) := by decide +kernel
set_option maxRecDepth 20000 in
theorem ggX12_depth_X12_isFormula : GoodIn wsX12_depth wsX12_isFormula := goodIn_k tie_wsX12_depth tie_wsX12_isFormula (by decide +kernel)
set_option maxRecDepth 20000 in
theorem gX12_depth_X12_isFormula : GoodIn wsX12_depth (wsV RX12 296 RX12 yX12_isFormula wsX12_isFormula) := goodIn_app (goodIn_k (is := [899, 900, 901, 5]) tie_wsX12_depth rfl (by decide +kernel)) ggX12_depth_X12_isFormula
set_option maxRecDepth 20000 in
theorem ggX12_depth_X12_depthOf : GoodIn wsX12_depth wsX12_depthOf := goodIn_k tie_wsX12_depth tie_wsX12_depthOf (by decide +kernel)
set_option maxRecDepth 20000 in
theorem gX12_depth_X12_depthOf : GoodIn wsX12_depth (wsV RX12 302 RX12 yX12_depthOf wsX12_depthOf) := goodIn_app (goodIn_k (is := [915, 916, 917, 5]) tie_wsX12_depth rfl (by decide +kernel)) ggX12_depth_X12_depthOf
theorem dX12_depth_0 : decode cX12_depth 0 = .ok (.aload_n 0, 1) := by decide +kernel
theorem dX12_depth_1 : decode cX12_depth 1 = .ok (.iload_n 1, 1) := by decide +kernel
theorem dX12_depth_2 : decode cX12_depth 2 = .ok (.invokevirtual 296, 3) := by decide +kernel
