theorem dX12_wants_7 : decode cX12_wants 7 = .ok (.aload_n 0, 1) := by decide +kernel
theorem dX12_wants_8 : decode cX12_wants 8 = .ok (.invokevirtual 232, 3) := by decide +kernel
theorem dX12_wants_11 : decode cX12_wants 11 = .ok (.iload_n 1, 1) := by decide +kernel
theorem dX12_wants_12 : decode cX12_wants 12 = .ok (.if_icmp .ne 16, 3) := by decide +kernel
theorem dX12_wants_15 : decode cX12_wants 15 = .ok (.aload_n 0, 1) := by decide +kernel
theorem dX12_wants_16 : decode cX12_wants 16 = .ok (.dup, 1) := by decide +kernel
theorem dX12_wants_17 : decode cX12_wants 17 = .ok (.getfield 229, 3) := by decide +kernel
theorem dX12_wants_20 : decode cX12_wants 20 = .ok (.iconst 1, 1) := by decide +kernel
theorem dX12_wants_21 : decode cX12_wants 21 = .ok (.iadd, 1) := by decide +kernel
theorem dX12_wants_22 : decode cX12_wants 22 = .ok (.putfield 229, 3) := by decide +kernel
theorem dX12_wants_25 : decode cX12_wants 25 = .ok (.goto 8, 3) := by decide +kernel
theorem dX12_wants_28 : decode cX12_wants 28 = .ok (.aload_n 0, 1) := by decide +kernel
theorem dX12_wants_29 : decode cX12_wants 29 = .ok (.iconst 1, 1) := by decide +kernel
theorem dX12_wants_30 : decode cX12_wants 30 = .ok (.putfield 235, 3) := by decide +kernel
theorem dX12_wants_33 : decode cX12_wants 33 = .ok (.return_, 1) := by decide +kernel
theorem dX12_node_0 : decode cX12_node 0 = .ok (.aload_n 0, 1) := by decide +kernel
theorem dX12_node_1 : decode cX12_node 1 = .ok (.getfield 235, 3) := by decide +kernel
theorem dX12_node_4 : decode cX12_node 4 = .ok (.ifCond .eq 5, 3) := by decide +kernel
theorem dX12_node_7 : decode cX12_node 7 = .ok (.iconst 0, 1) := by decide +kernel
theorem dX12_node_8 : decode cX12_node 8 = .ok (.ireturn, 1) := by decide +kernel
theorem dX12_node_9 : decode cX12_node 9 = .ok (.aload_n 0, 1) := by decide +kernel
theorem dX12_node_10 : decode cX12_node 10 = .ok (.getfield 41, 3) := by decide +kernel
theorem dX12_node_13 : decode cX12_node 13 = .ok (.aload_n 0, 1) := by decide +kernel
theorem dX12_node_14 : decode cX12_node 14 = .ok (.getfield 238, 3) := by decide +kernel
theorem dX12_node_17 : decode cX12_node 17 = .ok (.iload_n 1, 1) := by decide +kernel
theorem dX12_node_18 : decode cX12_node 18 = .ok (.iastore, 1) := by decide +kernel
theorem dX12_node_19 : decode cX12_node 19 = .ok (.aload_n 0, 1) := by decide +kernel
theorem dX12_node_20 : decode cX12_node 20 = .ok (.getfield 44, 3) := by decide +kernel
theorem dX12_node_23 : decode cX12_node 23 = .ok (.aload_n 0, 1) := by decide +kernel
theorem dX12_node_24 : decode cX12_node 24 = .ok (.getfield 238, 3) := by decide +kernel
theorem dX12_node_27 : decode cX12_node 27 = .ok (.iload_n 2, 1) := by decide +kernel
theorem dX12_node_28 : decode cX12_node 28 = .ok (.iastore, 1) := by decide +kernel
theorem dX12_node_29 : decode cX12_node 29 = .ok (.aload_n 0, 1) := by decide +kernel
theorem dX12_node_30 : decode cX12_node 30 = .ok (.getfield 47, 3) := by decide +kernel
theorem dX12_node_33 : decode cX12_node 33 = .ok (.aload_n 0, 1) := by decide +kernel
theorem dX12_node_34 : decode cX12_node 34 = .ok (.getfield 238, 3) := by decide +kernel
theorem dX12_node_37 : decode cX12_node 37 = .ok (.iload_n 3, 1) := by decide +kernel
theorem dX12_node_38 : decode cX12_node 38 = .ok (.iastore, 1) := by decide +kernel
theorem dX12_node_39 : decode cX12_node 39 = .ok (.aload_n 0, 1) := by decide +kernel
theorem dX12_node_40 : decode cX12_node 40 = .ok (.getfield 50, 3) := by decide +kernel
theorem dX12_node_43 : decode cX12_node 43 = .ok (.aload_n 0, 1) := by decide +kernel
theorem dX12_node_44 : decode cX12_node 44 = .ok (.getfield 238, 3) := by decide +kernel
theorem dX12_node_47 : decode cX12_node 47 = .ok (.iconst 0, 1) := by decide +kernel
theorem dX12_node_48 : decode cX12_node 48 = .ok (.iastore, 1) := by decide +kernel
theorem dX12_node_49 : decode cX12_node 49 = .ok (.aload_n 0, 1) := by decide +kernel
theorem dX12_node_50 : decode cX12_node 50 = .ok (.dup, 1) := by decide +kernel
theorem dX12_node_51 : decode cX12_node 51 = .ok (.getfield 238, 3) := by decide +kernel
theorem dX12_node_54 : decode cX12_node 54 = .ok (.iconst 1, 1) := by decide +kernel
theorem dX12_node_55 : decode cX12_node 55 = .ok (.iadd, 1) := by decide +kernel
theorem dX12_node_56 : decode cX12_node 56 = .ok (.putfield 238, 3) := by decide +kernel
theorem dX12_node_59 : decode cX12_node 59 = .ok (.aload_n 0, 1) := by decide +kernel
theorem dX12_node_60 : decode cX12_node 60 = .ok (.getfield 238, 3) := by decide +kernel
theorem dX12_node_63 : decode cX12_node 63 = .ok (.iconst 1, 1) := by decide +kernel
theorem dX12_node_64 : decode cX12_node 64 = .ok (.isub, 1) := by decide +kernel
theorem dX12_node_65 : decode cX12_node 65 = .ok (.ireturn, 1) := by decide +kernel
set_option maxRecDepth 20000 in
theorem ggX12_readNumber_X12_isDigit : GoodIn wsX12_readNumber wsX12_isDigit := goodIn_k tie_wsX12_readNumber tie_wsX12_isDigit (by decide +kernel)
set_option maxRecDepth 20000 in
theorem gX12_readNumber_X12_isDigit : GoodIn wsX12_readNumber (wsV RX12 241 RX12 yX12_isDigit wsX12_isDigit) := goodIn_app (goodIn_k (is := [838, 839, 840, 5]) tie_wsX12_readNumber rfl (by decide +kernel)) ggX12_readNumber_X12_isDigit
set_option maxRecDepth 20000 in
theorem ggX12_readNumber_X12_here : GoodIn wsX12_readNumber wsX12_here := goodIn_k tie_wsX12_readNumber tie_wsX12_here (by decide +kernel)
set_option maxRecDepth 20000 in
theorem gX12_readNumber_X12_here : GoodIn wsX12_readNumber (wsV RX12 232 RX12 yX12_here wsX12_here) := goodIn_app (goodIn_k (is := [815, 816, 817, 5]) tie_wsX12_readNumber rfl (by decide +kernel)) ggX12_readNumber_X12_here
theorem dX12_readNumber_0 : decode cX12_readNumber 0 = .ok (.aload_n 0, 1) := by decide +kernel
theorem dX12_readNumber_1 : decode cX12_readNumber 1 = .ok (.getfield 235, 3) := by decide +kernel
theorem dX12_readNumber_4 : decode cX12_readNumber 4 = .ok (.ifCond .ne 10, 3) := by decide +kernel
theorem dX12_readNumber_7 : decode cX12_readNumber 7 = .ok (.aload_n 0, 1) := by decide +kernel
theorem dX12_readNumber_8 : decode cX12_readNumber 8 = .ok (.invokevirtual 241, 3) := by decide +kernel
theorem dX12_readNumber_11 : decode cX12_readNumber 11 = .ok (.ifCond .ne 10, 3) := by decide +kernel
theorem dX12_readNumber_14 : decode cX12_readNumber 14 = .ok (.aload_n 0, 1) := by decide +kernel
theorem dX12_readNumber_15 : decode cX12_readNumber 15 = .ok (.iconst 1, 1) := by decide +kernel
theorem dX12_readNumber_16 : decode cX12_readNumber 16 = .ok (.putfield 235, 3) := by decide +kernel
theorem dX12_readNumber_19 : decode cX12_readNumber 19 = .ok (.iconst 0, 1) := by decide +kernel
theorem dX12_readNumber_20 : decode cX12_readNumber 20 = .ok (.ireturn, 1) := by decide +kernel
theorem dX12_readNumber_21 : decode cX12_readNumber 21 = .ok (.aload_n 0, 1) := by decide +kernel
theorem dX12_readNumber_22 : decode cX12_readNumber 22 = .ok (.invokevirtual 232, 3) := by decide +kernel
theorem dX12_readNumber_25 : decode cX12_readNumber 25 = .ok (.bipush 48, 2) := by decide +kernel
theorem dX12_readNumber_27 : decode cX12_readNumber 27 = .ok (.isub, 1) := by decide +kernel
theorem dX12_readNumber_28 : decode cX12_readNumber 28 = .ok (.istore_n 1, 1) := by decide +kernel
theorem dX12_readNumber_29 : decode cX12_readNumber 29 = .ok (.aload_n 0, 1) := by decide +kernel
theorem dX12_readNumber_30 : decode cX12_readNumber 30 = .ok (.dup, 1) := by decide +kernel
theorem dX12_readNumber_31 : decode cX12_readNumber 31 = .ok (.getfield 229, 3) := by decide +kernel
theorem dX12_readNumber_34 : decode cX12_readNumber 34 = .ok (.iconst 1, 1) := by decide +kernel
theorem dX12_readNumber_35 : decode cX12_readNumber 35 = .ok (.iadd, 1) := by decide +kernel
theorem dX12_readNumber_36 : decode cX12_readNumber 36 = .ok (.putfield 229, 3) := by decide +kernel
theorem dX12_readNumber_39 : decode cX12_readNumber 39 = .ok (.aload_n 0, 1) := by decide +kernel
theorem dX12_readNumber_40 : decode cX12_readNumber 40 = .ok (.invokevirtual 241, 3) := by decide +kernel
theorem dX12_readNumber_43 : decode cX12_readNumber 43 = .ok (.ifCond .eq 26, 3) := by decide +kernel
theorem dX12_readNumber_46 : decode cX12_readNumber 46 = .ok (.bipush 10, 2) := by decide +kernel
theorem dX12_readNumber_48 : decode cX12_readNumber 48 = .ok (.iload_n 1, 1) := by decide +kernel
theorem dX12_readNumber_49 : decode cX12_readNumber 49 = .ok (.imul, 1) := by decide +kernel
theorem dX12_readNumber_50 : decode cX12_readNumber 50 = .ok (.aload_n 0, 1) := by decide +kernel
theorem dX12_readNumber_51 : decode cX12_readNumber 51 = .ok (.invokevirtual 232, 3) := by decide +kernel
theorem dX12_readNumber_54 : decode cX12_readNumber 54 = .ok (.iadd, 1) := by decide +kernel
theorem dX12_readNumber_55 : decode cX12_readNumber 55 = .ok (.bipush 48, 2) := by decide +kernel
theorem dX12_readNumber_57 : decode cX12_readNumber 57 = .ok (.isub, 1) := by decide +kernel
theorem dX12_readNumber_58 : decode cX12_readNumber 58 = .ok (.istore_n 1, 1) := by decide +kernel
theorem dX12_readNumber_59 : decode cX12_readNumber 59 = .ok (.aload_n 0, 1) := by decide +kernel
theorem dX12_readNumber_60 : decode cX12_readNumber 60 = .ok (.dup, 1) := by decide +kernel
theorem dX12_readNumber_61 : decode cX12_readNumber 61 = .ok (.getfield 229, 3) := by decide +kernel
theorem dX12_readNumber_64 : decode cX12_readNumber 64 = .ok (.iconst 1, 1) := by decide +kernel
theorem dX12_readNumber_65 : decode cX12_readNumber 65 = .ok (.iadd, 1) := by decide +kernel
theorem dX12_readNumber_66 : decode cX12_readNumber 66 = .ok (.putfield 229, 3) := by decide +kernel
theorem dX12_readNumber_69 : decode cX12_readNumber 69 = .ok (.iload_n 1, 1) := by decide +kernel
theorem dX12_readNumber_70 : decode cX12_readNumber 70 = .ok (.ireturn, 1) := by decide +kernel
set_option maxRecDepth 20000 in
theorem ggX12_readBound_X12_here : GoodIn wsX12_readBound wsX12_here := goodIn_k tie_wsX12_readBound tie_wsX12_here (by decide +kernel)
set_option maxRecDepth 20000 in
theorem gX12_readBound_X12_here : GoodIn wsX12_readBound (wsV RX12 232 RX12 yX12_here wsX12_here) := goodIn_app (goodIn_k (is := [815, 816, 817, 5]) tie_wsX12_readBound rfl (by decide +kernel)) ggX12_readBound_X12_here
set_option maxRecDepth 20000 in
theorem ggX12_readBound_X12_readNumber : GoodIn wsX12_readBound wsX12_readNumber := goodIn_k tie_wsX12_readBound tie_wsX12_readNumber (by decide +kernel)
set_option maxRecDepth 20000 in
theorem gX12_readBound_X12_readNumber : GoodIn wsX12_readBound (wsV RX12 248 RX12 yX12_readNumber wsX12_readNumber) := goodIn_app (goodIn_k (is := [834, 835, 836, 5]) tie_wsX12_readBound rfl (by decide +kernel)) ggX12_readBound_X12_readNumber
theorem dX12_readBound_0 : decode cX12_readBound 0 = .ok (.aload_n 0, 1) := by decide +kernel
theorem dX12_readBound_1 : decode cX12_readBound 1 = .ok (.invokevirtual 232, 3) := by decide +kernel
theorem dX12_readBound_4 : decode cX12_readBound 4 = .ok (.istore_n 1, 1) := by decide +kernel
theorem dX12_readBound_5 : decode cX12_readBound 5 = .ok (.aload_n 0, 1) := by decide +kernel
theorem dX12_readBound_6 : decode cX12_readBound 6 = .ok (.getfield 235, 3) := by decide +kernel
theorem dX12_readBound_9 : decode cX12_readBound 9 = .ok (.ifCond .ne 15, 3) := by decide +kernel
theorem dX12_readBound_12 : decode cX12_readBound 12 = .ok (.iload_n 1, 1) := by decide +kernel
theorem dX12_readBound_13 : decode cX12_readBound 13 = .ok (.bipush 60, 2) := by decide +kernel
theorem dX12_readBound_15 : decode cX12_readBound 15 = .ok (.if_icmp .eq 15, 3) := by decide +kernel
theorem dX12_readBound_18 : decode cX12_readBound 18 = .ok (.iload_n 1, 1) := by decide +kernel
theorem dX12_readBound_19 : decode cX12_readBound 19 = .ok (.bipush 62, 2) := by decide +kernel
theorem dX12_readBound_21 : decode cX12_readBound 21 = .ok (.if_icmp .eq 9, 3) := by decide +kernel
theorem dX12_readBound_24 : decode cX12_readBound 24 = .ok (.aload_n 0, 1) := by decide +kernel
theorem dX12_readBound_25 : decode cX12_readBound 25 = .ok (.iconst 1, 1) := by decide +kernel
theorem dX12_readBound_26 : decode cX12_readBound 26 = .ok (.putfield 235, 3) := by decide +kernel
theorem dX12_readBound_29 : decode cX12_readBound 29 = .ok (.return_, 1) := by decide +kernel
theorem dX12_readBound_30 : decode cX12_readBound 30 = .ok (.aload_n 0, 1) := by decide +kernel
theorem dX12_readBound_31 : decode cX12_readBound 31 = .ok (.dup, 1) := by decide +kernel
theorem dX12_readBound_32 : decode cX12_readBound 32 = .ok (.getfield 229, 3) := by decide +kernel
theorem dX12_readBound_35 : decode cX12_readBound 35 = .ok (.iconst 1, 1) := by decide +kernel
theorem dX12_readBound_36 : decode cX12_readBound 36 = .ok (.iadd, 1) := by decide +kernel
theorem dX12_readBound_37 : decode cX12_readBound 37 = .ok (.putfield 229, 3) := by decide +kernel
theorem dX12_readBound_40 : decode cX12_readBound 40 = .ok (.aload_n 0, 1) := by decide +kernel
theorem dX12_readBound_41 : decode cX12_readBound 41 = .ok (.iload_n 1, 1) := by decide +kernel
theorem dX12_readBound_42 : decode cX12_readBound 42 = .ok (.putfield 245, 3) := by decide +kernel
theorem dX12_readBound_45 : decode cX12_readBound 45 = .ok (.aload_n 0, 1) := by decide +kernel
theorem dX12_readBound_46 : decode cX12_readBound 46 = .ok (.invokevirtual 232, 3) := by decide +kernel
theorem dX12_readBound_49 : decode cX12_readBound 49 = .ok (.bipush 61, 2) := by decide +kernel
theorem dX12_readBound_51 : decode cX12_readBound 51 = .ok (.if_icmp .ne 30, 3) := by decide +kernel
theorem dX12_readBound_54 : decode cX12_readBound 54 = .ok (.aload_n 0, 1) := by decide +kernel
theorem dX12_readBound_55 : decode cX12_readBound 55 = .ok (.dup, 1) := by decide +kernel
theorem dX12_readBound_56 : decode cX12_readBound 56 = .ok (.getfield 229, 3) := by decide +kernel
theorem dX12_readBound_59 : decode cX12_readBound 59 = .ok (.iconst 1, 1) := by decide +kernel
theorem dX12_readBound_60 : decode cX12_readBound 60 = .ok (.iadd, 1) := by decide +kernel
theorem dX12_readBound_61 : decode cX12_readBound 61 = .ok (.putfield 229, 3) := by decide +kernel
theorem dX12_readBound_64 : decode cX12_readBound 64 = .ok (.aload_n 0, 1) := by decide +kernel
theorem dX12_readBound_65 : decode cX12_readBound 65 = .ok (.iload_n 1, 1) := by decide +kernel
theorem dX12_readBound_66 : decode cX12_readBound 66 = .ok (.bipush 60, 2) := by decide +kernel
theorem dX12_readBound_68 : decode cX12_readBound 68 = .ok (.if_icmp .ne 8, 3) := by decide +kernel
theorem dX12_readBound_71 : decode cX12_readBound 71 = .ok (.bipush 108, 2) := by decide +kernel
theorem dX12_readBound_73 : decode cX12_readBound 73 = .ok (.goto 5, 3) := by decide +kernel
theorem dX12_readBound_76 : decode cX12_readBound 76 = .ok (.bipush 103, 2) := by decide +kernel
theorem dX12_readBound_78 : decode cX12_readBound 78 = .ok (.putfield 245, 3) := by decide +kernel
theorem dX12_readBound_81 : decode cX12_readBound 81 = .ok (.aload_n 0, 1) := by decide +kernel
theorem dX12_readBound_82 : decode cX12_readBound 82 = .ok (.aload_n 0, 1) := by decide +kernel
theorem dX12_readBound_83 : decode cX12_readBound 83 = .ok (.invokevirtual 248, 3) := by decide +kernel
theorem dX12_readBound_86 : decode cX12_readBound 86 = .ok (.putfield 251, 3) := by decide +kernel
theorem dX12_readBound_89 : decode cX12_readBound 89 = .ok (.aload_n 0, 1) := by decide +kernel
theorem dX12_readBound_90 : decode cX12_readBound 90 = .ok (.iconst 1, 1) := by decide +kernel
theorem dX12_readBound_91 : decode cX12_readBound 91 = .ok (.putfield 254, 3) := by decide +kernel
theorem dX12_readBound_94 : decode cX12_readBound 94 = .ok (.aload_n 0, 1) := by decide +kernel
theorem dX12_readBound_95 : decode cX12_readBound 95 = .ok (.getfield 235, 3) := by decide +kernel
theorem dX12_readBound_98 : decode cX12_readBound 98 = .ok (.ifCond .ne 59, 3) := by decide +kernel
theorem dX12_readBound_101 : decode cX12_readBound 101 = .ok (.aload_n 0, 1) := by decide +kernel
theorem dX12_readBound_102 : decode cX12_readBound 102 = .ok (.invokevirtual 232, 3) := by decide +kernel
theorem dX12_readBound_105 : decode cX12_readBound 105 = .ok (.bipush 47, 2) := by decide +kernel
theorem dX12_readBound_107 : decode cX12_readBound 107 = .ok (.if_icmp .ne 50, 3) := by decide +kernel
theorem dX12_readBound_110 : decode cX12_readBound 110 = .ok (.aload_n 0, 1) := by decide +kernel
theorem dX12_readBound_111 : decode cX12_readBound 111 = .ok (.dup, 1) := by decide +kernel
theorem dX12_readBound_112 : decode cX12_readBound 112 = .ok (.getfield 229, 3) := by decide +kernel
theorem dX12_readBound_115 : decode cX12_readBound 115 = .ok (.iconst 1, 1) := by decide +kernel
theorem dX12_readBound_116 : decode cX12_readBound 116 = .ok (.iadd, 1) := by decide +kernel
theorem dX12_readBound_117 : decode cX12_readBound 117 = .ok (.putfield 229, 3) := by decide +kernel
theorem dX12_readBound_120 : decode cX12_readBound 120 = .ok (.aload_n 0, 1) := by decide +kernel
theorem dX12_readBound_121 : decode cX12_readBound 121 = .ok (.aload_n 0, 1) := by decide +kernel
theorem dX12_readBound_122 : decode cX12_readBound 122 = .ok (.invokevirtual 248, 3) := by decide +kernel
theorem dX12_readBound_125 : decode cX12_readBound 125 = .ok (.putfield 254, 3) := by decide +kernel
theorem dX12_readBound_128 : decode cX12_readBound 128 = .ok (.aload_n 0, 1) := by decide +kernel
theorem dX12_readBound_129 : decode cX12_readBound 129 = .ok (.getfield 235, 3) := by decide +kernel
theorem dX12_readBound_132 : decode cX12_readBound 132 = .ok (.ifCond .ne 25, 3) := by decide +kernel
theorem dX12_readBound_135 : decode cX12_readBound 135 = .ok (.aload_n 0, 1) := by decide +kernel
theorem dX12_readBound_136 : decode cX12_readBound 136 = .ok (.getfield 254, 3) := by decide +kernel
theorem dX12_readBound_139 : decode cX12_readBound 139 = .ok (.ifCond .ne 18, 3) := by decide +kernel
theorem dX12_readBound_142 : decode cX12_readBound 142 = .ok (.aload_n 0, 1) := by decide +kernel
theorem dX12_readBound_143 : decode cX12_readBound 143 = .ok (.iconst 1, 1) := by decide +kernel
theorem dX12_readBound_144 : decode cX12_readBound 144 = .ok (.putfield 235, 3) := by decide +kernel
theorem dX12_readBound_147 : decode cX12_readBound 147 = .ok (.aload_n 0, 1) := by decide +kernel
theorem dX12_readBound_148 : decode cX12_readBound 148 = .ok (.dup, 1) := by decide +kernel
theorem dX12_readBound_149 : decode cX12_readBound 149 = .ok (.getfield 229, 3) := by decide +kernel
theorem dX12_readBound_152 : decode cX12_readBound 152 = .ok (.iconst 1, 1) := by decide +kernel
theorem dX12_readBound_153 : decode cX12_readBound 153 = .ok (.isub, 1) := by decide +kernel
theorem dX12_readBound_154 : decode cX12_readBound 154 = .ok (.putfield 229, 3) := by decide +kernel
theorem dX12_readBound_157 : decode cX12_readBound 157 = .ok (.return_, 1) := by decide +kernel
set_option maxRecDepth 20000 in
theorem ggX12_readWay_X12_here : GoodIn wsX12_readWay wsX12_here := goodIn_k tie_wsX12_readWay tie_wsX12_here (by decide +kernel)
set_option maxRecDepth 20000 in
theorem gX12_readWay_X12_here : GoodIn wsX12_readWay (wsV RX12 232 RX12 yX12_here wsX12_here) := goodIn_app (goodIn_k (is := [815, 816, 817, 5]) tie_wsX12_readWay rfl (by decide +kernel)) ggX12_readWay_X12_here
set_option maxRecDepth 20000 in
theorem ggX12_readWay_X12_in : GoodIn wsX12_readWay wsX12_in := goodIn_k tie_wsX12_readWay tie_wsX12_in (by decide +kernel)
set_option maxRecDepth 20000 in
theorem gX12_readWay_X12_in : GoodIn wsX12_readWay (va_wsS RX12 86 yX12_in wsX12_in) := goodIn_app (goodIn_k (is := [237, 238, 5]) tie_wsX12_readWay rfl (by decide +kernel)) ggX12_readWay_X12_in
set_option maxRecDepth 20000 in
theorem ggX12_readWay_X12_readFormula : GoodIn wsX12_readWay wsX12_readFormula := goodIn_k tie_wsX12_readWay tie_wsX12_readFormula (by decide +kernel)
set_option maxRecDepth 20000 in
theorem gX12_readWay_X12_readFormula : GoodIn wsX12_readWay (wsV RX12 257 RX12 yX12_readFormula wsX12_readFormula) := goodIn_app (goodIn_k (is := [811, 812, 813, 5]) tie_wsX12_readWay rfl (by decide +kernel)) ggX12_readWay_X12_readFormula
set_option maxRecDepth 20000 in
theorem ggX12_readWay_X12_wants : GoodIn wsX12_readWay wsX12_wants := goodIn_k tie_wsX12_readWay tie_wsX12_wants (by decide +kernel)
set_option maxRecDepth 20000 in
theorem gX12_readWay_X12_wants : GoodIn wsX12_readWay (wsV RX12 260 RX12 yX12_wants wsX12_wants) := goodIn_app (goodIn_k (is := [842, 843, 844, 5]) tie_wsX12_readWay rfl (by decide +kernel)) ggX12_readWay_X12_wants
set_option maxRecDepth 20000 in
theorem ggX12_readWay_X12_node : GoodIn wsX12_readWay wsX12_node := goodIn_k tie_wsX12_readWay tie_wsX12_node (by decide +kernel)
set_option maxRecDepth 20000 in
theorem gX12_readWay_X12_node : GoodIn wsX12_readWay (wsV RX12 263 RX12 yX12_node wsX12_node) := goodIn_app (goodIn_k (is := [819, 820, 821, 5]) tie_wsX12_readWay rfl (by decide +kernel)) ggX12_readWay_X12_node
theorem dX12_readWay_0 : decode cX12_readWay 0 = .ok (.aload_n 0, 1) := by decide +kernel
theorem dX12_readWay_1 : decode cX12_readWay 1 = .ok (.invokevirtual 232, 3) := by decide +kernel
theorem dX12_readWay_4 : decode cX12_readWay 4 = .ok (.istore_n 1, 1) := by decide +kernel
theorem dX12_readWay_5 : decode cX12_readWay 5 = .ok (.aload_n 0, 1) := by decide +kernel
theorem dX12_readWay_6 : decode cX12_readWay 6 = .ok (.getfield 235, 3) := by decide +kernel
theorem dX12_readWay_9 : decode cX12_readWay 9 = .ok (.ifCond .ne 33, 3) := by decide +kernel
theorem dX12_readWay_12 : decode cX12_readWay 12 = .ok (.iload_n 1, 1) := by decide +kernel
theorem dX12_readWay_13 : decode cX12_readWay 13 = .ok (.bipush 88, 2) := by decide +kernel
theorem dX12_readWay_15 : decode cX12_readWay 15 = .ok (.if_icmp .eq 34, 3) := by decide +kernel
theorem dX12_readWay_18 : decode cX12_readWay 18 = .ok (.iload_n 1, 1) := by decide +kernel
theorem dX12_readWay_19 : decode cX12_readWay 19 = .ok (.bipush 70, 2) := by decide +kernel
theorem dX12_readWay_21 : decode cX12_readWay 21 = .ok (.if_icmp .eq 28, 3) := by decide +kernel
theorem dX12_readWay_24 : decode cX12_readWay 24 = .ok (.iload_n 1, 1) := by decide +kernel
theorem dX12_readWay_25 : decode cX12_readWay 25 = .ok (.bipush 71, 2) := by decide +kernel
theorem dX12_readWay_27 : decode cX12_readWay 27 = .ok (.if_icmp .eq 22, 3) := by decide +kernel
theorem dX12_readWay_30 : decode cX12_readWay 30 = .ok (.iload_n 1, 1) := by decide +kernel
theorem dX12_readWay_31 : decode cX12_readWay 31 = .ok (.bipush 85, 2) := by decide +kernel
theorem dX12_readWay_33 : decode cX12_readWay 33 = .ok (.if_icmp .eq 16, 3) := by decide +kernel
theorem dX12_readWay_36 : decode cX12_readWay 36 = .ok (.iload_n 1, 1) := by decide +kernel
theorem dX12_readWay_37 : decode cX12_readWay 37 = .ok (.bipush 66, 2) := by decide +kernel
theorem dX12_readWay_39 : decode cX12_readWay 39 = .ok (.if_icmp .eq 10, 3) := by decide +kernel
theorem dX12_readWay_42 : decode cX12_readWay 42 = .ok (.aload_n 0, 1) := by decide +kernel
theorem dX12_readWay_43 : decode cX12_readWay 43 = .ok (.iconst 1, 1) := by decide +kernel
theorem dX12_readWay_44 : decode cX12_readWay 44 = .ok (.putfield 235, 3) := by decide +kernel
theorem dX12_readWay_47 : decode cX12_readWay 47 = .ok (.iconst 0, 1) := by decide +kernel
theorem dX12_readWay_48 : decode cX12_readWay 48 = .ok (.ireturn, 1) := by decide +kernel
theorem dX12_readWay_49 : decode cX12_readWay 49 = .ok (.aload_n 0, 1) := by decide +kernel
theorem dX12_readWay_50 : decode cX12_readWay 50 = .ok (.dup, 1) := by decide +kernel
theorem dX12_readWay_51 : decode cX12_readWay 51 = .ok (.getfield 229, 3) := by decide +kernel
theorem dX12_readWay_54 : decode cX12_readWay 54 = .ok (.iconst 1, 1) := by decide +kernel
theorem dX12_readWay_55 : decode cX12_readWay 55 = .ok (.iadd, 1) := by decide +kernel
theorem dX12_readWay_56 : decode cX12_readWay 56 = .ok (.putfield 229, 3) := by decide +kernel
theorem dX12_readWay_59 : decode cX12_readWay 59 = .ok (.iconst 0, 1) := by decide +kernel
theorem dX12_readWay_60 : decode cX12_readWay 60 = .ok (.istore_n 2, 1) := by decide +kernel
theorem dX12_readWay_61 : decode cX12_readWay 61 = .ok (.iload_n 1, 1) := by decide +kernel
theorem dX12_readWay_62 : decode cX12_readWay 62 = .ok (.bipush 66, 2) := by decide +kernel
theorem dX12_readWay_64 : decode cX12_readWay 64 = .ok (.if_icmp .ne 42, 3) := by decide +kernel
theorem dX12_readWay_67 : decode cX12_readWay 67 = .ok (.aload_n 0, 1) := by decide +kernel
theorem dX12_readWay_68 : decode cX12_readWay 68 = .ok (.invokevirtual 232, 3) := by decide +kernel
theorem dX12_readWay_71 : decode cX12_readWay 71 = .ok (.bipush 48, 2) := by decide +kernel
theorem dX12_readWay_73 : decode cX12_readWay 73 = .ok (.bipush 54, 2) := by decide +kernel
theorem dX12_readWay_75 : decode cX12_readWay 75 = .ok (.invokestatic 86, 3) := by decide +kernel
theorem dX12_readWay_78 : decode cX12_readWay 78 = .ok (.ifCond .ne 10, 3) := by decide +kernel
theorem dX12_readWay_81 : decode cX12_readWay 81 = .ok (.aload_n 0, 1) := by decide +kernel
theorem dX12_readWay_82 : decode cX12_readWay 82 = .ok (.iconst 1, 1) := by decide +kernel
theorem dX12_readWay_83 : decode cX12_readWay 83 = .ok (.putfield 235, 3) := by decide +kernel
theorem dX12_readWay_86 : decode cX12_readWay 86 = .ok (.iconst 0, 1) := by decide +kernel
theorem dX12_readWay_87 : decode cX12_readWay 87 = .ok (.ireturn, 1) := by decide +kernel
theorem dX12_readWay_88 : decode cX12_readWay 88 = .ok (.aload_n 0, 1) := by decide +kernel
theorem dX12_readWay_89 : decode cX12_readWay 89 = .ok (.invokevirtual 232, 3) := by decide +kernel
theorem dX12_readWay_92 : decode cX12_readWay 92 = .ok (.bipush 48, 2) := by decide +kernel
theorem dX12_readWay_94 : decode cX12_readWay 94 = .ok (.isub, 1) := by decide +kernel
theorem dX12_readWay_95 : decode cX12_readWay 95 = .ok (.istore_n 2, 1) := by decide +kernel
theorem dX12_readWay_96 : decode cX12_readWay 96 = .ok (.aload_n 0, 1) := by decide +kernel
theorem dX12_readWay_97 : decode cX12_readWay 97 = .ok (.dup, 1) := by decide +kernel
theorem dX12_readWay_98 : decode cX12_readWay 98 = .ok (.getfield 229, 3) := by decide +kernel
theorem dX12_readWay_101 : decode cX12_readWay 101 = .ok (.iconst 1, 1) := by decide +kernel
theorem dX12_readWay_102 : decode cX12_readWay 102 = .ok (.iadd, 1) := by decide +kernel
theorem dX12_readWay_103 : decode cX12_readWay 103 = .ok (.putfield 229, 3) := by decide +kernel
theorem dX12_readWay_106 : decode cX12_readWay 106 = .ok (.aload_n 0, 1) := by decide +kernel
theorem dX12_readWay_107 : decode cX12_readWay 107 = .ok (.invokevirtual 257, 3) := by decide +kernel
theorem dX12_readWay_110 : decode cX12_readWay 110 = .ok (.istore_n 3, 1) := by decide +kernel
theorem dX12_readWay_111 : decode cX12_readWay 111 = .ok (.iconst 0, 1) := by decide +kernel
theorem dX12_readWay_112 : decode cX12_readWay 112 = .ok (.istore 4, 2) := by decide +kernel
theorem dX12_readWay_114 : decode cX12_readWay 114 = .ok (.iload_n 1, 1) := by decide +kernel
theorem dX12_readWay_115 : decode cX12_readWay 115 = .ok (.bipush 85, 2) := by decide +kernel
theorem dX12_readWay_117 : decode cX12_readWay 117 = .ok (.if_icmp .eq 9, 3) := by decide +kernel
theorem dX12_readWay_120 : decode cX12_readWay 120 = .ok (.iload_n 1, 1) := by decide +kernel
theorem dX12_readWay_121 : decode cX12_readWay 121 = .ok (.bipush 66, 2) := by decide +kernel
theorem dX12_readWay_123 : decode cX12_readWay 123 = .ok (.if_icmp .ne 15, 3) := by decide +kernel
theorem dX12_readWay_126 : decode cX12_readWay 126 = .ok (.aload_n 0, 1) := by decide +kernel
theorem dX12_readWay_127 : decode cX12_readWay 127 = .ok (.bipush 44, 2) := by decide +kernel
theorem dX12_readWay_129 : decode cX12_readWay 129 = .ok (.invokevirtual 260, 3) := by decide +kernel
theorem dX12_readWay_132 : decode cX12_readWay 132 = .ok (.aload_n 0, 1) := by decide +kernel
theorem dX12_readWay_133 : decode cX12_readWay 133 = .ok (.invokevirtual 257, 3) := by decide +kernel
theorem dX12_readWay_136 : decode cX12_readWay 136 = .ok (.istore 4, 2) := by decide +kernel
theorem dX12_readWay_138 : decode cX12_readWay 138 = .ok (.aload_n 0, 1) := by decide +kernel
theorem dX12_readWay_139 : decode cX12_readWay 139 = .ok (.iload_n 1, 1) := by decide +kernel
theorem dX12_readWay_140 : decode cX12_readWay 140 = .ok (.iload_n 3, 1) := by decide +kernel
theorem dX12_readWay_141 : decode cX12_readWay 141 = .ok (.iload 4, 2) := by decide +kernel
theorem dX12_readWay_143 : decode cX12_readWay 143 = .ok (.invokevirtual 263, 3) := by decide +kernel
theorem dX12_readWay_146 : decode cX12_readWay 146 = .ok (.istore 5, 2) := by decide +kernel
theorem dX12_readWay_148 : decode cX12_readWay 148 = .ok (.aload_n 0, 1) := by decide +kernel
theorem dX12_readWay_149 : decode cX12_readWay 149 = .ok (.getfield 235, 3) := by decide +kernel
theorem dX12_readWay_152 : decode cX12_readWay 152 = .ok (.ifCond .ne 11, 3) := by decide +kernel
theorem dX12_readWay_155 : decode cX12_readWay 155 = .ok (.aload_n 0, 1) := by decide +kernel
theorem dX12_readWay_156 : decode cX12_readWay 156 = .ok (.getfield 50, 3) := by decide +kernel
theorem dX12_readWay_159 : decode cX12_readWay 159 = .ok (.iload 5, 2) := by decide +kernel
theorem dX12_readWay_161 : decode cX12_readWay 161 = .ok (.iload_n 2, 1) := by decide +kernel
theorem dX12_readWay_162 : decode cX12_readWay 162 = .ok (.iastore, 1) := by decide +kernel
theorem dX12_readWay_163 : decode cX12_readWay 163 = .ok (.iload 5, 2) := by decide +kernel
theorem dX12_readWay_165 : decode cX12_readWay 165 = .ok (.ireturn, 1) := by decide +kernel
set_option maxRecDepth 20000 in
theorem ggX12_readBounded_X12_readBound : GoodIn wsX12_readBounded wsX12_readBound := goodIn_k tie_wsX12_readBounded tie_wsX12_readBound (by decide +kernel)
set_option maxRecDepth 20000 in
theorem gX12_readBounded_X12_readBound : GoodIn wsX12_readBounded (wsV RX12 267 RX12 yX12_readBound wsX12_readBound) := goodIn_app (goodIn_k (is := [830, 831, 832, 5]) tie_wsX12_readBounded rfl (by decide +kernel)) ggX12_readBounded_X12_readBound
set_option maxRecDepth 20000 in
theorem ggX12_readBounded_X12_wants : GoodIn wsX12_readBounded wsX12_wants := goodIn_k tie_wsX12_readBounded tie_wsX12_wants (by decide +kernel)
set_option maxRecDepth 20000 in
theorem gX12_readBounded_X12_wants : GoodIn wsX12_readBounded (wsV RX12 260 RX12 yX12_wants wsX12_wants) := goodIn_app (goodIn_k (is := [842, 843, 844, 5]) tie_wsX12_readBounded rfl (by decide +kernel)) ggX12_readBounded_X12_wants
set_option maxRecDepth 20000 in
theorem ggX12_readBounded_X12_readWay : GoodIn wsX12_readBounded wsX12_readWay := goodIn_k tie_wsX12_readBounded tie_wsX12_readWay (by decide +kernel)
set_option maxRecDepth 20000 in
theorem gX12_readBounded_X12_readWay : GoodIn wsX12_readBounded (wsV RX12 270 RX12 yX12_readWay wsX12_readWay) := goodIn_app (goodIn_k (is := [846, 847, 848, 5]) tie_wsX12_readBounded rfl (by decide +kernel)) ggX12_readBounded_X12_readWay
set_option maxRecDepth 20000 in
theorem ggX12_readBounded_X12_readFormula : GoodIn wsX12_readBounded wsX12_readFormula := goodIn_k tie_wsX12_readBounded tie_wsX12_readFormula (by decide +kernel)
set_option maxRecDepth 20000 in
theorem gX12_readBounded_X12_readFormula : GoodIn wsX12_readBounded (wsV RX12 257 RX12 yX12_readFormula wsX12_readFormula) := goodIn_app (goodIn_k (is := [811, 812, 813, 5]) tie_wsX12_readBounded rfl (by decide +kernel)) ggX12_readBounded_X12_readFormula
set_option maxRecDepth 20000 in
theorem ggX12_readBounded_X12_node : GoodIn wsX12_readBounded wsX12_node := goodIn_k tie_wsX12_readBounded tie_wsX12_node (by decide +kernel)
set_option maxRecDepth 20000 in
theorem gX12_readBounded_X12_node : GoodIn wsX12_readBounded (wsV RX12 263 RX12 yX12_node wsX12_node) := goodIn_app (goodIn_k (is := [819, 820, 821, 5]) tie_wsX12_readBounded rfl (by decide +kernel)) ggX12_readBounded_X12_node
theorem dX12_readBounded_0 : decode cX12_readBounded 0 = .ok (.aload_n 0, 1) := by decide +kernel
theorem dX12_readBounded_1 : decode cX12_readBounded 1 = .ok (.dup, 1) := by decide +kernel
theorem dX12_readBounded_2 : decode cX12_readBounded 2 = .ok (.getfield 229, 3) := by decide +kernel
theorem dX12_readBounded_5 : decode cX12_readBounded 5 = .ok (.iconst 1, 1) := by decide +kernel
theorem dX12_readBounded_6 : decode cX12_readBounded 6 = .ok (.iadd, 1) := by decide +kernel
theorem dX12_readBounded_7 : decode cX12_readBounded 7 = .ok (.putfield 229, 3) := by decide +kernel
theorem dX12_readBounded_10 : decode cX12_readBounded 10 = .ok (.aload_n 0, 1) := by decide +kernel
theorem dX12_readBounded_11 : decode cX12_readBounded 11 = .ok (.invokevirtual 267, 3) := by decide +kernel
theorem dX12_readBounded_14 : decode cX12_readBounded 14 = .ok (.aload_n 0, 1) := by decide +kernel
theorem dX12_readBounded_15 : decode cX12_readBounded 15 = .ok (.getfield 245, 3) := by decide +kernel
theorem dX12_readBounded_18 : decode cX12_readBounded 18 = .ok (.istore_n 2, 1) := by decide +kernel
theorem dX12_readBounded_19 : decode cX12_readBounded 19 = .ok (.aload_n 0, 1) := by decide +kernel
theorem dX12_readBounded_20 : decode cX12_readBounded 20 = .ok (.getfield 251, 3) := by decide +kernel
theorem dX12_readBounded_23 : decode cX12_readBounded 23 = .ok (.istore_n 3, 1) := by decide +kernel
theorem dX12_readBounded_24 : decode cX12_readBounded 24 = .ok (.aload_n 0, 1) := by decide +kernel
theorem dX12_readBounded_25 : decode cX12_readBounded 25 = .ok (.getfield 254, 3) := by decide +kernel
theorem dX12_readBounded_28 : decode cX12_readBounded 28 = .ok (.istore 4, 2) := by decide +kernel
theorem dX12_readBounded_30 : decode cX12_readBounded 30 = .ok (.aload_n 0, 1) := by decide +kernel
theorem dX12_readBounded_31 : decode cX12_readBounded 31 = .ok (.bipush 91, 2) := by decide +kernel
theorem dX12_readBounded_33 : decode cX12_readBounded 33 = .ok (.invokevirtual 260, 3) := by decide +kernel
theorem dX12_readBounded_36 : decode cX12_readBounded 36 = .ok (.iload_n 1, 1) := by decide +kernel
theorem dX12_readBounded_37 : decode cX12_readBounded 37 = .ok (.bipush 80, 2) := by decide +kernel
theorem dX12_readBounded_39 : decode cX12_readBounded 39 = .ok (.if_icmp .ne 12, 3) := by decide +kernel
theorem dX12_readBounded_42 : decode cX12_readBounded 42 = .ok (.aload_n 0, 1) := by decide +kernel
theorem dX12_readBounded_43 : decode cX12_readBounded 43 = .ok (.invokevirtual 270, 3) := by decide +kernel
theorem dX12_readBounded_46 : decode cX12_readBounded 46 = .ok (.istore 5, 2) := by decide +kernel
theorem dX12_readBounded_48 : decode cX12_readBounded 48 = .ok (.goto 19, 3) := by decide +kernel
theorem dX12_readBounded_51 : decode cX12_readBounded 51 = .ok (.aload_n 0, 1) := by decide +kernel
theorem dX12_readBounded_52 : decode cX12_readBounded 52 = .ok (.invokevirtual 257, 3) := by decide +kernel
theorem dX12_readBounded_55 : decode cX12_readBounded 55 = .ok (.istore 5, 2) := by decide +kernel
theorem dX12_readBounded_57 : decode cX12_readBounded 57 = .ok (.aload_n 0, 1) := by decide +kernel
theorem dX12_readBounded_58 : decode cX12_readBounded 58 = .ok (.iload_n 1, 1) := by decide +kernel
theorem dX12_readBounded_59 : decode cX12_readBounded 59 = .ok (.iload 5, 2) := by decide +kernel
theorem dX12_readBounded_61 : decode cX12_readBounded 61 = .ok (.iconst 0, 1) := by decide +kernel
theorem dX12_readBounded_62 : decode cX12_readBounded 62 = .ok (.invokevirtual 263, 3) := by decide +kernel
theorem dX12_readBounded_65 : decode cX12_readBounded 65 = .ok (.istore 5, 2) := by decide +kernel
theorem dX12_readBounded_67 : decode cX12_readBounded 67 = .ok (.aload_n 0, 1) := by decide +kernel
theorem dX12_readBounded_68 : decode cX12_readBounded 68 = .ok (.bipush 93, 2) := by decide +kernel
theorem dX12_readBounded_70 : decode cX12_readBounded 70 = .ok (.invokevirtual 260, 3) := by decide +kernel
theorem dX12_readBounded_73 : decode cX12_readBounded 73 = .ok (.aload_n 0, 1) := by decide +kernel
theorem dX12_readBounded_74 : decode cX12_readBounded 74 = .ok (.getfield 235, 3) := by decide +kernel
theorem dX12_readBounded_77 : decode cX12_readBounded 77 = .ok (.ifCond .ne 28, 3) := by decide +kernel
theorem dX12_readBounded_80 : decode cX12_readBounded 80 = .ok (.aload_n 0, 1) := by decide +kernel
theorem dX12_readBounded_81 : decode cX12_readBounded 81 = .ok (.getfield 53, 3) := by decide +kernel
theorem dX12_readBounded_84 : decode cX12_readBounded 84 = .ok (.iload 5, 2) := by decide +kernel
theorem dX12_readBounded_86 : decode cX12_readBounded 86 = .ok (.iload_n 2, 1) := by decide +kernel
theorem dX12_readBounded_87 : decode cX12_readBounded 87 = .ok (.iastore, 1) := by decide +kernel
theorem dX12_readBounded_88 : decode cX12_readBounded 88 = .ok (.aload_n 0, 1) := by decide +kernel
theorem dX12_readBounded_89 : decode cX12_readBounded 89 = .ok (.getfield 56, 3) := by decide +kernel
theorem dX12_readBounded_92 : decode cX12_readBounded 92 = .ok (.iload 5, 2) := by decide +kernel
theorem dX12_readBounded_94 : decode cX12_readBounded 94 = .ok (.iload_n 3, 1) := by decide +kernel
theorem dX12_readBounded_95 : decode cX12_readBounded 95 = .ok (.iastore, 1) := by decide +kernel
theorem dX12_readBounded_96 : decode cX12_readBounded 96 = .ok (.aload_n 0, 1) := by decide +kernel
theorem dX12_readBounded_97 : decode cX12_readBounded 97 = .ok (.getfield 59, 3) := by decide +kernel
theorem dX12_readBounded_100 : decode cX12_readBounded 100 = .ok (.iload 5, 2) := by decide +kernel
theorem dX12_readBounded_102 : decode cX12_readBounded 102 = .ok (.iload 4, 2) := by decide +kernel
theorem dX12_readBounded_104 : decode cX12_readBounded 104 = .ok (.iastore, 1) := by decide +kernel
theorem dX12_readBounded_105 : decode cX12_readBounded 105 = .ok (.iload 5, 2) := by decide +kernel
theorem dX12_readBounded_107 : decode cX12_readBounded 107 = .ok (.ireturn, 1) := by decide +kernel
set_option maxRecDepth 20000 in
theorem ggX12_readNested_X12_readFormula : GoodIn wsX12_readNested wsX12_readFormula := goodIn_k tie_wsX12_readNested tie_wsX12_readFormula (by decide +kernel)
set_option maxRecDepth 20000 in
theorem gX12_readNested_X12_readFormula : GoodIn wsX12_readNested (wsV RX12 257 RX12 yX12_readFormula wsX12_readFormula) := goodIn_app (goodIn_k (is := [811, 812, 813, 5]) tie_wsX12_readNested rfl (by decide +kernel)) ggX12_readNested_X12_readFormula
set_option maxRecDepth 20000 in
theorem ggX12_readNested_X12_node : GoodIn wsX12_readNested wsX12_node := goodIn_k tie_wsX12_readNested tie_wsX12_node (by decide +kernel)
set_option maxRecDepth 20000 in
theorem gX12_readNested_X12_node : GoodIn wsX12_readNested (wsV RX12 263 RX12 yX12_node wsX12_node) := goodIn_app (goodIn_k (is := [819, 820, 821, 5]) tie_wsX12_readNested rfl (by decide +kernel)) ggX12_readNested_X12_node
set_option maxRecDepth 20000 in
theorem ggX12_readNested_X12_readBounded : GoodIn wsX12_readNested wsX12_readBounded := goodIn_k tie_wsX12_readNested tie_wsX12_readBounded (by decide +kernel)
set_option maxRecDepth 20000 in
theorem gX12_readNested_X12_readBounded : GoodIn wsX12_readNested (wsV RX12 273 RX12 yX12_readBounded wsX12_readBounded) := goodIn_app (goodIn_k (is := [850, 851, 852, 5]) tie_wsX12_readNested rfl (by decide +kernel)) ggX12_readNested_X12_readBounded
set_option maxRecDepth 20000 in
theorem ggX12_readNested_X12_here : GoodIn wsX12_readNested wsX12_here := goodIn_k tie_wsX12_readNested tie_wsX12_here (by decide +kernel)
set_option maxRecDepth 20000 in
theorem gX12_readNested_X12_here : GoodIn wsX12_readNested (wsV RX12 232 RX12 yX12_here wsX12_here) := goodIn_app (goodIn_k (is := [815, 816, 817, 5]) tie_wsX12_readNested rfl (by decide +kernel)) ggX12_readNested_X12_here
set_option maxRecDepth 20000 in
theorem ggX12_readNested_X12_wants : GoodIn wsX12_readNested wsX12_wants := goodIn_k tie_wsX12_readNested tie_wsX12_wants (by decide +kernel)
set_option maxRecDepth 20000 in
theorem gX12_readNested_X12_wants : GoodIn wsX12_readNested (wsV RX12 260 RX12 yX12_wants wsX12_wants) := goodIn_app (goodIn_k (is := [842, 843, 844, 5]) tie_wsX12_readNested rfl (by decide +kernel)) ggX12_readNested_X12_wants
theorem dX12_readNested_0 : decode cX12_readNested 0 = .ok (.iload_n 1, 1) := by decide +kernel
theorem dX12_readNested_1 : decode cX12_readNested 1 = .ok (.bipush 33, 2) := by decide +kernel
theorem dX12_readNested_3 : decode cX12_readNested 3 = .ok (.if_icmp .ne 27, 3) := by decide +kernel
theorem dX12_readNested_6 : decode cX12_readNested 6 = .ok (.aload_n 0, 1) := by decide +kernel
theorem dX12_readNested_7 : decode cX12_readNested 7 = .ok (.dup, 1) := by decide +kernel
theorem dX12_readNested_8 : decode cX12_readNested 8 = .ok (.getfield 229, 3) := by decide +kernel
theorem dX12_readNested_11 : decode cX12_readNested 11 = .ok (.iconst 1, 1) := by decide +kernel
theorem dX12_readNested_12 : decode cX12_readNested 12 = .ok (.iadd, 1) := by decide +kernel
theorem dX12_readNested_13 : decode cX12_readNested 13 = .ok (.putfield 229, 3) := by decide +kernel
theorem dX12_readNested_16 : decode cX12_readNested 16 = .ok (.aload_n 0, 1) := by decide +kernel
theorem dX12_readNested_17 : decode cX12_readNested 17 = .ok (.invokevirtual 257, 3) := by decide +kernel
theorem dX12_readNested_20 : decode cX12_readNested 20 = .ok (.istore_n 2, 1) := by decide +kernel
theorem dX12_readNested_21 : decode cX12_readNested 21 = .ok (.aload_n 0, 1) := by decide +kernel
theorem dX12_readNested_22 : decode cX12_readNested 22 = .ok (.bipush 33, 2) := by decide +kernel
theorem dX12_readNested_24 : decode cX12_readNested 24 = .ok (.iload_n 2, 1) := by decide +kernel
theorem dX12_readNested_25 : decode cX12_readNested 25 = .ok (.iconst 0, 1) := by decide +kernel
theorem dX12_readNested_26 : decode cX12_readNested 26 = .ok (.invokevirtual 263, 3) := by decide +kernel
theorem dX12_readNested_29 : decode cX12_readNested 29 = .ok (.ireturn, 1) := by decide +kernel
theorem dX12_readNested_30 : decode cX12_readNested 30 = .ok (.iload_n 1, 1) := by decide +kernel
theorem dX12_readNested_31 : decode cX12_readNested 31 = .ok (.bipush 40, 2) := by decide +kernel
theorem dX12_readNested_33 : decode cX12_readNested 33 = .ok (.if_icmp .eq 9, 3) := by decide +kernel
theorem dX12_readNested_36 : decode cX12_readNested 36 = .ok (.aload_n 0, 1) := by decide +kernel
theorem dX12_readNested_37 : decode cX12_readNested 37 = .ok (.iload_n 1, 1) := by decide +kernel
theorem dX12_readNested_38 : decode cX12_readNested 38 = .ok (.invokevirtual 273, 3) := by decide +kernel
theorem dX12_readNested_41 : decode cX12_readNested 41 = .ok (.ireturn, 1) := by decide +kernel
theorem dX12_readNested_42 : decode cX12_readNested 42 = .ok (.aload_n 0, 1) := by decide +kernel
theorem dX12_readNested_43 : decode cX12_readNested 43 = .ok (.dup, 1) := by decide +kernel
theorem dX12_readNested_44 : decode cX12_readNested 44 = .ok (.getfield 229, 3) := by decide +kernel
theorem dX12_readNested_47 : decode cX12_readNested 47 = .ok (.iconst 1, 1) := by decide +kernel
theorem dX12_readNested_48 : decode cX12_readNested 48 = .ok (.iadd, 1) := by decide +kernel
theorem dX12_readNested_49 : decode cX12_readNested 49 = .ok (.putfield 229, 3) := by decide +kernel
theorem dX12_readNested_52 : decode cX12_readNested 52 = .ok (.aload_n 0, 1) := by decide +kernel
theorem dX12_readNested_53 : decode cX12_readNested 53 = .ok (.invokevirtual 257, 3) := by decide +kernel
theorem dX12_readNested_56 : decode cX12_readNested 56 = .ok (.istore_n 2, 1) := by decide +kernel
theorem dX12_readNested_57 : decode cX12_readNested 57 = .ok (.aload_n 0, 1) := by decide +kernel
theorem dX12_readNested_58 : decode cX12_readNested 58 = .ok (.invokevirtual 232, 3) := by decide +kernel
theorem dX12_readNested_61 : decode cX12_readNested 61 = .ok (.istore_n 3, 1) := by decide +kernel
theorem dX12_readNested_62 : decode cX12_readNested 62 = .ok (.iload_n 3, 1) := by decide +kernel
theorem dX12_readNested_63 : decode cX12_readNested 63 = .ok (.bipush 38, 2) := by decide +kernel
theorem dX12_readNested_65 : decode cX12_readNested 65 = .ok (.if_icmp .eq 14, 3) := by decide +kernel
theorem dX12_readNested_68 : decode cX12_readNested 68 = .ok (.iload_n 3, 1) := by decide +kernel
theorem dX12_readNested_69 : decode cX12_readNested 69 = .ok (.bipush 124, 2) := by decide +kernel
theorem dX12_readNested_71 : decode cX12_readNested 71 = .ok (.if_icmp .eq 8, 3) := by decide +kernel
theorem dX12_readNested_74 : decode cX12_readNested 74 = .ok (.aload_n 0, 1) := by decide +kernel
theorem dX12_readNested_75 : decode cX12_readNested 75 = .ok (.iconst 1, 1) := by decide +kernel
theorem dX12_readNested_76 : decode cX12_readNested 76 = .ok (.putfield 235, 3) := by decide +kernel
theorem dX12_readNested_79 : decode cX12_readNested 79 = .ok (.aload_n 0, 1) := by decide +kernel
theorem dX12_readNested_80 : decode cX12_readNested 80 = .ok (.iload_n 3, 1) := by decide +kernel
theorem dX12_readNested_81 : decode cX12_readNested 81 = .ok (.invokevirtual 260, 3) := by decide +kernel
theorem dX12_readNested_84 : decode cX12_readNested 84 = .ok (.aload_n 0, 1) := by decide +kernel
theorem dX12_readNested_85 : decode cX12_readNested 85 = .ok (.invokevirtual 257, 3) := by decide +kernel
theorem dX12_readNested_88 : decode cX12_readNested 88 = .ok (.istore 4, 2) := by decide +kernel
theorem dX12_readNested_90 : decode cX12_readNested 90 = .ok (.aload_n 0, 1) := by decide +kernel
theorem dX12_readNested_91 : decode cX12_readNested 91 = .ok (.bipush 41, 2) := by decide +kernel
theorem dX12_readNested_93 : decode cX12_readNested 93 = .ok (.invokevirtual 260, 3) := by decide +kernel
theorem dX12_readNested_96 : decode cX12_readNested 96 = .ok (.aload_n 0, 1) := by decide +kernel
theorem dX12_readNested_97 : decode cX12_readNested 97 = .ok (.iload_n 3, 1) := by decide +kernel
theorem dX12_readNested_98 : decode cX12_readNested 98 = .ok (.iload_n 2, 1) := by decide +kernel
theorem dX12_readNested_99 : decode cX12_readNested 99 = .ok (.iload 4, 2) := by decide +kernel
theorem dX12_readNested_101 : decode cX12_readNested 101 = .ok (.invokevirtual 263, 3) := by decide +kernel
theorem dX12_readNested_104 : decode cX12_readNested 104 = .ok (.ireturn, 1) := by decide +kernel
set_option maxRecDepth 20000 in
theorem ggX12_readFormula_X12_here : GoodIn wsX12_readFormula wsX12_here := goodIn_k tie_wsX12_readFormula tie_wsX12_here (by decide +kernel)
set_option maxRecDepth 20000 in
theorem gX12_readFormula_X12_here : GoodIn wsX12_readFormula (wsV RX12 232 RX12 yX12_here wsX12_here) := goodIn_app (goodIn_k (is := [815, 816, 817, 5]) tie_wsX12_readFormula rfl (by decide +kernel)) ggX12_readFormula_X12_here
set_option maxRecDepth 20000 in
theorem ggX12_readFormula_X12_in : GoodIn wsX12_readFormula wsX12_in := goodIn_k tie_wsX12_readFormula tie_wsX12_in (by decide +kernel)
set_option maxRecDepth 20000 in
theorem gX12_readFormula_X12_in : GoodIn wsX12_readFormula (va_wsS RX12 86 yX12_in wsX12_in) := goodIn_app (goodIn_k (is := [237, 238, 5]) tie_wsX12_readFormula rfl (by decide +kernel)) ggX12_readFormula_X12_in
set_option maxRecDepth 20000 in
theorem ggX12_readFormula_X12_node : GoodIn wsX12_readFormula wsX12_node := goodIn_k tie_wsX12_readFormula tie_wsX12_node (by decide +kernel)
set_option maxRecDepth 20000 in
theorem gX12_readFormula_X12_node : GoodIn wsX12_readFormula (wsV RX12 263 RX12 yX12_node wsX12_node) := goodIn_app (goodIn_k (is := [819, 820, 821, 5]) tie_wsX12_readFormula rfl (by decide +kernel)) ggX12_readFormula_X12_node
