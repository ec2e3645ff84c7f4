theorem dX12_holds_19 : decode cX12_holds 19 = .ok (.aload_n 0, 1) := by decide +kernel
theorem dX12_holds_20 : decode cX12_holds 20 = .ok (.getfield 62, 3) := by decide +kernel
theorem dX12_holds_23 : decode cX12_holds 23 = .ok (.iload_n 1, 1) := by decide +kernel
theorem dX12_holds_24 : decode cX12_holds 24 = .ok (.iaload, 1) := by decide +kernel
theorem dX12_holds_25 : decode cX12_holds 25 = .ok (.invokevirtual 314, 3) := by decide +kernel
theorem dX12_holds_28 : decode cX12_holds 28 = .ok (.ifCond .eq 8, 3) := by decide +kernel
theorem dX12_holds_31 : decode cX12_holds 31 = .ok (.bipush (-4), 2) := by decide +kernel
theorem dX12_holds_33 : decode cX12_holds 33 = .ok (.goto 25, 3) := by decide +kernel
theorem dX12_holds_36 : decode cX12_holds 36 = .ok (.aload_n 0, 1) := by decide +kernel
theorem dX12_holds_37 : decode cX12_holds 37 = .ok (.aload_n 0, 1) := by decide +kernel
theorem dX12_holds_38 : decode cX12_holds 38 = .ok (.getfield 62, 3) := by decide +kernel
theorem dX12_holds_41 : decode cX12_holds 41 = .ok (.iload_n 1, 1) := by decide +kernel
theorem dX12_holds_42 : decode cX12_holds 42 = .ok (.iaload, 1) := by decide +kernel
theorem dX12_holds_43 : decode cX12_holds 43 = .ok (.invokevirtual 328, 3) := by decide +kernel
theorem dX12_holds_46 : decode cX12_holds 46 = .ok (.iload_n 2, 1) := by decide +kernel
theorem dX12_holds_47 : decode cX12_holds 47 = .ok (.invokestatic 121, 3) := by decide +kernel
theorem dX12_holds_50 : decode cX12_holds 50 = .ok (.ifCond .eq 7, 3) := by decide +kernel
theorem dX12_holds_53 : decode cX12_holds 53 = .ok (.iconst 1, 1) := by decide +kernel
theorem dX12_holds_54 : decode cX12_holds 54 = .ok (.goto 4, 3) := by decide +kernel
theorem dX12_holds_57 : decode cX12_holds 57 = .ok (.iconst 0, 1) := by decide +kernel
theorem dX12_holds_58 : decode cX12_holds 58 = .ok (.ireturn, 1) := by decide +kernel
set_option maxRecDepth 20000 in
theorem ggX12_hinders_X12_isFormula : GoodIn wsX12_hinders wsX12_isFormula := goodIn_k tie_wsX12_hinders tie_wsX12_isFormula (by decide +kernel)
set_option maxRecDepth 20000 in
theorem gX12_hinders_X12_isFormula : GoodIn wsX12_hinders (wsV RX12 296 RX12 yX12_isFormula wsX12_isFormula) := goodIn_app (goodIn_k (is := [899, 900, 901, 5]) tie_wsX12_hinders rfl (by decide +kernel)) ggX12_hinders_X12_isFormula
set_option maxRecDepth 20000 in
theorem ggX12_hinders_X12_isState : GoodIn wsX12_hinders wsX12_isState := goodIn_k tie_wsX12_hinders tie_wsX12_isState (by decide +kernel)
set_option maxRecDepth 20000 in
theorem gX12_hinders_X12_isState : GoodIn wsX12_hinders (wsV RX12 103 RX12 yX12_isState wsX12_isState) := goodIn_app (goodIn_k (is := [233, 234, 235, 5]) tie_wsX12_hinders rfl (by decide +kernel)) ggX12_hinders_X12_isState
set_option maxRecDepth 20000 in
theorem ggX12_hinders_X12_isPart : GoodIn wsX12_hinders wsX12_isPart := goodIn_k tie_wsX12_hinders tie_wsX12_isPart (by decide +kernel)
set_option maxRecDepth 20000 in
theorem gX12_hinders_X12_isPart : GoodIn wsX12_hinders (va_wsS RX12 164 yX12_isPart wsX12_isPart) := goodIn_app (goodIn_k (is := [479, 480, 5]) tie_wsX12_hinders rfl (by decide +kernel)) ggX12_hinders_X12_isPart
set_option maxRecDepth 20000 in
theorem ggX12_hinders_X12_isRefusedNode : GoodIn wsX12_hinders wsX12_isRefusedNode := goodIn_k tie_wsX12_hinders tie_wsX12_isRefusedNode (by decide +kernel)
set_option maxRecDepth 20000 in
theorem gX12_hinders_X12_isRefusedNode : GoodIn wsX12_hinders (wsV RX12 314 RX12 yX12_isRefusedNode wsX12_isRefusedNode) := goodIn_app (goodIn_k (is := [1075, 1076, 1077, 5]) tie_wsX12_hinders rfl (by decide +kernel)) ggX12_hinders_X12_isRefusedNode
theorem dX12_hinders_0 : decode cX12_hinders 0 = .ok (.aload_n 0, 1) := by decide +kernel
theorem dX12_hinders_1 : decode cX12_hinders 1 = .ok (.iload_n 1, 1) := by decide +kernel
theorem dX12_hinders_2 : decode cX12_hinders 2 = .ok (.invokevirtual 296, 3) := by decide +kernel
theorem dX12_hinders_5 : decode cX12_hinders 5 = .ok (.ifCond .eq 27, 3) := by decide +kernel
theorem dX12_hinders_8 : decode cX12_hinders 8 = .ok (.aload_n 0, 1) := by decide +kernel
theorem dX12_hinders_9 : decode cX12_hinders 9 = .ok (.iload_n 2, 1) := by decide +kernel
theorem dX12_hinders_10 : decode cX12_hinders 10 = .ok (.invokevirtual 296, 3) := by decide +kernel
theorem dX12_hinders_13 : decode cX12_hinders 13 = .ok (.ifCond .eq 19, 3) := by decide +kernel
theorem dX12_hinders_16 : decode cX12_hinders 16 = .ok (.aload_n 0, 1) := by decide +kernel
theorem dX12_hinders_17 : decode cX12_hinders 17 = .ok (.iload_n 3, 1) := by decide +kernel
theorem dX12_hinders_18 : decode cX12_hinders 18 = .ok (.invokevirtual 103, 3) := by decide +kernel
theorem dX12_hinders_21 : decode cX12_hinders 21 = .ok (.ifCond .eq 11, 3) := by decide +kernel
theorem dX12_hinders_24 : decode cX12_hinders 24 = .ok (.iload 4, 2) := by decide +kernel
theorem dX12_hinders_26 : decode cX12_hinders 26 = .ok (.invokestatic 164, 3) := by decide +kernel
theorem dX12_hinders_29 : decode cX12_hinders 29 = .ok (.ifCond .ne 5, 3) := by decide +kernel
theorem dX12_hinders_32 : decode cX12_hinders 32 = .ok (.iconst (-1), 1) := by decide +kernel
theorem dX12_hinders_33 : decode cX12_hinders 33 = .ok (.ireturn, 1) := by decide +kernel
theorem dX12_hinders_34 : decode cX12_hinders 34 = .ok (.aload_n 0, 1) := by decide +kernel
theorem dX12_hinders_35 : decode cX12_hinders 35 = .ok (.aload_n 0, 1) := by decide +kernel
theorem dX12_hinders_36 : decode cX12_hinders 36 = .ok (.getfield 62, 3) := by decide +kernel
theorem dX12_hinders_39 : decode cX12_hinders 39 = .ok (.iload_n 1, 1) := by decide +kernel
theorem dX12_hinders_40 : decode cX12_hinders 40 = .ok (.iaload, 1) := by decide +kernel
theorem dX12_hinders_41 : decode cX12_hinders 41 = .ok (.invokevirtual 314, 3) := by decide +kernel
theorem dX12_hinders_44 : decode cX12_hinders 44 = .ok (.ifCond .ne 16, 3) := by decide +kernel
theorem dX12_hinders_47 : decode cX12_hinders 47 = .ok (.aload_n 0, 1) := by decide +kernel
theorem dX12_hinders_48 : decode cX12_hinders 48 = .ok (.aload_n 0, 1) := by decide +kernel
theorem dX12_hinders_49 : decode cX12_hinders 49 = .ok (.getfield 62, 3) := by decide +kernel
theorem dX12_hinders_52 : decode cX12_hinders 52 = .ok (.iload_n 2, 1) := by decide +kernel
theorem dX12_hinders_53 : decode cX12_hinders 53 = .ok (.iaload, 1) := by decide +kernel
theorem dX12_hinders_54 : decode cX12_hinders 54 = .ok (.invokevirtual 314, 3) := by decide +kernel
theorem dX12_hinders_57 : decode cX12_hinders 57 = .ok (.ifCond .eq 8, 3) := by decide +kernel
theorem dX12_hinders_60 : decode cX12_hinders 60 = .ok (.bipush (-4), 2) := by decide +kernel
theorem dX12_hinders_62 : decode cX12_hinders 62 = .ok (.goto 4, 3) := by decide +kernel
theorem dX12_hinders_65 : decode cX12_hinders 65 = .ok (.iconst 0, 1) := by decide +kernel
theorem dX12_hinders_66 : decode cX12_hinders 66 = .ok (.ireturn, 1) := by decide +kernel
set_option maxRecDepth 20000 in
theorem ggX12_next_X12_hinders : GoodIn wsX12_next wsX12_hinders := goodIn_k tie_wsX12_next tie_wsX12_hinders (by decide +kernel)
set_option maxRecDepth 20000 in
theorem gX12_next_X12_hinders : GoodIn wsX12_next (wsV RX12 338 RX12 yX12_hinders wsX12_hinders) := goodIn_app (goodIn_k (is := [1175, 1176, 1177, 5]) tie_wsX12_next rfl (by decide +kernel)) ggX12_next_X12_hinders
set_option maxRecDepth 20000 in
theorem ggX12_next_X12_setOf : GoodIn wsX12_next wsX12_setOf := goodIn_k tie_wsX12_next tie_wsX12_setOf (by decide +kernel)
set_option maxRecDepth 20000 in
theorem gX12_next_X12_setOf : GoodIn wsX12_next (wsV RX12 328 RX12 yX12_setOf wsX12_setOf) := goodIn_app (goodIn_k (is := [1088, 1089, 1090, 5]) tie_wsX12_next rfl (by decide +kernel)) ggX12_next_X12_setOf
set_option maxRecDepth 20000 in
theorem ggX12_next_X12_weightInto : GoodIn wsX12_next wsX12_weightInto := goodIn_k tie_wsX12_next tie_wsX12_weightInto (by decide +kernel)
set_option maxRecDepth 20000 in
theorem gX12_next_X12_weightInto : GoodIn wsX12_next (wsV RX12 140 RX12 yX12_weightInto wsX12_weightInto) := goodIn_app (goodIn_k (is := [427, 428, 429, 5]) tie_wsX12_next rfl (by decide +kernel)) ggX12_next_X12_weightInto
set_option maxRecDepth 20000 in
theorem ggX12_next_X12_sumOf : GoodIn wsX12_next wsX12_sumOf := goodIn_k tie_wsX12_next tie_wsX12_sumOf (by decide +kernel)
set_option maxRecDepth 20000 in
theorem gX12_next_X12_sumOf : GoodIn wsX12_next (wsV RX12 143 RX12 yX12_sumOf wsX12_sumOf) := goodIn_app (goodIn_k (is := [431, 432, 433, 5]) tie_wsX12_next rfl (by decide +kernel)) ggX12_next_X12_sumOf
set_option maxRecDepth 20000 in
theorem ggX12_next_X12_give : GoodIn wsX12_next wsX12_give := goodIn_k tie_wsX12_next tie_wsX12_give (by decide +kernel)
set_option maxRecDepth 20000 in
theorem gX12_next_X12_give : GoodIn wsX12_next (wsV RX12 169 RX12 yX12_give wsX12_give) := goodIn_app (goodIn_k (is := [482, 483, 484, 5]) tie_wsX12_next rfl (by decide +kernel)) ggX12_next_X12_give
set_option maxRecDepth 20000 in
theorem ggX12_next_X12_part : GoodIn wsX12_next wsX12_part := goodIn_k tie_wsX12_next tie_wsX12_part (by decide +kernel)
set_option maxRecDepth 20000 in
theorem gX12_next_X12_part : GoodIn wsX12_next (wsV RX12 173 RX12 yX12_part wsX12_part) := goodIn_app (goodIn_k (is := [491, 492, 493, 5]) tie_wsX12_next rfl (by decide +kernel)) ggX12_next_X12_part
theorem dX12_next_0 : decode cX12_next 0 = .ok (.aload_n 0, 1) := by decide +kernel
theorem dX12_next_1 : decode cX12_next 1 = .ok (.iload_n 1, 1) := by decide +kernel
theorem dX12_next_2 : decode cX12_next 2 = .ok (.iload_n 1, 1) := by decide +kernel
theorem dX12_next_3 : decode cX12_next 3 = .ok (.iload_n 2, 1) := by decide +kernel
theorem dX12_next_4 : decode cX12_next 4 = .ok (.iload_n 3, 1) := by decide +kernel
theorem dX12_next_5 : decode cX12_next 5 = .ok (.invokevirtual 338, 3) := by decide +kernel
theorem dX12_next_8 : decode cX12_next 8 = .ok (.istore 4, 2) := by decide +kernel
theorem dX12_next_10 : decode cX12_next 10 = .ok (.iload 4, 2) := by decide +kernel
theorem dX12_next_12 : decode cX12_next 12 = .ok (.ifCond .ge 7, 3) := by decide +kernel
theorem dX12_next_15 : decode cX12_next 15 = .ok (.iload 4, 2) := by decide +kernel
theorem dX12_next_17 : decode cX12_next 17 = .ok (.i2l, 1) := by decide +kernel
theorem dX12_next_18 : decode cX12_next 18 = .ok (.lreturn, 1) := by decide +kernel
theorem dX12_next_19 : decode cX12_next 19 = .ok (.aload_n 0, 1) := by decide +kernel
theorem dX12_next_20 : decode cX12_next 20 = .ok (.aload_n 0, 1) := by decide +kernel
theorem dX12_next_21 : decode cX12_next 21 = .ok (.iload_n 2, 1) := by decide +kernel
theorem dX12_next_22 : decode cX12_next 22 = .ok (.aload_n 0, 1) := by decide +kernel
theorem dX12_next_23 : decode cX12_next 23 = .ok (.aload_n 0, 1) := by decide +kernel
theorem dX12_next_24 : decode cX12_next 24 = .ok (.getfield 62, 3) := by decide +kernel
theorem dX12_next_27 : decode cX12_next 27 = .ok (.iload_n 1, 1) := by decide +kernel
theorem dX12_next_28 : decode cX12_next 28 = .ok (.iaload, 1) := by decide +kernel
theorem dX12_next_29 : decode cX12_next 29 = .ok (.invokevirtual 328, 3) := by decide +kernel
theorem dX12_next_32 : decode cX12_next 32 = .ok (.invokevirtual 140, 3) := by decide +kernel
theorem dX12_next_35 : decode cX12_next 35 = .ok (.i2l, 1) := by decide +kernel
theorem dX12_next_36 : decode cX12_next 36 = .ok (.aload_n 0, 1) := by decide +kernel
theorem dX12_next_37 : decode cX12_next 37 = .ok (.iload_n 2, 1) := by decide +kernel
theorem dX12_next_38 : decode cX12_next 38 = .ok (.invokevirtual 143, 3) := by decide +kernel
theorem dX12_next_41 : decode cX12_next 41 = .ok (.i2l, 1) := by decide +kernel
theorem dX12_next_42 : decode cX12_next 42 = .ok (.invokevirtual 169, 3) := by decide +kernel
theorem dX12_next_45 : decode cX12_next 45 = .ok (.aload_n 0, 1) := by decide +kernel
theorem dX12_next_46 : decode cX12_next 46 = .ok (.iload_n 3, 1) := by decide +kernel
theorem dX12_next_47 : decode cX12_next 47 = .ok (.invokevirtual 173, 3) := by decide +kernel
theorem dX12_next_50 : decode cX12_next 50 = .ok (.lreturn, 1) := by decide +kernel
set_option maxRecDepth 20000 in
theorem ggX12_until_X12_hinders : GoodIn wsX12_until wsX12_hinders := goodIn_k tie_wsX12_until tie_wsX12_hinders (by decide +kernel)
set_option maxRecDepth 20000 in
theorem gX12_until_X12_hinders : GoodIn wsX12_until (wsV RX12 338 RX12 yX12_hinders wsX12_hinders) := goodIn_app (goodIn_k (is := [1175, 1176, 1177, 5]) tie_wsX12_until rfl (by decide +kernel)) ggX12_until_X12_hinders
set_option maxRecDepth 20000 in
theorem ggX12_until_X12_setOf : GoodIn wsX12_until wsX12_setOf := goodIn_k tie_wsX12_until tie_wsX12_setOf (by decide +kernel)
set_option maxRecDepth 20000 in
theorem gX12_until_X12_setOf : GoodIn wsX12_until (wsV RX12 328 RX12 yX12_setOf wsX12_setOf) := goodIn_app (goodIn_k (is := [1088, 1089, 1090, 5]) tie_wsX12_until rfl (by decide +kernel)) ggX12_until_X12_setOf
set_option maxRecDepth 20000 in
theorem ggX12_until_X12_findUntil : GoodIn wsX12_until wsX12_findUntil := goodIn_k tie_wsX12_until tie_wsX12_findUntil (by decide +kernel)
set_option maxRecDepth 20000 in
theorem gX12_until_X12_findUntil : GoodIn wsX12_until (wsV RX12 216 RX12 yX12_findUntil wsX12_findUntil) := goodIn_app (goodIn_k (is := [1100, 1101, 1102, 5]) tie_wsX12_until rfl (by decide +kernel)) ggX12_until_X12_findUntil
set_option maxRecDepth 20000 in
theorem ggX12_until_X12_part : GoodIn wsX12_until wsX12_part := goodIn_k tie_wsX12_until tie_wsX12_part (by decide +kernel)
set_option maxRecDepth 20000 in
theorem gX12_until_X12_part : GoodIn wsX12_until (wsV RX12 173 RX12 yX12_part wsX12_part) := goodIn_app (goodIn_k (is := [491, 492, 493, 5]) tie_wsX12_until rfl (by decide +kernel)) ggX12_until_X12_part
theorem dX12_until_0 : decode cX12_until 0 = .ok (.aload_n 0, 1) := by decide +kernel
theorem dX12_until_1 : decode cX12_until 1 = .ok (.iload_n 1, 1) := by decide +kernel
theorem dX12_until_2 : decode cX12_until 2 = .ok (.iload_n 2, 1) := by decide +kernel
theorem dX12_until_3 : decode cX12_until 3 = .ok (.iload_n 3, 1) := by decide +kernel
theorem dX12_until_4 : decode cX12_until 4 = .ok (.iload 4, 2) := by decide +kernel
theorem dX12_until_6 : decode cX12_until 6 = .ok (.invokevirtual 338, 3) := by decide +kernel
theorem dX12_until_9 : decode cX12_until 9 = .ok (.istore 5, 2) := by decide +kernel
theorem dX12_until_11 : decode cX12_until 11 = .ok (.iload 5, 2) := by decide +kernel
theorem dX12_until_13 : decode cX12_until 13 = .ok (.ifCond .ge 7, 3) := by decide +kernel
theorem dX12_until_16 : decode cX12_until 16 = .ok (.iload 5, 2) := by decide +kernel
theorem dX12_until_18 : decode cX12_until 18 = .ok (.i2l, 1) := by decide +kernel
theorem dX12_until_19 : decode cX12_until 19 = .ok (.lreturn, 1) := by decide +kernel
theorem dX12_until_20 : decode cX12_until 20 = .ok (.aload_n 0, 1) := by decide +kernel
theorem dX12_until_21 : decode cX12_until 21 = .ok (.aload_n 0, 1) := by decide +kernel
theorem dX12_until_22 : decode cX12_until 22 = .ok (.getfield 62, 3) := by decide +kernel
theorem dX12_until_25 : decode cX12_until 25 = .ok (.iload_n 1, 1) := by decide +kernel
theorem dX12_until_26 : decode cX12_until 26 = .ok (.iaload, 1) := by decide +kernel
theorem dX12_until_27 : decode cX12_until 27 = .ok (.invokevirtual 328, 3) := by decide +kernel
theorem dX12_until_30 : decode cX12_until 30 = .ok (.istore 6, 2) := by decide +kernel
theorem dX12_until_32 : decode cX12_until 32 = .ok (.aload_n 0, 1) := by decide +kernel
theorem dX12_until_33 : decode cX12_until 33 = .ok (.aload_n 0, 1) := by decide +kernel
theorem dX12_until_34 : decode cX12_until 34 = .ok (.getfield 62, 3) := by decide +kernel
theorem dX12_until_37 : decode cX12_until 37 = .ok (.iload_n 2, 1) := by decide +kernel
theorem dX12_until_38 : decode cX12_until 38 = .ok (.iaload, 1) := by decide +kernel
theorem dX12_until_39 : decode cX12_until 39 = .ok (.invokevirtual 328, 3) := by decide +kernel
theorem dX12_until_42 : decode cX12_until 42 = .ok (.istore 7, 2) := by decide +kernel
theorem dX12_until_44 : decode cX12_until 44 = .ok (.aload_n 0, 1) := by decide +kernel
theorem dX12_until_45 : decode cX12_until 45 = .ok (.iload 6, 2) := by decide +kernel
theorem dX12_until_47 : decode cX12_until 47 = .ok (.iload 7, 2) := by decide +kernel
theorem dX12_until_49 : decode cX12_until 49 = .ok (.iload_n 3, 1) := by decide +kernel
theorem dX12_until_50 : decode cX12_until 50 = .ok (.invokevirtual 216, 3) := by decide +kernel
theorem dX12_until_53 : decode cX12_until 53 = .ok (.aload_n 0, 1) := by decide +kernel
theorem dX12_until_54 : decode cX12_until 54 = .ok (.iload 4, 2) := by decide +kernel
theorem dX12_until_56 : decode cX12_until 56 = .ok (.invokevirtual 173, 3) := by decide +kernel
theorem dX12_until_59 : decode cX12_until 59 = .ok (.lreturn, 1) := by decide +kernel
set_option maxRecDepth 20000 in
theorem ggX12_within_X12_in : GoodIn wsX12_within wsX12_in := goodIn_k tie_wsX12_within tie_wsX12_in (by decide +kernel)
set_option maxRecDepth 20000 in
theorem gX12_within_X12_in : GoodIn wsX12_within (va_wsS RX12 86 yX12_in wsX12_in) := goodIn_app (goodIn_k (is := [237, 238, 5]) tie_wsX12_within rfl (by decide +kernel)) ggX12_within_X12_in
set_option maxRecDepth 20000 in
theorem ggX12_within_X12_hinders : GoodIn wsX12_within wsX12_hinders := goodIn_k tie_wsX12_within tie_wsX12_hinders (by decide +kernel)
set_option maxRecDepth 20000 in
theorem gX12_within_X12_hinders : GoodIn wsX12_within (wsV RX12 338 RX12 yX12_hinders wsX12_hinders) := goodIn_app (goodIn_k (is := [1175, 1176, 1177, 5]) tie_wsX12_within rfl (by decide +kernel)) ggX12_within_X12_hinders
set_option maxRecDepth 20000 in
theorem ggX12_within_X12_isRefused : GoodIn wsX12_within wsX12_isRefused := goodIn_k tie_wsX12_within tie_wsX12_isRefused (by decide +kernel)
set_option maxRecDepth 20000 in
theorem gX12_within_X12_isRefused : GoodIn wsX12_within (wsV RX12 311 RX12 yX12_isRefused wsX12_isRefused) := goodIn_app (goodIn_k (is := [1079, 1080, 1081, 5]) tie_wsX12_within rfl (by decide +kernel)) ggX12_within_X12_isRefused
set_option maxRecDepth 20000 in
theorem ggX12_within_X12_setOf : GoodIn wsX12_within wsX12_setOf := goodIn_k tie_wsX12_within tie_wsX12_setOf (by decide +kernel)
set_option maxRecDepth 20000 in
theorem gX12_within_X12_setOf : GoodIn wsX12_within (wsV RX12 328 RX12 yX12_setOf wsX12_setOf) := goodIn_app (goodIn_k (is := [1088, 1089, 1090, 5]) tie_wsX12_within rfl (by decide +kernel)) ggX12_within_X12_setOf
set_option maxRecDepth 20000 in
theorem ggX12_within_X12_findWithin : GoodIn wsX12_within wsX12_findWithin := goodIn_k tie_wsX12_within tie_wsX12_findWithin (by decide +kernel)
set_option maxRecDepth 20000 in
theorem gX12_within_X12_findWithin : GoodIn wsX12_within (wsV RX12 317 RX12 yX12_findWithin wsX12_findWithin) := goodIn_app (goodIn_k (is := [1134, 1135, 1136, 5]) tie_wsX12_within rfl (by decide +kernel)) ggX12_within_X12_findWithin
set_option maxRecDepth 20000 in
theorem ggX12_within_X12_part : GoodIn wsX12_within wsX12_part := goodIn_k tie_wsX12_within tie_wsX12_part (by decide +kernel)
set_option maxRecDepth 20000 in
theorem gX12_within_X12_part : GoodIn wsX12_within (wsV RX12 173 RX12 yX12_part wsX12_part) := goodIn_app (goodIn_k (is := [491, 492, 493, 5]) tie_wsX12_within rfl (by decide +kernel)) ggX12_within_X12_part
theorem dX12_within_0 : decode cX12_within 0 = .ok (.iload_n 3, 1) := by decide +kernel
theorem dX12_within_1 : decode cX12_within 1 = .ok (.iconst 0, 1) := by decide +kernel
theorem dX12_within_2 : decode cX12_within 2 = .ok (.bipush 6, 2) := by decide +kernel
theorem dX12_within_4 : decode cX12_within 4 = .ok (.invokestatic 86, 3) := by decide +kernel
theorem dX12_within_7 : decode cX12_within 7 = .ok (.ifCond .ne 7, 3) := by decide +kernel
theorem dX12_within_10 : decode cX12_within 10 = .ok (.iconst (-1), 1) := by decide +kernel
theorem dX12_within_11 : decode cX12_within 11 = .ok (.goto 13, 3) := by decide +kernel
theorem dX12_within_14 : decode cX12_within 14 = .ok (.aload_n 0, 1) := by decide +kernel
theorem dX12_within_15 : decode cX12_within 15 = .ok (.iload_n 1, 1) := by decide +kernel
theorem dX12_within_16 : decode cX12_within 16 = .ok (.iload_n 2, 1) := by decide +kernel
theorem dX12_within_17 : decode cX12_within 17 = .ok (.iload 4, 2) := by decide +kernel
theorem dX12_within_19 : decode cX12_within 19 = .ok (.iload 5, 2) := by decide +kernel
theorem dX12_within_21 : decode cX12_within 21 = .ok (.invokevirtual 338, 3) := by decide +kernel
theorem dX12_within_24 : decode cX12_within 24 = .ok (.istore 6, 2) := by decide +kernel
theorem dX12_within_26 : decode cX12_within 26 = .ok (.iload 6, 2) := by decide +kernel
theorem dX12_within_28 : decode cX12_within 28 = .ok (.ifCond .ne 16, 3) := by decide +kernel
theorem dX12_within_31 : decode cX12_within 31 = .ok (.aload_n 0, 1) := by decide +kernel
theorem dX12_within_32 : decode cX12_within 32 = .ok (.iload_n 3, 1) := by decide +kernel
theorem dX12_within_33 : decode cX12_within 33 = .ok (.invokevirtual 311, 3) := by decide +kernel
theorem dX12_within_36 : decode cX12_within 36 = .ok (.ifCond .eq 8, 3) := by decide +kernel
theorem dX12_within_39 : decode cX12_within 39 = .ok (.bipush (-4), 2) := by decide +kernel
theorem dX12_within_41 : decode cX12_within 41 = .ok (.goto 5, 3) := by decide +kernel
theorem dX12_within_44 : decode cX12_within 44 = .ok (.iload 6, 2) := by decide +kernel
theorem dX12_within_46 : decode cX12_within 46 = .ok (.istore 6, 2) := by decide +kernel
theorem dX12_within_48 : decode cX12_within 48 = .ok (.iload 6, 2) := by decide +kernel
theorem dX12_within_50 : decode cX12_within 50 = .ok (.ifCond .ge 7, 3) := by decide +kernel
theorem dX12_within_53 : decode cX12_within 53 = .ok (.iload 6, 2) := by decide +kernel
theorem dX12_within_55 : decode cX12_within 55 = .ok (.i2l, 1) := by decide +kernel
theorem dX12_within_56 : decode cX12_within 56 = .ok (.lreturn, 1) := by decide +kernel
theorem dX12_within_57 : decode cX12_within 57 = .ok (.aload_n 0, 1) := by decide +kernel
theorem dX12_within_58 : decode cX12_within 58 = .ok (.aload_n 0, 1) := by decide +kernel
theorem dX12_within_59 : decode cX12_within 59 = .ok (.getfield 62, 3) := by decide +kernel
theorem dX12_within_62 : decode cX12_within 62 = .ok (.iload_n 1, 1) := by decide +kernel
theorem dX12_within_63 : decode cX12_within 63 = .ok (.iaload, 1) := by decide +kernel
theorem dX12_within_64 : decode cX12_within 64 = .ok (.invokevirtual 328, 3) := by decide +kernel
theorem dX12_within_67 : decode cX12_within 67 = .ok (.istore 7, 2) := by decide +kernel
theorem dX12_within_69 : decode cX12_within 69 = .ok (.aload_n 0, 1) := by decide +kernel
theorem dX12_within_70 : decode cX12_within 70 = .ok (.aload_n 0, 1) := by decide +kernel
theorem dX12_within_71 : decode cX12_within 71 = .ok (.getfield 62, 3) := by decide +kernel
theorem dX12_within_74 : decode cX12_within 74 = .ok (.iload_n 2, 1) := by decide +kernel
theorem dX12_within_75 : decode cX12_within 75 = .ok (.iaload, 1) := by decide +kernel
theorem dX12_within_76 : decode cX12_within 76 = .ok (.invokevirtual 328, 3) := by decide +kernel
theorem dX12_within_79 : decode cX12_within 79 = .ok (.istore 8, 2) := by decide +kernel
theorem dX12_within_81 : decode cX12_within 81 = .ok (.aload_n 0, 1) := by decide +kernel
theorem dX12_within_82 : decode cX12_within 82 = .ok (.iload 7, 2) := by decide +kernel
theorem dX12_within_84 : decode cX12_within 84 = .ok (.iload 8, 2) := by decide +kernel
theorem dX12_within_86 : decode cX12_within 86 = .ok (.iload_n 3, 1) := by decide +kernel
theorem dX12_within_87 : decode cX12_within 87 = .ok (.iload 4, 2) := by decide +kernel
theorem dX12_within_89 : decode cX12_within 89 = .ok (.invokevirtual 317, 3) := by decide +kernel
theorem dX12_within_92 : decode cX12_within 92 = .ok (.aload_n 0, 1) := by decide +kernel
theorem dX12_within_93 : decode cX12_within 93 = .ok (.iload 5, 2) := by decide +kernel
theorem dX12_within_95 : decode cX12_within 95 = .ok (.invokevirtual 173, 3) := by decide +kernel
theorem dX12_within_98 : decode cX12_within 98 = .ok (.lreturn, 1) := by decide +kernel
set_option maxRecDepth 20000 in
theorem ggX12_hindersSets_X12_isFormula : GoodIn wsX12_hindersSets wsX12_isFormula := goodIn_k tie_wsX12_hindersSets tie_wsX12_isFormula (by decide +kernel)
set_option maxRecDepth 20000 in
theorem gX12_hindersSets_X12_isFormula : GoodIn wsX12_hindersSets (wsV RX12 296 RX12 yX12_isFormula wsX12_isFormula) := goodIn_app (goodIn_k (is := [899, 900, 901, 5]) tie_wsX12_hindersSets rfl (by decide +kernel)) ggX12_hindersSets_X12_isFormula
set_option maxRecDepth 20000 in
theorem ggX12_hindersSets_X12_isRefusedNode : GoodIn wsX12_hindersSets wsX12_isRefusedNode := goodIn_k tie_wsX12_hindersSets tie_wsX12_isRefusedNode (by decide +kernel)
set_option maxRecDepth 20000 in
theorem gX12_hindersSets_X12_isRefusedNode : GoodIn wsX12_hindersSets (wsV RX12 314 RX12 yX12_isRefusedNode wsX12_isRefusedNode) := goodIn_app (goodIn_k (is := [1075, 1076, 1077, 5]) tie_wsX12_hindersSets rfl (by decide +kernel)) ggX12_hindersSets_X12_isRefusedNode
theorem dX12_hindersSets_0 : decode cX12_hindersSets 0 = .ok (.aload_n 0, 1) := by decide +kernel
theorem dX12_hindersSets_1 : decode cX12_hindersSets 1 = .ok (.iload_n 1, 1) := by decide +kernel
theorem dX12_hindersSets_2 : decode cX12_hindersSets 2 = .ok (.invokevirtual 296, 3) := by decide +kernel
theorem dX12_hindersSets_5 : decode cX12_hindersSets 5 = .ok (.ifCond .eq 11, 3) := by decide +kernel
theorem dX12_hindersSets_8 : decode cX12_hindersSets 8 = .ok (.aload_n 0, 1) := by decide +kernel
theorem dX12_hindersSets_9 : decode cX12_hindersSets 9 = .ok (.iload_n 2, 1) := by decide +kernel
theorem dX12_hindersSets_10 : decode cX12_hindersSets 10 = .ok (.invokevirtual 296, 3) := by decide +kernel
theorem dX12_hindersSets_13 : decode cX12_hindersSets 13 = .ok (.ifCond .ne 5, 3) := by decide +kernel
theorem dX12_hindersSets_16 : decode cX12_hindersSets 16 = .ok (.iconst (-1), 1) := by decide +kernel
theorem dX12_hindersSets_17 : decode cX12_hindersSets 17 = .ok (.ireturn, 1) := by decide +kernel
theorem dX12_hindersSets_18 : decode cX12_hindersSets 18 = .ok (.aload_n 0, 1) := by decide +kernel
theorem dX12_hindersSets_19 : decode cX12_hindersSets 19 = .ok (.aload_n 0, 1) := by decide +kernel
theorem dX12_hindersSets_20 : decode cX12_hindersSets 20 = .ok (.getfield 62, 3) := by decide +kernel
theorem dX12_hindersSets_23 : decode cX12_hindersSets 23 = .ok (.iload_n 1, 1) := by decide +kernel
theorem dX12_hindersSets_24 : decode cX12_hindersSets 24 = .ok (.iaload, 1) := by decide +kernel
theorem dX12_hindersSets_25 : decode cX12_hindersSets 25 = .ok (.invokevirtual 314, 3) := by decide +kernel
theorem dX12_hindersSets_28 : decode cX12_hindersSets 28 = .ok (.ifCond .ne 16, 3) := by decide +kernel
theorem dX12_hindersSets_31 : decode cX12_hindersSets 31 = .ok (.aload_n 0, 1) := by decide +kernel
theorem dX12_hindersSets_32 : decode cX12_hindersSets 32 = .ok (.aload_n 0, 1) := by decide +kernel
theorem dX12_hindersSets_33 : decode cX12_hindersSets 33 = .ok (.getfield 62, 3) := by decide +kernel
theorem dX12_hindersSets_36 : decode cX12_hindersSets 36 = .ok (.iload_n 2, 1) := by decide +kernel
theorem dX12_hindersSets_37 : decode cX12_hindersSets 37 = .ok (.iaload, 1) := by decide +kernel
theorem dX12_hindersSets_38 : decode cX12_hindersSets 38 = .ok (.invokevirtual 314, 3) := by decide +kernel
theorem dX12_hindersSets_41 : decode cX12_hindersSets 41 = .ok (.ifCond .eq 8, 3) := by decide +kernel
theorem dX12_hindersSets_44 : decode cX12_hindersSets 44 = .ok (.bipush (-4), 2) := by decide +kernel
theorem dX12_hindersSets_46 : decode cX12_hindersSets 46 = .ok (.goto 4, 3) := by decide +kernel
theorem dX12_hindersSets_49 : decode cX12_hindersSets 49 = .ok (.iconst 0, 1) := by decide +kernel
theorem dX12_hindersSets_50 : decode cX12_hindersSets 50 = .ok (.ireturn, 1) := by decide +kernel
set_option maxRecDepth 20000 in
theorem ggX12_never_X12_hindersSets : GoodIn wsX12_never wsX12_hindersSets := goodIn_k tie_wsX12_never tie_wsX12_hindersSets (by decide +kernel)
set_option maxRecDepth 20000 in
theorem gX12_never_X12_hindersSets : GoodIn wsX12_never (wsV RX12 342 RX12 yX12_hindersSets wsX12_hindersSets) := goodIn_app (goodIn_k (is := [1208, 1209, 1210, 5]) tie_wsX12_never rfl (by decide +kernel)) ggX12_never_X12_hindersSets
set_option maxRecDepth 20000 in
theorem ggX12_never_X12_setOf : GoodIn wsX12_never wsX12_setOf := goodIn_k tie_wsX12_never tie_wsX12_setOf (by decide +kernel)
set_option maxRecDepth 20000 in
theorem gX12_never_X12_setOf : GoodIn wsX12_never (wsV RX12 328 RX12 yX12_setOf wsX12_setOf) := goodIn_app (goodIn_k (is := [1088, 1089, 1090, 5]) tie_wsX12_never rfl (by decide +kernel)) ggX12_never_X12_setOf
set_option maxRecDepth 20000 in
theorem ggX12_never_X12_neverOf : GoodIn wsX12_never wsX12_neverOf := goodIn_k tie_wsX12_never tie_wsX12_neverOf (by decide +kernel)
set_option maxRecDepth 20000 in
theorem gX12_never_X12_neverOf : GoodIn wsX12_never (wsV RX12 196 RX12 yX12_neverOf wsX12_neverOf) := goodIn_app (goodIn_k (is := [1105, 1106, 1107, 5]) tie_wsX12_never rfl (by decide +kernel)) ggX12_never_X12_neverOf
theorem dX12_never_0 : decode cX12_never 0 = .ok (.aload_n 0, 1) := by decide +kernel
theorem dX12_never_1 : decode cX12_never 1 = .ok (.iload_n 1, 1) := by decide +kernel
theorem dX12_never_2 : decode cX12_never 2 = .ok (.iload_n 2, 1) := by decide +kernel
theorem dX12_never_3 : decode cX12_never 3 = .ok (.invokevirtual 342, 3) := by decide +kernel
theorem dX12_never_6 : decode cX12_never 6 = .ok (.istore_n 3, 1) := by decide +kernel
theorem dX12_never_7 : decode cX12_never 7 = .ok (.iload_n 3, 1) := by decide +kernel
theorem dX12_never_8 : decode cX12_never 8 = .ok (.ifCond .ge 7, 3) := by decide +kernel
theorem dX12_never_11 : decode cX12_never 11 = .ok (.iload_n 3, 1) := by decide +kernel
theorem dX12_never_12 : decode cX12_never 12 = .ok (.goto 27, 3) := by decide +kernel
theorem dX12_never_15 : decode cX12_never 15 = .ok (.aload_n 0, 1) := by decide +kernel
theorem dX12_never_16 : decode cX12_never 16 = .ok (.aload_n 0, 1) := by decide +kernel
theorem dX12_never_17 : decode cX12_never 17 = .ok (.aload_n 0, 1) := by decide +kernel
theorem dX12_never_18 : decode cX12_never 18 = .ok (.getfield 62, 3) := by decide +kernel
theorem dX12_never_21 : decode cX12_never 21 = .ok (.iload_n 1, 1) := by decide +kernel
theorem dX12_never_22 : decode cX12_never 22 = .ok (.iaload, 1) := by decide +kernel
theorem dX12_never_23 : decode cX12_never 23 = .ok (.invokevirtual 328, 3) := by decide +kernel
theorem dX12_never_26 : decode cX12_never 26 = .ok (.aload_n 0, 1) := by decide +kernel
theorem dX12_never_27 : decode cX12_never 27 = .ok (.aload_n 0, 1) := by decide +kernel
theorem dX12_never_28 : decode cX12_never 28 = .ok (.getfield 62, 3) := by decide +kernel
theorem dX12_never_31 : decode cX12_never 31 = .ok (.iload_n 2, 1) := by decide +kernel
theorem dX12_never_32 : decode cX12_never 32 = .ok (.iaload, 1) := by decide +kernel
theorem dX12_never_33 : decode cX12_never 33 = .ok (.invokevirtual 328, 3) := by decide +kernel
theorem dX12_never_36 : decode cX12_never 36 = .ok (.invokevirtual 196, 3) := by decide +kernel
theorem dX12_never_39 : decode cX12_never 39 = .ok (.ireturn, 1) := by decide +kernel
set_option maxRecDepth 20000 in
theorem ggX12_surely_X12_hindersSets : GoodIn wsX12_surely wsX12_hindersSets := goodIn_k tie_wsX12_surely tie_wsX12_hindersSets (by decide +kernel)
set_option maxRecDepth 20000 in
theorem gX12_surely_X12_hindersSets : GoodIn wsX12_surely (wsV RX12 342 RX12 yX12_hindersSets wsX12_hindersSets) := goodIn_app (goodIn_k (is := [1208, 1209, 1210, 5]) tie_wsX12_surely rfl (by decide +kernel)) ggX12_surely_X12_hindersSets
set_option maxRecDepth 20000 in
theorem ggX12_surely_X12_setOf : GoodIn wsX12_surely wsX12_setOf := goodIn_k tie_wsX12_surely tie_wsX12_setOf (by decide +kernel)
set_option maxRecDepth 20000 in
theorem gX12_surely_X12_setOf : GoodIn wsX12_surely (wsV RX12 328 RX12 yX12_setOf wsX12_setOf) := goodIn_app (goodIn_k (is := [1088, 1089, 1090, 5]) tie_wsX12_surely rfl (by decide +kernel)) ggX12_surely_X12_setOf
set_option maxRecDepth 20000 in
theorem ggX12_surely_X12_surelyOf : GoodIn wsX12_surely wsX12_surelyOf := goodIn_k tie_wsX12_surely tie_wsX12_surelyOf (by decide +kernel)
set_option maxRecDepth 20000 in
theorem gX12_surely_X12_surelyOf : GoodIn wsX12_surely (wsV RX12 223 RX12 yX12_surelyOf wsX12_surelyOf) := goodIn_app (goodIn_k (is := [1150, 1151, 1152, 5]) tie_wsX12_surely rfl (by decide +kernel)) ggX12_surely_X12_surelyOf
theorem dX12_surely_0 : decode cX12_surely 0 = .ok (.aload_n 0, 1) := by decide +kernel
theorem dX12_surely_1 : decode cX12_surely 1 = .ok (.iload_n 1, 1) := by decide +kernel
theorem dX12_surely_2 : decode cX12_surely 2 = .ok (.iload_n 2, 1) := by decide +kernel
theorem dX12_surely_3 : decode cX12_surely 3 = .ok (.invokevirtual 342, 3) := by decide +kernel
theorem dX12_surely_6 : decode cX12_surely 6 = .ok (.istore_n 3, 1) := by decide +kernel
theorem dX12_surely_7 : decode cX12_surely 7 = .ok (.iload_n 3, 1) := by decide +kernel
theorem dX12_surely_8 : decode cX12_surely 8 = .ok (.ifCond .ge 7, 3) := by decide +kernel
theorem dX12_surely_11 : decode cX12_surely 11 = .ok (.iload_n 3, 1) := by decide +kernel
theorem dX12_surely_12 : decode cX12_surely 12 = .ok (.goto 27, 3) := by decide +kernel
theorem dX12_surely_15 : decode cX12_surely 15 = .ok (.aload_n 0, 1) := by decide +kernel
theorem dX12_surely_16 : decode cX12_surely 16 = .ok (.aload_n 0, 1) := by decide +kernel
theorem dX12_surely_17 : decode cX12_surely 17 = .ok (.aload_n 0, 1) := by decide +kernel
theorem dX12_surely_18 : decode cX12_surely 18 = .ok (.getfield 62, 3) := by decide +kernel
theorem dX12_surely_21 : decode cX12_surely 21 = .ok (.iload_n 1, 1) := by decide +kernel
theorem dX12_surely_22 : decode cX12_surely 22 = .ok (.iaload, 1) := by decide +kernel
theorem dX12_surely_23 : decode cX12_surely 23 = .ok (.invokevirtual 328, 3) := by decide +kernel
theorem dX12_surely_26 : decode cX12_surely 26 = .ok (.aload_n 0, 1) := by decide +kernel
theorem dX12_surely_27 : decode cX12_surely 27 = .ok (.aload_n 0, 1) := by decide +kernel
theorem dX12_surely_28 : decode cX12_surely 28 = .ok (.getfield 62, 3) := by decide +kernel
theorem dX12_surely_31 : decode cX12_surely 31 = .ok (.iload_n 2, 1) := by decide +kernel
theorem dX12_surely_32 : decode cX12_surely 32 = .ok (.iaload, 1) := by decide +kernel
theorem dX12_surely_33 : decode cX12_surely 33 = .ok (.invokevirtual 328, 3) := by decide +kernel
theorem dX12_surely_36 : decode cX12_surely 36 = .ok (.invokevirtual 223, 3) := by decide +kernel
theorem dX12_surely_39 : decode cX12_surely 39 = .ok (.ireturn, 1) := by decide +kernel
set_option maxRecDepth 20000 in
theorem ggX12_steady_X12_hinders : GoodIn wsX12_steady wsX12_hinders := goodIn_k tie_wsX12_steady tie_wsX12_hinders (by decide +kernel)
set_option maxRecDepth 20000 in
theorem gX12_steady_X12_hinders : GoodIn wsX12_steady (wsV RX12 338 RX12 yX12_hinders wsX12_hinders) := goodIn_app (goodIn_k (is := [1175, 1176, 1177, 5]) tie_wsX12_steady rfl (by decide +kernel)) ggX12_steady_X12_hinders
set_option maxRecDepth 20000 in
theorem ggX12_steady_X12_setOf : GoodIn wsX12_steady wsX12_setOf := goodIn_k tie_wsX12_steady tie_wsX12_setOf (by decide +kernel)
set_option maxRecDepth 20000 in
theorem gX12_steady_X12_setOf : GoodIn wsX12_steady (wsV RX12 328 RX12 yX12_setOf wsX12_setOf) := goodIn_app (goodIn_k (is := [1088, 1089, 1090, 5]) tie_wsX12_steady rfl (by decide +kernel)) ggX12_steady_X12_setOf
set_option maxRecDepth 20000 in
theorem ggX12_steady_X12_findSteady : GoodIn wsX12_steady wsX12_findSteady := goodIn_k tie_wsX12_steady tie_wsX12_findSteady (by decide +kernel)
set_option maxRecDepth 20000 in
theorem gX12_steady_X12_findSteady : GoodIn wsX12_steady (wsV RX12 321 RX12 yX12_findSteady wsX12_findSteady) := goodIn_app (goodIn_k (is := [1138, 1139, 1140, 5]) tie_wsX12_steady rfl (by decide +kernel)) ggX12_steady_X12_findSteady
set_option maxRecDepth 20000 in
theorem ggX12_steady_X12_part : GoodIn wsX12_steady wsX12_part := goodIn_k tie_wsX12_steady tie_wsX12_part (by decide +kernel)
set_option maxRecDepth 20000 in
theorem gX12_steady_X12_part : GoodIn wsX12_steady (wsV RX12 173 RX12 yX12_part wsX12_part) := goodIn_app (goodIn_k (is := [491, 492, 493, 5]) tie_wsX12_steady rfl (by decide +kernel)) ggX12_steady_X12_part
theorem dX12_steady_0 : decode cX12_steady 0 = .ok (.aload_n 0, 1) := by decide +kernel
theorem dX12_steady_1 : decode cX12_steady 1 = .ok (.iload_n 1, 1) := by decide +kernel
theorem dX12_steady_2 : decode cX12_steady 2 = .ok (.iload_n 1, 1) := by decide +kernel
theorem dX12_steady_3 : decode cX12_steady 3 = .ok (.iload_n 2, 1) := by decide +kernel
theorem dX12_steady_4 : decode cX12_steady 4 = .ok (.iload_n 3, 1) := by decide +kernel
theorem dX12_steady_5 : decode cX12_steady 5 = .ok (.invokevirtual 338, 3) := by decide +kernel
theorem dX12_steady_8 : decode cX12_steady 8 = .ok (.istore 4, 2) := by decide +kernel
theorem dX12_steady_10 : decode cX12_steady 10 = .ok (.iload 4, 2) := by decide +kernel
theorem dX12_steady_12 : decode cX12_steady 12 = .ok (.ifCond .ge 7, 3) := by decide +kernel
theorem dX12_steady_15 : decode cX12_steady 15 = .ok (.iload 4, 2) := by decide +kernel
theorem dX12_steady_17 : decode cX12_steady 17 = .ok (.i2l, 1) := by decide +kernel
theorem dX12_steady_18 : decode cX12_steady 18 = .ok (.lreturn, 1) := by decide +kernel
theorem dX12_steady_19 : decode cX12_steady 19 = .ok (.aload_n 0, 1) := by decide +kernel
theorem dX12_steady_20 : decode cX12_steady 20 = .ok (.aload_n 0, 1) := by decide +kernel
theorem dX12_steady_21 : decode cX12_steady 21 = .ok (.aload_n 0, 1) := by decide +kernel
theorem dX12_steady_22 : decode cX12_steady 22 = .ok (.getfield 62, 3) := by decide +kernel
theorem dX12_steady_25 : decode cX12_steady 25 = .ok (.iload_n 1, 1) := by decide +kernel
theorem dX12_steady_26 : decode cX12_steady 26 = .ok (.iaload, 1) := by decide +kernel
theorem dX12_steady_27 : decode cX12_steady 27 = .ok (.invokevirtual 328, 3) := by decide +kernel
theorem dX12_steady_30 : decode cX12_steady 30 = .ok (.iload_n 2, 1) := by decide +kernel
theorem dX12_steady_31 : decode cX12_steady 31 = .ok (.invokevirtual 321, 3) := by decide +kernel
theorem dX12_steady_34 : decode cX12_steady 34 = .ok (.aload_n 0, 1) := by decide +kernel
theorem dX12_steady_35 : decode cX12_steady 35 = .ok (.iload_n 3, 1) := by decide +kernel
theorem dX12_steady_36 : decode cX12_steady 36 = .ok (.invokevirtual 173, 3) := by decide +kernel
theorem dX12_steady_39 : decode cX12_steady 39 = .ok (.lreturn, 1) := by decide +kernel
set_option maxRecDepth 20000 in
theorem ggX12_share_X12_isState : GoodIn wsX12_share wsX12_isState := goodIn_k tie_wsX12_share tie_wsX12_isState (by decide +kernel)
set_option maxRecDepth 20000 in
theorem gX12_share_X12_isState : GoodIn wsX12_share (wsV RX12 103 RX12 yX12_isState wsX12_isState) := goodIn_app (goodIn_k (is := [233, 234, 235, 5]) tie_wsX12_share rfl (by decide +kernel)) ggX12_share_X12_isState
set_option maxRecDepth 20000 in
theorem ggX12_share_X12_isPart : GoodIn wsX12_share wsX12_isPart := goodIn_k tie_wsX12_share tie_wsX12_isPart (by decide +kernel)
set_option maxRecDepth 20000 in
theorem gX12_share_X12_isPart : GoodIn wsX12_share (va_wsS RX12 164 yX12_isPart wsX12_isPart) := goodIn_app (goodIn_k (is := [479, 480, 5]) tie_wsX12_share rfl (by decide +kernel)) ggX12_share_X12_isPart
set_option maxRecDepth 20000 in
theorem ggX12_share_X12_findSteady : GoodIn wsX12_share wsX12_findSteady := goodIn_k tie_wsX12_share tie_wsX12_findSteady (by decide +kernel)
set_option maxRecDepth 20000 in
theorem gX12_share_X12_findSteady : GoodIn wsX12_share (wsV RX12 321 RX12 yX12_findSteady wsX12_findSteady) := goodIn_app (goodIn_k (is := [1138, 1139, 1140, 5]) tie_wsX12_share rfl (by decide +kernel)) ggX12_share_X12_findSteady
set_option maxRecDepth 20000 in
theorem ggX12_share_X12_part : GoodIn wsX12_share wsX12_part := goodIn_k tie_wsX12_share tie_wsX12_part (by decide +kernel)
set_option maxRecDepth 20000 in
theorem gX12_share_X12_part : GoodIn wsX12_share (wsV RX12 173 RX12 yX12_part wsX12_part) := goodIn_app (goodIn_k (is := [491, 492, 493, 5]) tie_wsX12_share rfl (by decide +kernel)) ggX12_share_X12_part
theorem dX12_share_0 : decode cX12_share 0 = .ok (.aload_n 0, 1) := by decide +kernel
theorem dX12_share_1 : decode cX12_share 1 = .ok (.iload_n 1, 1) := by decide +kernel
theorem dX12_share_2 : decode cX12_share 2 = .ok (.invokevirtual 103, 3) := by decide +kernel
theorem dX12_share_5 : decode cX12_share 5 = .ok (.ifCond .eq 10, 3) := by decide +kernel
theorem dX12_share_8 : decode cX12_share 8 = .ok (.iload_n 2, 1) := by decide +kernel
theorem dX12_share_9 : decode cX12_share 9 = .ok (.invokestatic 164, 3) := by decide +kernel
theorem dX12_share_12 : decode cX12_share 12 = .ok (.ifCond .ne 7, 3) := by decide +kernel
theorem dX12_share_15 : decode cX12_share 15 = .ok (.ldc2_w 167, 3) := by decide +kernel
theorem dX12_share_18 : decode cX12_share 18 = .ok (.lreturn, 1) := by decide +kernel
theorem dX12_share_19 : decode cX12_share 19 = .ok (.aload_n 0, 1) := by decide +kernel
theorem dX12_share_20 : decode cX12_share 20 = .ok (.iconst 1, 1) := by decide +kernel
theorem dX12_share_21 : decode cX12_share 21 = .ok (.iload_n 1, 1) := by decide +kernel
theorem dX12_share_22 : decode cX12_share 22 = .ok (.ishl, 1) := by decide +kernel
theorem dX12_share_23 : decode cX12_share 23 = .ok (.iload_n 1, 1) := by decide +kernel
theorem dX12_share_24 : decode cX12_share 24 = .ok (.invokevirtual 321, 3) := by decide +kernel
theorem dX12_share_27 : decode cX12_share 27 = .ok (.aload_n 0, 1) := by decide +kernel
theorem dX12_share_28 : decode cX12_share 28 = .ok (.iload_n 2, 1) := by decide +kernel
theorem dX12_share_29 : decode cX12_share 29 = .ok (.invokevirtual 173, 3) := by decide +kernel
theorem dX12_share_32 : decode cX12_share 32 = .ok (.lreturn, 1) := by decide +kernel
set_option maxRecDepth 20000 in
theorem ggX12_expected_X12_hinders : GoodIn wsX12_expected wsX12_hinders := goodIn_k tie_wsX12_expected tie_wsX12_hinders (by decide +kernel)
set_option maxRecDepth 20000 in
theorem gX12_expected_X12_hinders : GoodIn wsX12_expected (wsV RX12 338 RX12 yX12_hinders wsX12_hinders) := goodIn_app (goodIn_k (is := [1175, 1176, 1177, 5]) tie_wsX12_expected rfl (by decide +kernel)) ggX12_expected_X12_hinders
set_option maxRecDepth 20000 in
theorem ggX12_expected_X12_setOf : GoodIn wsX12_expected wsX12_setOf := goodIn_k tie_wsX12_expected tie_wsX12_setOf (by decide +kernel)
set_option maxRecDepth 20000 in
theorem gX12_expected_X12_setOf : GoodIn wsX12_expected (wsV RX12 328 RX12 yX12_setOf wsX12_setOf) := goodIn_app (goodIn_k (is := [1088, 1089, 1090, 5]) tie_wsX12_expected rfl (by decide +kernel)) ggX12_expected_X12_setOf
set_option maxRecDepth 20000 in
theorem ggX12_expected_X12_findExpected : GoodIn wsX12_expected wsX12_findExpected := goodIn_k tie_wsX12_expected tie_wsX12_findExpected (by decide +kernel)
set_option maxRecDepth 20000 in
theorem gX12_expected_X12_findExpected : GoodIn wsX12_expected (wsV RX12 325 RX12 yX12_findExpected wsX12_findExpected) := goodIn_app (goodIn_k (is := [1146, 1147, 1148, 5]) tie_wsX12_expected rfl (by decide +kernel)) ggX12_expected_X12_findExpected
set_option maxRecDepth 20000 in
theorem ggX12_expected_X12_part : GoodIn wsX12_expected wsX12_part := goodIn_k tie_wsX12_expected tie_wsX12_part (by decide +kernel)
set_option maxRecDepth 20000 in
theorem gX12_expected_X12_part : GoodIn wsX12_expected (wsV RX12 173 RX12 yX12_part wsX12_part) := goodIn_app (goodIn_k (is := [491, 492, 493, 5]) tie_wsX12_expected rfl (by decide +kernel)) ggX12_expected_X12_part
theorem dX12_expected_0 : decode cX12_expected 0 = .ok (.aload_n 0, 1) := by decide +kernel
theorem dX12_expected_1 : decode cX12_expected 1 = .ok (.iload_n 1, 1) := by decide +kernel
theorem dX12_expected_2 : decode cX12_expected 2 = .ok (.iload_n 1, 1) := by decide +kernel
theorem dX12_expected_3 : decode cX12_expected 3 = .ok (.iload_n 2, 1) := by decide +kernel
theorem dX12_expected_4 : decode cX12_expected 4 = .ok (.iload_n 3, 1) := by decide +kernel
theorem dX12_expected_5 : decode cX12_expected 5 = .ok (.invokevirtual 338, 3) := by decide +kernel
theorem dX12_expected_8 : decode cX12_expected 8 = .ok (.istore 4, 2) := by decide +kernel
theorem dX12_expected_10 : decode cX12_expected 10 = .ok (.iload 4, 2) := by decide +kernel
theorem dX12_expected_12 : decode cX12_expected 12 = .ok (.ifCond .ge 7, 3) := by decide +kernel
theorem dX12_expected_15 : decode cX12_expected 15 = .ok (.iload 4, 2) := by decide +kernel
theorem dX12_expected_17 : decode cX12_expected 17 = .ok (.i2l, 1) := by decide +kernel
theorem dX12_expected_18 : decode cX12_expected 18 = .ok (.lreturn, 1) := by decide +kernel
theorem dX12_expected_19 : decode cX12_expected 19 = .ok (.aload_n 0, 1) := by decide +kernel
theorem dX12_expected_20 : decode cX12_expected 20 = .ok (.aload_n 0, 1) := by decide +kernel
theorem dX12_expected_21 : decode cX12_expected 21 = .ok (.aload_n 0, 1) := by decide +kernel
theorem dX12_expected_22 : decode cX12_expected 22 = .ok (.getfield 62, 3) := by decide +kernel
theorem dX12_expected_25 : decode cX12_expected 25 = .ok (.iload_n 1, 1) := by decide +kernel
theorem dX12_expected_26 : decode cX12_expected 26 = .ok (.iaload, 1) := by decide +kernel
theorem dX12_expected_27 : decode cX12_expected 27 = .ok (.invokevirtual 328, 3) := by decide +kernel
theorem dX12_expected_30 : decode cX12_expected 30 = .ok (.iload_n 2, 1) := by decide +kernel
theorem dX12_expected_31 : decode cX12_expected 31 = .ok (.invokevirtual 325, 3) := by decide +kernel
theorem dX12_expected_34 : decode cX12_expected 34 = .ok (.ifCond .eq 11, 3) := by decide +kernel
theorem dX12_expected_37 : decode cX12_expected 37 = .ok (.aload_n 0, 1) := by decide +kernel
theorem dX12_expected_38 : decode cX12_expected 38 = .ok (.iload_n 3, 1) := by decide +kernel
