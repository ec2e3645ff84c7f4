theorem dX12_labels_21 : decode cX12_labels 21 = .ok (.ireturn, 1) := by decide +kernel
set_option maxRecDepth 20000 in
theorem ggX12_setReward_X12_isState : GoodIn wsX12_setReward wsX12_isState := goodIn_k tie_wsX12_setReward tie_wsX12_isState (by decide +kernel)
set_option maxRecDepth 20000 in
theorem gX12_setReward_X12_isState : GoodIn wsX12_setReward (wsV RX12 103 RX12 yX12_isState wsX12_isState) := goodIn_app (goodIn_k (is := [233, 234, 235, 5]) tie_wsX12_setReward rfl (by decide +kernel)) ggX12_setReward_X12_isState
set_option maxRecDepth 20000 in
theorem ggX12_setReward_X12_in : GoodIn wsX12_setReward wsX12_in := goodIn_k tie_wsX12_setReward tie_wsX12_in (by decide +kernel)
set_option maxRecDepth 20000 in
theorem gX12_setReward_X12_in : GoodIn wsX12_setReward (va_wsS RX12 86 yX12_in wsX12_in) := goodIn_app (goodIn_k (is := [237, 238, 5]) tie_wsX12_setReward rfl (by decide +kernel)) ggX12_setReward_X12_in
set_option maxRecDepth 20000 in
theorem ggX12_setReward_X12_change : GoodIn wsX12_setReward wsX12_change := goodIn_k tie_wsX12_setReward tie_wsX12_change (by decide +kernel)
set_option maxRecDepth 20000 in
theorem gX12_setReward_X12_change : GoodIn wsX12_setReward (wsV RX12 100 RX12 yX12_change wsX12_change) := goodIn_app (goodIn_k (is := [169, 170, 171, 5]) tie_wsX12_setReward rfl (by decide +kernel)) ggX12_setReward_X12_change
theorem dX12_setReward_0 : decode cX12_setReward 0 = .ok (.aload_n 0, 1) := by decide +kernel
theorem dX12_setReward_1 : decode cX12_setReward 1 = .ok (.iload_n 1, 1) := by decide +kernel
theorem dX12_setReward_2 : decode cX12_setReward 2 = .ok (.invokevirtual 103, 3) := by decide +kernel
theorem dX12_setReward_5 : decode cX12_setReward 5 = .ok (.ifCond .eq 13, 3) := by decide +kernel
theorem dX12_setReward_8 : decode cX12_setReward 8 = .ok (.iload_n 2, 1) := by decide +kernel
theorem dX12_setReward_9 : decode cX12_setReward 9 = .ok (.iconst 0, 1) := by decide +kernel
theorem dX12_setReward_10 : decode cX12_setReward 10 = .ok (.bipush 9, 2) := by decide +kernel
theorem dX12_setReward_12 : decode cX12_setReward 12 = .ok (.invokestatic 86, 3) := by decide +kernel
theorem dX12_setReward_15 : decode cX12_setReward 15 = .ok (.ifCond .ne 5, 3) := by decide +kernel
theorem dX12_setReward_18 : decode cX12_setReward 18 = .ok (.iconst (-1), 1) := by decide +kernel
theorem dX12_setReward_19 : decode cX12_setReward 19 = .ok (.ireturn, 1) := by decide +kernel
theorem dX12_setReward_20 : decode cX12_setReward 20 = .ok (.aload_n 0, 1) := by decide +kernel
theorem dX12_setReward_21 : decode cX12_setReward 21 = .ok (.invokevirtual 100, 3) := by decide +kernel
theorem dX12_setReward_24 : decode cX12_setReward 24 = .ok (.aload_n 0, 1) := by decide +kernel
theorem dX12_setReward_25 : decode cX12_setReward 25 = .ok (.getfield 9, 3) := by decide +kernel
theorem dX12_setReward_28 : decode cX12_setReward 28 = .ok (.bipush 73, 2) := by decide +kernel
theorem dX12_setReward_30 : decode cX12_setReward 30 = .ok (.iload_n 1, 1) := by decide +kernel
theorem dX12_setReward_31 : decode cX12_setReward 31 = .ok (.iadd, 1) := by decide +kernel
theorem dX12_setReward_32 : decode cX12_setReward 32 = .ok (.iaload, 1) := by decide +kernel
theorem dX12_setReward_33 : decode cX12_setReward 33 = .ok (.istore_n 3, 1) := by decide +kernel
theorem dX12_setReward_34 : decode cX12_setReward 34 = .ok (.aload_n 0, 1) := by decide +kernel
theorem dX12_setReward_35 : decode cX12_setReward 35 = .ok (.getfield 9, 3) := by decide +kernel
theorem dX12_setReward_38 : decode cX12_setReward 38 = .ok (.bipush 73, 2) := by decide +kernel
theorem dX12_setReward_40 : decode cX12_setReward 40 = .ok (.iload_n 1, 1) := by decide +kernel
theorem dX12_setReward_41 : decode cX12_setReward 41 = .ok (.iadd, 1) := by decide +kernel
theorem dX12_setReward_42 : decode cX12_setReward 42 = .ok (.iload_n 2, 1) := by decide +kernel
theorem dX12_setReward_43 : decode cX12_setReward 43 = .ok (.iastore, 1) := by decide +kernel
theorem dX12_setReward_44 : decode cX12_setReward 44 = .ok (.iload_n 3, 1) := by decide +kernel
theorem dX12_setReward_45 : decode cX12_setReward 45 = .ok (.ireturn, 1) := by decide +kernel
set_option maxRecDepth 20000 in
theorem ggX12_reward_X12_isState : GoodIn wsX12_reward wsX12_isState := goodIn_k tie_wsX12_reward tie_wsX12_isState (by decide +kernel)
set_option maxRecDepth 20000 in
theorem gX12_reward_X12_isState : GoodIn wsX12_reward (wsV RX12 103 RX12 yX12_isState wsX12_isState) := goodIn_app (goodIn_k (is := [233, 234, 235, 5]) tie_wsX12_reward rfl (by decide +kernel)) ggX12_reward_X12_isState
theorem dX12_reward_0 : decode cX12_reward 0 = .ok (.aload_n 0, 1) := by decide +kernel
theorem dX12_reward_1 : decode cX12_reward 1 = .ok (.iload_n 1, 1) := by decide +kernel
theorem dX12_reward_2 : decode cX12_reward 2 = .ok (.invokevirtual 103, 3) := by decide +kernel
theorem dX12_reward_5 : decode cX12_reward 5 = .ok (.ifCond .eq 15, 3) := by decide +kernel
theorem dX12_reward_8 : decode cX12_reward 8 = .ok (.aload_n 0, 1) := by decide +kernel
theorem dX12_reward_9 : decode cX12_reward 9 = .ok (.getfield 9, 3) := by decide +kernel
theorem dX12_reward_12 : decode cX12_reward 12 = .ok (.bipush 73, 2) := by decide +kernel
theorem dX12_reward_14 : decode cX12_reward 14 = .ok (.iload_n 1, 1) := by decide +kernel
theorem dX12_reward_15 : decode cX12_reward 15 = .ok (.iadd, 1) := by decide +kernel
theorem dX12_reward_16 : decode cX12_reward 16 = .ok (.iaload, 1) := by decide +kernel
theorem dX12_reward_17 : decode cX12_reward 17 = .ok (.goto 4, 3) := by decide +kernel
theorem dX12_reward_20 : decode cX12_reward 20 = .ok (.iconst (-1), 1) := by decide +kernel
theorem dX12_reward_21 : decode cX12_reward 21 = .ok (.ireturn, 1) := by decide +kernel
theorem dX12_save_0 : decode cX12_save 0 = .ok (.aload_n 0, 1) := by decide +kernel
theorem dX12_save_1 : decode cX12_save 1 = .ok (.getfield 9, 3) := by decide +kernel
theorem dX12_save_4 : decode cX12_save 4 = .ok (.iconst 0, 1) := by decide +kernel
theorem dX12_save_5 : decode cX12_save 5 = .ok (.aload_n 0, 1) := by decide +kernel
theorem dX12_save_6 : decode cX12_save 6 = .ok (.getfield 13, 3) := by decide +kernel
theorem dX12_save_9 : decode cX12_save 9 = .ok (.iconst 0, 1) := by decide +kernel
theorem dX12_save_10 : decode cX12_save 10 = .ok (.bipush 81, 2) := by decide +kernel
theorem dX12_save_12 : decode cX12_save 12 = .ok (.invokestatic 94, 3) := by decide +kernel
theorem dX12_save_15 : decode cX12_save 15 = .ok (.aload_n 0, 1) := by decide +kernel
theorem dX12_save_16 : decode cX12_save 16 = .ok (.iconst 1, 1) := by decide +kernel
theorem dX12_save_17 : decode cX12_save 17 = .ok (.putfield 111, 3) := by decide +kernel
theorem dX12_save_20 : decode cX12_save 20 = .ok (.aload_n 0, 1) := by decide +kernel
theorem dX12_save_21 : decode cX12_save 21 = .ok (.getfield 9, 3) := by decide +kernel
theorem dX12_save_24 : decode cX12_save 24 = .ok (.iconst 0, 1) := by decide +kernel
theorem dX12_save_25 : decode cX12_save 25 = .ok (.iaload, 1) := by decide +kernel
theorem dX12_save_26 : decode cX12_save 26 = .ok (.ireturn, 1) := by decide +kernel
set_option maxRecDepth 20000 in
theorem ggX12_restore_X12_change : GoodIn wsX12_restore wsX12_change := goodIn_k tie_wsX12_restore tie_wsX12_change (by decide +kernel)
set_option maxRecDepth 20000 in
theorem gX12_restore_X12_change : GoodIn wsX12_restore (wsV RX12 100 RX12 yX12_change wsX12_change) := goodIn_app (goodIn_k (is := [169, 170, 171, 5]) tie_wsX12_restore rfl (by decide +kernel)) ggX12_restore_X12_change
theorem dX12_restore_0 : decode cX12_restore 0 = .ok (.aload_n 0, 1) := by decide +kernel
theorem dX12_restore_1 : decode cX12_restore 1 = .ok (.getfield 111, 3) := by decide +kernel
theorem dX12_restore_4 : decode cX12_restore 4 = .ok (.ifCond .ne 6, 3) := by decide +kernel
theorem dX12_restore_7 : decode cX12_restore 7 = .ok (.bipush (-2), 2) := by decide +kernel
theorem dX12_restore_9 : decode cX12_restore 9 = .ok (.ireturn, 1) := by decide +kernel
theorem dX12_restore_10 : decode cX12_restore 10 = .ok (.aload_n 0, 1) := by decide +kernel
theorem dX12_restore_11 : decode cX12_restore 11 = .ok (.invokevirtual 100, 3) := by decide +kernel
theorem dX12_restore_14 : decode cX12_restore 14 = .ok (.aload_n 0, 1) := by decide +kernel
theorem dX12_restore_15 : decode cX12_restore 15 = .ok (.getfield 13, 3) := by decide +kernel
theorem dX12_restore_18 : decode cX12_restore 18 = .ok (.iconst 0, 1) := by decide +kernel
theorem dX12_restore_19 : decode cX12_restore 19 = .ok (.aload_n 0, 1) := by decide +kernel
theorem dX12_restore_20 : decode cX12_restore 20 = .ok (.getfield 9, 3) := by decide +kernel
theorem dX12_restore_23 : decode cX12_restore 23 = .ok (.iconst 0, 1) := by decide +kernel
theorem dX12_restore_24 : decode cX12_restore 24 = .ok (.bipush 81, 2) := by decide +kernel
theorem dX12_restore_26 : decode cX12_restore 26 = .ok (.invokestatic 94, 3) := by decide +kernel
theorem dX12_restore_29 : decode cX12_restore 29 = .ok (.aload_n 0, 1) := by decide +kernel
theorem dX12_restore_30 : decode cX12_restore 30 = .ok (.getfield 9, 3) := by decide +kernel
theorem dX12_restore_33 : decode cX12_restore 33 = .ok (.iconst 0, 1) := by decide +kernel
theorem dX12_restore_34 : decode cX12_restore 34 = .ok (.iaload, 1) := by decide +kernel
theorem dX12_restore_35 : decode cX12_restore 35 = .ok (.ireturn, 1) := by decide +kernel
theorem dX12_undo_0 : decode cX12_undo 0 = .ok (.aload_n 0, 1) := by decide +kernel
theorem dX12_undo_1 : decode cX12_undo 1 = .ok (.getfield 90, 3) := by decide +kernel
theorem dX12_undo_4 : decode cX12_undo 4 = .ok (.ifCond .ne 6, 3) := by decide +kernel
theorem dX12_undo_7 : decode cX12_undo 7 = .ok (.bipush (-2), 2) := by decide +kernel
theorem dX12_undo_9 : decode cX12_undo 9 = .ok (.ireturn, 1) := by decide +kernel
theorem dX12_undo_10 : decode cX12_undo 10 = .ok (.aload_n 0, 1) := by decide +kernel
theorem dX12_undo_11 : decode cX12_undo 11 = .ok (.dup, 1) := by decide +kernel
theorem dX12_undo_12 : decode cX12_undo 12 = .ok (.getfield 90, 3) := by decide +kernel
theorem dX12_undo_15 : decode cX12_undo 15 = .ok (.iconst 1, 1) := by decide +kernel
theorem dX12_undo_16 : decode cX12_undo 16 = .ok (.isub, 1) := by decide +kernel
theorem dX12_undo_17 : decode cX12_undo 17 = .ok (.putfield 90, 3) := by decide +kernel
theorem dX12_undo_20 : decode cX12_undo 20 = .ok (.aload_n 0, 1) := by decide +kernel
theorem dX12_undo_21 : decode cX12_undo 21 = .ok (.getfield 16, 3) := by decide +kernel
theorem dX12_undo_24 : decode cX12_undo 24 = .ok (.bipush 81, 2) := by decide +kernel
theorem dX12_undo_26 : decode cX12_undo 26 = .ok (.aload_n 0, 1) := by decide +kernel
theorem dX12_undo_27 : decode cX12_undo 27 = .ok (.getfield 90, 3) := by decide +kernel
theorem dX12_undo_30 : decode cX12_undo 30 = .ok (.imul, 1) := by decide +kernel
theorem dX12_undo_31 : decode cX12_undo 31 = .ok (.aload_n 0, 1) := by decide +kernel
theorem dX12_undo_32 : decode cX12_undo 32 = .ok (.getfield 9, 3) := by decide +kernel
theorem dX12_undo_35 : decode cX12_undo 35 = .ok (.iconst 0, 1) := by decide +kernel
theorem dX12_undo_36 : decode cX12_undo 36 = .ok (.bipush 81, 2) := by decide +kernel
theorem dX12_undo_38 : decode cX12_undo 38 = .ok (.invokestatic 94, 3) := by decide +kernel
theorem dX12_undo_41 : decode cX12_undo 41 = .ok (.aload_n 0, 1) := by decide +kernel
theorem dX12_undo_42 : decode cX12_undo 42 = .ok (.getfield 90, 3) := by decide +kernel
theorem dX12_undo_45 : decode cX12_undo 45 = .ok (.ireturn, 1) := by decide +kernel
set_option maxRecDepth 20000 in
theorem ggX12_sumOf_X12_toldSum : GoodIn wsX12_sumOf wsX12_toldSum := goodIn_k tie_wsX12_sumOf tie_wsX12_toldSum (by decide +kernel)
set_option maxRecDepth 20000 in
theorem gX12_sumOf_X12_toldSum : GoodIn wsX12_sumOf (wsV RX12 107 RX12 yX12_toldSum wsX12_toldSum) := goodIn_app (goodIn_k (is := [240, 241, 242, 5]) tie_wsX12_sumOf rfl (by decide +kernel)) ggX12_sumOf_X12_toldSum
theorem dX12_sumOf_0 : decode cX12_sumOf 0 = .ok (.iconst 1, 1) := by decide +kernel
theorem dX12_sumOf_1 : decode cX12_sumOf 1 = .ok (.aload_n 0, 1) := by decide +kernel
theorem dX12_sumOf_2 : decode cX12_sumOf 2 = .ok (.iload_n 1, 1) := by decide +kernel
theorem dX12_sumOf_3 : decode cX12_sumOf 3 = .ok (.invokevirtual 107, 3) := by decide +kernel
theorem dX12_sumOf_6 : decode cX12_sumOf 6 = .ok (.invokestatic 115, 3) := by decide +kernel
theorem dX12_sumOf_9 : decode cX12_sumOf 9 = .ok (.ireturn, 1) := by decide +kernel
set_option maxRecDepth 20000 in
theorem ggX12_weightOf_X12_toldSum : GoodIn wsX12_weightOf wsX12_toldSum := goodIn_k tie_wsX12_weightOf tie_wsX12_toldSum (by decide +kernel)
set_option maxRecDepth 20000 in
theorem gX12_weightOf_X12_toldSum : GoodIn wsX12_weightOf (wsV RX12 107 RX12 yX12_toldSum wsX12_toldSum) := goodIn_app (goodIn_k (is := [240, 241, 242, 5]) tie_wsX12_weightOf rfl (by decide +kernel)) ggX12_weightOf_X12_toldSum
theorem dX12_weightOf_0 : decode cX12_weightOf 0 = .ok (.iload_n 1, 1) := by decide +kernel
theorem dX12_weightOf_1 : decode cX12_weightOf 1 = .ok (.iload_n 2, 1) := by decide +kernel
theorem dX12_weightOf_2 : decode cX12_weightOf 2 = .ok (.if_icmp .ne 15, 3) := by decide +kernel
theorem dX12_weightOf_5 : decode cX12_weightOf 5 = .ok (.aload_n 0, 1) := by decide +kernel
theorem dX12_weightOf_6 : decode cX12_weightOf 6 = .ok (.iload_n 1, 1) := by decide +kernel
theorem dX12_weightOf_7 : decode cX12_weightOf 7 = .ok (.invokevirtual 107, 3) := by decide +kernel
theorem dX12_weightOf_10 : decode cX12_weightOf 10 = .ok (.ifCond .ne 7, 3) := by decide +kernel
theorem dX12_weightOf_13 : decode cX12_weightOf 13 = .ok (.iconst 1, 1) := by decide +kernel
theorem dX12_weightOf_14 : decode cX12_weightOf 14 = .ok (.goto 16, 3) := by decide +kernel
theorem dX12_weightOf_17 : decode cX12_weightOf 17 = .ok (.aload_n 0, 1) := by decide +kernel
theorem dX12_weightOf_18 : decode cX12_weightOf 18 = .ok (.getfield 9, 3) := by decide +kernel
theorem dX12_weightOf_21 : decode cX12_weightOf 21 = .ok (.iconst 1, 1) := by decide +kernel
theorem dX12_weightOf_22 : decode cX12_weightOf 22 = .ok (.bipush 8, 2) := by decide +kernel
theorem dX12_weightOf_24 : decode cX12_weightOf 24 = .ok (.iload_n 1, 1) := by decide +kernel
theorem dX12_weightOf_25 : decode cX12_weightOf 25 = .ok (.imul, 1) := by decide +kernel
theorem dX12_weightOf_26 : decode cX12_weightOf 26 = .ok (.iadd, 1) := by decide +kernel
theorem dX12_weightOf_27 : decode cX12_weightOf 27 = .ok (.iload_n 2, 1) := by decide +kernel
theorem dX12_weightOf_28 : decode cX12_weightOf 28 = .ok (.iadd, 1) := by decide +kernel
theorem dX12_weightOf_29 : decode cX12_weightOf 29 = .ok (.iaload, 1) := by decide +kernel
theorem dX12_weightOf_30 : decode cX12_weightOf 30 = .ok (.ireturn, 1) := by decide +kernel
set_option maxRecDepth 20000 in
theorem ggX12_weightInto_X12_has : GoodIn wsX12_weightInto wsX12_has := goodIn_k tie_wsX12_weightInto tie_wsX12_has (by decide +kernel)
set_option maxRecDepth 20000 in
theorem gX12_weightInto_X12_has : GoodIn wsX12_weightInto (va_wsS RX12 121 yX12_has wsX12_has) := goodIn_app (goodIn_k (is := [324, 325, 5]) tie_wsX12_weightInto rfl (by decide +kernel)) ggX12_weightInto_X12_has
set_option maxRecDepth 20000 in
theorem ggX12_weightInto_X12_weightOf : GoodIn wsX12_weightInto wsX12_weightOf := goodIn_k tie_wsX12_weightInto tie_wsX12_weightOf (by decide +kernel)
set_option maxRecDepth 20000 in
theorem gX12_weightInto_X12_weightOf : GoodIn wsX12_weightInto (wsV RX12 125 RX12 yX12_weightOf wsX12_weightOf) := goodIn_app (goodIn_k (is := [327, 328, 329, 5]) tie_wsX12_weightInto rfl (by decide +kernel)) ggX12_weightInto_X12_weightOf
theorem dX12_weightInto_0 : decode cX12_weightInto 0 = .ok (.iconst 0, 1) := by decide +kernel
theorem dX12_weightInto_1 : decode cX12_weightInto 1 = .ok (.istore_n 3, 1) := by decide +kernel
theorem dX12_weightInto_2 : decode cX12_weightInto 2 = .ok (.iconst 0, 1) := by decide +kernel
theorem dX12_weightInto_3 : decode cX12_weightInto 3 = .ok (.istore 4, 2) := by decide +kernel
theorem dX12_weightInto_5 : decode cX12_weightInto 5 = .ok (.iload 4, 2) := by decide +kernel
theorem dX12_weightInto_7 : decode cX12_weightInto 7 = .ok (.aload_n 0, 1) := by decide +kernel
theorem dX12_weightInto_8 : decode cX12_weightInto 8 = .ok (.getfield 9, 3) := by decide +kernel
theorem dX12_weightInto_11 : decode cX12_weightInto 11 = .ok (.iconst 0, 1) := by decide +kernel
theorem dX12_weightInto_12 : decode cX12_weightInto 12 = .ok (.iaload, 1) := by decide +kernel
theorem dX12_weightInto_13 : decode cX12_weightInto 13 = .ok (.if_icmp .ge 32, 3) := by decide +kernel
theorem dX12_weightInto_16 : decode cX12_weightInto 16 = .ok (.iload_n 3, 1) := by decide +kernel
theorem dX12_weightInto_17 : decode cX12_weightInto 17 = .ok (.iload_n 2, 1) := by decide +kernel
theorem dX12_weightInto_18 : decode cX12_weightInto 18 = .ok (.iload 4, 2) := by decide +kernel
theorem dX12_weightInto_20 : decode cX12_weightInto 20 = .ok (.invokestatic 121, 3) := by decide +kernel
theorem dX12_weightInto_23 : decode cX12_weightInto 23 = .ok (.ifCond .eq 13, 3) := by decide +kernel
theorem dX12_weightInto_26 : decode cX12_weightInto 26 = .ok (.aload_n 0, 1) := by decide +kernel
theorem dX12_weightInto_27 : decode cX12_weightInto 27 = .ok (.iload_n 1, 1) := by decide +kernel
theorem dX12_weightInto_28 : decode cX12_weightInto 28 = .ok (.iload 4, 2) := by decide +kernel
theorem dX12_weightInto_30 : decode cX12_weightInto 30 = .ok (.invokevirtual 125, 3) := by decide +kernel
theorem dX12_weightInto_33 : decode cX12_weightInto 33 = .ok (.goto 4, 3) := by decide +kernel
theorem dX12_weightInto_36 : decode cX12_weightInto 36 = .ok (.iconst 0, 1) := by decide +kernel
theorem dX12_weightInto_37 : decode cX12_weightInto 37 = .ok (.iadd, 1) := by decide +kernel
theorem dX12_weightInto_38 : decode cX12_weightInto 38 = .ok (.istore_n 3, 1) := by decide +kernel
theorem dX12_weightInto_39 : decode cX12_weightInto 39 = .ok (.iinc 4 1, 3) := by decide +kernel
theorem dX12_weightInto_42 : decode cX12_weightInto 42 = .ok (.goto (-37), 3) := by decide +kernel
theorem dX12_weightInto_45 : decode cX12_weightInto 45 = .ok (.iload_n 3, 1) := by decide +kernel
theorem dX12_weightInto_46 : decode cX12_weightInto 46 = .ok (.ireturn, 1) := by decide +kernel
set_option maxRecDepth 20000 in
theorem ggX12_reachOf_X12_has : GoodIn wsX12_reachOf wsX12_has := goodIn_k tie_wsX12_reachOf tie_wsX12_has (by decide +kernel)
set_option maxRecDepth 20000 in
theorem gX12_reachOf_X12_has : GoodIn wsX12_reachOf (va_wsS RX12 121 yX12_has wsX12_has) := goodIn_app (goodIn_k (is := [324, 325, 5]) tie_wsX12_reachOf rfl (by decide +kernel)) ggX12_reachOf_X12_has
set_option maxRecDepth 20000 in
theorem ggX12_reachOf_X12_weightOf : GoodIn wsX12_reachOf wsX12_weightOf := goodIn_k tie_wsX12_reachOf tie_wsX12_weightOf (by decide +kernel)
set_option maxRecDepth 20000 in
theorem gX12_reachOf_X12_weightOf : GoodIn wsX12_reachOf (wsV RX12 125 RX12 yX12_weightOf wsX12_weightOf) := goodIn_app (goodIn_k (is := [327, 328, 329, 5]) tie_wsX12_reachOf rfl (by decide +kernel)) ggX12_reachOf_X12_weightOf
theorem dX12_reachOf_0 : decode cX12_reachOf 0 = .ok (.iconst 1, 1) := by decide +kernel
theorem dX12_reachOf_1 : decode cX12_reachOf 1 = .ok (.iload_n 1, 1) := by decide +kernel
theorem dX12_reachOf_2 : decode cX12_reachOf 2 = .ok (.ishl, 1) := by decide +kernel
theorem dX12_reachOf_3 : decode cX12_reachOf 3 = .ok (.istore_n 2, 1) := by decide +kernel
theorem dX12_reachOf_4 : decode cX12_reachOf 4 = .ok (.iconst 1, 1) := by decide +kernel
theorem dX12_reachOf_5 : decode cX12_reachOf 5 = .ok (.istore_n 3, 1) := by decide +kernel
theorem dX12_reachOf_6 : decode cX12_reachOf 6 = .ok (.iload_n 3, 1) := by decide +kernel
theorem dX12_reachOf_7 : decode cX12_reachOf 7 = .ok (.ifCond .eq 98, 3) := by decide +kernel
theorem dX12_reachOf_10 : decode cX12_reachOf 10 = .ok (.iload_n 2, 1) := by decide +kernel
theorem dX12_reachOf_11 : decode cX12_reachOf 11 = .ok (.istore 4, 2) := by decide +kernel
theorem dX12_reachOf_13 : decode cX12_reachOf 13 = .ok (.iconst 0, 1) := by decide +kernel
theorem dX12_reachOf_14 : decode cX12_reachOf 14 = .ok (.istore 5, 2) := by decide +kernel
theorem dX12_reachOf_16 : decode cX12_reachOf 16 = .ok (.iload 5, 2) := by decide +kernel
theorem dX12_reachOf_18 : decode cX12_reachOf 18 = .ok (.aload_n 0, 1) := by decide +kernel
theorem dX12_reachOf_19 : decode cX12_reachOf 19 = .ok (.getfield 9, 3) := by decide +kernel
theorem dX12_reachOf_22 : decode cX12_reachOf 22 = .ok (.iconst 0, 1) := by decide +kernel
theorem dX12_reachOf_23 : decode cX12_reachOf 23 = .ok (.iaload, 1) := by decide +kernel
theorem dX12_reachOf_24 : decode cX12_reachOf 24 = .ok (.if_icmp .ge 63, 3) := by decide +kernel
theorem dX12_reachOf_27 : decode cX12_reachOf 27 = .ok (.iconst 0, 1) := by decide +kernel
theorem dX12_reachOf_28 : decode cX12_reachOf 28 = .ok (.istore 6, 2) := by decide +kernel
theorem dX12_reachOf_30 : decode cX12_reachOf 30 = .ok (.iload 6, 2) := by decide +kernel
theorem dX12_reachOf_32 : decode cX12_reachOf 32 = .ok (.aload_n 0, 1) := by decide +kernel
theorem dX12_reachOf_33 : decode cX12_reachOf 33 = .ok (.getfield 9, 3) := by decide +kernel
theorem dX12_reachOf_36 : decode cX12_reachOf 36 = .ok (.iconst 0, 1) := by decide +kernel
theorem dX12_reachOf_37 : decode cX12_reachOf 37 = .ok (.iaload, 1) := by decide +kernel
theorem dX12_reachOf_38 : decode cX12_reachOf 38 = .ok (.if_icmp .ge 43, 3) := by decide +kernel
theorem dX12_reachOf_41 : decode cX12_reachOf 41 = .ok (.iload 4, 2) := by decide +kernel
theorem dX12_reachOf_43 : decode cX12_reachOf 43 = .ok (.iload 5, 2) := by decide +kernel
theorem dX12_reachOf_45 : decode cX12_reachOf 45 = .ok (.invokestatic 121, 3) := by decide +kernel
theorem dX12_reachOf_48 : decode cX12_reachOf 48 = .ok (.ifCond .eq 33, 3) := by decide +kernel
theorem dX12_reachOf_51 : decode cX12_reachOf 51 = .ok (.iload 4, 2) := by decide +kernel
theorem dX12_reachOf_53 : decode cX12_reachOf 53 = .ok (.aload_n 0, 1) := by decide +kernel
theorem dX12_reachOf_54 : decode cX12_reachOf 54 = .ok (.iload 5, 2) := by decide +kernel
theorem dX12_reachOf_56 : decode cX12_reachOf 56 = .ok (.iload 6, 2) := by decide +kernel
theorem dX12_reachOf_58 : decode cX12_reachOf 58 = .ok (.invokevirtual 125, 3) := by decide +kernel
theorem dX12_reachOf_61 : decode cX12_reachOf 61 = .ok (.ifCond .le 10, 3) := by decide +kernel
theorem dX12_reachOf_64 : decode cX12_reachOf 64 = .ok (.iconst 1, 1) := by decide +kernel
theorem dX12_reachOf_65 : decode cX12_reachOf 65 = .ok (.iload 6, 2) := by decide +kernel
theorem dX12_reachOf_67 : decode cX12_reachOf 67 = .ok (.ishl, 1) := by decide +kernel
theorem dX12_reachOf_68 : decode cX12_reachOf 68 = .ok (.goto 4, 3) := by decide +kernel
theorem dX12_reachOf_71 : decode cX12_reachOf 71 = .ok (.iconst 0, 1) := by decide +kernel
theorem dX12_reachOf_72 : decode cX12_reachOf 72 = .ok (.ior, 1) := by decide +kernel
theorem dX12_reachOf_73 : decode cX12_reachOf 73 = .ok (.istore 4, 2) := by decide +kernel
theorem dX12_reachOf_75 : decode cX12_reachOf 75 = .ok (.iinc 6 1, 3) := by decide +kernel
theorem dX12_reachOf_78 : decode cX12_reachOf 78 = .ok (.goto (-48), 3) := by decide +kernel
theorem dX12_reachOf_81 : decode cX12_reachOf 81 = .ok (.iinc 5 1, 3) := by decide +kernel
theorem dX12_reachOf_84 : decode cX12_reachOf 84 = .ok (.goto (-68), 3) := by decide +kernel
theorem dX12_reachOf_87 : decode cX12_reachOf 87 = .ok (.iload 4, 2) := by decide +kernel
theorem dX12_reachOf_89 : decode cX12_reachOf 89 = .ok (.iload_n 2, 1) := by decide +kernel
theorem dX12_reachOf_90 : decode cX12_reachOf 90 = .ok (.if_icmp .eq 7, 3) := by decide +kernel
theorem dX12_reachOf_93 : decode cX12_reachOf 93 = .ok (.iconst 1, 1) := by decide +kernel
theorem dX12_reachOf_94 : decode cX12_reachOf 94 = .ok (.goto 4, 3) := by decide +kernel
theorem dX12_reachOf_97 : decode cX12_reachOf 97 = .ok (.iconst 0, 1) := by decide +kernel
theorem dX12_reachOf_98 : decode cX12_reachOf 98 = .ok (.istore_n 3, 1) := by decide +kernel
theorem dX12_reachOf_99 : decode cX12_reachOf 99 = .ok (.iload 4, 2) := by decide +kernel
theorem dX12_reachOf_101 : decode cX12_reachOf 101 = .ok (.istore_n 2, 1) := by decide +kernel
theorem dX12_reachOf_102 : decode cX12_reachOf 102 = .ok (.goto (-96), 3) := by decide +kernel
theorem dX12_reachOf_105 : decode cX12_reachOf 105 = .ok (.iload_n 2, 1) := by decide +kernel
theorem dX12_reachOf_106 : decode cX12_reachOf 106 = .ok (.ireturn, 1) := by decide +kernel
set_option maxRecDepth 20000 in
theorem ggX12_reaches_X12_isState : GoodIn wsX12_reaches wsX12_isState := goodIn_k tie_wsX12_reaches tie_wsX12_isState (by decide +kernel)
set_option maxRecDepth 20000 in
theorem gX12_reaches_X12_isState : GoodIn wsX12_reaches (wsV RX12 103 RX12 yX12_isState wsX12_isState) := goodIn_app (goodIn_k (is := [233, 234, 235, 5]) tie_wsX12_reaches rfl (by decide +kernel)) ggX12_reaches_X12_isState
set_option maxRecDepth 20000 in
theorem ggX12_reaches_X12_reachOf : GoodIn wsX12_reaches wsX12_reachOf := goodIn_k tie_wsX12_reaches tie_wsX12_reachOf (by decide +kernel)
set_option maxRecDepth 20000 in
theorem gX12_reaches_X12_reachOf : GoodIn wsX12_reaches (wsV RX12 128 RX12 yX12_reachOf wsX12_reachOf) := goodIn_app (goodIn_k (is := [320, 321, 322, 5]) tie_wsX12_reaches rfl (by decide +kernel)) ggX12_reaches_X12_reachOf
theorem dX12_reaches_0 : decode cX12_reaches 0 = .ok (.aload_n 0, 1) := by decide +kernel
theorem dX12_reaches_1 : decode cX12_reaches 1 = .ok (.iload_n 1, 1) := by decide +kernel
theorem dX12_reaches_2 : decode cX12_reaches 2 = .ok (.invokevirtual 103, 3) := by decide +kernel
theorem dX12_reaches_5 : decode cX12_reaches 5 = .ok (.ifCond .eq 11, 3) := by decide +kernel
theorem dX12_reaches_8 : decode cX12_reaches 8 = .ok (.aload_n 0, 1) := by decide +kernel
theorem dX12_reaches_9 : decode cX12_reaches 9 = .ok (.iload_n 1, 1) := by decide +kernel
theorem dX12_reaches_10 : decode cX12_reaches 10 = .ok (.invokevirtual 128, 3) := by decide +kernel
theorem dX12_reaches_13 : decode cX12_reaches 13 = .ok (.goto 4, 3) := by decide +kernel
theorem dX12_reaches_16 : decode cX12_reaches 16 = .ok (.iconst (-1), 1) := by decide +kernel
theorem dX12_reaches_17 : decode cX12_reaches 17 = .ok (.ireturn, 1) := by decide +kernel
set_option maxRecDepth 20000 in
theorem ggX12_componentOf_X12_reachOf : GoodIn wsX12_componentOf wsX12_reachOf := goodIn_k tie_wsX12_componentOf tie_wsX12_reachOf (by decide +kernel)
set_option maxRecDepth 20000 in
theorem gX12_componentOf_X12_reachOf : GoodIn wsX12_componentOf (wsV RX12 128 RX12 yX12_reachOf wsX12_reachOf) := goodIn_app (goodIn_k (is := [320, 321, 322, 5]) tie_wsX12_componentOf rfl (by decide +kernel)) ggX12_componentOf_X12_reachOf
set_option maxRecDepth 20000 in
theorem ggX12_componentOf_X12_has : GoodIn wsX12_componentOf wsX12_has := goodIn_k tie_wsX12_componentOf tie_wsX12_has (by decide +kernel)
set_option maxRecDepth 20000 in
theorem gX12_componentOf_X12_has : GoodIn wsX12_componentOf (va_wsS RX12 121 yX12_has wsX12_has) := goodIn_app (goodIn_k (is := [324, 325, 5]) tie_wsX12_componentOf rfl (by decide +kernel)) ggX12_componentOf_X12_has
theorem dX12_componentOf_0 : decode cX12_componentOf 0 = .ok (.iconst 0, 1) := by decide +kernel
theorem dX12_componentOf_1 : decode cX12_componentOf 1 = .ok (.istore_n 2, 1) := by decide +kernel
theorem dX12_componentOf_2 : decode cX12_componentOf 2 = .ok (.aload_n 0, 1) := by decide +kernel
theorem dX12_componentOf_3 : decode cX12_componentOf 3 = .ok (.iload_n 1, 1) := by decide +kernel
theorem dX12_componentOf_4 : decode cX12_componentOf 4 = .ok (.invokevirtual 128, 3) := by decide +kernel
theorem dX12_componentOf_7 : decode cX12_componentOf 7 = .ok (.istore_n 3, 1) := by decide +kernel
theorem dX12_componentOf_8 : decode cX12_componentOf 8 = .ok (.iconst 0, 1) := by decide +kernel
theorem dX12_componentOf_9 : decode cX12_componentOf 9 = .ok (.istore 4, 2) := by decide +kernel
theorem dX12_componentOf_11 : decode cX12_componentOf 11 = .ok (.iload 4, 2) := by decide +kernel
theorem dX12_componentOf_13 : decode cX12_componentOf 13 = .ok (.aload_n 0, 1) := by decide +kernel
theorem dX12_componentOf_14 : decode cX12_componentOf 14 = .ok (.getfield 9, 3) := by decide +kernel
theorem dX12_componentOf_17 : decode cX12_componentOf 17 = .ok (.iconst 0, 1) := by decide +kernel
theorem dX12_componentOf_18 : decode cX12_componentOf 18 = .ok (.iaload, 1) := by decide +kernel
theorem dX12_componentOf_19 : decode cX12_componentOf 19 = .ok (.if_icmp .ge 42, 3) := by decide +kernel
theorem dX12_componentOf_22 : decode cX12_componentOf 22 = .ok (.iload_n 2, 1) := by decide +kernel
theorem dX12_componentOf_23 : decode cX12_componentOf 23 = .ok (.iload_n 3, 1) := by decide +kernel
theorem dX12_componentOf_24 : decode cX12_componentOf 24 = .ok (.iload 4, 2) := by decide +kernel
theorem dX12_componentOf_26 : decode cX12_componentOf 26 = .ok (.invokestatic 121, 3) := by decide +kernel
theorem dX12_componentOf_29 : decode cX12_componentOf 29 = .ok (.ifCond .eq 23, 3) := by decide +kernel
theorem dX12_componentOf_32 : decode cX12_componentOf 32 = .ok (.aload_n 0, 1) := by decide +kernel
theorem dX12_componentOf_33 : decode cX12_componentOf 33 = .ok (.iload 4, 2) := by decide +kernel
theorem dX12_componentOf_35 : decode cX12_componentOf 35 = .ok (.invokevirtual 128, 3) := by decide +kernel
theorem dX12_componentOf_38 : decode cX12_componentOf 38 = .ok (.iload_n 1, 1) := by decide +kernel
theorem dX12_componentOf_39 : decode cX12_componentOf 39 = .ok (.invokestatic 121, 3) := by decide +kernel
theorem dX12_componentOf_42 : decode cX12_componentOf 42 = .ok (.ifCond .eq 10, 3) := by decide +kernel
theorem dX12_componentOf_45 : decode cX12_componentOf 45 = .ok (.iconst 1, 1) := by decide +kernel
theorem dX12_componentOf_46 : decode cX12_componentOf 46 = .ok (.iload 4, 2) := by decide +kernel
theorem dX12_componentOf_48 : decode cX12_componentOf 48 = .ok (.ishl, 1) := by decide +kernel
theorem dX12_componentOf_49 : decode cX12_componentOf 49 = .ok (.goto 4, 3) := by decide +kernel
theorem dX12_componentOf_52 : decode cX12_componentOf 52 = .ok (.iconst 0, 1) := by decide +kernel
theorem dX12_componentOf_53 : decode cX12_componentOf 53 = .ok (.ior, 1) := by decide +kernel
theorem dX12_componentOf_54 : decode cX12_componentOf 54 = .ok (.istore_n 2, 1) := by decide +kernel
theorem dX12_componentOf_55 : decode cX12_componentOf 55 = .ok (.iinc 4 1, 3) := by decide +kernel
theorem dX12_componentOf_58 : decode cX12_componentOf 58 = .ok (.goto (-47), 3) := by decide +kernel
theorem dX12_componentOf_61 : decode cX12_componentOf 61 = .ok (.iload_n 2, 1) := by decide +kernel
theorem dX12_componentOf_62 : decode cX12_componentOf 62 = .ok (.ireturn, 1) := by decide +kernel
set_option maxRecDepth 20000 in
theorem ggX12_component_X12_isState : GoodIn wsX12_component wsX12_isState := goodIn_k tie_wsX12_component tie_wsX12_isState (by decide +kernel)
set_option maxRecDepth 20000 in
theorem gX12_component_X12_isState : GoodIn wsX12_component (wsV RX12 103 RX12 yX12_isState wsX12_isState) := goodIn_app (goodIn_k (is := [233, 234, 235, 5]) tie_wsX12_component rfl (by decide +kernel)) ggX12_component_X12_isState
set_option maxRecDepth 20000 in
theorem ggX12_component_X12_componentOf : GoodIn wsX12_component wsX12_componentOf := goodIn_k tie_wsX12_component tie_wsX12_componentOf (by decide +kernel)
set_option maxRecDepth 20000 in
theorem gX12_component_X12_componentOf : GoodIn wsX12_component (wsV RX12 131 RX12 yX12_componentOf wsX12_componentOf) := goodIn_app (goodIn_k (is := [344, 345, 346, 5]) tie_wsX12_component rfl (by decide +kernel)) ggX12_component_X12_componentOf
theorem dX12_component_0 : decode cX12_component 0 = .ok (.aload_n 0, 1) := by decide +kernel
theorem dX12_component_1 : decode cX12_component 1 = .ok (.iload_n 1, 1) := by decide +kernel
theorem dX12_component_2 : decode cX12_component 2 = .ok (.invokevirtual 103, 3) := by decide +kernel
theorem dX12_component_5 : decode cX12_component 5 = .ok (.ifCond .eq 11, 3) := by decide +kernel
theorem dX12_component_8 : decode cX12_component 8 = .ok (.aload_n 0, 1) := by decide +kernel
theorem dX12_component_9 : decode cX12_component 9 = .ok (.iload_n 1, 1) := by decide +kernel
theorem dX12_component_10 : decode cX12_component 10 = .ok (.invokevirtual 131, 3) := by decide +kernel
theorem dX12_component_13 : decode cX12_component 13 = .ok (.goto 4, 3) := by decide +kernel
theorem dX12_component_16 : decode cX12_component 16 = .ok (.iconst (-1), 1) := by decide +kernel
theorem dX12_component_17 : decode cX12_component 17 = .ok (.ireturn, 1) := by decide +kernel
set_option maxRecDepth 20000 in
theorem ggX12_isBottom_X12_componentOf : GoodIn wsX12_isBottom wsX12_componentOf := goodIn_k tie_wsX12_isBottom tie_wsX12_componentOf (by decide +kernel)
set_option maxRecDepth 20000 in
theorem gX12_isBottom_X12_componentOf : GoodIn wsX12_isBottom (wsV RX12 131 RX12 yX12_componentOf wsX12_componentOf) := goodIn_app (goodIn_k (is := [344, 345, 346, 5]) tie_wsX12_isBottom rfl (by decide +kernel)) ggX12_isBottom_X12_componentOf
set_option maxRecDepth 20000 in
theorem ggX12_isBottom_X12_reachOf : GoodIn wsX12_isBottom wsX12_reachOf := goodIn_k tie_wsX12_isBottom tie_wsX12_reachOf (by decide +kernel)
set_option maxRecDepth 20000 in
theorem gX12_isBottom_X12_reachOf : GoodIn wsX12_isBottom (wsV RX12 128 RX12 yX12_reachOf wsX12_reachOf) := goodIn_app (goodIn_k (is := [320, 321, 322, 5]) tie_wsX12_isBottom rfl (by decide +kernel)) ggX12_isBottom_X12_reachOf
theorem dX12_isBottom_0 : decode cX12_isBottom 0 = .ok (.aload_n 0, 1) := by decide +kernel
theorem dX12_isBottom_1 : decode cX12_isBottom 1 = .ok (.iload_n 1, 1) := by decide +kernel
theorem dX12_isBottom_2 : decode cX12_isBottom 2 = .ok (.invokevirtual 131, 3) := by decide +kernel
theorem dX12_isBottom_5 : decode cX12_isBottom 5 = .ok (.aload_n 0, 1) := by decide +kernel
theorem dX12_isBottom_6 : decode cX12_isBottom 6 = .ok (.iload_n 1, 1) := by decide +kernel
theorem dX12_isBottom_7 : decode cX12_isBottom 7 = .ok (.invokevirtual 128, 3) := by decide +kernel
theorem dX12_isBottom_10 : decode cX12_isBottom 10 = .ok (.if_icmp .ne 7, 3) := by decide +kernel
theorem dX12_isBottom_13 : decode cX12_isBottom 13 = .ok (.iconst 1, 1) := by decide +kernel
theorem dX12_isBottom_14 : decode cX12_isBottom 14 = .ok (.goto 4, 3) := by decide +kernel
theorem dX12_isBottom_17 : decode cX12_isBottom 17 = .ok (.iconst 0, 1) := by decide +kernel
theorem dX12_isBottom_18 : decode cX12_isBottom 18 = .ok (.ireturn, 1) := by decide +kernel
set_option maxRecDepth 20000 in
theorem ggX12_bottoms_X12_isBottom : GoodIn wsX12_bottoms wsX12_isBottom := goodIn_k tie_wsX12_bottoms tie_wsX12_isBottom (by decide +kernel)
set_option maxRecDepth 20000 in
theorem gX12_bottoms_X12_isBottom : GoodIn wsX12_bottoms (wsV RX12 134 RX12 yX12_isBottom wsX12_isBottom) := goodIn_app (goodIn_k (is := [364, 365, 366, 5]) tie_wsX12_bottoms rfl (by decide +kernel)) ggX12_bottoms_X12_isBottom
theorem dX12_bottoms_0 : decode cX12_bottoms 0 = .ok (.iconst 0, 1) := by decide +kernel
theorem dX12_bottoms_1 : decode cX12_bottoms 1 = .ok (.istore_n 1, 1) := by decide +kernel
theorem dX12_bottoms_2 : decode cX12_bottoms 2 = .ok (.iconst 0, 1) := by decide +kernel
theorem dX12_bottoms_3 : decode cX12_bottoms 3 = .ok (.istore_n 2, 1) := by decide +kernel
theorem dX12_bottoms_4 : decode cX12_bottoms 4 = .ok (.iload_n 2, 1) := by decide +kernel
theorem dX12_bottoms_5 : decode cX12_bottoms 5 = .ok (.aload_n 0, 1) := by decide +kernel
theorem dX12_bottoms_6 : decode cX12_bottoms 6 = .ok (.getfield 9, 3) := by decide +kernel
theorem dX12_bottoms_9 : decode cX12_bottoms 9 = .ok (.iconst 0, 1) := by decide +kernel
theorem dX12_bottoms_10 : decode cX12_bottoms 10 = .ok (.iaload, 1) := by decide +kernel
theorem dX12_bottoms_11 : decode cX12_bottoms 11 = .ok (.if_icmp .ge 27, 3) := by decide +kernel
theorem dX12_bottoms_14 : decode cX12_bottoms 14 = .ok (.iload_n 1, 1) := by decide +kernel
theorem dX12_bottoms_15 : decode cX12_bottoms 15 = .ok (.aload_n 0, 1) := by decide +kernel
theorem dX12_bottoms_16 : decode cX12_bottoms 16 = .ok (.iload_n 2, 1) := by decide +kernel
theorem dX12_bottoms_17 : decode cX12_bottoms 17 = .ok (.invokevirtual 134, 3) := by decide +kernel
theorem dX12_bottoms_20 : decode cX12_bottoms 20 = .ok (.ifCond .eq 9, 3) := by decide +kernel
theorem dX12_bottoms_23 : decode cX12_bottoms 23 = .ok (.iconst 1, 1) := by decide +kernel
theorem dX12_bottoms_24 : decode cX12_bottoms 24 = .ok (.iload_n 2, 1) := by decide +kernel
theorem dX12_bottoms_25 : decode cX12_bottoms 25 = .ok (.ishl, 1) := by decide +kernel
theorem dX12_bottoms_26 : decode cX12_bottoms 26 = .ok (.goto 4, 3) := by decide +kernel
theorem dX12_bottoms_29 : decode cX12_bottoms 29 = .ok (.iconst 0, 1) := by decide +kernel
theorem dX12_bottoms_30 : decode cX12_bottoms 30 = .ok (.ior, 1) := by decide +kernel
theorem dX12_bottoms_31 : decode cX12_bottoms 31 = .ok (.istore_n 1, 1) := by decide +kernel
theorem dX12_bottoms_32 : decode cX12_bottoms 32 = .ok (.iinc 2 1, 3) := by decide +kernel
theorem dX12_bottoms_35 : decode cX12_bottoms 35 = .ok (.goto (-31), 3) := by decide +kernel
theorem dX12_bottoms_38 : decode cX12_bottoms 38 = .ok (.iload_n 1, 1) := by decide +kernel
theorem dX12_bottoms_39 : decode cX12_bottoms 39 = .ok (.ireturn, 1) := by decide +kernel
set_option maxRecDepth 20000 in
theorem ggX12_stepAlike_X12_statesOf : GoodIn wsX12_stepAlike wsX12_statesOf := goodIn_k tie_wsX12_stepAlike tie_wsX12_statesOf (by decide +kernel)
set_option maxRecDepth 20000 in
theorem gX12_stepAlike_X12_statesOf : GoodIn wsX12_stepAlike (wsV RX12 137 RX12 yX12_statesOf wsX12_statesOf) := goodIn_app (goodIn_k (is := [423, 424, 425, 5]) tie_wsX12_stepAlike rfl (by decide +kernel)) ggX12_stepAlike_X12_statesOf
set_option maxRecDepth 20000 in
theorem ggX12_stepAlike_X12_weightInto : GoodIn wsX12_stepAlike wsX12_weightInto := goodIn_k tie_wsX12_stepAlike tie_wsX12_weightInto (by decide +kernel)
set_option maxRecDepth 20000 in
theorem gX12_stepAlike_X12_weightInto : GoodIn wsX12_stepAlike (wsV RX12 140 RX12 yX12_weightInto wsX12_weightInto) := goodIn_app (goodIn_k (is := [427, 428, 429, 5]) tie_wsX12_stepAlike rfl (by decide +kernel)) ggX12_stepAlike_X12_weightInto
set_option maxRecDepth 20000 in
theorem ggX12_stepAlike_X12_sumOf : GoodIn wsX12_stepAlike wsX12_sumOf := goodIn_k tie_wsX12_stepAlike tie_wsX12_sumOf (by decide +kernel)
set_option maxRecDepth 20000 in
theorem gX12_stepAlike_X12_sumOf : GoodIn wsX12_stepAlike (wsV RX12 143 RX12 yX12_sumOf wsX12_sumOf) := goodIn_app (goodIn_k (is := [431, 432, 433, 5]) tie_wsX12_stepAlike rfl (by decide +kernel)) ggX12_stepAlike_X12_sumOf
theorem dX12_stepAlike_0 : decode cX12_stepAlike 0 = .ok (.aload_n 0, 1) := by decide +kernel
theorem dX12_stepAlike_1 : decode cX12_stepAlike 1 = .ok (.getfield 19, 3) := by decide +kernel
theorem dX12_stepAlike_4 : decode cX12_stepAlike 4 = .ok (.iload_n 1, 1) := by decide +kernel
theorem dX12_stepAlike_5 : decode cX12_stepAlike 5 = .ok (.iaload, 1) := by decide +kernel
theorem dX12_stepAlike_6 : decode cX12_stepAlike 6 = .ok (.aload_n 0, 1) := by decide +kernel
theorem dX12_stepAlike_7 : decode cX12_stepAlike 7 = .ok (.getfield 19, 3) := by decide +kernel
theorem dX12_stepAlike_10 : decode cX12_stepAlike 10 = .ok (.iload_n 2, 1) := by decide +kernel
theorem dX12_stepAlike_11 : decode cX12_stepAlike 11 = .ok (.iaload, 1) := by decide +kernel
theorem dX12_stepAlike_12 : decode cX12_stepAlike 12 = .ok (.if_icmp .ne 7, 3) := by decide +kernel
theorem dX12_stepAlike_15 : decode cX12_stepAlike 15 = .ok (.iconst 1, 1) := by decide +kernel
theorem dX12_stepAlike_16 : decode cX12_stepAlike 16 = .ok (.goto 4, 3) := by decide +kernel
theorem dX12_stepAlike_19 : decode cX12_stepAlike 19 = .ok (.iconst 0, 1) := by decide +kernel
theorem dX12_stepAlike_20 : decode cX12_stepAlike 20 = .ok (.istore 4, 2) := by decide +kernel
theorem dX12_stepAlike_22 : decode cX12_stepAlike 22 = .ok (.iconst 0, 1) := by decide +kernel
theorem dX12_stepAlike_23 : decode cX12_stepAlike 23 = .ok (.istore 5, 2) := by decide +kernel
theorem dX12_stepAlike_25 : decode cX12_stepAlike 25 = .ok (.iload 5, 2) := by decide +kernel
theorem dX12_stepAlike_27 : decode cX12_stepAlike 27 = .ok (.iload_n 3, 1) := by decide +kernel
theorem dX12_stepAlike_28 : decode cX12_stepAlike 28 = .ok (.if_icmp .ge 58, 3) := by decide +kernel
theorem dX12_stepAlike_31 : decode cX12_stepAlike 31 = .ok (.iload 4, 2) := by decide +kernel
theorem dX12_stepAlike_33 : decode cX12_stepAlike 33 = .ok (.ifCond .eq 53, 3) := by decide +kernel
theorem dX12_stepAlike_36 : decode cX12_stepAlike 36 = .ok (.aload_n 0, 1) := by decide +kernel
theorem dX12_stepAlike_37 : decode cX12_stepAlike 37 = .ok (.iload_n 1, 1) := by decide +kernel
theorem dX12_stepAlike_38 : decode cX12_stepAlike 38 = .ok (.aload_n 0, 1) := by decide +kernel
theorem dX12_stepAlike_39 : decode cX12_stepAlike 39 = .ok (.iload 5, 2) := by decide +kernel
theorem dX12_stepAlike_41 : decode cX12_stepAlike 41 = .ok (.invokevirtual 137, 3) := by decide +kernel
theorem dX12_stepAlike_44 : decode cX12_stepAlike 44 = .ok (.invokevirtual 140, 3) := by decide +kernel
theorem dX12_stepAlike_47 : decode cX12_stepAlike 47 = .ok (.aload_n 0, 1) := by decide +kernel
theorem dX12_stepAlike_48 : decode cX12_stepAlike 48 = .ok (.iload_n 2, 1) := by decide +kernel
theorem dX12_stepAlike_49 : decode cX12_stepAlike 49 = .ok (.invokevirtual 143, 3) := by decide +kernel
theorem dX12_stepAlike_52 : decode cX12_stepAlike 52 = .ok (.imul, 1) := by decide +kernel
theorem dX12_stepAlike_53 : decode cX12_stepAlike 53 = .ok (.aload_n 0, 1) := by decide +kernel
theorem dX12_stepAlike_54 : decode cX12_stepAlike 54 = .ok (.iload_n 2, 1) := by decide +kernel
theorem dX12_stepAlike_55 : decode cX12_stepAlike 55 = .ok (.aload_n 0, 1) := by decide +kernel
theorem dX12_stepAlike_56 : decode cX12_stepAlike 56 = .ok (.iload 5, 2) := by decide +kernel
theorem dX12_stepAlike_58 : decode cX12_stepAlike 58 = .ok (.invokevirtual 137, 3) := by decide +kernel
theorem dX12_stepAlike_61 : decode cX12_stepAlike 61 = .ok (.invokevirtual 140, 3) := by decide +kernel
theorem dX12_stepAlike_64 : decode cX12_stepAlike 64 = .ok (.aload_n 0, 1) := by decide +kernel
theorem dX12_stepAlike_65 : decode cX12_stepAlike 65 = .ok (.iload_n 1, 1) := by decide +kernel
theorem dX12_stepAlike_66 : decode cX12_stepAlike 66 = .ok (.invokevirtual 143, 3) := by decide +kernel
theorem dX12_stepAlike_69 : decode cX12_stepAlike 69 = .ok (.imul, 1) := by decide +kernel
theorem dX12_stepAlike_70 : decode cX12_stepAlike 70 = .ok (.if_icmp .ne 7, 3) := by decide +kernel
theorem dX12_stepAlike_73 : decode cX12_stepAlike 73 = .ok (.iconst 1, 1) := by decide +kernel
theorem dX12_stepAlike_74 : decode cX12_stepAlike 74 = .ok (.goto 4, 3) := by decide +kernel
theorem dX12_stepAlike_77 : decode cX12_stepAlike 77 = .ok (.iconst 0, 1) := by decide +kernel
theorem dX12_stepAlike_78 : decode cX12_stepAlike 78 = .ok (.istore 4, 2) := by decide +kernel
theorem dX12_stepAlike_80 : decode cX12_stepAlike 80 = .ok (.iinc 5 1, 3) := by decide +kernel
theorem dX12_stepAlike_83 : decode cX12_stepAlike 83 = .ok (.goto (-58), 3) := by decide +kernel
theorem dX12_stepAlike_86 : decode cX12_stepAlike 86 = .ok (.iload 4, 2) := by decide +kernel
theorem dX12_stepAlike_88 : decode cX12_stepAlike 88 = .ok (.ireturn, 1) := by decide +kernel
theorem dX12_statesOf_0 : decode cX12_statesOf 0 = .ok (.iconst 0, 1) := by decide +kernel
theorem dX12_statesOf_1 : decode cX12_statesOf 1 = .ok (.istore_n 2, 1) := by decide +kernel
theorem dX12_statesOf_2 : decode cX12_statesOf 2 = .ok (.iconst 0, 1) := by decide +kernel
theorem dX12_statesOf_3 : decode cX12_statesOf 3 = .ok (.istore_n 3, 1) := by decide +kernel
theorem dX12_statesOf_4 : decode cX12_statesOf 4 = .ok (.iload_n 3, 1) := by decide +kernel
theorem dX12_statesOf_5 : decode cX12_statesOf 5 = .ok (.aload_n 0, 1) := by decide +kernel
theorem dX12_statesOf_6 : decode cX12_statesOf 6 = .ok (.getfield 9, 3) := by decide +kernel
theorem dX12_statesOf_9 : decode cX12_statesOf 9 = .ok (.iconst 0, 1) := by decide +kernel
theorem dX12_statesOf_10 : decode cX12_statesOf 10 = .ok (.iaload, 1) := by decide +kernel
theorem dX12_statesOf_11 : decode cX12_statesOf 11 = .ok (.if_icmp .ge 29, 3) := by decide +kernel
theorem dX12_statesOf_14 : decode cX12_statesOf 14 = .ok (.iload_n 2, 1) := by decide +kernel
theorem dX12_statesOf_15 : decode cX12_statesOf 15 = .ok (.aload_n 0, 1) := by decide +kernel
theorem dX12_statesOf_16 : decode cX12_statesOf 16 = .ok (.getfield 19, 3) := by decide +kernel
theorem dX12_statesOf_19 : decode cX12_statesOf 19 = .ok (.iload_n 3, 1) := by decide +kernel
theorem dX12_statesOf_20 : decode cX12_statesOf 20 = .ok (.iaload, 1) := by decide +kernel
theorem dX12_statesOf_21 : decode cX12_statesOf 21 = .ok (.iload_n 1, 1) := by decide +kernel
theorem dX12_statesOf_22 : decode cX12_statesOf 22 = .ok (.if_icmp .ne 9, 3) := by decide +kernel
theorem dX12_statesOf_25 : decode cX12_statesOf 25 = .ok (.iconst 1, 1) := by decide +kernel
theorem dX12_statesOf_26 : decode cX12_statesOf 26 = .ok (.iload_n 3, 1) := by decide +kernel
theorem dX12_statesOf_27 : decode cX12_statesOf 27 = .ok (.ishl, 1) := by decide +kernel
theorem dX12_statesOf_28 : decode cX12_statesOf 28 = .ok (.goto 4, 3) := by decide +kernel
theorem dX12_statesOf_31 : decode cX12_statesOf 31 = .ok (.iconst 0, 1) := by decide +kernel
theorem dX12_statesOf_32 : decode cX12_statesOf 32 = .ok (.ior, 1) := by decide +kernel
theorem dX12_statesOf_33 : decode cX12_statesOf 33 = .ok (.istore_n 2, 1) := by decide +kernel
theorem dX12_statesOf_34 : decode cX12_statesOf 34 = .ok (.iinc 3 1, 3) := by decide +kernel
theorem dX12_statesOf_37 : decode cX12_statesOf 37 = .ok (.goto (-33), 3) := by decide +kernel
theorem dX12_statesOf_40 : decode cX12_statesOf 40 = .ok (.iload_n 2, 1) := by decide +kernel
theorem dX12_statesOf_41 : decode cX12_statesOf 41 = .ok (.ireturn, 1) := by decide +kernel
set_option maxRecDepth 20000 in
theorem ggX12_findClasses_X12_stepAlike : GoodIn wsX12_findClasses wsX12_stepAlike := goodIn_k tie_wsX12_findClasses tie_wsX12_stepAlike (by decide +kernel)
