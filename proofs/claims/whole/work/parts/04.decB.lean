theorem dX11_init_0 : decode cX11_init 0 = .ok (.aload_n 0, 1) := by decide +kernel
theorem dX11_init_1 : decode cX11_init 1 = .ok (.invokespecial 1, 3) := by decide +kernel
theorem dX11_init_4 : decode cX11_init 4 = .ok (.new 7, 3) := by decide +kernel
theorem dX11_init_7 : decode cX11_init 7 = .ok (.dup, 1) := by decide +kernel
theorem dX11_init_8 : decode cX11_init 8 = .ok (.invokespecial 9, 3) := by decide +kernel
theorem dX11_init_11 : decode cX11_init 11 = .ok (.astore_n 1, 1) := by decide +kernel
theorem dX11_init_12 : decode cX11_init 12 = .ok (.aload_n 0, 1) := by decide +kernel
theorem dX11_init_13 : decode cX11_init 13 = .ok (.aload_n 1, 1) := by decide +kernel
theorem dX11_init_14 : decode cX11_init 14 = .ok (.putfield 10, 3) := by decide +kernel
theorem dX11_init_17 : decode cX11_init 17 = .ok (.aload_n 0, 1) := by decide +kernel
theorem dX11_init_18 : decode cX11_init 18 = .ok (.new 7, 3) := by decide +kernel
theorem dX11_init_21 : decode cX11_init 21 = .ok (.dup, 1) := by decide +kernel
theorem dX11_init_22 : decode cX11_init 22 = .ok (.invokespecial 9, 3) := by decide +kernel
theorem dX11_init_25 : decode cX11_init 25 = .ok (.putfield 16, 3) := by decide +kernel
theorem dX11_init_28 : decode cX11_init 28 = .ok (.aload_n 0, 1) := by decide +kernel
theorem dX11_init_29 : decode cX11_init 29 = .ok (.new 19, 3) := by decide +kernel
theorem dX11_init_32 : decode cX11_init 32 = .ok (.dup, 1) := by decide +kernel
theorem dX11_init_33 : decode cX11_init 33 = .ok (.invokespecial 21, 3) := by decide +kernel
theorem dX11_init_36 : decode cX11_init 36 = .ok (.putfield 22, 3) := by decide +kernel
theorem dX11_init_39 : decode cX11_init 39 = .ok (.aload_n 0, 1) := by decide +kernel
theorem dX11_init_40 : decode cX11_init 40 = .ok (.new 26, 3) := by decide +kernel
theorem dX11_init_43 : decode cX11_init 43 = .ok (.dup, 1) := by decide +kernel
theorem dX11_init_44 : decode cX11_init 44 = .ok (.aload_n 1, 1) := by decide +kernel
theorem dX11_init_45 : decode cX11_init 45 = .ok (.invokespecial 28, 3) := by decide +kernel
theorem dX11_init_48 : decode cX11_init 48 = .ok (.putfield 31, 3) := by decide +kernel
theorem dX11_init_51 : decode cX11_init 51 = .ok (.aload_n 0, 1) := by decide +kernel
theorem dX11_init_52 : decode cX11_init 52 = .ok (.new 35, 3) := by decide +kernel
theorem dX11_init_55 : decode cX11_init 55 = .ok (.dup, 1) := by decide +kernel
theorem dX11_init_56 : decode cX11_init 56 = .ok (.aload_n 1, 1) := by decide +kernel
theorem dX11_init_57 : decode cX11_init 57 = .ok (.invokespecial 37, 3) := by decide +kernel
theorem dX11_init_60 : decode cX11_init 60 = .ok (.putfield 38, 3) := by decide +kernel
theorem dX11_init_63 : decode cX11_init 63 = .ok (.aload_n 0, 1) := by decide +kernel
theorem dX11_init_64 : decode cX11_init 64 = .ok (.new 42, 3) := by decide +kernel
theorem dX11_init_67 : decode cX11_init 67 = .ok (.dup, 1) := by decide +kernel
theorem dX11_init_68 : decode cX11_init 68 = .ok (.aload_n 1, 1) := by decide +kernel
theorem dX11_init_69 : decode cX11_init 69 = .ok (.invokespecial 44, 3) := by decide +kernel
theorem dX11_init_72 : decode cX11_init 72 = .ok (.putfield 45, 3) := by decide +kernel
theorem dX11_init_75 : decode cX11_init 75 = .ok (.aload_n 0, 1) := by decide +kernel
theorem dX11_init_76 : decode cX11_init 76 = .ok (.new 49, 3) := by decide +kernel
theorem dX11_init_79 : decode cX11_init 79 = .ok (.dup, 1) := by decide +kernel
theorem dX11_init_80 : decode cX11_init 80 = .ok (.invokespecial 51, 3) := by decide +kernel
theorem dX11_init_83 : decode cX11_init 83 = .ok (.putfield 52, 3) := by decide +kernel
theorem dX11_init_86 : decode cX11_init 86 = .ok (.aload_n 0, 1) := by decide +kernel
theorem dX11_init_87 : decode cX11_init 87 = .ok (.bipush 6, 2) := by decide +kernel
theorem dX11_init_89 : decode cX11_init 89 = .ok (.anewarray 56, 3) := by decide +kernel
theorem dX11_init_92 : decode cX11_init 92 = .ok (.putfield 58, 3) := by decide +kernel
theorem dX11_init_95 : decode cX11_init 95 = .ok (.aload_n 0, 1) := by decide +kernel
theorem dX11_init_96 : decode cX11_init 96 = .ok (.iconst 0, 1) := by decide +kernel
theorem dX11_init_97 : decode cX11_init 97 = .ok (.putfield 62, 3) := by decide +kernel
theorem dX11_init_100 : decode cX11_init 100 = .ok (.aload_n 0, 1) := by decide +kernel
theorem dX11_init_101 : decode cX11_init 101 = .ok (.iconst 0, 1) := by decide +kernel
theorem dX11_init_102 : decode cX11_init 102 = .ok (.putfield 66, 3) := by decide +kernel
theorem dX11_init_105 : decode cX11_init 105 = .ok (.return_, 1) := by decide +kernel
set_option maxRecDepth 20000 in
theorem ggX11_addState_X2_size : GoodIn wsX11_addState wsX2_size := goodIn_k tie_wsX11_addState tie_wsX2_size (by decide +kernel)
set_option maxRecDepth 20000 in
theorem gX11_addState_X2_size : GoodIn wsX11_addState (wsV RX11 70 RX2 yX2_size wsX2_size) := goodIn_app (goodIn_k (is := [144, 145, 146, 14]) tie_wsX11_addState rfl (by decide +kernel)) ggX11_addState_X2_size
set_option maxRecDepth 20000 in
theorem ggX11_addState_X6_record : GoodIn wsX11_addState wsX6_record := goodIn_k tie_wsX11_addState tie_wsX6_record (by decide +kernel)
set_option maxRecDepth 20000 in
theorem gX11_addState_X6_record : GoodIn wsX11_addState (wsV RX11 74 RX6 yX6_record wsX6_record) := goodIn_app (goodIn_k (is := [149, 150, 151, 19]) tie_wsX11_addState rfl (by decide +kernel)) ggX11_addState_X6_record
set_option maxRecDepth 20000 in
theorem ggX11_addState_X2_grow : GoodIn wsX11_addState wsX2_grow := goodIn_k tie_wsX11_addState tie_wsX2_grow (by decide +kernel)
set_option maxRecDepth 20000 in
theorem gX11_addState_X2_grow : GoodIn wsX11_addState (wsV RX11 77 RX2 yX2_grow wsX2_grow) := goodIn_app (goodIn_k (is := [161, 162, 163, 14]) tie_wsX11_addState rfl (by decide +kernel)) ggX11_addState_X2_grow
theorem dX11_addState_0 : decode cX11_addState 0 = .ok (.aload_n 0, 1) := by decide +kernel
theorem dX11_addState_1 : decode cX11_addState 1 = .ok (.getfield 10, 3) := by decide +kernel
theorem dX11_addState_4 : decode cX11_addState 4 = .ok (.invokevirtual 70, 3) := by decide +kernel
theorem dX11_addState_7 : decode cX11_addState 7 = .ok (.bipush 8, 2) := by decide +kernel
theorem dX11_addState_9 : decode cX11_addState 9 = .ok (.if_icmp .lt 6, 3) := by decide +kernel
theorem dX11_addState_12 : decode cX11_addState 12 = .ok (.bipush (-3), 2) := by decide +kernel
theorem dX11_addState_14 : decode cX11_addState 14 = .ok (.ireturn, 1) := by decide +kernel
theorem dX11_addState_15 : decode cX11_addState 15 = .ok (.aload_n 0, 1) := by decide +kernel
theorem dX11_addState_16 : decode cX11_addState 16 = .ok (.getfield 22, 3) := by decide +kernel
theorem dX11_addState_19 : decode cX11_addState 19 = .ok (.aload_n 0, 1) := by decide +kernel
theorem dX11_addState_20 : decode cX11_addState 20 = .ok (.getfield 10, 3) := by decide +kernel
theorem dX11_addState_23 : decode cX11_addState 23 = .ok (.invokevirtual 74, 3) := by decide +kernel
theorem dX11_addState_26 : decode cX11_addState 26 = .ok (.aload_n 0, 1) := by decide +kernel
theorem dX11_addState_27 : decode cX11_addState 27 = .ok (.getfield 10, 3) := by decide +kernel
theorem dX11_addState_30 : decode cX11_addState 30 = .ok (.invokevirtual 77, 3) := by decide +kernel
theorem dX11_addState_33 : decode cX11_addState 33 = .ok (.aload_n 0, 1) := by decide +kernel
theorem dX11_addState_34 : decode cX11_addState 34 = .ok (.getfield 10, 3) := by decide +kernel
theorem dX11_addState_37 : decode cX11_addState 37 = .ok (.invokevirtual 70, 3) := by decide +kernel
theorem dX11_addState_40 : decode cX11_addState 40 = .ok (.iconst 1, 1) := by decide +kernel
theorem dX11_addState_41 : decode cX11_addState 41 = .ok (.isub, 1) := by decide +kernel
theorem dX11_addState_42 : decode cX11_addState 42 = .ok (.ireturn, 1) := by decide +kernel
set_option maxRecDepth 20000 in
theorem ggX11_removeState_X2_size : GoodIn wsX11_removeState wsX2_size := goodIn_k tie_wsX11_removeState tie_wsX2_size (by decide +kernel)
set_option maxRecDepth 20000 in
theorem gX11_removeState_X2_size : GoodIn wsX11_removeState (wsV RX11 70 RX2 yX2_size wsX2_size) := goodIn_app (goodIn_k (is := [144, 145, 146, 14]) tie_wsX11_removeState rfl (by decide +kernel)) ggX11_removeState_X2_size
set_option maxRecDepth 20000 in
theorem ggX11_removeState_X6_record : GoodIn wsX11_removeState wsX6_record := goodIn_k tie_wsX11_removeState tie_wsX6_record (by decide +kernel)
set_option maxRecDepth 20000 in
theorem gX11_removeState_X6_record : GoodIn wsX11_removeState (wsV RX11 74 RX6 yX6_record wsX6_record) := goodIn_app (goodIn_k (is := [149, 150, 151, 19]) tie_wsX11_removeState rfl (by decide +kernel)) ggX11_removeState_X6_record
set_option maxRecDepth 20000 in
theorem ggX11_removeState_X2_shrink : GoodIn wsX11_removeState wsX2_shrink := goodIn_k tie_wsX11_removeState tie_wsX2_shrink (by decide +kernel)
set_option maxRecDepth 20000 in
theorem gX11_removeState_X2_shrink : GoodIn wsX11_removeState (wsV RX11 80 RX2 yX2_shrink wsX2_shrink) := goodIn_app (goodIn_k (is := [182, 183, 184, 14]) tie_wsX11_removeState rfl (by decide +kernel)) ggX11_removeState_X2_shrink
theorem dX11_removeState_0 : decode cX11_removeState 0 = .ok (.aload_n 0, 1) := by decide +kernel
theorem dX11_removeState_1 : decode cX11_removeState 1 = .ok (.getfield 10, 3) := by decide +kernel
theorem dX11_removeState_4 : decode cX11_removeState 4 = .ok (.invokevirtual 70, 3) := by decide +kernel
theorem dX11_removeState_7 : decode cX11_removeState 7 = .ok (.ifCond .gt 6, 3) := by decide +kernel
theorem dX11_removeState_10 : decode cX11_removeState 10 = .ok (.bipush (-2), 2) := by decide +kernel
theorem dX11_removeState_12 : decode cX11_removeState 12 = .ok (.ireturn, 1) := by decide +kernel
theorem dX11_removeState_13 : decode cX11_removeState 13 = .ok (.aload_n 0, 1) := by decide +kernel
theorem dX11_removeState_14 : decode cX11_removeState 14 = .ok (.getfield 22, 3) := by decide +kernel
theorem dX11_removeState_17 : decode cX11_removeState 17 = .ok (.aload_n 0, 1) := by decide +kernel
theorem dX11_removeState_18 : decode cX11_removeState 18 = .ok (.getfield 10, 3) := by decide +kernel
theorem dX11_removeState_21 : decode cX11_removeState 21 = .ok (.invokevirtual 74, 3) := by decide +kernel
theorem dX11_removeState_24 : decode cX11_removeState 24 = .ok (.aload_n 0, 1) := by decide +kernel
theorem dX11_removeState_25 : decode cX11_removeState 25 = .ok (.getfield 10, 3) := by decide +kernel
theorem dX11_removeState_28 : decode cX11_removeState 28 = .ok (.invokevirtual 80, 3) := by decide +kernel
theorem dX11_removeState_31 : decode cX11_removeState 31 = .ok (.aload_n 0, 1) := by decide +kernel
theorem dX11_removeState_32 : decode cX11_removeState 32 = .ok (.getfield 10, 3) := by decide +kernel
theorem dX11_removeState_35 : decode cX11_removeState 35 = .ok (.invokevirtual 70, 3) := by decide +kernel
theorem dX11_removeState_38 : decode cX11_removeState 38 = .ok (.ireturn, 1) := by decide +kernel
set_option maxRecDepth 20000 in
theorem ggX11_stateCount_X2_size : GoodIn wsX11_stateCount wsX2_size := goodIn_k tie_wsX11_stateCount tie_wsX2_size (by decide +kernel)
set_option maxRecDepth 20000 in
theorem gX11_stateCount_X2_size : GoodIn wsX11_stateCount (wsV RX11 70 RX2 yX2_size wsX2_size) := goodIn_app (goodIn_k (is := [144, 145, 146, 14]) tie_wsX11_stateCount rfl (by decide +kernel)) ggX11_stateCount_X2_size
theorem dX11_stateCount_0 : decode cX11_stateCount 0 = .ok (.aload_n 0, 1) := by decide +kernel
theorem dX11_stateCount_1 : decode cX11_stateCount 1 = .ok (.getfield 10, 3) := by decide +kernel
theorem dX11_stateCount_4 : decode cX11_stateCount 4 = .ok (.invokevirtual 70, 3) := by decide +kernel
theorem dX11_stateCount_7 : decode cX11_stateCount 7 = .ok (.ireturn, 1) := by decide +kernel
set_option maxRecDepth 20000 in
theorem ggX11_setWeight_X2_has : GoodIn wsX11_setWeight wsX2_has := goodIn_k tie_wsX11_setWeight tie_wsX2_has (by decide +kernel)
set_option maxRecDepth 20000 in
theorem gX11_setWeight_X2_has : GoodIn wsX11_setWeight (wsV RX11 83 RX2 yX2_has wsX2_has) := goodIn_app (goodIn_k (is := [218, 191, 192, 14]) tie_wsX11_setWeight rfl (by decide +kernel)) ggX11_setWeight_X2_has
set_option maxRecDepth 20000 in
theorem ggX11_setWeight_X2_weightOf : GoodIn wsX11_setWeight wsX2_weightOf := goodIn_k tie_wsX11_setWeight tie_wsX2_weightOf (by decide +kernel)
set_option maxRecDepth 20000 in
theorem gX11_setWeight_X2_weightOf : GoodIn wsX11_setWeight (wsV RX11 87 RX2 yX2_weightOf wsX2_weightOf) := goodIn_app (goodIn_k (is := [219, 220, 221, 14]) tie_wsX11_setWeight rfl (by decide +kernel)) ggX11_setWeight_X2_weightOf
set_option maxRecDepth 20000 in
theorem ggX11_setWeight_X2_sumOf : GoodIn wsX11_setWeight wsX2_sumOf := goodIn_k tie_wsX11_setWeight tie_wsX2_sumOf (by decide +kernel)
set_option maxRecDepth 20000 in
theorem gX11_setWeight_X2_sumOf : GoodIn wsX11_setWeight (wsV RX11 91 RX2 yX2_sumOf wsX2_sumOf) := goodIn_app (goodIn_k (is := [223, 224, 225, 14]) tie_wsX11_setWeight rfl (by decide +kernel)) ggX11_setWeight_X2_sumOf
set_option maxRecDepth 20000 in
theorem ggX11_setWeight_X6_record : GoodIn wsX11_setWeight wsX6_record := goodIn_k tie_wsX11_setWeight tie_wsX6_record (by decide +kernel)
set_option maxRecDepth 20000 in
theorem gX11_setWeight_X6_record : GoodIn wsX11_setWeight (wsV RX11 74 RX6 yX6_record wsX6_record) := goodIn_app (goodIn_k (is := [149, 150, 151, 19]) tie_wsX11_setWeight rfl (by decide +kernel)) ggX11_setWeight_X6_record
set_option maxRecDepth 20000 in
theorem ggX11_setWeight_X2_putWeight : GoodIn wsX11_setWeight wsX2_putWeight := goodIn_k tie_wsX11_setWeight tie_wsX2_putWeight (by decide +kernel)
set_option maxRecDepth 20000 in
theorem gX11_setWeight_X2_putWeight : GoodIn wsX11_setWeight (wsV RX11 95 RX2 yX2_putWeight wsX2_putWeight) := goodIn_app (goodIn_k (is := [228, 187, 188, 14]) tie_wsX11_setWeight rfl (by decide +kernel)) ggX11_setWeight_X2_putWeight
theorem dX11_setWeight_0 : decode cX11_setWeight 0 = .ok (.aload_n 0, 1) := by decide +kernel
theorem dX11_setWeight_1 : decode cX11_setWeight 1 = .ok (.getfield 10, 3) := by decide +kernel
theorem dX11_setWeight_4 : decode cX11_setWeight 4 = .ok (.iload_n 1, 1) := by decide +kernel
theorem dX11_setWeight_5 : decode cX11_setWeight 5 = .ok (.invokevirtual 83, 3) := by decide +kernel
theorem dX11_setWeight_8 : decode cX11_setWeight 8 = .ok (.ifCond .eq 24, 3) := by decide +kernel
theorem dX11_setWeight_11 : decode cX11_setWeight 11 = .ok (.aload_n 0, 1) := by decide +kernel
theorem dX11_setWeight_12 : decode cX11_setWeight 12 = .ok (.getfield 10, 3) := by decide +kernel
theorem dX11_setWeight_15 : decode cX11_setWeight 15 = .ok (.iload_n 2, 1) := by decide +kernel
theorem dX11_setWeight_16 : decode cX11_setWeight 16 = .ok (.invokevirtual 83, 3) := by decide +kernel
theorem dX11_setWeight_19 : decode cX11_setWeight 19 = .ok (.ifCond .eq 13, 3) := by decide +kernel
theorem dX11_setWeight_22 : decode cX11_setWeight 22 = .ok (.iload_n 3, 1) := by decide +kernel
theorem dX11_setWeight_23 : decode cX11_setWeight 23 = .ok (.ifCond .lt 9, 3) := by decide +kernel
theorem dX11_setWeight_26 : decode cX11_setWeight 26 = .ok (.iload_n 3, 1) := by decide +kernel
theorem dX11_setWeight_27 : decode cX11_setWeight 27 = .ok (.bipush 9, 2) := by decide +kernel
theorem dX11_setWeight_29 : decode cX11_setWeight 29 = .ok (.if_icmp .le 5, 3) := by decide +kernel
theorem dX11_setWeight_32 : decode cX11_setWeight 32 = .ok (.iconst (-1), 1) := by decide +kernel
theorem dX11_setWeight_33 : decode cX11_setWeight 33 = .ok (.ireturn, 1) := by decide +kernel
theorem dX11_setWeight_34 : decode cX11_setWeight 34 = .ok (.aload_n 0, 1) := by decide +kernel
theorem dX11_setWeight_35 : decode cX11_setWeight 35 = .ok (.getfield 10, 3) := by decide +kernel
theorem dX11_setWeight_38 : decode cX11_setWeight 38 = .ok (.iload_n 1, 1) := by decide +kernel
theorem dX11_setWeight_39 : decode cX11_setWeight 39 = .ok (.iload_n 2, 1) := by decide +kernel
theorem dX11_setWeight_40 : decode cX11_setWeight 40 = .ok (.invokevirtual 87, 3) := by decide +kernel
theorem dX11_setWeight_43 : decode cX11_setWeight 43 = .ok (.istore 4, 2) := by decide +kernel
theorem dX11_setWeight_45 : decode cX11_setWeight 45 = .ok (.aload_n 0, 1) := by decide +kernel
theorem dX11_setWeight_46 : decode cX11_setWeight 46 = .ok (.getfield 10, 3) := by decide +kernel
theorem dX11_setWeight_49 : decode cX11_setWeight 49 = .ok (.iload_n 1, 1) := by decide +kernel
theorem dX11_setWeight_50 : decode cX11_setWeight 50 = .ok (.invokevirtual 91, 3) := by decide +kernel
theorem dX11_setWeight_53 : decode cX11_setWeight 53 = .ok (.iload 4, 2) := by decide +kernel
theorem dX11_setWeight_55 : decode cX11_setWeight 55 = .ok (.isub, 1) := by decide +kernel
theorem dX11_setWeight_56 : decode cX11_setWeight 56 = .ok (.iload_n 3, 1) := by decide +kernel
theorem dX11_setWeight_57 : decode cX11_setWeight 57 = .ok (.iadd, 1) := by decide +kernel
theorem dX11_setWeight_58 : decode cX11_setWeight 58 = .ok (.bipush 10, 2) := by decide +kernel
theorem dX11_setWeight_60 : decode cX11_setWeight 60 = .ok (.if_icmp .le 6, 3) := by decide +kernel
theorem dX11_setWeight_63 : decode cX11_setWeight 63 = .ok (.bipush (-3), 2) := by decide +kernel
theorem dX11_setWeight_65 : decode cX11_setWeight 65 = .ok (.ireturn, 1) := by decide +kernel
theorem dX11_setWeight_66 : decode cX11_setWeight 66 = .ok (.aload_n 0, 1) := by decide +kernel
theorem dX11_setWeight_67 : decode cX11_setWeight 67 = .ok (.getfield 22, 3) := by decide +kernel
theorem dX11_setWeight_70 : decode cX11_setWeight 70 = .ok (.aload_n 0, 1) := by decide +kernel
theorem dX11_setWeight_71 : decode cX11_setWeight 71 = .ok (.getfield 10, 3) := by decide +kernel
theorem dX11_setWeight_74 : decode cX11_setWeight 74 = .ok (.invokevirtual 74, 3) := by decide +kernel
theorem dX11_setWeight_77 : decode cX11_setWeight 77 = .ok (.aload_n 0, 1) := by decide +kernel
theorem dX11_setWeight_78 : decode cX11_setWeight 78 = .ok (.getfield 10, 3) := by decide +kernel
theorem dX11_setWeight_81 : decode cX11_setWeight 81 = .ok (.iload_n 1, 1) := by decide +kernel
theorem dX11_setWeight_82 : decode cX11_setWeight 82 = .ok (.iload_n 2, 1) := by decide +kernel
theorem dX11_setWeight_83 : decode cX11_setWeight 83 = .ok (.iload_n 3, 1) := by decide +kernel
theorem dX11_setWeight_84 : decode cX11_setWeight 84 = .ok (.invokevirtual 95, 3) := by decide +kernel
theorem dX11_setWeight_87 : decode cX11_setWeight 87 = .ok (.iload 4, 2) := by decide +kernel
theorem dX11_setWeight_89 : decode cX11_setWeight 89 = .ok (.ireturn, 1) := by decide +kernel
set_option maxRecDepth 20000 in
theorem ggX11_weight_X2_has : GoodIn wsX11_weight wsX2_has := goodIn_k tie_wsX11_weight tie_wsX2_has (by decide +kernel)
set_option maxRecDepth 20000 in
theorem gX11_weight_X2_has : GoodIn wsX11_weight (wsV RX11 83 RX2 yX2_has wsX2_has) := goodIn_app (goodIn_k (is := [218, 191, 192, 14]) tie_wsX11_weight rfl (by decide +kernel)) ggX11_weight_X2_has
set_option maxRecDepth 20000 in
theorem ggX11_weight_X2_weightOf : GoodIn wsX11_weight wsX2_weightOf := goodIn_k tie_wsX11_weight tie_wsX2_weightOf (by decide +kernel)
set_option maxRecDepth 20000 in
theorem gX11_weight_X2_weightOf : GoodIn wsX11_weight (wsV RX11 87 RX2 yX2_weightOf wsX2_weightOf) := goodIn_app (goodIn_k (is := [219, 220, 221, 14]) tie_wsX11_weight rfl (by decide +kernel)) ggX11_weight_X2_weightOf
theorem dX11_weight_0 : decode cX11_weight 0 = .ok (.aload_n 0, 1) := by decide +kernel
theorem dX11_weight_1 : decode cX11_weight 1 = .ok (.getfield 10, 3) := by decide +kernel
theorem dX11_weight_4 : decode cX11_weight 4 = .ok (.iload_n 1, 1) := by decide +kernel
theorem dX11_weight_5 : decode cX11_weight 5 = .ok (.invokevirtual 83, 3) := by decide +kernel
theorem dX11_weight_8 : decode cX11_weight 8 = .ok (.ifCond .eq 26, 3) := by decide +kernel
theorem dX11_weight_11 : decode cX11_weight 11 = .ok (.aload_n 0, 1) := by decide +kernel
theorem dX11_weight_12 : decode cX11_weight 12 = .ok (.getfield 10, 3) := by decide +kernel
theorem dX11_weight_15 : decode cX11_weight 15 = .ok (.iload_n 2, 1) := by decide +kernel
theorem dX11_weight_16 : decode cX11_weight 16 = .ok (.invokevirtual 83, 3) := by decide +kernel
theorem dX11_weight_19 : decode cX11_weight 19 = .ok (.ifCond .eq 15, 3) := by decide +kernel
theorem dX11_weight_22 : decode cX11_weight 22 = .ok (.aload_n 0, 1) := by decide +kernel
theorem dX11_weight_23 : decode cX11_weight 23 = .ok (.getfield 10, 3) := by decide +kernel
theorem dX11_weight_26 : decode cX11_weight 26 = .ok (.iload_n 1, 1) := by decide +kernel
theorem dX11_weight_27 : decode cX11_weight 27 = .ok (.iload_n 2, 1) := by decide +kernel
theorem dX11_weight_28 : decode cX11_weight 28 = .ok (.invokevirtual 87, 3) := by decide +kernel
theorem dX11_weight_31 : decode cX11_weight 31 = .ok (.goto 4, 3) := by decide +kernel
theorem dX11_weight_34 : decode cX11_weight 34 = .ok (.iconst (-1), 1) := by decide +kernel
theorem dX11_weight_35 : decode cX11_weight 35 = .ok (.ireturn, 1) := by decide +kernel
set_option maxRecDepth 20000 in
theorem ggX11_sum_X2_has : GoodIn wsX11_sum wsX2_has := goodIn_k tie_wsX11_sum tie_wsX2_has (by decide +kernel)
set_option maxRecDepth 20000 in
theorem gX11_sum_X2_has : GoodIn wsX11_sum (wsV RX11 83 RX2 yX2_has wsX2_has) := goodIn_app (goodIn_k (is := [218, 191, 192, 14]) tie_wsX11_sum rfl (by decide +kernel)) ggX11_sum_X2_has
set_option maxRecDepth 20000 in
theorem ggX11_sum_X2_sumOf : GoodIn wsX11_sum wsX2_sumOf := goodIn_k tie_wsX11_sum tie_wsX2_sumOf (by decide +kernel)
set_option maxRecDepth 20000 in
theorem gX11_sum_X2_sumOf : GoodIn wsX11_sum (wsV RX11 91 RX2 yX2_sumOf wsX2_sumOf) := goodIn_app (goodIn_k (is := [223, 224, 225, 14]) tie_wsX11_sum rfl (by decide +kernel)) ggX11_sum_X2_sumOf
theorem dX11_sum_0 : decode cX11_sum 0 = .ok (.aload_n 0, 1) := by decide +kernel
theorem dX11_sum_1 : decode cX11_sum 1 = .ok (.getfield 10, 3) := by decide +kernel
theorem dX11_sum_4 : decode cX11_sum 4 = .ok (.iload_n 1, 1) := by decide +kernel
theorem dX11_sum_5 : decode cX11_sum 5 = .ok (.invokevirtual 83, 3) := by decide +kernel
theorem dX11_sum_8 : decode cX11_sum 8 = .ok (.ifCond .eq 14, 3) := by decide +kernel
theorem dX11_sum_11 : decode cX11_sum 11 = .ok (.aload_n 0, 1) := by decide +kernel
theorem dX11_sum_12 : decode cX11_sum 12 = .ok (.getfield 10, 3) := by decide +kernel
theorem dX11_sum_15 : decode cX11_sum 15 = .ok (.iload_n 1, 1) := by decide +kernel
theorem dX11_sum_16 : decode cX11_sum 16 = .ok (.invokevirtual 91, 3) := by decide +kernel
theorem dX11_sum_19 : decode cX11_sum 19 = .ok (.goto 4, 3) := by decide +kernel
theorem dX11_sum_22 : decode cX11_sum 22 = .ok (.iconst (-1), 1) := by decide +kernel
theorem dX11_sum_23 : decode cX11_sum 23 = .ok (.ireturn, 1) := by decide +kernel
set_option maxRecDepth 20000 in
theorem ggX11_setLabels_X2_has : GoodIn wsX11_setLabels wsX2_has := goodIn_k tie_wsX11_setLabels tie_wsX2_has (by decide +kernel)
set_option maxRecDepth 20000 in
theorem gX11_setLabels_X2_has : GoodIn wsX11_setLabels (wsV RX11 83 RX2 yX2_has wsX2_has) := goodIn_app (goodIn_k (is := [218, 191, 192, 14]) tie_wsX11_setLabels rfl (by decide +kernel)) ggX11_setLabels_X2_has
set_option maxRecDepth 20000 in
theorem ggX11_setLabels_X2_labelsOf : GoodIn wsX11_setLabels wsX2_labelsOf := goodIn_k tie_wsX11_setLabels tie_wsX2_labelsOf (by decide +kernel)
set_option maxRecDepth 20000 in
theorem gX11_setLabels_X2_labelsOf : GoodIn wsX11_setLabels (wsV RX11 99 RX2 yX2_labelsOf wsX2_labelsOf) := goodIn_app (goodIn_k (is := [264, 265, 266, 14]) tie_wsX11_setLabels rfl (by decide +kernel)) ggX11_setLabels_X2_labelsOf
set_option maxRecDepth 20000 in
theorem ggX11_setLabels_X6_record : GoodIn wsX11_setLabels wsX6_record := goodIn_k tie_wsX11_setLabels tie_wsX6_record (by decide +kernel)
set_option maxRecDepth 20000 in
theorem gX11_setLabels_X6_record : GoodIn wsX11_setLabels (wsV RX11 74 RX6 yX6_record wsX6_record) := goodIn_app (goodIn_k (is := [149, 150, 151, 19]) tie_wsX11_setLabels rfl (by decide +kernel)) ggX11_setLabels_X6_record
set_option maxRecDepth 20000 in
theorem ggX11_setLabels_X2_putLabels : GoodIn wsX11_setLabels wsX2_putLabels := goodIn_k tie_wsX11_setLabels tie_wsX2_putLabels (by decide +kernel)
set_option maxRecDepth 20000 in
theorem gX11_setLabels_X2_putLabels : GoodIn wsX11_setLabels (wsV RX11 102 RX2 yX2_putLabels wsX2_putLabels) := goodIn_app (goodIn_k (is := [268, 195, 196, 14]) tie_wsX11_setLabels rfl (by decide +kernel)) ggX11_setLabels_X2_putLabels
theorem dX11_setLabels_0 : decode cX11_setLabels 0 = .ok (.aload_n 0, 1) := by decide +kernel
theorem dX11_setLabels_1 : decode cX11_setLabels 1 = .ok (.getfield 10, 3) := by decide +kernel
theorem dX11_setLabels_4 : decode cX11_setLabels 4 = .ok (.iload_n 1, 1) := by decide +kernel
theorem dX11_setLabels_5 : decode cX11_setLabels 5 = .ok (.invokevirtual 83, 3) := by decide +kernel
theorem dX11_setLabels_8 : decode cX11_setLabels 8 = .ok (.ifCond .eq 13, 3) := by decide +kernel
theorem dX11_setLabels_11 : decode cX11_setLabels 11 = .ok (.iload_n 2, 1) := by decide +kernel
theorem dX11_setLabels_12 : decode cX11_setLabels 12 = .ok (.ifCond .lt 9, 3) := by decide +kernel
theorem dX11_setLabels_15 : decode cX11_setLabels 15 = .ok (.iload_n 2, 1) := by decide +kernel
theorem dX11_setLabels_16 : decode cX11_setLabels 16 = .ok (.bipush 15, 2) := by decide +kernel
theorem dX11_setLabels_18 : decode cX11_setLabels 18 = .ok (.if_icmp .le 5, 3) := by decide +kernel
theorem dX11_setLabels_21 : decode cX11_setLabels 21 = .ok (.iconst (-1), 1) := by decide +kernel
theorem dX11_setLabels_22 : decode cX11_setLabels 22 = .ok (.ireturn, 1) := by decide +kernel
theorem dX11_setLabels_23 : decode cX11_setLabels 23 = .ok (.aload_n 0, 1) := by decide +kernel
theorem dX11_setLabels_24 : decode cX11_setLabels 24 = .ok (.getfield 10, 3) := by decide +kernel
theorem dX11_setLabels_27 : decode cX11_setLabels 27 = .ok (.iload_n 1, 1) := by decide +kernel
theorem dX11_setLabels_28 : decode cX11_setLabels 28 = .ok (.invokevirtual 99, 3) := by decide +kernel
theorem dX11_setLabels_31 : decode cX11_setLabels 31 = .ok (.istore_n 3, 1) := by decide +kernel
theorem dX11_setLabels_32 : decode cX11_setLabels 32 = .ok (.aload_n 0, 1) := by decide +kernel
theorem dX11_setLabels_33 : decode cX11_setLabels 33 = .ok (.getfield 22, 3) := by decide +kernel
theorem dX11_setLabels_36 : decode cX11_setLabels 36 = .ok (.aload_n 0, 1) := by decide +kernel
theorem dX11_setLabels_37 : decode cX11_setLabels 37 = .ok (.getfield 10, 3) := by decide +kernel
theorem dX11_setLabels_40 : decode cX11_setLabels 40 = .ok (.invokevirtual 74, 3) := by decide +kernel
theorem dX11_setLabels_43 : decode cX11_setLabels 43 = .ok (.aload_n 0, 1) := by decide +kernel
theorem dX11_setLabels_44 : decode cX11_setLabels 44 = .ok (.getfield 10, 3) := by decide +kernel
theorem dX11_setLabels_47 : decode cX11_setLabels 47 = .ok (.iload_n 1, 1) := by decide +kernel
theorem dX11_setLabels_48 : decode cX11_setLabels 48 = .ok (.iload_n 2, 1) := by decide +kernel
theorem dX11_setLabels_49 : decode cX11_setLabels 49 = .ok (.invokevirtual 102, 3) := by decide +kernel
theorem dX11_setLabels_52 : decode cX11_setLabels 52 = .ok (.iload_n 3, 1) := by decide +kernel
theorem dX11_setLabels_53 : decode cX11_setLabels 53 = .ok (.ireturn, 1) := by decide +kernel
set_option maxRecDepth 20000 in
theorem ggX11_labels_X2_has : GoodIn wsX11_labels wsX2_has := goodIn_k tie_wsX11_labels tie_wsX2_has (by decide +kernel)
set_option maxRecDepth 20000 in
theorem gX11_labels_X2_has : GoodIn wsX11_labels (wsV RX11 83 RX2 yX2_has wsX2_has) := goodIn_app (goodIn_k (is := [218, 191, 192, 14]) tie_wsX11_labels rfl (by decide +kernel)) ggX11_labels_X2_has
set_option maxRecDepth 20000 in
theorem ggX11_labels_X2_labelsOf : GoodIn wsX11_labels wsX2_labelsOf := goodIn_k tie_wsX11_labels tie_wsX2_labelsOf (by decide +kernel)
set_option maxRecDepth 20000 in
theorem gX11_labels_X2_labelsOf : GoodIn wsX11_labels (wsV RX11 99 RX2 yX2_labelsOf wsX2_labelsOf) := goodIn_app (goodIn_k (is := [264, 265, 266, 14]) tie_wsX11_labels rfl (by decide +kernel)) ggX11_labels_X2_labelsOf
theorem dX11_labels_0 : decode cX11_labels 0 = .ok (.aload_n 0, 1) := by decide +kernel
theorem dX11_labels_1 : decode cX11_labels 1 = .ok (.getfield 10, 3) := by decide +kernel
theorem dX11_labels_4 : decode cX11_labels 4 = .ok (.iload_n 1, 1) := by decide +kernel
theorem dX11_labels_5 : decode cX11_labels 5 = .ok (.invokevirtual 83, 3) := by decide +kernel
theorem dX11_labels_8 : decode cX11_labels 8 = .ok (.ifCond .eq 14, 3) := by decide +kernel
theorem dX11_labels_11 : decode cX11_labels 11 = .ok (.aload_n 0, 1) := by decide +kernel
theorem dX11_labels_12 : decode cX11_labels 12 = .ok (.getfield 10, 3) := by decide +kernel
theorem dX11_labels_15 : decode cX11_labels 15 = .ok (.iload_n 1, 1) := by decide +kernel
theorem dX11_labels_16 : decode cX11_labels 16 = .ok (.invokevirtual 99, 3) := by decide +kernel
theorem dX11_labels_19 : decode cX11_labels 19 = .ok (.goto 4, 3) := by decide +kernel
theorem dX11_labels_22 : decode cX11_labels 22 = .ok (.iconst (-1), 1) := by decide +kernel
theorem dX11_labels_23 : decode cX11_labels 23 = .ok (.ireturn, 1) := by decide +kernel
set_option maxRecDepth 20000 in
theorem ggX11_setReward_X2_has : GoodIn wsX11_setReward wsX2_has := goodIn_k tie_wsX11_setReward tie_wsX2_has (by decide +kernel)
set_option maxRecDepth 20000 in
theorem gX11_setReward_X2_has : GoodIn wsX11_setReward (wsV RX11 83 RX2 yX2_has wsX2_has) := goodIn_app (goodIn_k (is := [218, 191, 192, 14]) tie_wsX11_setReward rfl (by decide +kernel)) ggX11_setReward_X2_has
set_option maxRecDepth 20000 in
theorem ggX11_setReward_X2_rewardOf : GoodIn wsX11_setReward wsX2_rewardOf := goodIn_k tie_wsX11_setReward tie_wsX2_rewardOf (by decide +kernel)
set_option maxRecDepth 20000 in
theorem gX11_setReward_X2_rewardOf : GoodIn wsX11_setReward (wsV RX11 106 RX2 yX2_rewardOf wsX2_rewardOf) := goodIn_app (goodIn_k (is := [285, 286, 287, 14]) tie_wsX11_setReward rfl (by decide +kernel)) ggX11_setReward_X2_rewardOf
set_option maxRecDepth 20000 in
theorem ggX11_setReward_X6_record : GoodIn wsX11_setReward wsX6_record := goodIn_k tie_wsX11_setReward tie_wsX6_record (by decide +kernel)
set_option maxRecDepth 20000 in
theorem gX11_setReward_X6_record : GoodIn wsX11_setReward (wsV RX11 74 RX6 yX6_record wsX6_record) := goodIn_app (goodIn_k (is := [149, 150, 151, 19]) tie_wsX11_setReward rfl (by decide +kernel)) ggX11_setReward_X6_record
set_option maxRecDepth 20000 in
theorem ggX11_setReward_X2_putReward : GoodIn wsX11_setReward wsX2_putReward := goodIn_k tie_wsX11_setReward tie_wsX2_putReward (by decide +kernel)
set_option maxRecDepth 20000 in
theorem gX11_setReward_X2_putReward : GoodIn wsX11_setReward (wsV RX11 109 RX2 yX2_putReward wsX2_putReward) := goodIn_app (goodIn_k (is := [289, 199, 200, 14]) tie_wsX11_setReward rfl (by decide +kernel)) ggX11_setReward_X2_putReward
theorem dX11_setReward_0 : decode cX11_setReward 0 = .ok (.aload_n 0, 1) := by decide +kernel
theorem dX11_setReward_1 : decode cX11_setReward 1 = .ok (.getfield 10, 3) := by decide +kernel
theorem dX11_setReward_4 : decode cX11_setReward 4 = .ok (.iload_n 1, 1) := by decide +kernel
theorem dX11_setReward_5 : decode cX11_setReward 5 = .ok (.invokevirtual 83, 3) := by decide +kernel
theorem dX11_setReward_8 : decode cX11_setReward 8 = .ok (.ifCond .eq 13, 3) := by decide +kernel
theorem dX11_setReward_11 : decode cX11_setReward 11 = .ok (.iload_n 2, 1) := by decide +kernel
theorem dX11_setReward_12 : decode cX11_setReward 12 = .ok (.ifCond .lt 9, 3) := by decide +kernel
theorem dX11_setReward_15 : decode cX11_setReward 15 = .ok (.iload_n 2, 1) := by decide +kernel
theorem dX11_setReward_16 : decode cX11_setReward 16 = .ok (.bipush 9, 2) := by decide +kernel
theorem dX11_setReward_18 : decode cX11_setReward 18 = .ok (.if_icmp .le 5, 3) := by decide +kernel
theorem dX11_setReward_21 : decode cX11_setReward 21 = .ok (.iconst (-1), 1) := by decide +kernel
theorem dX11_setReward_22 : decode cX11_setReward 22 = .ok (.ireturn, 1) := by decide +kernel
theorem dX11_setReward_23 : decode cX11_setReward 23 = .ok (.aload_n 0, 1) := by decide +kernel
theorem dX11_setReward_24 : decode cX11_setReward 24 = .ok (.getfield 10, 3) := by decide +kernel
theorem dX11_setReward_27 : decode cX11_setReward 27 = .ok (.iload_n 1, 1) := by decide +kernel
theorem dX11_setReward_28 : decode cX11_setReward 28 = .ok (.invokevirtual 106, 3) := by decide +kernel
theorem dX11_setReward_31 : decode cX11_setReward 31 = .ok (.istore_n 3, 1) := by decide +kernel
theorem dX11_setReward_32 : decode cX11_setReward 32 = .ok (.aload_n 0, 1) := by decide +kernel
theorem dX11_setReward_33 : decode cX11_setReward 33 = .ok (.getfield 22, 3) := by decide +kernel
theorem dX11_setReward_36 : decode cX11_setReward 36 = .ok (.aload_n 0, 1) := by decide +kernel
theorem dX11_setReward_37 : decode cX11_setReward 37 = .ok (.getfield 10, 3) := by decide +kernel
theorem dX11_setReward_40 : decode cX11_setReward 40 = .ok (.invokevirtual 74, 3) := by decide +kernel
theorem dX11_setReward_43 : decode cX11_setReward 43 = .ok (.aload_n 0, 1) := by decide +kernel
theorem dX11_setReward_44 : decode cX11_setReward 44 = .ok (.getfield 10, 3) := by decide +kernel
theorem dX11_setReward_47 : decode cX11_setReward 47 = .ok (.iload_n 1, 1) := by decide +kernel
theorem dX11_setReward_48 : decode cX11_setReward 48 = .ok (.iload_n 2, 1) := by decide +kernel
theorem dX11_setReward_49 : decode cX11_setReward 49 = .ok (.invokevirtual 109, 3) := by decide +kernel
theorem dX11_setReward_52 : decode cX11_setReward 52 = .ok (.iload_n 3, 1) := by decide +kernel
theorem dX11_setReward_53 : decode cX11_setReward 53 = .ok (.ireturn, 1) := by decide +kernel
set_option maxRecDepth 20000 in
theorem ggX11_reward_X2_has : GoodIn wsX11_reward wsX2_has := goodIn_k tie_wsX11_reward tie_wsX2_has (by decide +kernel)
set_option maxRecDepth 20000 in
theorem gX11_reward_X2_has : GoodIn wsX11_reward (wsV RX11 83 RX2 yX2_has wsX2_has) := goodIn_app (goodIn_k (is := [218, 191, 192, 14]) tie_wsX11_reward rfl (by decide +kernel)) ggX11_reward_X2_has
set_option maxRecDepth 20000 in
theorem ggX11_reward_X2_rewardOf : GoodIn wsX11_reward wsX2_rewardOf := goodIn_k tie_wsX11_reward tie_wsX2_rewardOf (by decide +kernel)
set_option maxRecDepth 20000 in
theorem gX11_reward_X2_rewardOf : GoodIn wsX11_reward (wsV RX11 106 RX2 yX2_rewardOf wsX2_rewardOf) := goodIn_app (goodIn_k (is := [285, 286, 287, 14]) tie_wsX11_reward rfl (by decide +kernel)) ggX11_reward_X2_rewardOf
theorem dX11_reward_0 : decode cX11_reward 0 = .ok (.aload_n 0, 1) := by decide +kernel
theorem dX11_reward_1 : decode cX11_reward 1 = .ok (.getfield 10, 3) := by decide +kernel
theorem dX11_reward_4 : decode cX11_reward 4 = .ok (.iload_n 1, 1) := by decide +kernel
theorem dX11_reward_5 : decode cX11_reward 5 = .ok (.invokevirtual 83, 3) := by decide +kernel
theorem dX11_reward_8 : decode cX11_reward 8 = .ok (.ifCond .eq 14, 3) := by decide +kernel
theorem dX11_reward_11 : decode cX11_reward 11 = .ok (.aload_n 0, 1) := by decide +kernel
theorem dX11_reward_12 : decode cX11_reward 12 = .ok (.getfield 10, 3) := by decide +kernel
theorem dX11_reward_15 : decode cX11_reward 15 = .ok (.iload_n 1, 1) := by decide +kernel
theorem dX11_reward_16 : decode cX11_reward 16 = .ok (.invokevirtual 106, 3) := by decide +kernel
theorem dX11_reward_19 : decode cX11_reward 19 = .ok (.goto 4, 3) := by decide +kernel
theorem dX11_reward_22 : decode cX11_reward 22 = .ok (.iconst (-1), 1) := by decide +kernel
theorem dX11_reward_23 : decode cX11_reward 23 = .ok (.ireturn, 1) := by decide +kernel
set_option maxRecDepth 20000 in
theorem ggX11_reaches_X2_has : GoodIn wsX11_reaches wsX2_has := goodIn_k tie_wsX11_reaches tie_wsX2_has (by decide +kernel)
set_option maxRecDepth 20000 in
theorem gX11_reaches_X2_has : GoodIn wsX11_reaches (wsV RX11 83 RX2 yX2_has wsX2_has) := goodIn_app (goodIn_k (is := [218, 191, 192, 14]) tie_wsX11_reaches rfl (by decide +kernel)) ggX11_reaches_X2_has
set_option maxRecDepth 20000 in
theorem ggX11_reaches_X2_reachedFrom : GoodIn wsX11_reaches wsX2_reachedFrom := goodIn_k tie_wsX11_reaches tie_wsX2_reachedFrom (by decide +kernel)
set_option maxRecDepth 20000 in
theorem gX11_reaches_X2_reachedFrom : GoodIn wsX11_reaches (wsV RX11 112 RX2 yX2_reachedFrom wsX2_reachedFrom) := goodIn_app (goodIn_k (is := [306, 307, 308, 14]) tie_wsX11_reaches rfl (by decide +kernel)) ggX11_reaches_X2_reachedFrom
theorem dX11_reaches_0 : decode cX11_reaches 0 = .ok (.aload_n 0, 1) := by decide +kernel
theorem dX11_reaches_1 : decode cX11_reaches 1 = .ok (.getfield 10, 3) := by decide +kernel
theorem dX11_reaches_4 : decode cX11_reaches 4 = .ok (.iload_n 1, 1) := by decide +kernel
theorem dX11_reaches_5 : decode cX11_reaches 5 = .ok (.invokevirtual 83, 3) := by decide +kernel
theorem dX11_reaches_8 : decode cX11_reaches 8 = .ok (.ifCond .eq 14, 3) := by decide +kernel
theorem dX11_reaches_11 : decode cX11_reaches 11 = .ok (.aload_n 0, 1) := by decide +kernel
theorem dX11_reaches_12 : decode cX11_reaches 12 = .ok (.getfield 10, 3) := by decide +kernel
theorem dX11_reaches_15 : decode cX11_reaches 15 = .ok (.iload_n 1, 1) := by decide +kernel
theorem dX11_reaches_16 : decode cX11_reaches 16 = .ok (.invokevirtual 112, 3) := by decide +kernel
theorem dX11_reaches_19 : decode cX11_reaches 19 = .ok (.goto 4, 3) := by decide +kernel
theorem dX11_reaches_22 : decode cX11_reaches 22 = .ok (.iconst (-1), 1) := by decide +kernel
theorem dX11_reaches_23 : decode cX11_reaches 23 = .ok (.ireturn, 1) := by decide +kernel
set_option maxRecDepth 20000 in
theorem ggX11_component_X2_has : GoodIn wsX11_component wsX2_has := goodIn_k tie_wsX11_component tie_wsX2_has (by decide +kernel)
set_option maxRecDepth 20000 in
theorem gX11_component_X2_has : GoodIn wsX11_component (wsV RX11 83 RX2 yX2_has wsX2_has) := goodIn_app (goodIn_k (is := [218, 191, 192, 14]) tie_wsX11_component rfl (by decide +kernel)) ggX11_component_X2_has
set_option maxRecDepth 20000 in
theorem ggX11_component_X2_componentOf : GoodIn wsX11_component wsX2_componentOf := goodIn_k tie_wsX11_component tie_wsX2_componentOf (by decide +kernel)
set_option maxRecDepth 20000 in
theorem gX11_component_X2_componentOf : GoodIn wsX11_component (wsV RX11 115 RX2 yX2_componentOf wsX2_componentOf) := goodIn_app (goodIn_k (is := [335, 336, 337, 14]) tie_wsX11_component rfl (by decide +kernel)) ggX11_component_X2_componentOf
theorem dX11_component_0 : decode cX11_component 0 = .ok (.aload_n 0, 1) := by decide +kernel
theorem dX11_component_1 : decode cX11_component 1 = .ok (.getfield 10, 3) := by decide +kernel
theorem dX11_component_4 : decode cX11_component 4 = .ok (.iload_n 1, 1) := by decide +kernel
theorem dX11_component_5 : decode cX11_component 5 = .ok (.invokevirtual 83, 3) := by decide +kernel
theorem dX11_component_8 : decode cX11_component 8 = .ok (.ifCond .eq 14, 3) := by decide +kernel
theorem dX11_component_11 : decode cX11_component 11 = .ok (.aload_n 0, 1) := by decide +kernel
theorem dX11_component_12 : decode cX11_component 12 = .ok (.getfield 10, 3) := by decide +kernel
theorem dX11_component_15 : decode cX11_component 15 = .ok (.iload_n 1, 1) := by decide +kernel
theorem dX11_component_16 : decode cX11_component 16 = .ok (.invokevirtual 115, 3) := by decide +kernel
theorem dX11_component_19 : decode cX11_component 19 = .ok (.goto 4, 3) := by decide +kernel
theorem dX11_component_22 : decode cX11_component 22 = .ok (.iconst (-1), 1) := by decide +kernel
theorem dX11_component_23 : decode cX11_component 23 = .ok (.ireturn, 1) := by decide +kernel
set_option maxRecDepth 20000 in
theorem ggX11_bottoms_X2_bottomStates : GoodIn wsX11_bottoms wsX2_bottomStates := goodIn_k tie_wsX11_bottoms tie_wsX2_bottomStates (by decide +kernel)
set_option maxRecDepth 20000 in
theorem gX11_bottoms_X2_bottomStates : GoodIn wsX11_bottoms (wsV RX11 118 RX2 yX2_bottomStates wsX2_bottomStates) := goodIn_app (goodIn_k (is := [352, 353, 354, 14]) tie_wsX11_bottoms rfl (by decide +kernel)) ggX11_bottoms_X2_bottomStates
theorem dX11_bottoms_0 : decode cX11_bottoms 0 = .ok (.aload_n 0, 1) := by decide +kernel
theorem dX11_bottoms_1 : decode cX11_bottoms 1 = .ok (.getfield 10, 3) := by decide +kernel
theorem dX11_bottoms_4 : decode cX11_bottoms 4 = .ok (.invokevirtual 118, 3) := by decide +kernel
theorem dX11_bottoms_7 : decode cX11_bottoms 7 = .ok (.ireturn, 1) := by decide +kernel
set_option maxRecDepth 20000 in
theorem ggX11_classCount_X7_refine : GoodIn wsX11_classCount wsX7_refine := goodIn_k tie_wsX11_classCount tie_wsX7_refine (by decide +kernel)
set_option maxRecDepth 20000 in
theorem gX11_classCount_X7_refine : GoodIn wsX11_classCount (wsV RX11 121 RX7 yX7_refine wsX7_refine) := goodIn_app (goodIn_k (is := [372, 373, 374, 23]) tie_wsX11_classCount rfl (by decide +kernel)) ggX11_classCount_X7_refine
set_option maxRecDepth 20000 in
theorem ggX11_classCount_X7_total : GoodIn wsX11_classCount wsX7_total := goodIn_k tie_wsX11_classCount tie_wsX7_total (by decide +kernel)
set_option maxRecDepth 20000 in
theorem gX11_classCount_X7_total : GoodIn wsX11_classCount (wsV RX11 124 RX7 yX7_total wsX7_total) := goodIn_app (goodIn_k (is := [407, 408, 409, 23]) tie_wsX11_classCount rfl (by decide +kernel)) ggX11_classCount_X7_total
theorem dX11_classCount_0 : decode cX11_classCount 0 = .ok (.aload_n 0, 1) := by decide +kernel
theorem dX11_classCount_1 : decode cX11_classCount 1 = .ok (.getfield 31, 3) := by decide +kernel
theorem dX11_classCount_4 : decode cX11_classCount 4 = .ok (.invokevirtual 121, 3) := by decide +kernel
theorem dX11_classCount_7 : decode cX11_classCount 7 = .ok (.aload_n 0, 1) := by decide +kernel
theorem dX11_classCount_8 : decode cX11_classCount 8 = .ok (.getfield 31, 3) := by decide +kernel
theorem dX11_classCount_11 : decode cX11_classCount 11 = .ok (.invokevirtual 124, 3) := by decide +kernel
theorem dX11_classCount_14 : decode cX11_classCount 14 = .ok (.ireturn, 1) := by decide +kernel
set_option maxRecDepth 20000 in
theorem ggX11_classOf_X2_has : GoodIn wsX11_classOf wsX2_has := goodIn_k tie_wsX11_classOf tie_wsX2_has (by decide +kernel)
set_option maxRecDepth 20000 in
theorem gX11_classOf_X2_has : GoodIn wsX11_classOf (wsV RX11 83 RX2 yX2_has wsX2_has) := goodIn_app (goodIn_k (is := [218, 191, 192, 14]) tie_wsX11_classOf rfl (by decide +kernel)) ggX11_classOf_X2_has
set_option maxRecDepth 20000 in
theorem ggX11_classOf_X7_refine : GoodIn wsX11_classOf wsX7_refine := goodIn_k tie_wsX11_classOf tie_wsX7_refine (by decide +kernel)
set_option maxRecDepth 20000 in
theorem gX11_classOf_X7_refine : GoodIn wsX11_classOf (wsV RX11 121 RX7 yX7_refine wsX7_refine) := goodIn_app (goodIn_k (is := [372, 373, 374, 23]) tie_wsX11_classOf rfl (by decide +kernel)) ggX11_classOf_X7_refine
set_option maxRecDepth 20000 in
theorem ggX11_classOf_X7_numberOf : GoodIn wsX11_classOf wsX7_numberOf := goodIn_k tie_wsX11_classOf tie_wsX7_numberOf (by decide +kernel)
set_option maxRecDepth 20000 in
theorem gX11_classOf_X7_numberOf : GoodIn wsX11_classOf (wsV RX11 127 RX7 yX7_numberOf wsX7_numberOf) := goodIn_app (goodIn_k (is := [443, 389, 390, 23]) tie_wsX11_classOf rfl (by decide +kernel)) ggX11_classOf_X7_numberOf
theorem dX11_classOf_0 : decode cX11_classOf 0 = .ok (.aload_n 0, 1) := by decide +kernel
theorem dX11_classOf_1 : decode cX11_classOf 1 = .ok (.getfield 10, 3) := by decide +kernel
theorem dX11_classOf_4 : decode cX11_classOf 4 = .ok (.iload_n 1, 1) := by decide +kernel
theorem dX11_classOf_5 : decode cX11_classOf 5 = .ok (.invokevirtual 83, 3) := by decide +kernel
theorem dX11_classOf_8 : decode cX11_classOf 8 = .ok (.ifCond .ne 5, 3) := by decide +kernel
theorem dX11_classOf_11 : decode cX11_classOf 11 = .ok (.iconst (-1), 1) := by decide +kernel
theorem dX11_classOf_12 : decode cX11_classOf 12 = .ok (.ireturn, 1) := by decide +kernel
theorem dX11_classOf_13 : decode cX11_classOf 13 = .ok (.aload_n 0, 1) := by decide +kernel
theorem dX11_classOf_14 : decode cX11_classOf 14 = .ok (.getfield 31, 3) := by decide +kernel
theorem dX11_classOf_17 : decode cX11_classOf 17 = .ok (.invokevirtual 121, 3) := by decide +kernel
theorem dX11_classOf_20 : decode cX11_classOf 20 = .ok (.aload_n 0, 1) := by decide +kernel
theorem dX11_classOf_21 : decode cX11_classOf 21 = .ok (.getfield 31, 3) := by decide +kernel
theorem dX11_classOf_24 : decode cX11_classOf 24 = .ok (.iload_n 1, 1) := by decide +kernel
theorem dX11_classOf_25 : decode cX11_classOf 25 = .ok (.invokevirtual 127, 3) := by decide +kernel
theorem dX11_classOf_28 : decode cX11_classOf 28 = .ok (.ireturn, 1) := by decide +kernel
set_option maxRecDepth 20000 in
theorem ggX11_lumped_X11_asksValue : GoodIn wsX11_lumped wsX11_asksValue := goodIn_k tie_wsX11_lumped tie_wsX11_asksValue (by decide +kernel)
set_option maxRecDepth 20000 in
theorem gX11_lumped_X11_asksValue : GoodIn wsX11_lumped (wsV RX11 130 RX11 yX11_asksValue wsX11_asksValue) := goodIn_app (goodIn_k (is := [453, 454, 455, 2]) tie_wsX11_lumped rfl (by decide +kernel)) ggX11_lumped_X11_asksValue
set_option maxRecDepth 20000 in
theorem ggX11_lumped_X7_refine : GoodIn wsX11_lumped wsX7_refine := goodIn_k tie_wsX11_lumped tie_wsX7_refine (by decide +kernel)
set_option maxRecDepth 20000 in
theorem gX11_lumped_X7_refine : GoodIn wsX11_lumped (wsV RX11 121 RX7 yX7_refine wsX7_refine) := goodIn_app (goodIn_k (is := [372, 373, 374, 23]) tie_wsX11_lumped rfl (by decide +kernel)) ggX11_lumped_X7_refine
set_option maxRecDepth 20000 in
theorem ggX11_lumped_X7_total : GoodIn wsX11_lumped wsX7_total := goodIn_k tie_wsX11_lumped tie_wsX7_total (by decide +kernel)
set_option maxRecDepth 20000 in
theorem gX11_lumped_X7_total : GoodIn wsX11_lumped (wsV RX11 124 RX7 yX7_total wsX7_total) := goodIn_app (goodIn_k (is := [407, 408, 409, 23]) tie_wsX11_lumped rfl (by decide +kernel)) ggX11_lumped_X7_total
set_option maxRecDepth 20000 in
theorem ggX11_lumped_X7_members : GoodIn wsX11_lumped wsX7_members := goodIn_k tie_wsX11_lumped tie_wsX7_members (by decide +kernel)
set_option maxRecDepth 20000 in
theorem gX11_lumped_X7_members : GoodIn wsX11_lumped (wsV RX11 136 RX7 yX7_members wsX7_members) := goodIn_app (goodIn_k (is := [457, 395, 396, 23]) tie_wsX11_lumped rfl (by decide +kernel)) ggX11_lumped_X7_members
set_option maxRecDepth 20000 in
theorem ggX11_lumped_X8_solveStep : GoodIn wsX11_lumped wsX8_solveStep := goodIn_k tie_wsX11_lumped tie_wsX8_solveStep (by decide +kernel)
set_option maxRecDepth 20000 in
theorem gX11_lumped_X8_solveStep : GoodIn wsX11_lumped (wsV RX11 139 RX8 yX8_solveStep wsX8_solveStep) := goodIn_app (goodIn_k (is := [458, 459, 460, 27]) tie_wsX11_lumped rfl (by decide +kernel)) ggX11_lumped_X8_solveStep
set_option maxRecDepth 20000 in
theorem ggX11_lumped_X8_part : GoodIn wsX11_lumped wsX8_part := goodIn_k tie_wsX11_lumped tie_wsX8_part (by decide +kernel)
set_option maxRecDepth 20000 in
theorem gX11_lumped_X8_part : GoodIn wsX11_lumped (wsV RX11 143 RX8 yX8_part wsX8_part) := goodIn_app (goodIn_k (is := [470, 471, 472, 27]) tie_wsX11_lumped rfl (by decide +kernel)) ggX11_lumped_X8_part
theorem dX11_lumped_0 : decode cX11_lumped 0 = .ok (.aload_n 0, 1) := by decide +kernel
theorem dX11_lumped_1 : decode cX11_lumped 1 = .ok (.iload_n 1, 1) := by decide +kernel
theorem dX11_lumped_2 : decode cX11_lumped 2 = .ok (.iload_n 3, 1) := by decide +kernel
theorem dX11_lumped_3 : decode cX11_lumped 3 = .ok (.invokevirtual 130, 3) := by decide +kernel
theorem dX11_lumped_6 : decode cX11_lumped 6 = .ok (.ifCond .ne 7, 3) := by decide +kernel
theorem dX11_lumped_9 : decode cX11_lumped 9 = .ok (.ldc2_w 134, 3) := by decide +kernel
theorem dX11_lumped_12 : decode cX11_lumped 12 = .ok (.lreturn, 1) := by decide +kernel
theorem dX11_lumped_13 : decode cX11_lumped 13 = .ok (.aload_n 0, 1) := by decide +kernel
theorem dX11_lumped_14 : decode cX11_lumped 14 = .ok (.getfield 31, 3) := by decide +kernel
theorem dX11_lumped_17 : decode cX11_lumped 17 = .ok (.invokevirtual 121, 3) := by decide +kernel
theorem dX11_lumped_20 : decode cX11_lumped 20 = .ok (.iload_n 2, 1) := by decide +kernel
theorem dX11_lumped_21 : decode cX11_lumped 21 = .ok (.ifCond .lt 14, 3) := by decide +kernel
theorem dX11_lumped_24 : decode cX11_lumped 24 = .ok (.iload_n 2, 1) := by decide +kernel
theorem dX11_lumped_25 : decode cX11_lumped 25 = .ok (.aload_n 0, 1) := by decide +kernel
theorem dX11_lumped_26 : decode cX11_lumped 26 = .ok (.getfield 31, 3) := by decide +kernel
theorem dX11_lumped_29 : decode cX11_lumped 29 = .ok (.invokevirtual 124, 3) := by decide +kernel
theorem dX11_lumped_32 : decode cX11_lumped 32 = .ok (.if_icmp .lt 7, 3) := by decide +kernel
theorem dX11_lumped_35 : decode cX11_lumped 35 = .ok (.ldc2_w 134, 3) := by decide +kernel
theorem dX11_lumped_38 : decode cX11_lumped 38 = .ok (.lreturn, 1) := by decide +kernel
theorem dX11_lumped_39 : decode cX11_lumped 39 = .ok (.aload_n 0, 1) := by decide +kernel
theorem dX11_lumped_40 : decode cX11_lumped 40 = .ok (.getfield 38, 3) := by decide +kernel
theorem dX11_lumped_43 : decode cX11_lumped 43 = .ok (.aload_n 0, 1) := by decide +kernel
theorem dX11_lumped_44 : decode cX11_lumped 44 = .ok (.getfield 31, 3) := by decide +kernel
theorem dX11_lumped_47 : decode cX11_lumped 47 = .ok (.iload_n 2, 1) := by decide +kernel
theorem dX11_lumped_48 : decode cX11_lumped 48 = .ok (.invokevirtual 136, 3) := by decide +kernel
theorem dX11_lumped_51 : decode cX11_lumped 51 = .ok (.invokevirtual 139, 3) := by decide +kernel
theorem dX11_lumped_54 : decode cX11_lumped 54 = .ok (.aload_n 0, 1) := by decide +kernel
theorem dX11_lumped_55 : decode cX11_lumped 55 = .ok (.getfield 38, 3) := by decide +kernel
theorem dX11_lumped_58 : decode cX11_lumped 58 = .ok (.iload_n 1, 1) := by decide +kernel
theorem dX11_lumped_59 : decode cX11_lumped 59 = .ok (.iload_n 3, 1) := by decide +kernel
theorem dX11_lumped_60 : decode cX11_lumped 60 = .ok (.invokevirtual 143, 3) := by decide +kernel
theorem dX11_lumped_63 : decode cX11_lumped 63 = .ok (.lreturn, 1) := by decide +kernel
set_option maxRecDepth 20000 in
theorem ggX11_feed_J4_length_8abf5 : GoodIn wsX11_feed wsJ4_length_8abf5 := goodIn_k tie_wsX11_feed tie_wsJ4_length_8abf5 (by decide +kernel)
set_option maxRecDepth 20000 in
theorem gX11_feed_J4_length_8abf5 : GoodIn wsX11_feed (wsV RX11 147 RJ4 yJ4_length_8abf5 wsJ4_length_8abf5) := goodIn_app (goodIn_k (is := [499, 500, 501, 35]) tie_wsX11_feed rfl (by decide +kernel)) ggX11_feed_J4_length_8abf5
set_option maxRecDepth 20000 in
theorem ggX11_feed_J4_append_cf468 : GoodIn wsX11_feed wsJ4_append_cf468 := goodIn_k tie_wsX11_feed tie_wsJ4_append_cf468 (by decide +kernel)
set_option maxRecDepth 20000 in
theorem gX11_feed_J4_append_cf468 : GoodIn wsX11_feed (wsV RX11 150 RJ4 yJ4_append_cf468 wsJ4_append_cf468) := goodIn_app (goodIn_k (is := [509, 510, 511, 35]) tie_wsX11_feed rfl (by decide +kernel)) ggX11_feed_J4_append_cf468
theorem dX11_feed_0 : decode cX11_feed 0 = .ok (.iload_n 1, 1) := by decide +kernel
theorem dX11_feed_1 : decode cX11_feed 1 = .ok (.bipush 33, 2) := by decide +kernel
theorem dX11_feed_3 : decode cX11_feed 3 = .ok (.if_icmp .lt 9, 3) := by decide +kernel
theorem dX11_feed_6 : decode cX11_feed 6 = .ok (.iload_n 1, 1) := by decide +kernel
theorem dX11_feed_7 : decode cX11_feed 7 = .ok (.bipush 126, 2) := by decide +kernel
theorem dX11_feed_9 : decode cX11_feed 9 = .ok (.if_icmp .le 5, 3) := by decide +kernel
theorem dX11_feed_12 : decode cX11_feed 12 = .ok (.iconst (-1), 1) := by decide +kernel
theorem dX11_feed_13 : decode cX11_feed 13 = .ok (.ireturn, 1) := by decide +kernel
theorem dX11_feed_14 : decode cX11_feed 14 = .ok (.aload_n 0, 1) := by decide +kernel
theorem dX11_feed_15 : decode cX11_feed 15 = .ok (.getfield 52, 3) := by decide +kernel
theorem dX11_feed_18 : decode cX11_feed 18 = .ok (.invokevirtual 147, 3) := by decide +kernel
theorem dX11_feed_21 : decode cX11_feed 21 = .ok (.bipush 50, 2) := by decide +kernel
theorem dX11_feed_23 : decode cX11_feed 23 = .ok (.if_icmp .lt 6, 3) := by decide +kernel
theorem dX11_feed_26 : decode cX11_feed 26 = .ok (.bipush (-3), 2) := by decide +kernel
theorem dX11_feed_28 : decode cX11_feed 28 = .ok (.ireturn, 1) := by decide +kernel
theorem dX11_feed_29 : decode cX11_feed 29 = .ok (.aload_n 0, 1) := by decide +kernel
theorem dX11_feed_30 : decode cX11_feed 30 = .ok (.getfield 52, 3) := by decide +kernel
theorem dX11_feed_33 : decode cX11_feed 33 = .ok (.iload_n 1, 1) := by decide +kernel
theorem dX11_feed_34 : decode cX11_feed 34 = .ok (.i2c, 1) := by decide +kernel
theorem dX11_feed_35 : decode cX11_feed 35 = .ok (.invokevirtual 150, 3) := by decide +kernel
theorem dX11_feed_38 : decode cX11_feed 38 = .ok (.pop, 1) := by decide +kernel
theorem dX11_feed_39 : decode cX11_feed 39 = .ok (.aload_n 0, 1) := by decide +kernel
theorem dX11_feed_40 : decode cX11_feed 40 = .ok (.getfield 52, 3) := by decide +kernel
theorem dX11_feed_43 : decode cX11_feed 43 = .ok (.invokevirtual 147, 3) := by decide +kernel
theorem dX11_feed_46 : decode cX11_feed 46 = .ok (.ireturn, 1) := by decide +kernel
set_option maxRecDepth 20000 in
theorem ggX11_addFormula_J4_toString_0e30d : GoodIn wsX11_addFormula wsJ4_toString_0e30d := goodIn_k tie_wsX11_addFormula tie_wsJ4_toString_0e30d (by decide +kernel)
set_option maxRecDepth 20000 in
theorem gX11_addFormula_J4_toString_0e30d : GoodIn wsX11_addFormula (wsV RX11 154 RJ4 yJ4_toString_0e30d wsJ4_toString_0e30d) := goodIn_app (goodIn_k (is := [618, 619, 620, 35]) tie_wsX11_addFormula rfl (by decide +kernel)) ggX11_addFormula_J4_toString_0e30d
set_option maxRecDepth 20000 in
theorem ggX11_addFormula_J4_setLength_d00df : GoodIn wsX11_addFormula wsJ4_setLength_d00df := goodIn_k tie_wsX11_addFormula tie_wsJ4_setLength_d00df (by decide +kernel)
set_option maxRecDepth 20000 in
theorem gX11_addFormula_J4_setLength_d00df : GoodIn wsX11_addFormula (wsV RX11 158 RJ4 yJ4_setLength_d00df wsJ4_setLength_d00df) := goodIn_app (goodIn_k (is := [666, 667, 668, 35]) tie_wsX11_addFormula rfl (by decide +kernel)) ggX11_addFormula_J4_setLength_d00df
set_option maxRecDepth 20000 in
theorem ggX11_addFormula_X10_init : GoodIn wsX11_addFormula wsX10_init := goodIn_k tie_wsX11_addFormula tie_wsX10_init (by decide +kernel)
set_option maxRecDepth 20000 in
theorem gX11_addFormula_X10_init : GoodIn wsX11_addFormula (wsX10_init) := ggX11_addFormula_X10_init
set_option maxRecDepth 20000 in
theorem ggX11_addFormula_X10_readFormula : GoodIn wsX11_addFormula wsX10_readFormula := goodIn_k tie_wsX11_addFormula tie_wsX10_readFormula (by decide +kernel)
set_option maxRecDepth 20000 in
theorem gX11_addFormula_X10_readFormula_n166 : GoodIn wsX11_addFormula (wsX10_readFormula) := ggX11_addFormula_X10_readFormula
set_option maxRecDepth 20000 in
theorem ggX11_addFormula_X10_isDone : GoodIn wsX11_addFormula wsX10_isDone := goodIn_k tie_wsX11_addFormula tie_wsX10_isDone (by decide +kernel)
set_option maxRecDepth 20000 in
theorem gX11_addFormula_X10_isDone : GoodIn wsX11_addFormula (wsV RX11 170 RX10 yX10_isDone wsX10_isDone) := goodIn_app (goodIn_k (is := [788, 789, 790, 615]) tie_wsX11_addFormula rfl (by decide +kernel)) ggX11_addFormula_X10_isDone
set_option maxRecDepth 20000 in
theorem ggX11_addFormula_X10_position : GoodIn wsX11_addFormula wsX10_position := goodIn_k tie_wsX11_addFormula tie_wsX10_position (by decide +kernel)
set_option maxRecDepth 20000 in
theorem gX11_addFormula_X10_position : GoodIn wsX11_addFormula (wsV RX11 174 RX10 yX10_position wsX10_position) := goodIn_app (goodIn_k (is := [792, 793, 794, 615]) tie_wsX11_addFormula rfl (by decide +kernel)) ggX11_addFormula_X10_position
set_option maxRecDepth 20000 in
theorem ggX11_addFormula_X5_init : GoodIn wsX11_addFormula wsX5_init := goodIn_k tie_wsX11_addFormula tie_wsX5_init (by decide +kernel)
set_option maxRecDepth 20000 in
theorem gX11_addFormula_X5_init : GoodIn wsX11_addFormula (wsX5_init) := ggX11_addFormula_X5_init
theorem dX11_addFormula_0 : decode cX11_addFormula 0 = .ok (.aload_n 0, 1) := by decide +kernel
theorem dX11_addFormula_1 : decode cX11_addFormula 1 = .ok (.getfield 52, 3) := by decide +kernel
theorem dX11_addFormula_4 : decode cX11_addFormula 4 = .ok (.invokevirtual 154, 3) := by decide +kernel
theorem dX11_addFormula_7 : decode cX11_addFormula 7 = .ok (.astore_n 1, 1) := by decide +kernel
theorem dX11_addFormula_8 : decode cX11_addFormula 8 = .ok (.aload_n 0, 1) := by decide +kernel
theorem dX11_addFormula_9 : decode cX11_addFormula 9 = .ok (.getfield 52, 3) := by decide +kernel
theorem dX11_addFormula_12 : decode cX11_addFormula 12 = .ok (.iconst 0, 1) := by decide +kernel
theorem dX11_addFormula_13 : decode cX11_addFormula 13 = .ok (.invokevirtual 158, 3) := by decide +kernel
theorem dX11_addFormula_16 : decode cX11_addFormula 16 = .ok (.new 161, 3) := by decide +kernel
theorem dX11_addFormula_19 : decode cX11_addFormula 19 = .ok (.dup, 1) := by decide +kernel
theorem dX11_addFormula_20 : decode cX11_addFormula 20 = .ok (.aload_n 1, 1) := by decide +kernel
theorem dX11_addFormula_21 : decode cX11_addFormula 21 = .ok (.invokespecial 163, 3) := by decide +kernel
theorem dX11_addFormula_24 : decode cX11_addFormula 24 = .ok (.astore_n 2, 1) := by decide +kernel
theorem dX11_addFormula_25 : decode cX11_addFormula 25 = .ok (.aload_n 2, 1) := by decide +kernel
theorem dX11_addFormula_26 : decode cX11_addFormula 26 = .ok (.iconst 0, 1) := by decide +kernel
theorem dX11_addFormula_27 : decode cX11_addFormula 27 = .ok (.invokevirtual 166, 3) := by decide +kernel
theorem dX11_addFormula_30 : decode cX11_addFormula 30 = .ok (.astore_n 3, 1) := by decide +kernel
theorem dX11_addFormula_31 : decode cX11_addFormula 31 = .ok (.aload_n 2, 1) := by decide +kernel
theorem dX11_addFormula_32 : decode cX11_addFormula 32 = .ok (.invokevirtual 170, 3) := by decide +kernel
theorem dX11_addFormula_35 : decode cX11_addFormula 35 = .ok (.ifCond .ne 11, 3) := by decide +kernel
theorem dX11_addFormula_38 : decode cX11_addFormula 38 = .ok (.bipush (-100), 2) := by decide +kernel
theorem dX11_addFormula_40 : decode cX11_addFormula 40 = .ok (.aload_n 2, 1) := by decide +kernel
theorem dX11_addFormula_41 : decode cX11_addFormula 41 = .ok (.invokevirtual 174, 3) := by decide +kernel
theorem dX11_addFormula_44 : decode cX11_addFormula 44 = .ok (.isub, 1) := by decide +kernel
theorem dX11_addFormula_45 : decode cX11_addFormula 45 = .ok (.ireturn, 1) := by decide +kernel
theorem dX11_addFormula_46 : decode cX11_addFormula 46 = .ok (.aload_n 0, 1) := by decide +kernel
theorem dX11_addFormula_47 : decode cX11_addFormula 47 = .ok (.getfield 62, 3) := by decide +kernel
theorem dX11_addFormula_50 : decode cX11_addFormula 50 = .ok (.istore 4, 2) := by decide +kernel
theorem dX11_addFormula_52 : decode cX11_addFormula 52 = .ok (.iload 4, 2) := by decide +kernel
theorem dX11_addFormula_54 : decode cX11_addFormula 54 = .ok (.ifCond .lt 10, 3) := by decide +kernel
theorem dX11_addFormula_57 : decode cX11_addFormula 57 = .ok (.iload 4, 2) := by decide +kernel
theorem dX11_addFormula_59 : decode cX11_addFormula 59 = .ok (.bipush 6, 2) := by decide +kernel
theorem dX11_addFormula_61 : decode cX11_addFormula 61 = .ok (.if_icmp .lt 6, 3) := by decide +kernel
theorem dX11_addFormula_64 : decode cX11_addFormula 64 = .ok (.bipush (-3), 2) := by decide +kernel
theorem dX11_addFormula_66 : decode cX11_addFormula 66 = .ok (.ireturn, 1) := by decide +kernel
theorem dX11_addFormula_67 : decode cX11_addFormula 67 = .ok (.aload_n 0, 1) := by decide +kernel
theorem dX11_addFormula_68 : decode cX11_addFormula 68 = .ok (.getfield 58, 3) := by decide +kernel
theorem dX11_addFormula_71 : decode cX11_addFormula 71 = .ok (.iload 4, 2) := by decide +kernel
theorem dX11_addFormula_73 : decode cX11_addFormula 73 = .ok (.new 56, 3) := by decide +kernel
theorem dX11_addFormula_76 : decode cX11_addFormula 76 = .ok (.dup, 1) := by decide +kernel
theorem dX11_addFormula_77 : decode cX11_addFormula 77 = .ok (.aload_n 1, 1) := by decide +kernel
theorem dX11_addFormula_78 : decode cX11_addFormula 78 = .ok (.aload_n 3, 1) := by decide +kernel
theorem dX11_addFormula_79 : decode cX11_addFormula 79 = .ok (.invokespecial 177, 3) := by decide +kernel
theorem dX11_addFormula_82 : decode cX11_addFormula 82 = .ok (.aastore, 1) := by decide +kernel
theorem dX11_addFormula_83 : decode cX11_addFormula 83 = .ok (.aload_n 0, 1) := by decide +kernel
theorem dX11_addFormula_84 : decode cX11_addFormula 84 = .ok (.iload 4, 2) := by decide +kernel
theorem dX11_addFormula_86 : decode cX11_addFormula 86 = .ok (.iconst 1, 1) := by decide +kernel
theorem dX11_addFormula_87 : decode cX11_addFormula 87 = .ok (.iadd, 1) := by decide +kernel
theorem dX11_addFormula_88 : decode cX11_addFormula 88 = .ok (.putfield 62, 3) := by decide +kernel
theorem dX11_addFormula_91 : decode cX11_addFormula 91 = .ok (.iload 4, 2) := by decide +kernel
theorem dX11_addFormula_93 : decode cX11_addFormula 93 = .ok (.ireturn, 1) := by decide +kernel
theorem dX11_formulaCount_0 : decode cX11_formulaCount 0 = .ok (.aload_n 0, 1) := by decide +kernel
theorem dX11_formulaCount_1 : decode cX11_formulaCount 1 = .ok (.getfield 62, 3) := by decide +kernel
theorem dX11_formulaCount_4 : decode cX11_formulaCount 4 = .ok (.ireturn, 1) := by decide +kernel
theorem dX11_clearFormulas_0 : decode cX11_clearFormulas 0 = .ok (.aload_n 0, 1) := by decide +kernel
theorem dX11_clearFormulas_1 : decode cX11_clearFormulas 1 = .ok (.getfield 62, 3) := by decide +kernel
theorem dX11_clearFormulas_4 : decode cX11_clearFormulas 4 = .ok (.istore_n 1, 1) := by decide +kernel
theorem dX11_clearFormulas_5 : decode cX11_clearFormulas 5 = .ok (.iconst 0, 1) := by decide +kernel
theorem dX11_clearFormulas_6 : decode cX11_clearFormulas 6 = .ok (.istore_n 2, 1) := by decide +kernel
theorem dX11_clearFormulas_7 : decode cX11_clearFormulas 7 = .ok (.iload_n 2, 1) := by decide +kernel
theorem dX11_clearFormulas_8 : decode cX11_clearFormulas 8 = .ok (.bipush 6, 2) := by decide +kernel
theorem dX11_clearFormulas_10 : decode cX11_clearFormulas 10 = .ok (.if_icmp .ge 16, 3) := by decide +kernel
theorem dX11_clearFormulas_13 : decode cX11_clearFormulas 13 = .ok (.aload_n 0, 1) := by decide +kernel
theorem dX11_clearFormulas_14 : decode cX11_clearFormulas 14 = .ok (.getfield 58, 3) := by decide +kernel
theorem dX11_clearFormulas_17 : decode cX11_clearFormulas 17 = .ok (.iload_n 2, 1) := by decide +kernel
theorem dX11_clearFormulas_18 : decode cX11_clearFormulas 18 = .ok (.aconst_null, 1) := by decide +kernel
theorem dX11_clearFormulas_19 : decode cX11_clearFormulas 19 = .ok (.aastore, 1) := by decide +kernel
theorem dX11_clearFormulas_20 : decode cX11_clearFormulas 20 = .ok (.iinc 2 1, 3) := by decide +kernel
theorem dX11_clearFormulas_23 : decode cX11_clearFormulas 23 = .ok (.goto (-16), 3) := by decide +kernel
theorem dX11_clearFormulas_26 : decode cX11_clearFormulas 26 = .ok (.aload_n 0, 1) := by decide +kernel
theorem dX11_clearFormulas_27 : decode cX11_clearFormulas 27 = .ok (.iconst 0, 1) := by decide +kernel
theorem dX11_clearFormulas_28 : decode cX11_clearFormulas 28 = .ok (.putfield 62, 3) := by decide +kernel
theorem dX11_clearFormulas_31 : decode cX11_clearFormulas 31 = .ok (.iload_n 1, 1) := by decide +kernel
theorem dX11_clearFormulas_32 : decode cX11_clearFormulas 32 = .ok (.ireturn, 1) := by decide +kernel
set_option maxRecDepth 20000 in
theorem ggX11_letter_X11_find : GoodIn wsX11_letter wsX11_find := goodIn_k tie_wsX11_letter tie_wsX11_find (by decide +kernel)
set_option maxRecDepth 20000 in
theorem gX11_letter_X11_find : GoodIn wsX11_letter (wsV RX11 180 RX11 yX11_find wsX11_find) := goodIn_app (goodIn_k (is := [885, 886, 887, 2]) tie_wsX11_letter rfl (by decide +kernel)) ggX11_letter_X11_find
set_option maxRecDepth 20000 in
theorem ggX11_letter_X5_letterAt : GoodIn wsX11_letter wsX5_letterAt := goodIn_k tie_wsX11_letter tie_wsX5_letterAt (by decide +kernel)
set_option maxRecDepth 20000 in
theorem gX11_letter_X5_letterAt : GoodIn wsX11_letter (wsV RX11 184 RX5 yX5_letterAt wsX5_letterAt) := goodIn_app (goodIn_k (is := [889, 890, 891, 617]) tie_wsX11_letter rfl (by decide +kernel)) ggX11_letter_X5_letterAt
theorem dX11_letter_0 : decode cX11_letter 0 = .ok (.aload_n 0, 1) := by decide +kernel
theorem dX11_letter_1 : decode cX11_letter 1 = .ok (.iload_n 1, 1) := by decide +kernel
theorem dX11_letter_2 : decode cX11_letter 2 = .ok (.invokevirtual 180, 3) := by decide +kernel
theorem dX11_letter_5 : decode cX11_letter 5 = .ok (.astore_n 3, 1) := by decide +kernel
theorem dX11_letter_6 : decode cX11_letter 6 = .ok (.aload_n 3, 1) := by decide +kernel
theorem dX11_letter_7 : decode cX11_letter 7 = .ok (.ifnonnull 7, 3) := by decide +kernel
theorem dX11_letter_10 : decode cX11_letter 10 = .ok (.iconst (-1), 1) := by decide +kernel
theorem dX11_letter_11 : decode cX11_letter 11 = .ok (.goto 8, 3) := by decide +kernel
theorem dX11_letter_14 : decode cX11_letter 14 = .ok (.aload_n 3, 1) := by decide +kernel
theorem dX11_letter_15 : decode cX11_letter 15 = .ok (.iload_n 2, 1) := by decide +kernel
theorem dX11_letter_16 : decode cX11_letter 16 = .ok (.invokevirtual 184, 3) := by decide +kernel
theorem dX11_letter_19 : decode cX11_letter 19 = .ok (.ireturn, 1) := by decide +kernel
set_option maxRecDepth 20000 in
theorem ggX11_depth_X11_find : GoodIn wsX11_depth wsX11_find := goodIn_k tie_wsX11_depth tie_wsX11_find (by decide +kernel)
set_option maxRecDepth 20000 in
theorem gX11_depth_X11_find : GoodIn wsX11_depth (wsV RX11 180 RX11 yX11_find wsX11_find) := goodIn_app (goodIn_k (is := [885, 886, 887, 2]) tie_wsX11_depth rfl (by decide +kernel)) ggX11_depth_X11_find
set_option maxRecDepth 20000 in
theorem ggX11_depth_X5_nesting : GoodIn wsX11_depth wsX5_nesting := goodIn_k tie_wsX11_depth tie_wsX5_nesting (by decide +kernel)
set_option maxRecDepth 20000 in
theorem gX11_depth_X5_nesting : GoodIn wsX11_depth (wsV RX11 187 RX5 yX5_nesting wsX5_nesting) := goodIn_app (goodIn_k (is := [907, 908, 909, 617]) tie_wsX11_depth rfl (by decide +kernel)) ggX11_depth_X5_nesting
theorem dX11_depth_0 : decode cX11_depth 0 = .ok (.aload_n 0, 1) := by decide +kernel
theorem dX11_depth_1 : decode cX11_depth 1 = .ok (.iload_n 1, 1) := by decide +kernel
theorem dX11_depth_2 : decode cX11_depth 2 = .ok (.invokevirtual 180, 3) := by decide +kernel
theorem dX11_depth_5 : decode cX11_depth 5 = .ok (.astore_n 2, 1) := by decide +kernel
theorem dX11_depth_6 : decode cX11_depth 6 = .ok (.aload_n 2, 1) := by decide +kernel
theorem dX11_depth_7 : decode cX11_depth 7 = .ok (.ifnonnull 7, 3) := by decide +kernel
theorem dX11_depth_10 : decode cX11_depth 10 = .ok (.iconst (-1), 1) := by decide +kernel
theorem dX11_depth_11 : decode cX11_depth 11 = .ok (.goto 7, 3) := by decide +kernel
theorem dX11_depth_14 : decode cX11_depth 14 = .ok (.aload_n 2, 1) := by decide +kernel
theorem dX11_depth_15 : decode cX11_depth 15 = .ok (.invokevirtual 187, 3) := by decide +kernel
theorem dX11_depth_18 : decode cX11_depth 18 = .ok (.ireturn, 1) := by decide +kernel
set_option maxRecDepth 20000 in
theorem ggX11_holdsIn_X11_errorOf : GoodIn wsX11_holdsIn wsX11_errorOf := goodIn_k tie_wsX11_holdsIn tie_wsX11_errorOf (by decide +kernel)
set_option maxRecDepth 20000 in
theorem gX11_holdsIn_X11_errorOf : GoodIn wsX11_holdsIn (wsV RX11 190 RX11 yX11_errorOf wsX11_errorOf) := goodIn_app (goodIn_k (is := [932, 933, 934, 2]) tie_wsX11_holdsIn rfl (by decide +kernel)) ggX11_holdsIn_X11_errorOf
set_option maxRecDepth 20000 in
theorem ggX11_holdsIn_X11_rootOf : GoodIn wsX11_holdsIn wsX11_rootOf := goodIn_k tie_wsX11_holdsIn tie_wsX11_rootOf (by decide +kernel)
set_option maxRecDepth 20000 in
theorem gX11_holdsIn_X11_rootOf : GoodIn wsX11_holdsIn (wsV RX11 194 RX11 yX11_rootOf wsX11_rootOf) := goodIn_app (goodIn_k (is := [954, 955, 956, 2]) tie_wsX11_holdsIn rfl (by decide +kernel)) ggX11_holdsIn_X11_rootOf
set_option maxRecDepth 20000 in
theorem ggX11_holdsIn_X11_statesOf : GoodIn wsX11_holdsIn wsX11_statesOf := goodIn_k tie_wsX11_holdsIn tie_wsX11_statesOf (by decide +kernel)
set_option maxRecDepth 20000 in
theorem gX11_holdsIn_X11_statesOf : GoodIn wsX11_holdsIn (va_wsS RX11 197 yX11_statesOf wsX11_statesOf) := goodIn_app (goodIn_k (is := [958, 959, 2]) tie_wsX11_holdsIn rfl (by decide +kernel)) ggX11_holdsIn_X11_statesOf
theorem dX11_holdsIn_0 : decode cX11_holdsIn 0 = .ok (.aload_n 0, 1) := by decide +kernel
theorem dX11_holdsIn_1 : decode cX11_holdsIn 1 = .ok (.iload_n 1, 1) := by decide +kernel
theorem dX11_holdsIn_2 : decode cX11_holdsIn 2 = .ok (.iload_n 1, 1) := by decide +kernel
theorem dX11_holdsIn_3 : decode cX11_holdsIn 3 = .ok (.iconst 1, 1) := by decide +kernel
theorem dX11_holdsIn_4 : decode cX11_holdsIn 4 = .ok (.invokevirtual 190, 3) := by decide +kernel
theorem dX11_holdsIn_7 : decode cX11_holdsIn 7 = .ok (.istore_n 2, 1) := by decide +kernel
theorem dX11_holdsIn_8 : decode cX11_holdsIn 8 = .ok (.iload_n 2, 1) := by decide +kernel
theorem dX11_holdsIn_9 : decode cX11_holdsIn 9 = .ok (.ifCond .eq 7, 3) := by decide +kernel
theorem dX11_holdsIn_12 : decode cX11_holdsIn 12 = .ok (.iload_n 2, 1) := by decide +kernel
theorem dX11_holdsIn_13 : decode cX11_holdsIn 13 = .ok (.goto 16, 3) := by decide +kernel
theorem dX11_holdsIn_16 : decode cX11_holdsIn 16 = .ok (.aload_n 0, 1) := by decide +kernel
theorem dX11_holdsIn_17 : decode cX11_holdsIn 17 = .ok (.iload_n 1, 1) := by decide +kernel
theorem dX11_holdsIn_18 : decode cX11_holdsIn 18 = .ok (.invokevirtual 194, 3) := by decide +kernel
theorem dX11_holdsIn_21 : decode cX11_holdsIn 21 = .ok (.aload_n 0, 1) := by decide +kernel
theorem dX11_holdsIn_22 : decode cX11_holdsIn 22 = .ok (.getfield 38, 3) := by decide +kernel
theorem dX11_holdsIn_25 : decode cX11_holdsIn 25 = .ok (.iconst 0, 1) := by decide +kernel
theorem dX11_holdsIn_26 : decode cX11_holdsIn 26 = .ok (.invokestatic 197, 3) := by decide +kernel
theorem dX11_holdsIn_29 : decode cX11_holdsIn 29 = .ok (.ireturn, 1) := by decide +kernel
set_option maxRecDepth 20000 in
theorem ggX11_holds_X2_has : GoodIn wsX11_holds wsX2_has := goodIn_k tie_wsX11_holds tie_wsX2_has (by decide +kernel)
set_option maxRecDepth 20000 in
theorem gX11_holds_X2_has : GoodIn wsX11_holds (wsV RX11 83 RX2 yX2_has wsX2_has) := goodIn_app (goodIn_k (is := [218, 191, 192, 14]) tie_wsX11_holds rfl (by decide +kernel)) ggX11_holds_X2_has
set_option maxRecDepth 20000 in
theorem ggX11_holds_X11_errorOf : GoodIn wsX11_holds wsX11_errorOf := goodIn_k tie_wsX11_holds tie_wsX11_errorOf (by decide +kernel)
set_option maxRecDepth 20000 in
theorem gX11_holds_X11_errorOf : GoodIn wsX11_holds (wsV RX11 190 RX11 yX11_errorOf wsX11_errorOf) := goodIn_app (goodIn_k (is := [932, 933, 934, 2]) tie_wsX11_holds rfl (by decide +kernel)) ggX11_holds_X11_errorOf
set_option maxRecDepth 20000 in
theorem ggX11_holds_X11_rootOf : GoodIn wsX11_holds wsX11_rootOf := goodIn_k tie_wsX11_holds tie_wsX11_rootOf (by decide +kernel)
set_option maxRecDepth 20000 in
theorem gX11_holds_X11_rootOf : GoodIn wsX11_holds (wsV RX11 194 RX11 yX11_rootOf wsX11_rootOf) := goodIn_app (goodIn_k (is := [954, 955, 956, 2]) tie_wsX11_holds rfl (by decide +kernel)) ggX11_holds_X11_rootOf
set_option maxRecDepth 20000 in
theorem ggX11_holds_X11_statesOf : GoodIn wsX11_holds wsX11_statesOf := goodIn_k tie_wsX11_holds tie_wsX11_statesOf (by decide +kernel)
set_option maxRecDepth 20000 in
theorem gX11_holds_X11_statesOf : GoodIn wsX11_holds (va_wsS RX11 197 yX11_statesOf wsX11_statesOf) := goodIn_app (goodIn_k (is := [958, 959, 2]) tie_wsX11_holds rfl (by decide +kernel)) ggX11_holds_X11_statesOf
set_option maxRecDepth 20000 in
theorem ggX11_holds_X11_contains : GoodIn wsX11_holds wsX11_contains := goodIn_k tie_wsX11_holds tie_wsX11_contains (by decide +kernel)
set_option maxRecDepth 20000 in
theorem gX11_holds_X11_contains : GoodIn wsX11_holds (va_wsS RX11 201 yX11_contains wsX11_contains) := goodIn_app (goodIn_k (is := [1162, 310, 2]) tie_wsX11_holds rfl (by decide +kernel)) ggX11_holds_X11_contains
theorem dX11_holds_0 : decode cX11_holds 0 = .ok (.aload_n 0, 1) := by decide +kernel
theorem dX11_holds_1 : decode cX11_holds 1 = .ok (.iload_n 1, 1) := by decide +kernel
theorem dX11_holds_2 : decode cX11_holds 2 = .ok (.iload_n 1, 1) := by decide +kernel
theorem dX11_holds_3 : decode cX11_holds 3 = .ok (.aload_n 0, 1) := by decide +kernel
theorem dX11_holds_4 : decode cX11_holds 4 = .ok (.getfield 10, 3) := by decide +kernel
theorem dX11_holds_7 : decode cX11_holds 7 = .ok (.iload_n 2, 1) := by decide +kernel
theorem dX11_holds_8 : decode cX11_holds 8 = .ok (.invokevirtual 83, 3) := by decide +kernel
theorem dX11_holds_11 : decode cX11_holds 11 = .ok (.invokevirtual 190, 3) := by decide +kernel
theorem dX11_holds_14 : decode cX11_holds 14 = .ok (.istore_n 3, 1) := by decide +kernel
theorem dX11_holds_15 : decode cX11_holds 15 = .ok (.iload_n 3, 1) := by decide +kernel
theorem dX11_holds_16 : decode cX11_holds 16 = .ok (.ifCond .eq 5, 3) := by decide +kernel
theorem dX11_holds_19 : decode cX11_holds 19 = .ok (.iload_n 3, 1) := by decide +kernel
theorem dX11_holds_20 : decode cX11_holds 20 = .ok (.ireturn, 1) := by decide +kernel
theorem dX11_holds_21 : decode cX11_holds 21 = .ok (.aload_n 0, 1) := by decide +kernel
theorem dX11_holds_22 : decode cX11_holds 22 = .ok (.iload_n 1, 1) := by decide +kernel
theorem dX11_holds_23 : decode cX11_holds 23 = .ok (.invokevirtual 194, 3) := by decide +kernel
theorem dX11_holds_26 : decode cX11_holds 26 = .ok (.aload_n 0, 1) := by decide +kernel
theorem dX11_holds_27 : decode cX11_holds 27 = .ok (.getfield 38, 3) := by decide +kernel
theorem dX11_holds_30 : decode cX11_holds 30 = .ok (.iconst 0, 1) := by decide +kernel
theorem dX11_holds_31 : decode cX11_holds 31 = .ok (.invokestatic 197, 3) := by decide +kernel
theorem dX11_holds_34 : decode cX11_holds 34 = .ok (.iload_n 2, 1) := by decide +kernel
theorem dX11_holds_35 : decode cX11_holds 35 = .ok (.invokestatic 201, 3) := by decide +kernel
theorem dX11_holds_38 : decode cX11_holds 38 = .ok (.ifCond .eq 7, 3) := by decide +kernel
theorem dX11_holds_41 : decode cX11_holds 41 = .ok (.iconst 1, 1) := by decide +kernel
theorem dX11_holds_42 : decode cX11_holds 42 = .ok (.goto 4, 3) := by decide +kernel
theorem dX11_holds_45 : decode cX11_holds 45 = .ok (.iconst 0, 1) := by decide +kernel
theorem dX11_holds_46 : decode cX11_holds 46 = .ok (.ireturn, 1) := by decide +kernel
set_option maxRecDepth 20000 in
theorem ggX11_next_X11_asksValue : GoodIn wsX11_next wsX11_asksValue := goodIn_k tie_wsX11_next tie_wsX11_asksValue (by decide +kernel)
set_option maxRecDepth 20000 in
theorem gX11_next_X11_asksValue : GoodIn wsX11_next (wsV RX11 130 RX11 yX11_asksValue wsX11_asksValue) := goodIn_app (goodIn_k (is := [453, 454, 455, 2]) tie_wsX11_next rfl (by decide +kernel)) ggX11_next_X11_asksValue
set_option maxRecDepth 20000 in
theorem ggX11_next_X11_errorOf : GoodIn wsX11_next wsX11_errorOf := goodIn_k tie_wsX11_next tie_wsX11_errorOf (by decide +kernel)
set_option maxRecDepth 20000 in
theorem gX11_next_X11_errorOf : GoodIn wsX11_next (wsV RX11 190 RX11 yX11_errorOf wsX11_errorOf) := goodIn_app (goodIn_k (is := [932, 933, 934, 2]) tie_wsX11_next rfl (by decide +kernel)) ggX11_next_X11_errorOf
set_option maxRecDepth 20000 in
theorem ggX11_next_X11_rootOf : GoodIn wsX11_next wsX11_rootOf := goodIn_k tie_wsX11_next tie_wsX11_rootOf (by decide +kernel)
set_option maxRecDepth 20000 in
theorem gX11_next_X11_rootOf : GoodIn wsX11_next (wsV RX11 194 RX11 yX11_rootOf wsX11_rootOf) := goodIn_app (goodIn_k (is := [954, 955, 956, 2]) tie_wsX11_next rfl (by decide +kernel)) ggX11_next_X11_rootOf
set_option maxRecDepth 20000 in
theorem ggX11_next_X11_statesOf : GoodIn wsX11_next wsX11_statesOf := goodIn_k tie_wsX11_next tie_wsX11_statesOf (by decide +kernel)
set_option maxRecDepth 20000 in
theorem gX11_next_X11_statesOf : GoodIn wsX11_next (va_wsS RX11 197 yX11_statesOf wsX11_statesOf) := goodIn_app (goodIn_k (is := [958, 959, 2]) tie_wsX11_next rfl (by decide +kernel)) ggX11_next_X11_statesOf
set_option maxRecDepth 20000 in
theorem ggX11_next_X8_solveStep : GoodIn wsX11_next wsX8_solveStep := goodIn_k tie_wsX11_next tie_wsX8_solveStep (by decide +kernel)
set_option maxRecDepth 20000 in
theorem gX11_next_X8_solveStep : GoodIn wsX11_next (wsV RX11 139 RX8 yX8_solveStep wsX8_solveStep) := goodIn_app (goodIn_k (is := [458, 459, 460, 27]) tie_wsX11_next rfl (by decide +kernel)) ggX11_next_X8_solveStep
set_option maxRecDepth 20000 in
theorem ggX11_next_X8_part : GoodIn wsX11_next wsX8_part := goodIn_k tie_wsX11_next tie_wsX8_part (by decide +kernel)
set_option maxRecDepth 20000 in
theorem gX11_next_X8_part : GoodIn wsX11_next (wsV RX11 143 RX8 yX8_part wsX8_part) := goodIn_app (goodIn_k (is := [470, 471, 472, 27]) tie_wsX11_next rfl (by decide +kernel)) ggX11_next_X8_part
theorem dX11_next_0 : decode cX11_next 0 = .ok (.aload_n 0, 1) := by decide +kernel
theorem dX11_next_1 : decode cX11_next 1 = .ok (.iload_n 1, 1) := by decide +kernel
theorem dX11_next_2 : decode cX11_next 2 = .ok (.iload_n 1, 1) := by decide +kernel
theorem dX11_next_3 : decode cX11_next 3 = .ok (.aload_n 0, 1) := by decide +kernel
theorem dX11_next_4 : decode cX11_next 4 = .ok (.iload_n 2, 1) := by decide +kernel
theorem dX11_next_5 : decode cX11_next 5 = .ok (.iload_n 3, 1) := by decide +kernel
theorem dX11_next_6 : decode cX11_next 6 = .ok (.invokevirtual 130, 3) := by decide +kernel
theorem dX11_next_9 : decode cX11_next 9 = .ok (.invokevirtual 190, 3) := by decide +kernel
theorem dX11_next_12 : decode cX11_next 12 = .ok (.istore 4, 2) := by decide +kernel
theorem dX11_next_14 : decode cX11_next 14 = .ok (.iload 4, 2) := by decide +kernel
theorem dX11_next_16 : decode cX11_next 16 = .ok (.ifCond .eq 7, 3) := by decide +kernel
theorem dX11_next_19 : decode cX11_next 19 = .ok (.iload 4, 2) := by decide +kernel
theorem dX11_next_21 : decode cX11_next 21 = .ok (.i2l, 1) := by decide +kernel
theorem dX11_next_22 : decode cX11_next 22 = .ok (.lreturn, 1) := by decide +kernel
theorem dX11_next_23 : decode cX11_next 23 = .ok (.aload_n 0, 1) := by decide +kernel
theorem dX11_next_24 : decode cX11_next 24 = .ok (.getfield 38, 3) := by decide +kernel
theorem dX11_next_27 : decode cX11_next 27 = .ok (.aload_n 0, 1) := by decide +kernel
theorem dX11_next_28 : decode cX11_next 28 = .ok (.iload_n 1, 1) := by decide +kernel
theorem dX11_next_29 : decode cX11_next 29 = .ok (.invokevirtual 194, 3) := by decide +kernel
theorem dX11_next_32 : decode cX11_next 32 = .ok (.aload_n 0, 1) := by decide +kernel
theorem dX11_next_33 : decode cX11_next 33 = .ok (.getfield 38, 3) := by decide +kernel
theorem dX11_next_36 : decode cX11_next 36 = .ok (.iconst 0, 1) := by decide +kernel
theorem dX11_next_37 : decode cX11_next 37 = .ok (.invokestatic 197, 3) := by decide +kernel
theorem dX11_next_40 : decode cX11_next 40 = .ok (.invokevirtual 139, 3) := by decide +kernel
theorem dX11_next_43 : decode cX11_next 43 = .ok (.aload_n 0, 1) := by decide +kernel
theorem dX11_next_44 : decode cX11_next 44 = .ok (.getfield 38, 3) := by decide +kernel
theorem dX11_next_47 : decode cX11_next 47 = .ok (.iload_n 2, 1) := by decide +kernel
theorem dX11_next_48 : decode cX11_next 48 = .ok (.iload_n 3, 1) := by decide +kernel
theorem dX11_next_49 : decode cX11_next 49 = .ok (.invokevirtual 143, 3) := by decide +kernel
theorem dX11_next_52 : decode cX11_next 52 = .ok (.lreturn, 1) := by decide +kernel
set_option maxRecDepth 20000 in
theorem ggX11_until_X11_asksValue : GoodIn wsX11_until wsX11_asksValue := goodIn_k tie_wsX11_until tie_wsX11_asksValue (by decide +kernel)
set_option maxRecDepth 20000 in
theorem gX11_until_X11_asksValue : GoodIn wsX11_until (wsV RX11 130 RX11 yX11_asksValue wsX11_asksValue) := goodIn_app (goodIn_k (is := [453, 454, 455, 2]) tie_wsX11_until rfl (by decide +kernel)) ggX11_until_X11_asksValue
set_option maxRecDepth 20000 in
theorem ggX11_until_X11_errorOf : GoodIn wsX11_until wsX11_errorOf := goodIn_k tie_wsX11_until tie_wsX11_errorOf (by decide +kernel)
set_option maxRecDepth 20000 in
theorem gX11_until_X11_errorOf : GoodIn wsX11_until (wsV RX11 190 RX11 yX11_errorOf wsX11_errorOf) := goodIn_app (goodIn_k (is := [932, 933, 934, 2]) tie_wsX11_until rfl (by decide +kernel)) ggX11_until_X11_errorOf
set_option maxRecDepth 20000 in
theorem ggX11_until_X11_rootOf : GoodIn wsX11_until wsX11_rootOf := goodIn_k tie_wsX11_until tie_wsX11_rootOf (by decide +kernel)
set_option maxRecDepth 20000 in
theorem gX11_until_X11_rootOf : GoodIn wsX11_until (wsV RX11 194 RX11 yX11_rootOf wsX11_rootOf) := goodIn_app (goodIn_k (is := [954, 955, 956, 2]) tie_wsX11_until rfl (by decide +kernel)) ggX11_until_X11_rootOf
set_option maxRecDepth 20000 in
theorem ggX11_until_X11_statesOf : GoodIn wsX11_until wsX11_statesOf := goodIn_k tie_wsX11_until tie_wsX11_statesOf (by decide +kernel)
set_option maxRecDepth 20000 in
theorem gX11_until_X11_statesOf : GoodIn wsX11_until (va_wsS RX11 197 yX11_statesOf wsX11_statesOf) := goodIn_app (goodIn_k (is := [958, 959, 2]) tie_wsX11_until rfl (by decide +kernel)) ggX11_until_X11_statesOf
set_option maxRecDepth 20000 in
theorem ggX11_until_X8_solveUntil : GoodIn wsX11_until wsX8_solveUntil := goodIn_k tie_wsX11_until tie_wsX8_solveUntil (by decide +kernel)
set_option maxRecDepth 20000 in
theorem gX11_until_X8_solveUntil : GoodIn wsX11_until (wsV RX11 204 RX8 yX8_solveUntil wsX8_solveUntil) := goodIn_app (goodIn_k (is := [967, 968, 969, 27]) tie_wsX11_until rfl (by decide +kernel)) ggX11_until_X8_solveUntil
set_option maxRecDepth 20000 in
theorem ggX11_until_X8_part : GoodIn wsX11_until wsX8_part := goodIn_k tie_wsX11_until tie_wsX8_part (by decide +kernel)
set_option maxRecDepth 20000 in
theorem gX11_until_X8_part : GoodIn wsX11_until (wsV RX11 143 RX8 yX8_part wsX8_part) := goodIn_app (goodIn_k (is := [470, 471, 472, 27]) tie_wsX11_until rfl (by decide +kernel)) ggX11_until_X8_part
theorem dX11_until_0 : decode cX11_until 0 = .ok (.aload_n 0, 1) := by decide +kernel
theorem dX11_until_1 : decode cX11_until 1 = .ok (.iload_n 1, 1) := by decide +kernel
theorem dX11_until_2 : decode cX11_until 2 = .ok (.iload_n 2, 1) := by decide +kernel
theorem dX11_until_3 : decode cX11_until 3 = .ok (.aload_n 0, 1) := by decide +kernel
theorem dX11_until_4 : decode cX11_until 4 = .ok (.iload_n 3, 1) := by decide +kernel
theorem dX11_until_5 : decode cX11_until 5 = .ok (.iload 4, 2) := by decide +kernel
theorem dX11_until_7 : decode cX11_until 7 = .ok (.invokevirtual 130, 3) := by decide +kernel
theorem dX11_until_10 : decode cX11_until 10 = .ok (.invokevirtual 190, 3) := by decide +kernel
theorem dX11_until_13 : decode cX11_until 13 = .ok (.istore 5, 2) := by decide +kernel
theorem dX11_until_15 : decode cX11_until 15 = .ok (.iload 5, 2) := by decide +kernel
theorem dX11_until_17 : decode cX11_until 17 = .ok (.ifCond .eq 7, 3) := by decide +kernel
theorem dX11_until_20 : decode cX11_until 20 = .ok (.iload 5, 2) := by decide +kernel
theorem dX11_until_22 : decode cX11_until 22 = .ok (.i2l, 1) := by decide +kernel
theorem dX11_until_23 : decode cX11_until 23 = .ok (.lreturn, 1) := by decide +kernel
theorem dX11_until_24 : decode cX11_until 24 = .ok (.aload_n 0, 1) := by decide +kernel
theorem dX11_until_25 : decode cX11_until 25 = .ok (.iload_n 1, 1) := by decide +kernel
theorem dX11_until_26 : decode cX11_until 26 = .ok (.invokevirtual 194, 3) := by decide +kernel
theorem dX11_until_29 : decode cX11_until 29 = .ok (.aload_n 0, 1) := by decide +kernel
theorem dX11_until_30 : decode cX11_until 30 = .ok (.getfield 38, 3) := by decide +kernel
theorem dX11_until_33 : decode cX11_until 33 = .ok (.iconst 0, 1) := by decide +kernel
theorem dX11_until_34 : decode cX11_until 34 = .ok (.invokestatic 197, 3) := by decide +kernel
theorem dX11_until_37 : decode cX11_until 37 = .ok (.istore 6, 2) := by decide +kernel
theorem dX11_until_39 : decode cX11_until 39 = .ok (.aload_n 0, 1) := by decide +kernel
theorem dX11_until_40 : decode cX11_until 40 = .ok (.getfield 38, 3) := by decide +kernel
theorem dX11_until_43 : decode cX11_until 43 = .ok (.iload 6, 2) := by decide +kernel
theorem dX11_until_45 : decode cX11_until 45 = .ok (.aload_n 0, 1) := by decide +kernel
theorem dX11_until_46 : decode cX11_until 46 = .ok (.iload_n 2, 1) := by decide +kernel
theorem dX11_until_47 : decode cX11_until 47 = .ok (.invokevirtual 194, 3) := by decide +kernel
theorem dX11_until_50 : decode cX11_until 50 = .ok (.aload_n 0, 1) := by decide +kernel
theorem dX11_until_51 : decode cX11_until 51 = .ok (.getfield 38, 3) := by decide +kernel
theorem dX11_until_54 : decode cX11_until 54 = .ok (.iconst 0, 1) := by decide +kernel
theorem dX11_until_55 : decode cX11_until 55 = .ok (.invokestatic 197, 3) := by decide +kernel
theorem dX11_until_58 : decode cX11_until 58 = .ok (.invokevirtual 204, 3) := by decide +kernel
theorem dX11_until_61 : decode cX11_until 61 = .ok (.aload_n 0, 1) := by decide +kernel
theorem dX11_until_62 : decode cX11_until 62 = .ok (.getfield 38, 3) := by decide +kernel
theorem dX11_until_65 : decode cX11_until 65 = .ok (.iload_n 3, 1) := by decide +kernel
theorem dX11_until_66 : decode cX11_until 66 = .ok (.iload 4, 2) := by decide +kernel
theorem dX11_until_68 : decode cX11_until 68 = .ok (.invokevirtual 143, 3) := by decide +kernel
theorem dX11_until_71 : decode cX11_until 71 = .ok (.lreturn, 1) := by decide +kernel
set_option maxRecDepth 20000 in
theorem ggX11_within_X11_asksValue : GoodIn wsX11_within wsX11_asksValue := goodIn_k tie_wsX11_within tie_wsX11_asksValue (by decide +kernel)
set_option maxRecDepth 20000 in
theorem gX11_within_X11_asksValue : GoodIn wsX11_within (wsV RX11 130 RX11 yX11_asksValue wsX11_asksValue) := goodIn_app (goodIn_k (is := [453, 454, 455, 2]) tie_wsX11_within rfl (by decide +kernel)) ggX11_within_X11_asksValue
set_option maxRecDepth 20000 in
theorem ggX11_within_X11_errorOf : GoodIn wsX11_within wsX11_errorOf := goodIn_k tie_wsX11_within tie_wsX11_errorOf (by decide +kernel)
set_option maxRecDepth 20000 in
theorem gX11_within_X11_errorOf : GoodIn wsX11_within (wsV RX11 190 RX11 yX11_errorOf wsX11_errorOf) := goodIn_app (goodIn_k (is := [932, 933, 934, 2]) tie_wsX11_within rfl (by decide +kernel)) ggX11_within_X11_errorOf
set_option maxRecDepth 20000 in
theorem ggX11_within_X8_refuses : GoodIn wsX11_within wsX8_refuses := goodIn_k tie_wsX11_within tie_wsX8_refuses (by decide +kernel)
set_option maxRecDepth 20000 in
theorem gX11_within_X8_refuses : GoodIn wsX11_within (wsV RX11 207 RX8 yX8_refuses wsX8_refuses) := goodIn_app (goodIn_k (is := [941, 942, 943, 27]) tie_wsX11_within rfl (by decide +kernel)) ggX11_within_X8_refuses
set_option maxRecDepth 20000 in
theorem ggX11_within_X11_rootOf : GoodIn wsX11_within wsX11_rootOf := goodIn_k tie_wsX11_within tie_wsX11_rootOf (by decide +kernel)
set_option maxRecDepth 20000 in
theorem gX11_within_X11_rootOf : GoodIn wsX11_within (wsV RX11 194 RX11 yX11_rootOf wsX11_rootOf) := goodIn_app (goodIn_k (is := [954, 955, 956, 2]) tie_wsX11_within rfl (by decide +kernel)) ggX11_within_X11_rootOf
set_option maxRecDepth 20000 in
theorem ggX11_within_X11_statesOf : GoodIn wsX11_within wsX11_statesOf := goodIn_k tie_wsX11_within tie_wsX11_statesOf (by decide +kernel)
set_option maxRecDepth 20000 in
theorem gX11_within_X11_statesOf : GoodIn wsX11_within (va_wsS RX11 197 yX11_statesOf wsX11_statesOf) := goodIn_app (goodIn_k (is := [958, 959, 2]) tie_wsX11_within rfl (by decide +kernel)) ggX11_within_X11_statesOf
set_option maxRecDepth 20000 in
theorem ggX11_within_X8_countWithin : GoodIn wsX11_within wsX8_countWithin := goodIn_k tie_wsX11_within tie_wsX8_countWithin (by decide +kernel)
set_option maxRecDepth 20000 in
theorem gX11_within_X8_countWithin : GoodIn wsX11_within (wsV RX11 212 RX8 yX8_countWithin wsX8_countWithin) := goodIn_app (goodIn_k (is := [1030, 1031, 1032, 27]) tie_wsX11_within rfl (by decide +kernel)) ggX11_within_X8_countWithin
set_option maxRecDepth 20000 in
theorem ggX11_within_X8_part : GoodIn wsX11_within wsX8_part := goodIn_k tie_wsX11_within tie_wsX8_part (by decide +kernel)
set_option maxRecDepth 20000 in
theorem gX11_within_X8_part : GoodIn wsX11_within (wsV RX11 143 RX8 yX8_part wsX8_part) := goodIn_app (goodIn_k (is := [470, 471, 472, 27]) tie_wsX11_within rfl (by decide +kernel)) ggX11_within_X8_part
theorem dX11_within_0 : decode cX11_within 0 = .ok (.aload_n 0, 1) := by decide +kernel
theorem dX11_within_1 : decode cX11_within 1 = .ok (.iload_n 1, 1) := by decide +kernel
theorem dX11_within_2 : decode cX11_within 2 = .ok (.iload_n 2, 1) := by decide +kernel
theorem dX11_within_3 : decode cX11_within 3 = .ok (.aload_n 0, 1) := by decide +kernel
theorem dX11_within_4 : decode cX11_within 4 = .ok (.iload 4, 2) := by decide +kernel
theorem dX11_within_6 : decode cX11_within 6 = .ok (.iload 5, 2) := by decide +kernel
theorem dX11_within_8 : decode cX11_within 8 = .ok (.invokevirtual 130, 3) := by decide +kernel
theorem dX11_within_11 : decode cX11_within 11 = .ok (.ifCond .eq 17, 3) := by decide +kernel
theorem dX11_within_14 : decode cX11_within 14 = .ok (.iload_n 3, 1) := by decide +kernel
theorem dX11_within_15 : decode cX11_within 15 = .ok (.ifCond .lt 13, 3) := by decide +kernel
theorem dX11_within_18 : decode cX11_within 18 = .ok (.iload_n 3, 1) := by decide +kernel
theorem dX11_within_19 : decode cX11_within 19 = .ok (.bipush 6, 2) := by decide +kernel
theorem dX11_within_21 : decode cX11_within 21 = .ok (.if_icmp .gt 7, 3) := by decide +kernel
theorem dX11_within_24 : decode cX11_within 24 = .ok (.iconst 1, 1) := by decide +kernel
theorem dX11_within_25 : decode cX11_within 25 = .ok (.goto 4, 3) := by decide +kernel
theorem dX11_within_28 : decode cX11_within 28 = .ok (.iconst 0, 1) := by decide +kernel
theorem dX11_within_29 : decode cX11_within 29 = .ok (.invokevirtual 190, 3) := by decide +kernel
theorem dX11_within_32 : decode cX11_within 32 = .ok (.istore 6, 2) := by decide +kernel
theorem dX11_within_34 : decode cX11_within 34 = .ok (.iload 6, 2) := by decide +kernel
theorem dX11_within_36 : decode cX11_within 36 = .ok (.ifCond .eq 7, 3) := by decide +kernel
theorem dX11_within_39 : decode cX11_within 39 = .ok (.iload 6, 2) := by decide +kernel
theorem dX11_within_41 : decode cX11_within 41 = .ok (.i2l, 1) := by decide +kernel
theorem dX11_within_42 : decode cX11_within 42 = .ok (.lreturn, 1) := by decide +kernel
theorem dX11_within_43 : decode cX11_within 43 = .ok (.aload_n 0, 1) := by decide +kernel
theorem dX11_within_44 : decode cX11_within 44 = .ok (.getfield 38, 3) := by decide +kernel
theorem dX11_within_47 : decode cX11_within 47 = .ok (.iload_n 3, 1) := by decide +kernel
theorem dX11_within_48 : decode cX11_within 48 = .ok (.invokevirtual 207, 3) := by decide +kernel
theorem dX11_within_51 : decode cX11_within 51 = .ok (.ifCond .eq 7, 3) := by decide +kernel
theorem dX11_within_54 : decode cX11_within 54 = .ok (.ldc2_w 210, 3) := by decide +kernel
theorem dX11_within_57 : decode cX11_within 57 = .ok (.lreturn, 1) := by decide +kernel
theorem dX11_within_58 : decode cX11_within 58 = .ok (.aload_n 0, 1) := by decide +kernel
theorem dX11_within_59 : decode cX11_within 59 = .ok (.iload_n 1, 1) := by decide +kernel
theorem dX11_within_60 : decode cX11_within 60 = .ok (.invokevirtual 194, 3) := by decide +kernel
theorem dX11_within_63 : decode cX11_within 63 = .ok (.aload_n 0, 1) := by decide +kernel
theorem dX11_within_64 : decode cX11_within 64 = .ok (.getfield 38, 3) := by decide +kernel
theorem dX11_within_67 : decode cX11_within 67 = .ok (.iconst 0, 1) := by decide +kernel
theorem dX11_within_68 : decode cX11_within 68 = .ok (.invokestatic 197, 3) := by decide +kernel
theorem dX11_within_71 : decode cX11_within 71 = .ok (.istore 7, 2) := by decide +kernel
theorem dX11_within_73 : decode cX11_within 73 = .ok (.aload_n 0, 1) := by decide +kernel
theorem dX11_within_74 : decode cX11_within 74 = .ok (.getfield 38, 3) := by decide +kernel
theorem dX11_within_77 : decode cX11_within 77 = .ok (.iload 7, 2) := by decide +kernel
theorem dX11_within_79 : decode cX11_within 79 = .ok (.aload_n 0, 1) := by decide +kernel
theorem dX11_within_80 : decode cX11_within 80 = .ok (.iload_n 2, 1) := by decide +kernel
theorem dX11_within_81 : decode cX11_within 81 = .ok (.invokevirtual 194, 3) := by decide +kernel
theorem dX11_within_84 : decode cX11_within 84 = .ok (.aload_n 0, 1) := by decide +kernel
theorem dX11_within_85 : decode cX11_within 85 = .ok (.getfield 38, 3) := by decide +kernel
theorem dX11_within_88 : decode cX11_within 88 = .ok (.iconst 0, 1) := by decide +kernel
theorem dX11_within_89 : decode cX11_within 89 = .ok (.invokestatic 197, 3) := by decide +kernel
theorem dX11_within_92 : decode cX11_within 92 = .ok (.iload_n 3, 1) := by decide +kernel
theorem dX11_within_93 : decode cX11_within 93 = .ok (.invokevirtual 212, 3) := by decide +kernel
theorem dX11_within_96 : decode cX11_within 96 = .ok (.aload_n 0, 1) := by decide +kernel
theorem dX11_within_97 : decode cX11_within 97 = .ok (.getfield 38, 3) := by decide +kernel
theorem dX11_within_100 : decode cX11_within 100 = .ok (.iload 4, 2) := by decide +kernel
theorem dX11_within_102 : decode cX11_within 102 = .ok (.iload 5, 2) := by decide +kernel
theorem dX11_within_104 : decode cX11_within 104 = .ok (.invokevirtual 143, 3) := by decide +kernel
theorem dX11_within_107 : decode cX11_within 107 = .ok (.lreturn, 1) := by decide +kernel
set_option maxRecDepth 20000 in
theorem ggX11_never_X11_errorOf : GoodIn wsX11_never wsX11_errorOf := goodIn_k tie_wsX11_never tie_wsX11_errorOf (by decide +kernel)
set_option maxRecDepth 20000 in
theorem gX11_never_X11_errorOf : GoodIn wsX11_never (wsV RX11 190 RX11 yX11_errorOf wsX11_errorOf) := goodIn_app (goodIn_k (is := [932, 933, 934, 2]) tie_wsX11_never rfl (by decide +kernel)) ggX11_never_X11_errorOf
set_option maxRecDepth 20000 in
theorem ggX11_never_X11_rootOf : GoodIn wsX11_never wsX11_rootOf := goodIn_k tie_wsX11_never tie_wsX11_rootOf (by decide +kernel)
set_option maxRecDepth 20000 in
theorem gX11_never_X11_rootOf : GoodIn wsX11_never (wsV RX11 194 RX11 yX11_rootOf wsX11_rootOf) := goodIn_app (goodIn_k (is := [954, 955, 956, 2]) tie_wsX11_never rfl (by decide +kernel)) ggX11_never_X11_rootOf
set_option maxRecDepth 20000 in
theorem ggX11_never_X11_statesOf : GoodIn wsX11_never wsX11_statesOf := goodIn_k tie_wsX11_never tie_wsX11_statesOf (by decide +kernel)
set_option maxRecDepth 20000 in
theorem gX11_never_X11_statesOf : GoodIn wsX11_never (va_wsS RX11 197 yX11_statesOf wsX11_statesOf) := goodIn_app (goodIn_k (is := [958, 959, 2]) tie_wsX11_never rfl (by decide +kernel)) ggX11_never_X11_statesOf
set_option maxRecDepth 20000 in
theorem ggX11_never_X2_neverUntil : GoodIn wsX11_never wsX2_neverUntil := goodIn_k tie_wsX11_never tie_wsX2_neverUntil (by decide +kernel)
set_option maxRecDepth 20000 in
theorem gX11_never_X2_neverUntil : GoodIn wsX11_never (wsV RX11 215 RX2 yX2_neverUntil wsX2_neverUntil) := goodIn_app (goodIn_k (is := [1200, 1201, 1202, 14]) tie_wsX11_never rfl (by decide +kernel)) ggX11_never_X2_neverUntil
theorem dX11_never_0 : decode cX11_never 0 = .ok (.aload_n 0, 1) := by decide +kernel
theorem dX11_never_1 : decode cX11_never 1 = .ok (.iload_n 1, 1) := by decide +kernel
theorem dX11_never_2 : decode cX11_never 2 = .ok (.iload_n 2, 1) := by decide +kernel
theorem dX11_never_3 : decode cX11_never 3 = .ok (.iconst 1, 1) := by decide +kernel
theorem dX11_never_4 : decode cX11_never 4 = .ok (.invokevirtual 190, 3) := by decide +kernel
theorem dX11_never_7 : decode cX11_never 7 = .ok (.istore_n 3, 1) := by decide +kernel
theorem dX11_never_8 : decode cX11_never 8 = .ok (.iload_n 3, 1) := by decide +kernel
theorem dX11_never_9 : decode cX11_never 9 = .ok (.ifCond .eq 5, 3) := by decide +kernel
theorem dX11_never_12 : decode cX11_never 12 = .ok (.iload_n 3, 1) := by decide +kernel
theorem dX11_never_13 : decode cX11_never 13 = .ok (.ireturn, 1) := by decide +kernel
theorem dX11_never_14 : decode cX11_never 14 = .ok (.aload_n 0, 1) := by decide +kernel
theorem dX11_never_15 : decode cX11_never 15 = .ok (.iload_n 1, 1) := by decide +kernel
theorem dX11_never_16 : decode cX11_never 16 = .ok (.invokevirtual 194, 3) := by decide +kernel
theorem dX11_never_19 : decode cX11_never 19 = .ok (.aload_n 0, 1) := by decide +kernel
theorem dX11_never_20 : decode cX11_never 20 = .ok (.getfield 38, 3) := by decide +kernel
theorem dX11_never_23 : decode cX11_never 23 = .ok (.iconst 0, 1) := by decide +kernel
theorem dX11_never_24 : decode cX11_never 24 = .ok (.invokestatic 197, 3) := by decide +kernel
theorem dX11_never_27 : decode cX11_never 27 = .ok (.istore 4, 2) := by decide +kernel
theorem dX11_never_29 : decode cX11_never 29 = .ok (.aload_n 0, 1) := by decide +kernel
theorem dX11_never_30 : decode cX11_never 30 = .ok (.getfield 10, 3) := by decide +kernel
theorem dX11_never_33 : decode cX11_never 33 = .ok (.iload 4, 2) := by decide +kernel
theorem dX11_never_35 : decode cX11_never 35 = .ok (.aload_n 0, 1) := by decide +kernel
theorem dX11_never_36 : decode cX11_never 36 = .ok (.iload_n 2, 1) := by decide +kernel
theorem dX11_never_37 : decode cX11_never 37 = .ok (.invokevirtual 194, 3) := by decide +kernel
theorem dX11_never_40 : decode cX11_never 40 = .ok (.aload_n 0, 1) := by decide +kernel
theorem dX11_never_41 : decode cX11_never 41 = .ok (.getfield 38, 3) := by decide +kernel
theorem dX11_never_44 : decode cX11_never 44 = .ok (.iconst 0, 1) := by decide +kernel
theorem dX11_never_45 : decode cX11_never 45 = .ok (.invokestatic 197, 3) := by decide +kernel
theorem dX11_never_48 : decode cX11_never 48 = .ok (.invokevirtual 215, 3) := by decide +kernel
theorem dX11_never_51 : decode cX11_never 51 = .ok (.ireturn, 1) := by decide +kernel
set_option maxRecDepth 20000 in
theorem ggX11_surely_X11_errorOf : GoodIn wsX11_surely wsX11_errorOf := goodIn_k tie_wsX11_surely tie_wsX11_errorOf (by decide +kernel)
set_option maxRecDepth 20000 in
theorem gX11_surely_X11_errorOf : GoodIn wsX11_surely (wsV RX11 190 RX11 yX11_errorOf wsX11_errorOf) := goodIn_app (goodIn_k (is := [932, 933, 934, 2]) tie_wsX11_surely rfl (by decide +kernel)) ggX11_surely_X11_errorOf
set_option maxRecDepth 20000 in
theorem ggX11_surely_X11_rootOf : GoodIn wsX11_surely wsX11_rootOf := goodIn_k tie_wsX11_surely tie_wsX11_rootOf (by decide +kernel)
set_option maxRecDepth 20000 in
theorem gX11_surely_X11_rootOf : GoodIn wsX11_surely (wsV RX11 194 RX11 yX11_rootOf wsX11_rootOf) := goodIn_app (goodIn_k (is := [954, 955, 956, 2]) tie_wsX11_surely rfl (by decide +kernel)) ggX11_surely_X11_rootOf
set_option maxRecDepth 20000 in
theorem ggX11_surely_X11_statesOf : GoodIn wsX11_surely wsX11_statesOf := goodIn_k tie_wsX11_surely tie_wsX11_statesOf (by decide +kernel)
set_option maxRecDepth 20000 in
theorem gX11_surely_X11_statesOf : GoodIn wsX11_surely (va_wsS RX11 197 yX11_statesOf wsX11_statesOf) := goodIn_app (goodIn_k (is := [958, 959, 2]) tie_wsX11_surely rfl (by decide +kernel)) ggX11_surely_X11_statesOf
set_option maxRecDepth 20000 in
theorem ggX11_surely_X2_surelyUntil : GoodIn wsX11_surely wsX2_surelyUntil := goodIn_k tie_wsX11_surely tie_wsX2_surelyUntil (by decide +kernel)
set_option maxRecDepth 20000 in
theorem gX11_surely_X2_surelyUntil : GoodIn wsX11_surely (wsV RX11 218 RX2 yX2_surelyUntil wsX2_surelyUntil) := goodIn_app (goodIn_k (is := [1216, 1058, 1059, 14]) tie_wsX11_surely rfl (by decide +kernel)) ggX11_surely_X2_surelyUntil
theorem dX11_surely_0 : decode cX11_surely 0 = .ok (.aload_n 0, 1) := by decide +kernel
theorem dX11_surely_1 : decode cX11_surely 1 = .ok (.iload_n 1, 1) := by decide +kernel
theorem dX11_surely_2 : decode cX11_surely 2 = .ok (.iload_n 2, 1) := by decide +kernel
theorem dX11_surely_3 : decode cX11_surely 3 = .ok (.iconst 1, 1) := by decide +kernel
theorem dX11_surely_4 : decode cX11_surely 4 = .ok (.invokevirtual 190, 3) := by decide +kernel
theorem dX11_surely_7 : decode cX11_surely 7 = .ok (.istore_n 3, 1) := by decide +kernel
theorem dX11_surely_8 : decode cX11_surely 8 = .ok (.iload_n 3, 1) := by decide +kernel
theorem dX11_surely_9 : decode cX11_surely 9 = .ok (.ifCond .eq 5, 3) := by decide +kernel
theorem dX11_surely_12 : decode cX11_surely 12 = .ok (.iload_n 3, 1) := by decide +kernel
theorem dX11_surely_13 : decode cX11_surely 13 = .ok (.ireturn, 1) := by decide +kernel
theorem dX11_surely_14 : decode cX11_surely 14 = .ok (.aload_n 0, 1) := by decide +kernel
theorem dX11_surely_15 : decode cX11_surely 15 = .ok (.iload_n 1, 1) := by decide +kernel
theorem dX11_surely_16 : decode cX11_surely 16 = .ok (.invokevirtual 194, 3) := by decide +kernel
theorem dX11_surely_19 : decode cX11_surely 19 = .ok (.aload_n 0, 1) := by decide +kernel
theorem dX11_surely_20 : decode cX11_surely 20 = .ok (.getfield 38, 3) := by decide +kernel
theorem dX11_surely_23 : decode cX11_surely 23 = .ok (.iconst 0, 1) := by decide +kernel
theorem dX11_surely_24 : decode cX11_surely 24 = .ok (.invokestatic 197, 3) := by decide +kernel
theorem dX11_surely_27 : decode cX11_surely 27 = .ok (.istore 4, 2) := by decide +kernel
theorem dX11_surely_29 : decode cX11_surely 29 = .ok (.aload_n 0, 1) := by decide +kernel
theorem dX11_surely_30 : decode cX11_surely 30 = .ok (.getfield 10, 3) := by decide +kernel
theorem dX11_surely_33 : decode cX11_surely 33 = .ok (.iload 4, 2) := by decide +kernel
theorem dX11_surely_35 : decode cX11_surely 35 = .ok (.aload_n 0, 1) := by decide +kernel
theorem dX11_surely_36 : decode cX11_surely 36 = .ok (.iload_n 2, 1) := by decide +kernel
theorem dX11_surely_37 : decode cX11_surely 37 = .ok (.invokevirtual 194, 3) := by decide +kernel
theorem dX11_surely_40 : decode cX11_surely 40 = .ok (.aload_n 0, 1) := by decide +kernel
theorem dX11_surely_41 : decode cX11_surely 41 = .ok (.getfield 38, 3) := by decide +kernel
theorem dX11_surely_44 : decode cX11_surely 44 = .ok (.iconst 0, 1) := by decide +kernel
theorem dX11_surely_45 : decode cX11_surely 45 = .ok (.invokestatic 197, 3) := by decide +kernel
theorem dX11_surely_48 : decode cX11_surely 48 = .ok (.invokevirtual 218, 3) := by decide +kernel
theorem dX11_surely_51 : decode cX11_surely 51 = .ok (.ireturn, 1) := by decide +kernel
set_option maxRecDepth 20000 in
theorem ggX11_steady_X11_asksValue : GoodIn wsX11_steady wsX11_asksValue := goodIn_k tie_wsX11_steady tie_wsX11_asksValue (by decide +kernel)
set_option maxRecDepth 20000 in
theorem gX11_steady_X11_asksValue : GoodIn wsX11_steady (wsV RX11 130 RX11 yX11_asksValue wsX11_asksValue) := goodIn_app (goodIn_k (is := [453, 454, 455, 2]) tie_wsX11_steady rfl (by decide +kernel)) ggX11_steady_X11_asksValue
set_option maxRecDepth 20000 in
theorem ggX11_steady_X11_errorOf : GoodIn wsX11_steady wsX11_errorOf := goodIn_k tie_wsX11_steady tie_wsX11_errorOf (by decide +kernel)
set_option maxRecDepth 20000 in
theorem gX11_steady_X11_errorOf : GoodIn wsX11_steady (wsV RX11 190 RX11 yX11_errorOf wsX11_errorOf) := goodIn_app (goodIn_k (is := [932, 933, 934, 2]) tie_wsX11_steady rfl (by decide +kernel)) ggX11_steady_X11_errorOf
set_option maxRecDepth 20000 in
theorem ggX11_steady_X11_rootOf : GoodIn wsX11_steady wsX11_rootOf := goodIn_k tie_wsX11_steady tie_wsX11_rootOf (by decide +kernel)
set_option maxRecDepth 20000 in
theorem gX11_steady_X11_rootOf : GoodIn wsX11_steady (wsV RX11 194 RX11 yX11_rootOf wsX11_rootOf) := goodIn_app (goodIn_k (is := [954, 955, 956, 2]) tie_wsX11_steady rfl (by decide +kernel)) ggX11_steady_X11_rootOf
set_option maxRecDepth 20000 in
theorem ggX11_steady_X11_statesOf : GoodIn wsX11_steady wsX11_statesOf := goodIn_k tie_wsX11_steady tie_wsX11_statesOf (by decide +kernel)
set_option maxRecDepth 20000 in
theorem gX11_steady_X11_statesOf : GoodIn wsX11_steady (va_wsS RX11 197 yX11_statesOf wsX11_statesOf) := goodIn_app (goodIn_k (is := [958, 959, 2]) tie_wsX11_steady rfl (by decide +kernel)) ggX11_steady_X11_statesOf
set_option maxRecDepth 20000 in
theorem ggX11_steady_X8_solveSteady : GoodIn wsX11_steady wsX8_solveSteady := goodIn_k tie_wsX11_steady tie_wsX8_solveSteady (by decide +kernel)
set_option maxRecDepth 20000 in
theorem gX11_steady_X8_solveSteady : GoodIn wsX11_steady (wsV RX11 221 RX8 yX8_solveSteady wsX8_solveSteady) := goodIn_app (goodIn_k (is := [1038, 1039, 1040, 27]) tie_wsX11_steady rfl (by decide +kernel)) ggX11_steady_X8_solveSteady
set_option maxRecDepth 20000 in
theorem ggX11_steady_X8_part : GoodIn wsX11_steady wsX8_part := goodIn_k tie_wsX11_steady tie_wsX8_part (by decide +kernel)
set_option maxRecDepth 20000 in
theorem gX11_steady_X8_part : GoodIn wsX11_steady (wsV RX11 143 RX8 yX8_part wsX8_part) := goodIn_app (goodIn_k (is := [470, 471, 472, 27]) tie_wsX11_steady rfl (by decide +kernel)) ggX11_steady_X8_part
theorem dX11_steady_0 : decode cX11_steady 0 = .ok (.aload_n 0, 1) := by decide +kernel
theorem dX11_steady_1 : decode cX11_steady 1 = .ok (.iload_n 1, 1) := by decide +kernel
theorem dX11_steady_2 : decode cX11_steady 2 = .ok (.iload_n 1, 1) := by decide +kernel
theorem dX11_steady_3 : decode cX11_steady 3 = .ok (.aload_n 0, 1) := by decide +kernel
theorem dX11_steady_4 : decode cX11_steady 4 = .ok (.iload_n 2, 1) := by decide +kernel
theorem dX11_steady_5 : decode cX11_steady 5 = .ok (.iload_n 3, 1) := by decide +kernel
theorem dX11_steady_6 : decode cX11_steady 6 = .ok (.invokevirtual 130, 3) := by decide +kernel
theorem dX11_steady_9 : decode cX11_steady 9 = .ok (.invokevirtual 190, 3) := by decide +kernel
theorem dX11_steady_12 : decode cX11_steady 12 = .ok (.istore 4, 2) := by decide +kernel
theorem dX11_steady_14 : decode cX11_steady 14 = .ok (.iload 4, 2) := by decide +kernel
theorem dX11_steady_16 : decode cX11_steady 16 = .ok (.ifCond .eq 7, 3) := by decide +kernel
theorem dX11_steady_19 : decode cX11_steady 19 = .ok (.iload 4, 2) := by decide +kernel
theorem dX11_steady_21 : decode cX11_steady 21 = .ok (.i2l, 1) := by decide +kernel
theorem dX11_steady_22 : decode cX11_steady 22 = .ok (.lreturn, 1) := by decide +kernel
theorem dX11_steady_23 : decode cX11_steady 23 = .ok (.aload_n 0, 1) := by decide +kernel
theorem dX11_steady_24 : decode cX11_steady 24 = .ok (.getfield 38, 3) := by decide +kernel
theorem dX11_steady_27 : decode cX11_steady 27 = .ok (.aload_n 0, 1) := by decide +kernel
theorem dX11_steady_28 : decode cX11_steady 28 = .ok (.iload_n 1, 1) := by decide +kernel
theorem dX11_steady_29 : decode cX11_steady 29 = .ok (.invokevirtual 194, 3) := by decide +kernel
theorem dX11_steady_32 : decode cX11_steady 32 = .ok (.aload_n 0, 1) := by decide +kernel
theorem dX11_steady_33 : decode cX11_steady 33 = .ok (.getfield 38, 3) := by decide +kernel
theorem dX11_steady_36 : decode cX11_steady 36 = .ok (.iconst 0, 1) := by decide +kernel
theorem dX11_steady_37 : decode cX11_steady 37 = .ok (.invokestatic 197, 3) := by decide +kernel
theorem dX11_steady_40 : decode cX11_steady 40 = .ok (.invokevirtual 221, 3) := by decide +kernel
theorem dX11_steady_43 : decode cX11_steady 43 = .ok (.aload_n 0, 1) := by decide +kernel
theorem dX11_steady_44 : decode cX11_steady 44 = .ok (.getfield 38, 3) := by decide +kernel
theorem dX11_steady_47 : decode cX11_steady 47 = .ok (.iload_n 2, 1) := by decide +kernel
theorem dX11_steady_48 : decode cX11_steady 48 = .ok (.iload_n 3, 1) := by decide +kernel
theorem dX11_steady_49 : decode cX11_steady 49 = .ok (.invokevirtual 143, 3) := by decide +kernel
theorem dX11_steady_52 : decode cX11_steady 52 = .ok (.lreturn, 1) := by decide +kernel
set_option maxRecDepth 20000 in
theorem ggX11_share_X11_asksValue : GoodIn wsX11_share wsX11_asksValue := goodIn_k tie_wsX11_share tie_wsX11_asksValue (by decide +kernel)
set_option maxRecDepth 20000 in
theorem gX11_share_X11_asksValue : GoodIn wsX11_share (wsV RX11 130 RX11 yX11_asksValue wsX11_asksValue) := goodIn_app (goodIn_k (is := [453, 454, 455, 2]) tie_wsX11_share rfl (by decide +kernel)) ggX11_share_X11_asksValue
set_option maxRecDepth 20000 in
theorem ggX11_share_X8_solveSteady : GoodIn wsX11_share wsX8_solveSteady := goodIn_k tie_wsX11_share tie_wsX8_solveSteady (by decide +kernel)
set_option maxRecDepth 20000 in
theorem gX11_share_X8_solveSteady : GoodIn wsX11_share (wsV RX11 221 RX8 yX8_solveSteady wsX8_solveSteady) := goodIn_app (goodIn_k (is := [1038, 1039, 1040, 27]) tie_wsX11_share rfl (by decide +kernel)) ggX11_share_X8_solveSteady
set_option maxRecDepth 20000 in
theorem ggX11_share_X8_part : GoodIn wsX11_share wsX8_part := goodIn_k tie_wsX11_share tie_wsX8_part (by decide +kernel)
set_option maxRecDepth 20000 in
theorem gX11_share_X8_part : GoodIn wsX11_share (wsV RX11 143 RX8 yX8_part wsX8_part) := goodIn_app (goodIn_k (is := [470, 471, 472, 27]) tie_wsX11_share rfl (by decide +kernel)) ggX11_share_X8_part
theorem dX11_share_0 : decode cX11_share 0 = .ok (.aload_n 0, 1) := by decide +kernel
theorem dX11_share_1 : decode cX11_share 1 = .ok (.iload_n 1, 1) := by decide +kernel
theorem dX11_share_2 : decode cX11_share 2 = .ok (.iload_n 2, 1) := by decide +kernel
theorem dX11_share_3 : decode cX11_share 3 = .ok (.invokevirtual 130, 3) := by decide +kernel
theorem dX11_share_6 : decode cX11_share 6 = .ok (.ifCond .ne 7, 3) := by decide +kernel
theorem dX11_share_9 : decode cX11_share 9 = .ok (.ldc2_w 134, 3) := by decide +kernel
theorem dX11_share_12 : decode cX11_share 12 = .ok (.lreturn, 1) := by decide +kernel
theorem dX11_share_13 : decode cX11_share 13 = .ok (.aload_n 0, 1) := by decide +kernel
theorem dX11_share_14 : decode cX11_share 14 = .ok (.getfield 38, 3) := by decide +kernel
theorem dX11_share_17 : decode cX11_share 17 = .ok (.iconst 1, 1) := by decide +kernel
theorem dX11_share_18 : decode cX11_share 18 = .ok (.iload_n 1, 1) := by decide +kernel
theorem dX11_share_19 : decode cX11_share 19 = .ok (.ishl, 1) := by decide +kernel
theorem dX11_share_20 : decode cX11_share 20 = .ok (.invokevirtual 221, 3) := by decide +kernel
theorem dX11_share_23 : decode cX11_share 23 = .ok (.aload_n 0, 1) := by decide +kernel
theorem dX11_share_24 : decode cX11_share 24 = .ok (.getfield 38, 3) := by decide +kernel
theorem dX11_share_27 : decode cX11_share 27 = .ok (.iload_n 1, 1) := by decide +kernel
theorem dX11_share_28 : decode cX11_share 28 = .ok (.iload_n 2, 1) := by decide +kernel
theorem dX11_share_29 : decode cX11_share 29 = .ok (.invokevirtual 143, 3) := by decide +kernel
theorem dX11_share_32 : decode cX11_share 32 = .ok (.lreturn, 1) := by decide +kernel
set_option maxRecDepth 20000 in
theorem ggX11_expected_X11_asksValue : GoodIn wsX11_expected wsX11_asksValue := goodIn_k tie_wsX11_expected tie_wsX11_asksValue (by decide +kernel)
set_option maxRecDepth 20000 in
theorem gX11_expected_X11_asksValue : GoodIn wsX11_expected (wsV RX11 130 RX11 yX11_asksValue wsX11_asksValue) := goodIn_app (goodIn_k (is := [453, 454, 455, 2]) tie_wsX11_expected rfl (by decide +kernel)) ggX11_expected_X11_asksValue
set_option maxRecDepth 20000 in
theorem ggX11_expected_X11_errorOf : GoodIn wsX11_expected wsX11_errorOf := goodIn_k tie_wsX11_expected tie_wsX11_errorOf (by decide +kernel)
set_option maxRecDepth 20000 in
theorem gX11_expected_X11_errorOf : GoodIn wsX11_expected (wsV RX11 190 RX11 yX11_errorOf wsX11_errorOf) := goodIn_app (goodIn_k (is := [932, 933, 934, 2]) tie_wsX11_expected rfl (by decide +kernel)) ggX11_expected_X11_errorOf
set_option maxRecDepth 20000 in
theorem ggX11_expected_X11_rootOf : GoodIn wsX11_expected wsX11_rootOf := goodIn_k tie_wsX11_expected tie_wsX11_rootOf (by decide +kernel)
set_option maxRecDepth 20000 in
theorem gX11_expected_X11_rootOf : GoodIn wsX11_expected (wsV RX11 194 RX11 yX11_rootOf wsX11_rootOf) := goodIn_app (goodIn_k (is := [954, 955, 956, 2]) tie_wsX11_expected rfl (by decide +kernel)) ggX11_expected_X11_rootOf
set_option maxRecDepth 20000 in
theorem ggX11_expected_X11_statesOf : GoodIn wsX11_expected wsX11_statesOf := goodIn_k tie_wsX11_expected tie_wsX11_statesOf (by decide +kernel)
set_option maxRecDepth 20000 in
theorem gX11_expected_X11_statesOf : GoodIn wsX11_expected (va_wsS RX11 197 yX11_statesOf wsX11_statesOf) := goodIn_app (goodIn_k (is := [958, 959, 2]) tie_wsX11_expected rfl (by decide +kernel)) ggX11_expected_X11_statesOf
set_option maxRecDepth 20000 in
theorem ggX11_expected_X8_solveExpected : GoodIn wsX11_expected wsX8_solveExpected := goodIn_k tie_wsX11_expected tie_wsX8_solveExpected (by decide +kernel)
set_option maxRecDepth 20000 in
theorem gX11_expected_X8_solveExpected : GoodIn wsX11_expected (wsV RX11 224 RX8 yX8_solveExpected wsX8_solveExpected) := goodIn_app (goodIn_k (is := [1052, 1053, 1054, 27]) tie_wsX11_expected rfl (by decide +kernel)) ggX11_expected_X8_solveExpected
set_option maxRecDepth 20000 in
theorem ggX11_expected_X8_isInfinite : GoodIn wsX11_expected wsX8_isInfinite := goodIn_k tie_wsX11_expected tie_wsX8_isInfinite (by decide +kernel)
set_option maxRecDepth 20000 in
theorem gX11_expected_X8_isInfinite : GoodIn wsX11_expected (wsV RX11 227 RX8 yX8_isInfinite wsX8_isInfinite) := goodIn_app (goodIn_k (is := [1242, 1243, 1244, 27]) tie_wsX11_expected rfl (by decide +kernel)) ggX11_expected_X8_isInfinite
set_option maxRecDepth 20000 in
theorem ggX11_expected_X8_part : GoodIn wsX11_expected wsX8_part := goodIn_k tie_wsX11_expected tie_wsX8_part (by decide +kernel)
set_option maxRecDepth 20000 in
theorem gX11_expected_X8_part : GoodIn wsX11_expected (wsV RX11 143 RX8 yX8_part wsX8_part) := goodIn_app (goodIn_k (is := [470, 471, 472, 27]) tie_wsX11_expected rfl (by decide +kernel)) ggX11_expected_X8_part
theorem dX11_expected_0 : decode cX11_expected 0 = .ok (.aload_n 0, 1) := by decide +kernel
theorem dX11_expected_1 : decode cX11_expected 1 = .ok (.iload_n 1, 1) := by decide +kernel
theorem dX11_expected_2 : decode cX11_expected 2 = .ok (.iload_n 1, 1) := by decide +kernel
theorem dX11_expected_3 : decode cX11_expected 3 = .ok (.aload_n 0, 1) := by decide +kernel
theorem dX11_expected_4 : decode cX11_expected 4 = .ok (.iload_n 2, 1) := by decide +kernel
theorem dX11_expected_5 : decode cX11_expected 5 = .ok (.iload_n 3, 1) := by decide +kernel
theorem dX11_expected_6 : decode cX11_expected 6 = .ok (.invokevirtual 130, 3) := by decide +kernel
theorem dX11_expected_9 : decode cX11_expected 9 = .ok (.invokevirtual 190, 3) := by decide +kernel
theorem dX11_expected_12 : decode cX11_expected 12 = .ok (.istore 4, 2) := by decide +kernel
theorem dX11_expected_14 : decode cX11_expected 14 = .ok (.iload 4, 2) := by decide +kernel
theorem dX11_expected_16 : decode cX11_expected 16 = .ok (.ifCond .eq 7, 3) := by decide +kernel
theorem dX11_expected_19 : decode cX11_expected 19 = .ok (.iload 4, 2) := by decide +kernel
theorem dX11_expected_21 : decode cX11_expected 21 = .ok (.i2l, 1) := by decide +kernel
theorem dX11_expected_22 : decode cX11_expected 22 = .ok (.lreturn, 1) := by decide +kernel
theorem dX11_expected_23 : decode cX11_expected 23 = .ok (.aload_n 0, 1) := by decide +kernel
theorem dX11_expected_24 : decode cX11_expected 24 = .ok (.getfield 38, 3) := by decide +kernel
theorem dX11_expected_27 : decode cX11_expected 27 = .ok (.aload_n 0, 1) := by decide +kernel
theorem dX11_expected_28 : decode cX11_expected 28 = .ok (.iload_n 1, 1) := by decide +kernel
theorem dX11_expected_29 : decode cX11_expected 29 = .ok (.invokevirtual 194, 3) := by decide +kernel
theorem dX11_expected_32 : decode cX11_expected 32 = .ok (.aload_n 0, 1) := by decide +kernel
theorem dX11_expected_33 : decode cX11_expected 33 = .ok (.getfield 38, 3) := by decide +kernel
theorem dX11_expected_36 : decode cX11_expected 36 = .ok (.iconst 0, 1) := by decide +kernel
theorem dX11_expected_37 : decode cX11_expected 37 = .ok (.invokestatic 197, 3) := by decide +kernel
theorem dX11_expected_40 : decode cX11_expected 40 = .ok (.invokevirtual 224, 3) := by decide +kernel
theorem dX11_expected_43 : decode cX11_expected 43 = .ok (.aload_n 0, 1) := by decide +kernel
theorem dX11_expected_44 : decode cX11_expected 44 = .ok (.getfield 38, 3) := by decide +kernel
theorem dX11_expected_47 : decode cX11_expected 47 = .ok (.iload_n 2, 1) := by decide +kernel
theorem dX11_expected_48 : decode cX11_expected 48 = .ok (.invokevirtual 227, 3) := by decide +kernel
theorem dX11_expected_51 : decode cX11_expected 51 = .ok (.ifCond .eq 9, 3) := by decide +kernel
theorem dX11_expected_54 : decode cX11_expected 54 = .ok (.ldc2_w 230, 3) := by decide +kernel
theorem dX11_expected_57 : decode cX11_expected 57 = .ok (.goto 12, 3) := by decide +kernel
theorem dX11_expected_60 : decode cX11_expected 60 = .ok (.aload_n 0, 1) := by decide +kernel
theorem dX11_expected_61 : decode cX11_expected 61 = .ok (.getfield 38, 3) := by decide +kernel
theorem dX11_expected_64 : decode cX11_expected 64 = .ok (.iload_n 2, 1) := by decide +kernel
theorem dX11_expected_65 : decode cX11_expected 65 = .ok (.iload_n 3, 1) := by decide +kernel
theorem dX11_expected_66 : decode cX11_expected 66 = .ok (.invokevirtual 143, 3) := by decide +kernel
theorem dX11_expected_69 : decode cX11_expected 69 = .ok (.lreturn, 1) := by decide +kernel
set_option maxRecDepth 20000 in
theorem ggX11_bestPath_X2_has : GoodIn wsX11_bestPath wsX2_has := goodIn_k tie_wsX11_bestPath tie_wsX2_has (by decide +kernel)
set_option maxRecDepth 20000 in
theorem gX11_bestPath_X2_has : GoodIn wsX11_bestPath (wsV RX11 83 RX2 yX2_has wsX2_has) := goodIn_app (goodIn_k (is := [218, 191, 192, 14]) tie_wsX11_bestPath rfl (by decide +kernel)) ggX11_bestPath_X2_has
set_option maxRecDepth 20000 in
theorem ggX11_bestPath_X11_errorOf : GoodIn wsX11_bestPath wsX11_errorOf := goodIn_k tie_wsX11_bestPath tie_wsX11_errorOf (by decide +kernel)
set_option maxRecDepth 20000 in
theorem gX11_bestPath_X11_errorOf : GoodIn wsX11_bestPath (wsV RX11 190 RX11 yX11_errorOf wsX11_errorOf) := goodIn_app (goodIn_k (is := [932, 933, 934, 2]) tie_wsX11_bestPath rfl (by decide +kernel)) ggX11_bestPath_X11_errorOf
set_option maxRecDepth 20000 in
theorem ggX11_bestPath_X11_rootOf : GoodIn wsX11_bestPath wsX11_rootOf := goodIn_k tie_wsX11_bestPath tie_wsX11_rootOf (by decide +kernel)
set_option maxRecDepth 20000 in
theorem gX11_bestPath_X11_rootOf : GoodIn wsX11_bestPath (wsV RX11 194 RX11 yX11_rootOf wsX11_rootOf) := goodIn_app (goodIn_k (is := [954, 955, 956, 2]) tie_wsX11_bestPath rfl (by decide +kernel)) ggX11_bestPath_X11_rootOf
set_option maxRecDepth 20000 in
theorem ggX11_bestPath_X11_statesOf : GoodIn wsX11_bestPath wsX11_statesOf := goodIn_k tie_wsX11_bestPath tie_wsX11_statesOf (by decide +kernel)
set_option maxRecDepth 20000 in
theorem gX11_bestPath_X11_statesOf : GoodIn wsX11_bestPath (va_wsS RX11 197 yX11_statesOf wsX11_statesOf) := goodIn_app (goodIn_k (is := [958, 959, 2]) tie_wsX11_bestPath rfl (by decide +kernel)) ggX11_bestPath_X11_statesOf
set_option maxRecDepth 20000 in
theorem ggX11_bestPath_X0_search : GoodIn wsX11_bestPath wsX0_search := goodIn_k tie_wsX11_bestPath tie_wsX0_search (by decide +kernel)
set_option maxRecDepth 20000 in
theorem gX11_bestPath_X0_search : GoodIn wsX11_bestPath (wsV RX11 232 RX0 yX0_search wsX0_search) := goodIn_app (goodIn_k (is := [1255, 1256, 1257, 31]) tie_wsX11_bestPath rfl (by decide +kernel)) ggX11_bestPath_X0_search
set_option maxRecDepth 20000 in
theorem ggX11_bestPath_X0_lengthFrom : GoodIn wsX11_bestPath wsX0_lengthFrom := goodIn_k tie_wsX11_bestPath tie_wsX0_lengthFrom (by decide +kernel)
set_option maxRecDepth 20000 in
theorem gX11_bestPath_X0_lengthFrom : GoodIn wsX11_bestPath (wsV RX11 235 RX0 yX0_lengthFrom wsX0_lengthFrom) := goodIn_app (goodIn_k (is := [1277, 1269, 1270, 31]) tie_wsX11_bestPath rfl (by decide +kernel)) ggX11_bestPath_X0_lengthFrom
set_option maxRecDepth 20000 in
theorem ggX11_bestPath_X0_stateAt : GoodIn wsX11_bestPath wsX0_stateAt := goodIn_k tie_wsX11_bestPath tie_wsX0_stateAt (by decide +kernel)
set_option maxRecDepth 20000 in
theorem gX11_bestPath_X0_stateAt : GoodIn wsX11_bestPath (wsV RX11 238 RX0 yX0_stateAt wsX0_stateAt) := goodIn_app (goodIn_k (is := [1278, 1279, 1280, 31]) tie_wsX11_bestPath rfl (by decide +kernel)) ggX11_bestPath_X0_stateAt
theorem dX11_bestPath_0 : decode cX11_bestPath 0 = .ok (.aload_n 0, 1) := by decide +kernel
theorem dX11_bestPath_1 : decode cX11_bestPath 1 = .ok (.iload_n 1, 1) := by decide +kernel
theorem dX11_bestPath_2 : decode cX11_bestPath 2 = .ok (.iload_n 2, 1) := by decide +kernel
theorem dX11_bestPath_3 : decode cX11_bestPath 3 = .ok (.aload_n 0, 1) := by decide +kernel
theorem dX11_bestPath_4 : decode cX11_bestPath 4 = .ok (.getfield 10, 3) := by decide +kernel
theorem dX11_bestPath_7 : decode cX11_bestPath 7 = .ok (.iload_n 3, 1) := by decide +kernel
theorem dX11_bestPath_8 : decode cX11_bestPath 8 = .ok (.invokevirtual 83, 3) := by decide +kernel
theorem dX11_bestPath_11 : decode cX11_bestPath 11 = .ok (.ifCond .eq 13, 3) := by decide +kernel
theorem dX11_bestPath_14 : decode cX11_bestPath 14 = .ok (.iload 4, 2) := by decide +kernel
theorem dX11_bestPath_16 : decode cX11_bestPath 16 = .ok (.iconst (-1), 1) := by decide +kernel
theorem dX11_bestPath_17 : decode cX11_bestPath 17 = .ok (.if_icmp .lt 7, 3) := by decide +kernel
theorem dX11_bestPath_20 : decode cX11_bestPath 20 = .ok (.iconst 1, 1) := by decide +kernel
theorem dX11_bestPath_21 : decode cX11_bestPath 21 = .ok (.goto 4, 3) := by decide +kernel
theorem dX11_bestPath_24 : decode cX11_bestPath 24 = .ok (.iconst 0, 1) := by decide +kernel
theorem dX11_bestPath_25 : decode cX11_bestPath 25 = .ok (.invokevirtual 190, 3) := by decide +kernel
theorem dX11_bestPath_28 : decode cX11_bestPath 28 = .ok (.istore 5, 2) := by decide +kernel
theorem dX11_bestPath_30 : decode cX11_bestPath 30 = .ok (.iload 5, 2) := by decide +kernel
theorem dX11_bestPath_32 : decode cX11_bestPath 32 = .ok (.ifCond .eq 6, 3) := by decide +kernel
theorem dX11_bestPath_35 : decode cX11_bestPath 35 = .ok (.iload 5, 2) := by decide +kernel
theorem dX11_bestPath_37 : decode cX11_bestPath 37 = .ok (.ireturn, 1) := by decide +kernel
theorem dX11_bestPath_38 : decode cX11_bestPath 38 = .ok (.aload_n 0, 1) := by decide +kernel
theorem dX11_bestPath_39 : decode cX11_bestPath 39 = .ok (.iload_n 1, 1) := by decide +kernel
theorem dX11_bestPath_40 : decode cX11_bestPath 40 = .ok (.invokevirtual 194, 3) := by decide +kernel
theorem dX11_bestPath_43 : decode cX11_bestPath 43 = .ok (.aload_n 0, 1) := by decide +kernel
theorem dX11_bestPath_44 : decode cX11_bestPath 44 = .ok (.getfield 38, 3) := by decide +kernel
theorem dX11_bestPath_47 : decode cX11_bestPath 47 = .ok (.iconst 0, 1) := by decide +kernel
theorem dX11_bestPath_48 : decode cX11_bestPath 48 = .ok (.invokestatic 197, 3) := by decide +kernel
theorem dX11_bestPath_51 : decode cX11_bestPath 51 = .ok (.istore 6, 2) := by decide +kernel
theorem dX11_bestPath_53 : decode cX11_bestPath 53 = .ok (.aload_n 0, 1) := by decide +kernel
theorem dX11_bestPath_54 : decode cX11_bestPath 54 = .ok (.getfield 45, 3) := by decide +kernel
theorem dX11_bestPath_57 : decode cX11_bestPath 57 = .ok (.iload 6, 2) := by decide +kernel
theorem dX11_bestPath_59 : decode cX11_bestPath 59 = .ok (.aload_n 0, 1) := by decide +kernel
theorem dX11_bestPath_60 : decode cX11_bestPath 60 = .ok (.iload_n 2, 1) := by decide +kernel
theorem dX11_bestPath_61 : decode cX11_bestPath 61 = .ok (.invokevirtual 194, 3) := by decide +kernel
theorem dX11_bestPath_64 : decode cX11_bestPath 64 = .ok (.aload_n 0, 1) := by decide +kernel
theorem dX11_bestPath_65 : decode cX11_bestPath 65 = .ok (.getfield 38, 3) := by decide +kernel
theorem dX11_bestPath_68 : decode cX11_bestPath 68 = .ok (.iconst 0, 1) := by decide +kernel
theorem dX11_bestPath_69 : decode cX11_bestPath 69 = .ok (.invokestatic 197, 3) := by decide +kernel
theorem dX11_bestPath_72 : decode cX11_bestPath 72 = .ok (.invokevirtual 232, 3) := by decide +kernel
theorem dX11_bestPath_75 : decode cX11_bestPath 75 = .ok (.aload_n 0, 1) := by decide +kernel
theorem dX11_bestPath_76 : decode cX11_bestPath 76 = .ok (.getfield 45, 3) := by decide +kernel
theorem dX11_bestPath_79 : decode cX11_bestPath 79 = .ok (.iload_n 3, 1) := by decide +kernel
theorem dX11_bestPath_80 : decode cX11_bestPath 80 = .ok (.invokevirtual 235, 3) := by decide +kernel
theorem dX11_bestPath_83 : decode cX11_bestPath 83 = .ok (.istore 7, 2) := by decide +kernel
theorem dX11_bestPath_85 : decode cX11_bestPath 85 = .ok (.iload 7, 2) := by decide +kernel
theorem dX11_bestPath_87 : decode cX11_bestPath 87 = .ok (.ifCond .eq 10, 3) := by decide +kernel
theorem dX11_bestPath_90 : decode cX11_bestPath 90 = .ok (.iload 4, 2) := by decide +kernel
theorem dX11_bestPath_92 : decode cX11_bestPath 92 = .ok (.iload 7, 2) := by decide +kernel
theorem dX11_bestPath_94 : decode cX11_bestPath 94 = .ok (.if_icmp .lt 6, 3) := by decide +kernel
theorem dX11_bestPath_97 : decode cX11_bestPath 97 = .ok (.bipush (-2), 2) := by decide +kernel
theorem dX11_bestPath_99 : decode cX11_bestPath 99 = .ok (.ireturn, 1) := by decide +kernel
theorem dX11_bestPath_100 : decode cX11_bestPath 100 = .ok (.iload 4, 2) := by decide +kernel
theorem dX11_bestPath_102 : decode cX11_bestPath 102 = .ok (.ifCond .ge 8, 3) := by decide +kernel
theorem dX11_bestPath_105 : decode cX11_bestPath 105 = .ok (.iload 7, 2) := by decide +kernel
theorem dX11_bestPath_107 : decode cX11_bestPath 107 = .ok (.goto 13, 3) := by decide +kernel
theorem dX11_bestPath_110 : decode cX11_bestPath 110 = .ok (.aload_n 0, 1) := by decide +kernel
theorem dX11_bestPath_111 : decode cX11_bestPath 111 = .ok (.getfield 45, 3) := by decide +kernel
theorem dX11_bestPath_114 : decode cX11_bestPath 114 = .ok (.iload_n 3, 1) := by decide +kernel
theorem dX11_bestPath_115 : decode cX11_bestPath 115 = .ok (.iload 4, 2) := by decide +kernel
theorem dX11_bestPath_117 : decode cX11_bestPath 117 = .ok (.invokevirtual 238, 3) := by decide +kernel
theorem dX11_bestPath_120 : decode cX11_bestPath 120 = .ok (.ireturn, 1) := by decide +kernel
set_option maxRecDepth 20000 in
theorem ggX11_bestProduct_X11_asksValue : GoodIn wsX11_bestProduct wsX11_asksValue := goodIn_k tie_wsX11_bestProduct tie_wsX11_asksValue (by decide +kernel)
set_option maxRecDepth 20000 in
theorem gX11_bestProduct_X11_asksValue : GoodIn wsX11_bestProduct (wsV RX11 130 RX11 yX11_asksValue wsX11_asksValue) := goodIn_app (goodIn_k (is := [453, 454, 455, 2]) tie_wsX11_bestProduct rfl (by decide +kernel)) ggX11_bestProduct_X11_asksValue
set_option maxRecDepth 20000 in
theorem ggX11_bestProduct_X11_errorOf : GoodIn wsX11_bestProduct wsX11_errorOf := goodIn_k tie_wsX11_bestProduct tie_wsX11_errorOf (by decide +kernel)
set_option maxRecDepth 20000 in
theorem gX11_bestProduct_X11_errorOf : GoodIn wsX11_bestProduct (wsV RX11 190 RX11 yX11_errorOf wsX11_errorOf) := goodIn_app (goodIn_k (is := [932, 933, 934, 2]) tie_wsX11_bestProduct rfl (by decide +kernel)) ggX11_bestProduct_X11_errorOf
set_option maxRecDepth 20000 in
theorem ggX11_bestProduct_X11_rootOf : GoodIn wsX11_bestProduct wsX11_rootOf := goodIn_k tie_wsX11_bestProduct tie_wsX11_rootOf (by decide +kernel)
set_option maxRecDepth 20000 in
theorem gX11_bestProduct_X11_rootOf : GoodIn wsX11_bestProduct (wsV RX11 194 RX11 yX11_rootOf wsX11_rootOf) := goodIn_app (goodIn_k (is := [954, 955, 956, 2]) tie_wsX11_bestProduct rfl (by decide +kernel)) ggX11_bestProduct_X11_rootOf
set_option maxRecDepth 20000 in
theorem ggX11_bestProduct_X11_statesOf : GoodIn wsX11_bestProduct wsX11_statesOf := goodIn_k tie_wsX11_bestProduct tie_wsX11_statesOf (by decide +kernel)
set_option maxRecDepth 20000 in
theorem gX11_bestProduct_X11_statesOf : GoodIn wsX11_bestProduct (va_wsS RX11 197 yX11_statesOf wsX11_statesOf) := goodIn_app (goodIn_k (is := [958, 959, 2]) tie_wsX11_bestProduct rfl (by decide +kernel)) ggX11_bestProduct_X11_statesOf
set_option maxRecDepth 20000 in
theorem ggX11_bestProduct_X0_search : GoodIn wsX11_bestProduct wsX0_search := goodIn_k tie_wsX11_bestProduct tie_wsX0_search (by decide +kernel)
set_option maxRecDepth 20000 in
theorem gX11_bestProduct_X0_search : GoodIn wsX11_bestProduct (wsV RX11 232 RX0 yX0_search wsX0_search) := goodIn_app (goodIn_k (is := [1255, 1256, 1257, 31]) tie_wsX11_bestProduct rfl (by decide +kernel)) ggX11_bestProduct_X0_search
set_option maxRecDepth 20000 in
theorem ggX11_bestProduct_X0_lengthFrom : GoodIn wsX11_bestProduct wsX0_lengthFrom := goodIn_k tie_wsX11_bestProduct tie_wsX0_lengthFrom (by decide +kernel)
set_option maxRecDepth 20000 in
theorem gX11_bestProduct_X0_lengthFrom : GoodIn wsX11_bestProduct (wsV RX11 235 RX0 yX0_lengthFrom wsX0_lengthFrom) := goodIn_app (goodIn_k (is := [1277, 1269, 1270, 31]) tie_wsX11_bestProduct rfl (by decide +kernel)) ggX11_bestProduct_X0_lengthFrom
set_option maxRecDepth 20000 in
theorem ggX11_bestProduct_X0_product : GoodIn wsX11_bestProduct wsX0_product := goodIn_k tie_wsX11_bestProduct tie_wsX0_product (by decide +kernel)
set_option maxRecDepth 20000 in
theorem gX11_bestProduct_X0_product : GoodIn wsX11_bestProduct (wsV RX11 243 RX0 yX0_product wsX0_product) := goodIn_app (goodIn_k (is := [1307, 1308, 1309, 31]) tie_wsX11_bestProduct rfl (by decide +kernel)) ggX11_bestProduct_X0_product
theorem dX11_bestProduct_0 : decode cX11_bestProduct 0 = .ok (.aload_n 0, 1) := by decide +kernel
theorem dX11_bestProduct_1 : decode cX11_bestProduct 1 = .ok (.iload_n 1, 1) := by decide +kernel
theorem dX11_bestProduct_2 : decode cX11_bestProduct 2 = .ok (.iload_n 2, 1) := by decide +kernel
theorem dX11_bestProduct_3 : decode cX11_bestProduct 3 = .ok (.aload_n 0, 1) := by decide +kernel
theorem dX11_bestProduct_4 : decode cX11_bestProduct 4 = .ok (.iload_n 3, 1) := by decide +kernel
theorem dX11_bestProduct_5 : decode cX11_bestProduct 5 = .ok (.iload 4, 2) := by decide +kernel
theorem dX11_bestProduct_7 : decode cX11_bestProduct 7 = .ok (.invokevirtual 130, 3) := by decide +kernel
theorem dX11_bestProduct_10 : decode cX11_bestProduct 10 = .ok (.invokevirtual 190, 3) := by decide +kernel
theorem dX11_bestProduct_13 : decode cX11_bestProduct 13 = .ok (.istore 5, 2) := by decide +kernel
theorem dX11_bestProduct_15 : decode cX11_bestProduct 15 = .ok (.iload 5, 2) := by decide +kernel
theorem dX11_bestProduct_17 : decode cX11_bestProduct 17 = .ok (.ifCond .eq 7, 3) := by decide +kernel
theorem dX11_bestProduct_20 : decode cX11_bestProduct 20 = .ok (.iload 5, 2) := by decide +kernel
theorem dX11_bestProduct_22 : decode cX11_bestProduct 22 = .ok (.i2l, 1) := by decide +kernel
theorem dX11_bestProduct_23 : decode cX11_bestProduct 23 = .ok (.lreturn, 1) := by decide +kernel
theorem dX11_bestProduct_24 : decode cX11_bestProduct 24 = .ok (.aload_n 0, 1) := by decide +kernel
theorem dX11_bestProduct_25 : decode cX11_bestProduct 25 = .ok (.iload_n 1, 1) := by decide +kernel
theorem dX11_bestProduct_26 : decode cX11_bestProduct 26 = .ok (.invokevirtual 194, 3) := by decide +kernel
theorem dX11_bestProduct_29 : decode cX11_bestProduct 29 = .ok (.aload_n 0, 1) := by decide +kernel
theorem dX11_bestProduct_30 : decode cX11_bestProduct 30 = .ok (.getfield 38, 3) := by decide +kernel
theorem dX11_bestProduct_33 : decode cX11_bestProduct 33 = .ok (.iconst 0, 1) := by decide +kernel
theorem dX11_bestProduct_34 : decode cX11_bestProduct 34 = .ok (.invokestatic 197, 3) := by decide +kernel
theorem dX11_bestProduct_37 : decode cX11_bestProduct 37 = .ok (.istore 6, 2) := by decide +kernel
theorem dX11_bestProduct_39 : decode cX11_bestProduct 39 = .ok (.aload_n 0, 1) := by decide +kernel
theorem dX11_bestProduct_40 : decode cX11_bestProduct 40 = .ok (.getfield 45, 3) := by decide +kernel
theorem dX11_bestProduct_43 : decode cX11_bestProduct 43 = .ok (.iload 6, 2) := by decide +kernel
theorem dX11_bestProduct_45 : decode cX11_bestProduct 45 = .ok (.aload_n 0, 1) := by decide +kernel
theorem dX11_bestProduct_46 : decode cX11_bestProduct 46 = .ok (.iload_n 2, 1) := by decide +kernel
theorem dX11_bestProduct_47 : decode cX11_bestProduct 47 = .ok (.invokevirtual 194, 3) := by decide +kernel
theorem dX11_bestProduct_50 : decode cX11_bestProduct 50 = .ok (.aload_n 0, 1) := by decide +kernel
theorem dX11_bestProduct_51 : decode cX11_bestProduct 51 = .ok (.getfield 38, 3) := by decide +kernel
theorem dX11_bestProduct_54 : decode cX11_bestProduct 54 = .ok (.iconst 0, 1) := by decide +kernel
theorem dX11_bestProduct_55 : decode cX11_bestProduct 55 = .ok (.invokestatic 197, 3) := by decide +kernel
theorem dX11_bestProduct_58 : decode cX11_bestProduct 58 = .ok (.invokevirtual 232, 3) := by decide +kernel
theorem dX11_bestProduct_61 : decode cX11_bestProduct 61 = .ok (.aload_n 0, 1) := by decide +kernel
theorem dX11_bestProduct_62 : decode cX11_bestProduct 62 = .ok (.getfield 45, 3) := by decide +kernel
theorem dX11_bestProduct_65 : decode cX11_bestProduct 65 = .ok (.iload_n 3, 1) := by decide +kernel
theorem dX11_bestProduct_66 : decode cX11_bestProduct 66 = .ok (.invokevirtual 235, 3) := by decide +kernel
theorem dX11_bestProduct_69 : decode cX11_bestProduct 69 = .ok (.ifCond .ne 9, 3) := by decide +kernel
theorem dX11_bestProduct_72 : decode cX11_bestProduct 72 = .ok (.ldc2_w 241, 3) := by decide +kernel
theorem dX11_bestProduct_75 : decode cX11_bestProduct 75 = .ok (.goto 13, 3) := by decide +kernel
theorem dX11_bestProduct_78 : decode cX11_bestProduct 78 = .ok (.aload_n 0, 1) := by decide +kernel
theorem dX11_bestProduct_79 : decode cX11_bestProduct 79 = .ok (.getfield 45, 3) := by decide +kernel
theorem dX11_bestProduct_82 : decode cX11_bestProduct 82 = .ok (.iload_n 3, 1) := by decide +kernel
theorem dX11_bestProduct_83 : decode cX11_bestProduct 83 = .ok (.iload 4, 2) := by decide +kernel
theorem dX11_bestProduct_85 : decode cX11_bestProduct 85 = .ok (.invokevirtual 243, 3) := by decide +kernel
theorem dX11_bestProduct_88 : decode cX11_bestProduct 88 = .ok (.lreturn, 1) := by decide +kernel
set_option maxRecDepth 20000 in
theorem ggX11_walk_X2_has : GoodIn wsX11_walk wsX2_has := goodIn_k tie_wsX11_walk tie_wsX2_has (by decide +kernel)
set_option maxRecDepth 20000 in
theorem gX11_walk_X2_has : GoodIn wsX11_walk (wsV RX11 83 RX2 yX2_has wsX2_has) := goodIn_app (goodIn_k (is := [218, 191, 192, 14]) tie_wsX11_walk rfl (by decide +kernel)) ggX11_walk_X2_has
set_option maxRecDepth 20000 in
theorem ggX11_walk_X2_drawn : GoodIn wsX11_walk wsX2_drawn := goodIn_k tie_wsX11_walk tie_wsX2_drawn (by decide +kernel)
set_option maxRecDepth 20000 in
theorem gX11_walk_X2_drawn : GoodIn wsX11_walk (wsV RX11 247 RX2 yX2_drawn wsX2_drawn) := goodIn_app (goodIn_k (is := [1321, 1322, 1323, 14]) tie_wsX11_walk rfl (by decide +kernel)) ggX11_walk_X2_drawn
theorem dX11_walk_0 : decode cX11_walk 0 = .ok (.aload_n 0, 1) := by decide +kernel
theorem dX11_walk_1 : decode cX11_walk 1 = .ok (.getfield 10, 3) := by decide +kernel
theorem dX11_walk_4 : decode cX11_walk 4 = .ok (.iload_n 1, 1) := by decide +kernel
theorem dX11_walk_5 : decode cX11_walk 5 = .ok (.invokevirtual 83, 3) := by decide +kernel
theorem dX11_walk_8 : decode cX11_walk 8 = .ok (.ifCond .eq 13, 3) := by decide +kernel
theorem dX11_walk_11 : decode cX11_walk 11 = .ok (.iload_n 2, 1) := by decide +kernel
theorem dX11_walk_12 : decode cX11_walk 12 = .ok (.ifCond .lt 9, 3) := by decide +kernel
theorem dX11_walk_15 : decode cX11_walk 15 = .ok (.iload_n 2, 1) := by decide +kernel
theorem dX11_walk_16 : decode cX11_walk 16 = .ok (.bipush 100, 2) := by decide +kernel
theorem dX11_walk_18 : decode cX11_walk 18 = .ok (.if_icmp .le 5, 3) := by decide +kernel
theorem dX11_walk_21 : decode cX11_walk 21 = .ok (.iconst (-1), 1) := by decide +kernel
theorem dX11_walk_22 : decode cX11_walk 22 = .ok (.ireturn, 1) := by decide +kernel
theorem dX11_walk_23 : decode cX11_walk 23 = .ok (.iload_n 1, 1) := by decide +kernel
theorem dX11_walk_24 : decode cX11_walk 24 = .ok (.istore 4, 2) := by decide +kernel
theorem dX11_walk_26 : decode cX11_walk 26 = .ok (.iload_n 3, 1) := by decide +kernel
theorem dX11_walk_27 : decode cX11_walk 27 = .ok (.istore 5, 2) := by decide +kernel
theorem dX11_walk_29 : decode cX11_walk 29 = .ok (.iconst 0, 1) := by decide +kernel
theorem dX11_walk_30 : decode cX11_walk 30 = .ok (.istore 6, 2) := by decide +kernel
theorem dX11_walk_32 : decode cX11_walk 32 = .ok (.iload 6, 2) := by decide +kernel
theorem dX11_walk_34 : decode cX11_walk 34 = .ok (.iload_n 2, 1) := by decide +kernel
theorem dX11_walk_35 : decode cX11_walk 35 = .ok (.if_icmp .ge 36, 3) := by decide +kernel
theorem dX11_walk_38 : decode cX11_walk 38 = .ok (.iload 5, 2) := by decide +kernel
theorem dX11_walk_40 : decode cX11_walk 40 = .ok (.ldc 246, 2) := by decide +kernel
theorem dX11_walk_42 : decode cX11_walk 42 = .ok (.imul, 1) := by decide +kernel
theorem dX11_walk_43 : decode cX11_walk 43 = .ok (.sipush 12345, 3) := by decide +kernel
theorem dX11_walk_46 : decode cX11_walk 46 = .ok (.iadd, 1) := by decide +kernel
theorem dX11_walk_47 : decode cX11_walk 47 = .ok (.istore 5, 2) := by decide +kernel
theorem dX11_walk_49 : decode cX11_walk 49 = .ok (.aload_n 0, 1) := by decide +kernel
theorem dX11_walk_50 : decode cX11_walk 50 = .ok (.getfield 10, 3) := by decide +kernel
theorem dX11_walk_53 : decode cX11_walk 53 = .ok (.iload 4, 2) := by decide +kernel
theorem dX11_walk_55 : decode cX11_walk 55 = .ok (.iload 5, 2) := by decide +kernel
theorem dX11_walk_57 : decode cX11_walk 57 = .ok (.bipush 8, 2) := by decide +kernel
theorem dX11_walk_59 : decode cX11_walk 59 = .ok (.iushr, 1) := by decide +kernel
theorem dX11_walk_60 : decode cX11_walk 60 = .ok (.invokevirtual 247, 3) := by decide +kernel
theorem dX11_walk_63 : decode cX11_walk 63 = .ok (.istore 4, 2) := by decide +kernel
theorem dX11_walk_65 : decode cX11_walk 65 = .ok (.iinc 6 1, 3) := by decide +kernel
theorem dX11_walk_68 : decode cX11_walk 68 = .ok (.goto (-36), 3) := by decide +kernel
theorem dX11_walk_71 : decode cX11_walk 71 = .ok (.iload 4, 2) := by decide +kernel
theorem dX11_walk_73 : decode cX11_walk 73 = .ok (.ireturn, 1) := by decide +kernel
set_option maxRecDepth 20000 in
theorem ggX11_save_X2_copyFrom : GoodIn wsX11_save wsX2_copyFrom := goodIn_k tie_wsX11_save tie_wsX2_copyFrom (by decide +kernel)
set_option maxRecDepth 20000 in
theorem gX11_save_X2_copyFrom : GoodIn wsX11_save (wsV RX11 250 RX2 yX2_copyFrom wsX2_copyFrom) := goodIn_app (goodIn_k (is := [1334, 158, 159, 14]) tie_wsX11_save rfl (by decide +kernel)) ggX11_save_X2_copyFrom
set_option maxRecDepth 20000 in
theorem ggX11_save_X2_size : GoodIn wsX11_save wsX2_size := goodIn_k tie_wsX11_save tie_wsX2_size (by decide +kernel)
set_option maxRecDepth 20000 in
theorem gX11_save_X2_size : GoodIn wsX11_save (wsV RX11 70 RX2 yX2_size wsX2_size) := goodIn_app (goodIn_k (is := [144, 145, 146, 14]) tie_wsX11_save rfl (by decide +kernel)) ggX11_save_X2_size
theorem dX11_save_0 : decode cX11_save 0 = .ok (.aload_n 0, 1) := by decide +kernel
theorem dX11_save_1 : decode cX11_save 1 = .ok (.getfield 16, 3) := by decide +kernel
theorem dX11_save_4 : decode cX11_save 4 = .ok (.aload_n 0, 1) := by decide +kernel
theorem dX11_save_5 : decode cX11_save 5 = .ok (.getfield 10, 3) := by decide +kernel
theorem dX11_save_8 : decode cX11_save 8 = .ok (.invokevirtual 250, 3) := by decide +kernel
theorem dX11_save_11 : decode cX11_save 11 = .ok (.aload_n 0, 1) := by decide +kernel
theorem dX11_save_12 : decode cX11_save 12 = .ok (.iconst 1, 1) := by decide +kernel
theorem dX11_save_13 : decode cX11_save 13 = .ok (.putfield 66, 3) := by decide +kernel
theorem dX11_save_16 : decode cX11_save 16 = .ok (.aload_n 0, 1) := by decide +kernel
theorem dX11_save_17 : decode cX11_save 17 = .ok (.getfield 10, 3) := by decide +kernel
theorem dX11_save_20 : decode cX11_save 20 = .ok (.invokevirtual 70, 3) := by decide +kernel
theorem dX11_save_23 : decode cX11_save 23 = .ok (.ireturn, 1) := by decide +kernel
set_option maxRecDepth 20000 in
theorem ggX11_restore_X6_record : GoodIn wsX11_restore wsX6_record := goodIn_k tie_wsX11_restore tie_wsX6_record (by decide +kernel)
set_option maxRecDepth 20000 in
theorem gX11_restore_X6_record : GoodIn wsX11_restore (wsV RX11 74 RX6 yX6_record wsX6_record) := goodIn_app (goodIn_k (is := [149, 150, 151, 19]) tie_wsX11_restore rfl (by decide +kernel)) ggX11_restore_X6_record
set_option maxRecDepth 20000 in
theorem ggX11_restore_X2_copyFrom : GoodIn wsX11_restore wsX2_copyFrom := goodIn_k tie_wsX11_restore tie_wsX2_copyFrom (by decide +kernel)
set_option maxRecDepth 20000 in
theorem gX11_restore_X2_copyFrom : GoodIn wsX11_restore (wsV RX11 250 RX2 yX2_copyFrom wsX2_copyFrom) := goodIn_app (goodIn_k (is := [1334, 158, 159, 14]) tie_wsX11_restore rfl (by decide +kernel)) ggX11_restore_X2_copyFrom
set_option maxRecDepth 20000 in
theorem ggX11_restore_X2_size : GoodIn wsX11_restore wsX2_size := goodIn_k tie_wsX11_restore tie_wsX2_size (by decide +kernel)
set_option maxRecDepth 20000 in
theorem gX11_restore_X2_size : GoodIn wsX11_restore (wsV RX11 70 RX2 yX2_size wsX2_size) := goodIn_app (goodIn_k (is := [144, 145, 146, 14]) tie_wsX11_restore rfl (by decide +kernel)) ggX11_restore_X2_size
theorem dX11_restore_0 : decode cX11_restore 0 = .ok (.aload_n 0, 1) := by decide +kernel
theorem dX11_restore_1 : decode cX11_restore 1 = .ok (.getfield 66, 3) := by decide +kernel
theorem dX11_restore_4 : decode cX11_restore 4 = .ok (.ifCond .ne 6, 3) := by decide +kernel
theorem dX11_restore_7 : decode cX11_restore 7 = .ok (.bipush (-2), 2) := by decide +kernel
theorem dX11_restore_9 : decode cX11_restore 9 = .ok (.ireturn, 1) := by decide +kernel
theorem dX11_restore_10 : decode cX11_restore 10 = .ok (.aload_n 0, 1) := by decide +kernel
theorem dX11_restore_11 : decode cX11_restore 11 = .ok (.getfield 22, 3) := by decide +kernel
theorem dX11_restore_14 : decode cX11_restore 14 = .ok (.aload_n 0, 1) := by decide +kernel
theorem dX11_restore_15 : decode cX11_restore 15 = .ok (.getfield 10, 3) := by decide +kernel
theorem dX11_restore_18 : decode cX11_restore 18 = .ok (.invokevirtual 74, 3) := by decide +kernel
theorem dX11_restore_21 : decode cX11_restore 21 = .ok (.aload_n 0, 1) := by decide +kernel
theorem dX11_restore_22 : decode cX11_restore 22 = .ok (.getfield 10, 3) := by decide +kernel
theorem dX11_restore_25 : decode cX11_restore 25 = .ok (.aload_n 0, 1) := by decide +kernel
theorem dX11_restore_26 : decode cX11_restore 26 = .ok (.getfield 16, 3) := by decide +kernel
theorem dX11_restore_29 : decode cX11_restore 29 = .ok (.invokevirtual 250, 3) := by decide +kernel
theorem dX11_restore_32 : decode cX11_restore 32 = .ok (.aload_n 0, 1) := by decide +kernel
theorem dX11_restore_33 : decode cX11_restore 33 = .ok (.getfield 10, 3) := by decide +kernel
theorem dX11_restore_36 : decode cX11_restore 36 = .ok (.invokevirtual 70, 3) := by decide +kernel
theorem dX11_restore_39 : decode cX11_restore 39 = .ok (.ireturn, 1) := by decide +kernel
set_option maxRecDepth 20000 in
theorem ggX11_undo_X6_takeBack : GoodIn wsX11_undo wsX6_takeBack := goodIn_k tie_wsX11_undo tie_wsX6_takeBack (by decide +kernel)
set_option maxRecDepth 20000 in
theorem gX11_undo_X6_takeBack : GoodIn wsX11_undo (wsV RX11 253 RX6 yX6_takeBack wsX6_takeBack) := goodIn_app (goodIn_k (is := [1352, 1353, 1354, 19]) tie_wsX11_undo rfl (by decide +kernel)) ggX11_undo_X6_takeBack
set_option maxRecDepth 20000 in
theorem ggX11_undo_X6_total : GoodIn wsX11_undo wsX6_total := goodIn_k tie_wsX11_undo tie_wsX6_total (by decide +kernel)
set_option maxRecDepth 20000 in
theorem gX11_undo_X6_total : GoodIn wsX11_undo (wsV RX11 257 RX6 yX6_total wsX6_total) := goodIn_app (goodIn_k (is := [1356, 1357, 1358, 19]) tie_wsX11_undo rfl (by decide +kernel)) ggX11_undo_X6_total
theorem dX11_undo_0 : decode cX11_undo 0 = .ok (.aload_n 0, 1) := by decide +kernel
theorem dX11_undo_1 : decode cX11_undo 1 = .ok (.getfield 22, 3) := by decide +kernel
theorem dX11_undo_4 : decode cX11_undo 4 = .ok (.aload_n 0, 1) := by decide +kernel
theorem dX11_undo_5 : decode cX11_undo 5 = .ok (.getfield 10, 3) := by decide +kernel
theorem dX11_undo_8 : decode cX11_undo 8 = .ok (.invokevirtual 253, 3) := by decide +kernel
theorem dX11_undo_11 : decode cX11_undo 11 = .ok (.ifCond .eq 13, 3) := by decide +kernel
theorem dX11_undo_14 : decode cX11_undo 14 = .ok (.aload_n 0, 1) := by decide +kernel
theorem dX11_undo_15 : decode cX11_undo 15 = .ok (.getfield 22, 3) := by decide +kernel
theorem dX11_undo_18 : decode cX11_undo 18 = .ok (.invokevirtual 257, 3) := by decide +kernel
theorem dX11_undo_21 : decode cX11_undo 21 = .ok (.goto 5, 3) := by decide +kernel
theorem dX11_undo_24 : decode cX11_undo 24 = .ok (.bipush (-2), 2) := by decide +kernel
theorem dX11_undo_26 : decode cX11_undo 26 = .ok (.ireturn, 1) := by decide +kernel
set_option maxRecDepth 20000 in
theorem ggX11_asksValue_X2_has : GoodIn wsX11_asksValue wsX2_has := goodIn_k tie_wsX11_asksValue tie_wsX2_has (by decide +kernel)
set_option maxRecDepth 20000 in
theorem gX11_asksValue_X2_has : GoodIn wsX11_asksValue (wsV RX11 83 RX2 yX2_has wsX2_has) := goodIn_app (goodIn_k (is := [218, 191, 192, 14]) tie_wsX11_asksValue rfl (by decide +kernel)) ggX11_asksValue_X2_has
theorem dX11_asksValue_0 : decode cX11_asksValue 0 = .ok (.aload_n 0, 1) := by decide +kernel
theorem dX11_asksValue_1 : decode cX11_asksValue 1 = .ok (.getfield 10, 3) := by decide +kernel
theorem dX11_asksValue_4 : decode cX11_asksValue 4 = .ok (.iload_n 1, 1) := by decide +kernel
theorem dX11_asksValue_5 : decode cX11_asksValue 5 = .ok (.invokevirtual 83, 3) := by decide +kernel
theorem dX11_asksValue_8 : decode cX11_asksValue 8 = .ok (.ifCond .eq 16, 3) := by decide +kernel
theorem dX11_asksValue_11 : decode cX11_asksValue 11 = .ok (.iload_n 2, 1) := by decide +kernel
theorem dX11_asksValue_12 : decode cX11_asksValue 12 = .ok (.ifCond .eq 8, 3) := by decide +kernel
theorem dX11_asksValue_15 : decode cX11_asksValue 15 = .ok (.iload_n 2, 1) := by decide +kernel
theorem dX11_asksValue_16 : decode cX11_asksValue 16 = .ok (.iconst 1, 1) := by decide +kernel
theorem dX11_asksValue_17 : decode cX11_asksValue 17 = .ok (.if_icmp .ne 7, 3) := by decide +kernel
theorem dX11_asksValue_20 : decode cX11_asksValue 20 = .ok (.iconst 1, 1) := by decide +kernel
theorem dX11_asksValue_21 : decode cX11_asksValue 21 = .ok (.goto 4, 3) := by decide +kernel
theorem dX11_asksValue_24 : decode cX11_asksValue 24 = .ok (.iconst 0, 1) := by decide +kernel
theorem dX11_asksValue_25 : decode cX11_asksValue 25 = .ok (.ireturn, 1) := by decide +kernel
theorem dX11_find_0 : decode cX11_find 0 = .ok (.iload_n 1, 1) := by decide +kernel
theorem dX11_find_1 : decode cX11_find 1 = .ok (.ifCond .lt 26, 3) := by decide +kernel
theorem dX11_find_4 : decode cX11_find 4 = .ok (.iload_n 1, 1) := by decide +kernel
theorem dX11_find_5 : decode cX11_find 5 = .ok (.aload_n 0, 1) := by decide +kernel
theorem dX11_find_6 : decode cX11_find 6 = .ok (.getfield 62, 3) := by decide +kernel
theorem dX11_find_9 : decode cX11_find 9 = .ok (.if_icmp .ge 18, 3) := by decide +kernel
theorem dX11_find_12 : decode cX11_find 12 = .ok (.iload_n 1, 1) := by decide +kernel
theorem dX11_find_13 : decode cX11_find 13 = .ok (.bipush 6, 2) := by decide +kernel
theorem dX11_find_15 : decode cX11_find 15 = .ok (.if_icmp .ge 12, 3) := by decide +kernel
theorem dX11_find_18 : decode cX11_find 18 = .ok (.aload_n 0, 1) := by decide +kernel
theorem dX11_find_19 : decode cX11_find 19 = .ok (.getfield 58, 3) := by decide +kernel
theorem dX11_find_22 : decode cX11_find 22 = .ok (.iload_n 1, 1) := by decide +kernel
theorem dX11_find_23 : decode cX11_find 23 = .ok (.aaload, 1) := by decide +kernel
theorem dX11_find_24 : decode cX11_find 24 = .ok (.goto 4, 3) := by decide +kernel
theorem dX11_find_27 : decode cX11_find 27 = .ok (.aconst_null, 1) := by decide +kernel
theorem dX11_find_28 : decode cX11_find 28 = .ok (.areturn, 1) := by decide +kernel
set_option maxRecDepth 20000 in
theorem ggX11_rootOf_X11_find : GoodIn wsX11_rootOf wsX11_find := goodIn_k tie_wsX11_rootOf tie_wsX11_find (by decide +kernel)
set_option maxRecDepth 20000 in
theorem gX11_rootOf_X11_find : GoodIn wsX11_rootOf (wsV RX11 180 RX11 yX11_find wsX11_find) := goodIn_app (goodIn_k (is := [885, 886, 887, 2]) tie_wsX11_rootOf rfl (by decide +kernel)) ggX11_rootOf_X11_find
theorem dX11_rootOf_0 : decode cX11_rootOf 0 = .ok (.aload_n 0, 1) := by decide +kernel
theorem dX11_rootOf_1 : decode cX11_rootOf 1 = .ok (.iload_n 1, 1) := by decide +kernel
theorem dX11_rootOf_2 : decode cX11_rootOf 2 = .ok (.invokevirtual 180, 3) := by decide +kernel
theorem dX11_rootOf_5 : decode cX11_rootOf 5 = .ok (.astore_n 2, 1) := by decide +kernel
theorem dX11_rootOf_6 : decode cX11_rootOf 6 = .ok (.aload_n 2, 1) := by decide +kernel
theorem dX11_rootOf_7 : decode cX11_rootOf 7 = .ok (.ifnonnull 7, 3) := by decide +kernel
theorem dX11_rootOf_10 : decode cX11_rootOf 10 = .ok (.aconst_null, 1) := by decide +kernel
theorem dX11_rootOf_11 : decode cX11_rootOf 11 = .ok (.goto 7, 3) := by decide +kernel
theorem dX11_rootOf_14 : decode cX11_rootOf 14 = .ok (.aload_n 2, 1) := by decide +kernel
theorem dX11_rootOf_15 : decode cX11_rootOf 15 = .ok (.getfield 258, 3) := by decide +kernel
theorem dX11_rootOf_18 : decode cX11_rootOf 18 = .ok (.areturn, 1) := by decide +kernel
set_option maxRecDepth 20000 in
theorem ggX11_errorOf_X11_find : GoodIn wsX11_errorOf wsX11_find := goodIn_k tie_wsX11_errorOf tie_wsX11_find (by decide +kernel)
set_option maxRecDepth 20000 in
theorem gX11_errorOf_X11_find : GoodIn wsX11_errorOf (wsV RX11 180 RX11 yX11_find wsX11_find) := goodIn_app (goodIn_k (is := [885, 886, 887, 2]) tie_wsX11_errorOf rfl (by decide +kernel)) ggX11_errorOf_X11_find
set_option maxRecDepth 20000 in
theorem ggX11_errorOf_X5_longest : GoodIn wsX11_errorOf wsX5_longest := goodIn_k tie_wsX11_errorOf tie_wsX5_longest (by decide +kernel)
set_option maxRecDepth 20000 in
theorem gX11_errorOf_X5_longest : GoodIn wsX11_errorOf (wsV RX11 262 RX5 yX5_longest wsX5_longest) := goodIn_app (goodIn_k (is := [937, 938, 939, 617]) tie_wsX11_errorOf rfl (by decide +kernel)) ggX11_errorOf_X5_longest
set_option maxRecDepth 20000 in
theorem ggX11_errorOf_X8_refuses : GoodIn wsX11_errorOf wsX8_refuses := goodIn_k tie_wsX11_errorOf tie_wsX8_refuses (by decide +kernel)
set_option maxRecDepth 20000 in
theorem gX11_errorOf_X8_refuses : GoodIn wsX11_errorOf (wsV RX11 207 RX8 yX8_refuses wsX8_refuses) := goodIn_app (goodIn_k (is := [941, 942, 943, 27]) tie_wsX11_errorOf rfl (by decide +kernel)) ggX11_errorOf_X8_refuses
theorem dX11_errorOf_0 : decode cX11_errorOf 0 = .ok (.aload_n 0, 1) := by decide +kernel
theorem dX11_errorOf_1 : decode cX11_errorOf 1 = .ok (.iload_n 1, 1) := by decide +kernel
theorem dX11_errorOf_2 : decode cX11_errorOf 2 = .ok (.invokevirtual 180, 3) := by decide +kernel
theorem dX11_errorOf_5 : decode cX11_errorOf 5 = .ok (.astore 4, 2) := by decide +kernel
theorem dX11_errorOf_7 : decode cX11_errorOf 7 = .ok (.aload_n 0, 1) := by decide +kernel
theorem dX11_errorOf_8 : decode cX11_errorOf 8 = .ok (.iload_n 2, 1) := by decide +kernel
theorem dX11_errorOf_9 : decode cX11_errorOf 9 = .ok (.invokevirtual 180, 3) := by decide +kernel
theorem dX11_errorOf_12 : decode cX11_errorOf 12 = .ok (.astore 5, 2) := by decide +kernel
theorem dX11_errorOf_14 : decode cX11_errorOf 14 = .ok (.aload 4, 2) := by decide +kernel
theorem dX11_errorOf_16 : decode cX11_errorOf 16 = .ok (.ifnull 12, 3) := by decide +kernel
theorem dX11_errorOf_19 : decode cX11_errorOf 19 = .ok (.aload 5, 2) := by decide +kernel
theorem dX11_errorOf_21 : decode cX11_errorOf 21 = .ok (.ifnull 7, 3) := by decide +kernel
theorem dX11_errorOf_24 : decode cX11_errorOf 24 = .ok (.iload_n 3, 1) := by decide +kernel
theorem dX11_errorOf_25 : decode cX11_errorOf 25 = .ok (.ifCond .ne 5, 3) := by decide +kernel
theorem dX11_errorOf_28 : decode cX11_errorOf 28 = .ok (.iconst (-1), 1) := by decide +kernel
theorem dX11_errorOf_29 : decode cX11_errorOf 29 = .ok (.ireturn, 1) := by decide +kernel
theorem dX11_errorOf_30 : decode cX11_errorOf 30 = .ok (.aload_n 0, 1) := by decide +kernel
theorem dX11_errorOf_31 : decode cX11_errorOf 31 = .ok (.getfield 38, 3) := by decide +kernel
theorem dX11_errorOf_34 : decode cX11_errorOf 34 = .ok (.aload 4, 2) := by decide +kernel
theorem dX11_errorOf_36 : decode cX11_errorOf 36 = .ok (.invokevirtual 262, 3) := by decide +kernel
theorem dX11_errorOf_39 : decode cX11_errorOf 39 = .ok (.aload 5, 2) := by decide +kernel
theorem dX11_errorOf_41 : decode cX11_errorOf 41 = .ok (.invokevirtual 262, 3) := by decide +kernel
theorem dX11_errorOf_44 : decode cX11_errorOf 44 = .ok (.invokestatic 265, 3) := by decide +kernel
theorem dX11_errorOf_47 : decode cX11_errorOf 47 = .ok (.invokevirtual 207, 3) := by decide +kernel
theorem dX11_errorOf_50 : decode cX11_errorOf 50 = .ok (.ifCond .eq 8, 3) := by decide +kernel
theorem dX11_errorOf_53 : decode cX11_errorOf 53 = .ok (.bipush (-4), 2) := by decide +kernel
theorem dX11_errorOf_55 : decode cX11_errorOf 55 = .ok (.goto 4, 3) := by decide +kernel
theorem dX11_errorOf_58 : decode cX11_errorOf 58 = .ok (.iconst 0, 1) := by decide +kernel
theorem dX11_errorOf_59 : decode cX11_errorOf 59 = .ok (.ireturn, 1) := by decide +kernel
set_option maxRecDepth 20000 in
theorem ggX11_statesOf_X11_statesOf : GoodIn wsX11_statesOf wsX11_statesOf := goodIn_k tie_wsX11_statesOf tie_wsX11_statesOf (by decide +kernel)
set_option maxRecDepth 20000 in
theorem gX11_statesOf_X11_statesOf : GoodIn wsX11_statesOf (va_wsS RX11 197 yX11_statesOf wsX11_statesOf) := goodIn_app (goodIn_k (is := [958, 959, 2]) tie_wsX11_statesOf rfl (by decide +kernel)) ggX11_statesOf_X11_statesOf
set_option maxRecDepth 20000 in
theorem ggX11_statesOf_X2_all : GoodIn wsX11_statesOf wsX2_all := goodIn_k tie_wsX11_statesOf tie_wsX2_all (by decide +kernel)
set_option maxRecDepth 20000 in
theorem gX11_statesOf_X2_all : GoodIn wsX11_statesOf (wsV RX11 282 RX2 yX2_all wsX2_all) := goodIn_app (goodIn_k (is := [961, 357, 358, 14]) tie_wsX11_statesOf rfl (by decide +kernel)) ggX11_statesOf_X2_all
set_option maxRecDepth 20000 in
theorem ggX11_statesOf_X2_labelled : GoodIn wsX11_statesOf wsX2_labelled := goodIn_k tie_wsX11_statesOf tie_wsX2_labelled (by decide +kernel)
set_option maxRecDepth 20000 in
theorem gX11_statesOf_X2_labelled : GoodIn wsX11_statesOf (wsV RX11 285 RX2 yX2_labelled wsX2_labelled) := goodIn_app (goodIn_k (is := [962, 963, 964, 14]) tie_wsX11_statesOf rfl (by decide +kernel)) ggX11_statesOf_X2_labelled
set_option maxRecDepth 20000 in
theorem ggX11_statesOf_X8_solveStep : GoodIn wsX11_statesOf wsX8_solveStep := goodIn_k tie_wsX11_statesOf tie_wsX8_solveStep (by decide +kernel)
set_option maxRecDepth 20000 in
theorem gX11_statesOf_X8_solveStep : GoodIn wsX11_statesOf (wsV RX11 139 RX8 yX8_solveStep wsX8_solveStep) := goodIn_app (goodIn_k (is := [458, 459, 460, 27]) tie_wsX11_statesOf rfl (by decide +kernel)) ggX11_statesOf_X8_solveStep
set_option maxRecDepth 20000 in
theorem ggX11_statesOf_X8_solveUntil : GoodIn wsX11_statesOf wsX8_solveUntil := goodIn_k tie_wsX11_statesOf tie_wsX8_solveUntil (by decide +kernel)
set_option maxRecDepth 20000 in
theorem gX11_statesOf_X8_solveUntil : GoodIn wsX11_statesOf (wsV RX11 204 RX8 yX8_solveUntil wsX8_solveUntil) := goodIn_app (goodIn_k (is := [967, 968, 969, 27]) tie_wsX11_statesOf rfl (by decide +kernel)) ggX11_statesOf_X8_solveUntil
set_option maxRecDepth 20000 in
theorem ggX11_statesOf_X8_complement : GoodIn wsX11_statesOf wsX8_complement := goodIn_k tie_wsX11_statesOf tie_wsX8_complement (by decide +kernel)
set_option maxRecDepth 20000 in
theorem gX11_statesOf_X8_complement : GoodIn wsX11_statesOf (wsV RX11 288 RX8 yX8_complement wsX8_complement) := goodIn_app (goodIn_k (is := [1026, 1027, 1028, 27]) tie_wsX11_statesOf rfl (by decide +kernel)) ggX11_statesOf_X8_complement
set_option maxRecDepth 20000 in
theorem ggX11_statesOf_X8_countWithin : GoodIn wsX11_statesOf wsX8_countWithin := goodIn_k tie_wsX11_statesOf tie_wsX8_countWithin (by decide +kernel)
set_option maxRecDepth 20000 in
theorem gX11_statesOf_X8_countWithin : GoodIn wsX11_statesOf (wsV RX11 212 RX8 yX8_countWithin wsX8_countWithin) := goodIn_app (goodIn_k (is := [1030, 1031, 1032, 27]) tie_wsX11_statesOf rfl (by decide +kernel)) ggX11_statesOf_X8_countWithin
set_option maxRecDepth 20000 in
theorem ggX11_statesOf_X8_solveSteady : GoodIn wsX11_statesOf wsX8_solveSteady := goodIn_k tie_wsX11_statesOf tie_wsX8_solveSteady (by decide +kernel)
set_option maxRecDepth 20000 in
theorem gX11_statesOf_X8_solveSteady : GoodIn wsX11_statesOf (wsV RX11 221 RX8 yX8_solveSteady wsX8_solveSteady) := goodIn_app (goodIn_k (is := [1038, 1039, 1040, 27]) tie_wsX11_statesOf rfl (by decide +kernel)) ggX11_statesOf_X8_solveSteady
set_option maxRecDepth 20000 in
theorem ggX11_statesOf_X8_solveExpected : GoodIn wsX11_statesOf wsX8_solveExpected := goodIn_k tie_wsX11_statesOf tie_wsX8_solveExpected (by decide +kernel)
set_option maxRecDepth 20000 in
theorem gX11_statesOf_X8_solveExpected : GoodIn wsX11_statesOf (wsV RX11 224 RX8 yX8_solveExpected wsX8_solveExpected) := goodIn_app (goodIn_k (is := [1052, 1053, 1054, 27]) tie_wsX11_statesOf rfl (by decide +kernel)) ggX11_statesOf_X8_solveExpected
set_option maxRecDepth 20000 in
theorem ggX11_statesOf_X8_fulfilling : GoodIn wsX11_statesOf wsX8_fulfilling := goodIn_k tie_wsX11_statesOf tie_wsX8_fulfilling (by decide +kernel)
set_option maxRecDepth 20000 in
theorem gX11_statesOf_X8_fulfilling : GoodIn wsX11_statesOf (wsV RX11 298 RX8 yX8_fulfilling wsX8_fulfilling) := goodIn_app (goodIn_k (is := [1063, 1064, 1065, 27]) tie_wsX11_statesOf rfl (by decide +kernel)) ggX11_statesOf_X8_fulfilling
theorem dX11_statesOf_0 : decode cX11_statesOf 0 = .ok (.aload_n 0, 1) := by decide +kernel
theorem dX11_statesOf_1 : decode cX11_statesOf 1 = .ok (.ifnull 12, 3) := by decide +kernel
theorem dX11_statesOf_4 : decode cX11_statesOf 4 = .ok (.aload_n 1, 1) := by decide +kernel
theorem dX11_statesOf_5 : decode cX11_statesOf 5 = .ok (.ifnull 8, 3) := by decide +kernel
theorem dX11_statesOf_8 : decode cX11_statesOf 8 = .ok (.iload_n 2, 1) := by decide +kernel
theorem dX11_statesOf_9 : decode cX11_statesOf 9 = .ok (.iconst 5, 1) := by decide +kernel
theorem dX11_statesOf_10 : decode cX11_statesOf 10 = .ok (.if_icmp .le 5, 3) := by decide +kernel
theorem dX11_statesOf_13 : decode cX11_statesOf 13 = .ok (.iconst 0, 1) := by decide +kernel
theorem dX11_statesOf_14 : decode cX11_statesOf 14 = .ok (.ireturn, 1) := by decide +kernel
theorem dX11_statesOf_15 : decode cX11_statesOf 15 = .ok (.aload_n 1, 1) := by decide +kernel
theorem dX11_statesOf_16 : decode cX11_statesOf 16 = .ok (.getfield 270, 3) := by decide +kernel
theorem dX11_statesOf_19 : decode cX11_statesOf 19 = .ok (.astore_n 3, 1) := by decide +kernel
theorem dX11_statesOf_20 : decode cX11_statesOf 20 = .ok (.aload_n 0, 1) := by decide +kernel
theorem dX11_statesOf_21 : decode cX11_statesOf 21 = .ok (.getfield 271, 3) := by decide +kernel
theorem dX11_statesOf_24 : decode cX11_statesOf 24 = .ok (.aload_n 1, 1) := by decide +kernel
theorem dX11_statesOf_25 : decode cX11_statesOf 25 = .ok (.iload_n 2, 1) := by decide +kernel
theorem dX11_statesOf_26 : decode cX11_statesOf 26 = .ok (.iconst 1, 1) := by decide +kernel
theorem dX11_statesOf_27 : decode cX11_statesOf 27 = .ok (.iadd, 1) := by decide +kernel
theorem dX11_statesOf_28 : decode cX11_statesOf 28 = .ok (.invokestatic 197, 3) := by decide +kernel
theorem dX11_statesOf_31 : decode cX11_statesOf 31 = .ok (.istore 4, 2) := by decide +kernel
theorem dX11_statesOf_33 : decode cX11_statesOf 33 = .ok (.aload_n 0, 1) := by decide +kernel
theorem dX11_statesOf_34 : decode cX11_statesOf 34 = .ok (.getfield 276, 3) := by decide +kernel
theorem dX11_statesOf_37 : decode cX11_statesOf 37 = .ok (.aload_n 1, 1) := by decide +kernel
theorem dX11_statesOf_38 : decode cX11_statesOf 38 = .ok (.iload_n 2, 1) := by decide +kernel
theorem dX11_statesOf_39 : decode cX11_statesOf 39 = .ok (.iconst 1, 1) := by decide +kernel
theorem dX11_statesOf_40 : decode cX11_statesOf 40 = .ok (.iadd, 1) := by decide +kernel
theorem dX11_statesOf_41 : decode cX11_statesOf 41 = .ok (.invokestatic 197, 3) := by decide +kernel
theorem dX11_statesOf_44 : decode cX11_statesOf 44 = .ok (.istore 5, 2) := by decide +kernel
theorem dX11_statesOf_46 : decode cX11_statesOf 46 = .ok (.aload_n 0, 1) := by decide +kernel
theorem dX11_statesOf_47 : decode cX11_statesOf 47 = .ok (.getfield 279, 3) := by decide +kernel
theorem dX11_statesOf_50 : decode cX11_statesOf 50 = .ok (.lookupswitch 242 #[(33, 139), (38, 149), (66, 218), (70, 170), (71, 183), (83, 233), (85, 207), (88, 161), (97, 127), (98, 127), (99, 127), (100, 127), (116, 122), (124, 155)], 122) := by decide +kernel
theorem dX11_statesOf_172 : decode cX11_statesOf 172 = .ok (.aload_n 3, 1) := by decide +kernel
theorem dX11_statesOf_173 : decode cX11_statesOf 173 = .ok (.invokevirtual 282, 3) := by decide +kernel
theorem dX11_statesOf_176 : decode cX11_statesOf 176 = .ok (.ireturn, 1) := by decide +kernel
theorem dX11_statesOf_177 : decode cX11_statesOf 177 = .ok (.aload_n 3, 1) := by decide +kernel
theorem dX11_statesOf_178 : decode cX11_statesOf 178 = .ok (.aload_n 0, 1) := by decide +kernel
theorem dX11_statesOf_179 : decode cX11_statesOf 179 = .ok (.getfield 279, 3) := by decide +kernel
theorem dX11_statesOf_182 : decode cX11_statesOf 182 = .ok (.bipush 97, 2) := by decide +kernel
theorem dX11_statesOf_184 : decode cX11_statesOf 184 = .ok (.isub, 1) := by decide +kernel
theorem dX11_statesOf_185 : decode cX11_statesOf 185 = .ok (.invokevirtual 285, 3) := by decide +kernel
theorem dX11_statesOf_188 : decode cX11_statesOf 188 = .ok (.ireturn, 1) := by decide +kernel
theorem dX11_statesOf_189 : decode cX11_statesOf 189 = .ok (.aload_n 3, 1) := by decide +kernel
theorem dX11_statesOf_190 : decode cX11_statesOf 190 = .ok (.invokevirtual 282, 3) := by decide +kernel
theorem dX11_statesOf_193 : decode cX11_statesOf 193 = .ok (.iload 4, 2) := by decide +kernel
theorem dX11_statesOf_195 : decode cX11_statesOf 195 = .ok (.iconst (-1), 1) := by decide +kernel
theorem dX11_statesOf_196 : decode cX11_statesOf 196 = .ok (.ixor, 1) := by decide +kernel
theorem dX11_statesOf_197 : decode cX11_statesOf 197 = .ok (.iand, 1) := by decide +kernel
theorem dX11_statesOf_198 : decode cX11_statesOf 198 = .ok (.ireturn, 1) := by decide +kernel
theorem dX11_statesOf_199 : decode cX11_statesOf 199 = .ok (.iload 4, 2) := by decide +kernel
theorem dX11_statesOf_201 : decode cX11_statesOf 201 = .ok (.iload 5, 2) := by decide +kernel
theorem dX11_statesOf_203 : decode cX11_statesOf 203 = .ok (.iand, 1) := by decide +kernel
theorem dX11_statesOf_204 : decode cX11_statesOf 204 = .ok (.ireturn, 1) := by decide +kernel
theorem dX11_statesOf_205 : decode cX11_statesOf 205 = .ok (.iload 4, 2) := by decide +kernel
theorem dX11_statesOf_207 : decode cX11_statesOf 207 = .ok (.iload 5, 2) := by decide +kernel
theorem dX11_statesOf_209 : decode cX11_statesOf 209 = .ok (.ior, 1) := by decide +kernel
theorem dX11_statesOf_210 : decode cX11_statesOf 210 = .ok (.ireturn, 1) := by decide +kernel
theorem dX11_statesOf_211 : decode cX11_statesOf 211 = .ok (.aload_n 1, 1) := by decide +kernel
theorem dX11_statesOf_212 : decode cX11_statesOf 212 = .ok (.iload 4, 2) := by decide +kernel
theorem dX11_statesOf_214 : decode cX11_statesOf 214 = .ok (.invokevirtual 139, 3) := by decide +kernel
theorem dX11_statesOf_217 : decode cX11_statesOf 217 = .ok (.goto 81, 3) := by decide +kernel
theorem dX11_statesOf_220 : decode cX11_statesOf 220 = .ok (.aload_n 1, 1) := by decide +kernel
theorem dX11_statesOf_221 : decode cX11_statesOf 221 = .ok (.aload_n 3, 1) := by decide +kernel
theorem dX11_statesOf_222 : decode cX11_statesOf 222 = .ok (.invokevirtual 282, 3) := by decide +kernel
theorem dX11_statesOf_225 : decode cX11_statesOf 225 = .ok (.iload 4, 2) := by decide +kernel
theorem dX11_statesOf_227 : decode cX11_statesOf 227 = .ok (.invokevirtual 204, 3) := by decide +kernel
theorem dX11_statesOf_230 : decode cX11_statesOf 230 = .ok (.goto 68, 3) := by decide +kernel
theorem dX11_statesOf_233 : decode cX11_statesOf 233 = .ok (.aload_n 1, 1) := by decide +kernel
theorem dX11_statesOf_234 : decode cX11_statesOf 234 = .ok (.aload_n 3, 1) := by decide +kernel
theorem dX11_statesOf_235 : decode cX11_statesOf 235 = .ok (.invokevirtual 282, 3) := by decide +kernel
theorem dX11_statesOf_238 : decode cX11_statesOf 238 = .ok (.aload_n 3, 1) := by decide +kernel
theorem dX11_statesOf_239 : decode cX11_statesOf 239 = .ok (.invokevirtual 282, 3) := by decide +kernel
theorem dX11_statesOf_242 : decode cX11_statesOf 242 = .ok (.iload 4, 2) := by decide +kernel
theorem dX11_statesOf_244 : decode cX11_statesOf 244 = .ok (.iconst (-1), 1) := by decide +kernel
theorem dX11_statesOf_245 : decode cX11_statesOf 245 = .ok (.ixor, 1) := by decide +kernel
theorem dX11_statesOf_246 : decode cX11_statesOf 246 = .ok (.iand, 1) := by decide +kernel
theorem dX11_statesOf_247 : decode cX11_statesOf 247 = .ok (.invokevirtual 204, 3) := by decide +kernel
theorem dX11_statesOf_250 : decode cX11_statesOf 250 = .ok (.aload_n 1, 1) := by decide +kernel
theorem dX11_statesOf_251 : decode cX11_statesOf 251 = .ok (.invokevirtual 288, 3) := by decide +kernel
theorem dX11_statesOf_254 : decode cX11_statesOf 254 = .ok (.goto 44, 3) := by decide +kernel
theorem dX11_statesOf_257 : decode cX11_statesOf 257 = .ok (.aload_n 1, 1) := by decide +kernel
theorem dX11_statesOf_258 : decode cX11_statesOf 258 = .ok (.iload 4, 2) := by decide +kernel
theorem dX11_statesOf_260 : decode cX11_statesOf 260 = .ok (.iload 5, 2) := by decide +kernel
theorem dX11_statesOf_262 : decode cX11_statesOf 262 = .ok (.invokevirtual 204, 3) := by decide +kernel
theorem dX11_statesOf_265 : decode cX11_statesOf 265 = .ok (.goto 33, 3) := by decide +kernel
theorem dX11_statesOf_268 : decode cX11_statesOf 268 = .ok (.aload_n 1, 1) := by decide +kernel
theorem dX11_statesOf_269 : decode cX11_statesOf 269 = .ok (.iload 4, 2) := by decide +kernel
theorem dX11_statesOf_271 : decode cX11_statesOf 271 = .ok (.iload 5, 2) := by decide +kernel
theorem dX11_statesOf_273 : decode cX11_statesOf 273 = .ok (.aload_n 0, 1) := by decide +kernel
theorem dX11_statesOf_274 : decode cX11_statesOf 274 = .ok (.getfield 291, 3) := by decide +kernel
theorem dX11_statesOf_277 : decode cX11_statesOf 277 = .ok (.invokevirtual 212, 3) := by decide +kernel
theorem dX11_statesOf_280 : decode cX11_statesOf 280 = .ok (.goto 18, 3) := by decide +kernel
theorem dX11_statesOf_283 : decode cX11_statesOf 283 = .ok (.aload_n 1, 1) := by decide +kernel
theorem dX11_statesOf_284 : decode cX11_statesOf 284 = .ok (.iload 4, 2) := by decide +kernel
theorem dX11_statesOf_286 : decode cX11_statesOf 286 = .ok (.invokevirtual 221, 3) := by decide +kernel
theorem dX11_statesOf_289 : decode cX11_statesOf 289 = .ok (.goto 9, 3) := by decide +kernel
theorem dX11_statesOf_292 : decode cX11_statesOf 292 = .ok (.aload_n 1, 1) := by decide +kernel
theorem dX11_statesOf_293 : decode cX11_statesOf 293 = .ok (.iload 4, 2) := by decide +kernel
theorem dX11_statesOf_295 : decode cX11_statesOf 295 = .ok (.invokevirtual 224, 3) := by decide +kernel
theorem dX11_statesOf_298 : decode cX11_statesOf 298 = .ok (.aload_n 1, 1) := by decide +kernel
theorem dX11_statesOf_299 : decode cX11_statesOf 299 = .ok (.aload_n 0, 1) := by decide +kernel
theorem dX11_statesOf_300 : decode cX11_statesOf 300 = .ok (.getfield 294, 3) := by decide +kernel
theorem dX11_statesOf_303 : decode cX11_statesOf 303 = .ok (.invokevirtual 298, 3) := by decide +kernel
theorem dX11_statesOf_306 : decode cX11_statesOf 306 = .ok (.ireturn, 1) := by decide +kernel
theorem dX11_contains_0 : decode cX11_contains 0 = .ok (.iload_n 1, 1) := by decide +kernel
theorem dX11_contains_1 : decode cX11_contains 1 = .ok (.ifCond .lt 22, 3) := by decide +kernel
theorem dX11_contains_4 : decode cX11_contains 4 = .ok (.iload_n 1, 1) := by decide +kernel
theorem dX11_contains_5 : decode cX11_contains 5 = .ok (.bipush 8, 2) := by decide +kernel
theorem dX11_contains_7 : decode cX11_contains 7 = .ok (.if_icmp .ge 16, 3) := by decide +kernel
theorem dX11_contains_10 : decode cX11_contains 10 = .ok (.iload_n 0, 1) := by decide +kernel
theorem dX11_contains_11 : decode cX11_contains 11 = .ok (.iload_n 1, 1) := by decide +kernel
theorem dX11_contains_12 : decode cX11_contains 12 = .ok (.ishr, 1) := by decide +kernel
theorem dX11_contains_13 : decode cX11_contains 13 = .ok (.iconst 1, 1) := by decide +kernel
theorem dX11_contains_14 : decode cX11_contains 14 = .ok (.iand, 1) := by decide +kernel
theorem dX11_contains_15 : decode cX11_contains 15 = .ok (.iconst 1, 1) := by decide +kernel
theorem dX11_contains_16 : decode cX11_contains 16 = .ok (.if_icmp .ne 7, 3) := by decide +kernel
theorem dX11_contains_19 : decode cX11_contains 19 = .ok (.iconst 1, 1) := by decide +kernel
theorem dX11_contains_20 : decode cX11_contains 20 = .ok (.goto 4, 3) := by decide +kernel
theorem dX11_contains_23 : decode cX11_contains 23 = .ok (.iconst 0, 1) := by decide +kernel
theorem dX11_contains_24 : decode cX11_contains 24 = .ok (.ireturn, 1) := by decide +kernel
theorem dX11_isIndex_0 : decode cX11_isIndex 0 = .ok (.iload_n 0, 1) := by decide +kernel
theorem dX11_isIndex_1 : decode cX11_isIndex 1 = .ok (.ifCond .lt 13, 3) := by decide +kernel
theorem dX11_isIndex_4 : decode cX11_isIndex 4 = .ok (.iload_n 0, 1) := by decide +kernel
theorem dX11_isIndex_5 : decode cX11_isIndex 5 = .ok (.bipush 8, 2) := by decide +kernel
theorem dX11_isIndex_7 : decode cX11_isIndex 7 = .ok (.if_icmp .ge 7, 3) := by decide +kernel
theorem dX11_isIndex_10 : decode cX11_isIndex 10 = .ok (.iconst 1, 1) := by decide +kernel
theorem dX11_isIndex_11 : decode cX11_isIndex 11 = .ok (.goto 4, 3) := by decide +kernel
theorem dX11_isIndex_14 : decode cX11_isIndex 14 = .ok (.iconst 0, 1) := by decide +kernel
theorem dX11_isIndex_15 : decode cX11_isIndex 15 = .ok (.ireturn, 1) := by decide +kernel
theorem dX11_commonDivisor_0 : decode cX11_commonDivisor 0 = .ok (.lload_n 0, 1) := by decide +kernel
theorem dX11_commonDivisor_1 : decode cX11_commonDivisor 1 = .ok (.lstore 4, 2) := by decide +kernel
theorem dX11_commonDivisor_3 : decode cX11_commonDivisor 3 = .ok (.lload_n 2, 1) := by decide +kernel
theorem dX11_commonDivisor_4 : decode cX11_commonDivisor 4 = .ok (.lstore 6, 2) := by decide +kernel
theorem dX11_commonDivisor_6 : decode cX11_commonDivisor 6 = .ok (.iconst 0, 1) := by decide +kernel
theorem dX11_commonDivisor_7 : decode cX11_commonDivisor 7 = .ok (.istore 8, 2) := by decide +kernel
theorem dX11_commonDivisor_9 : decode cX11_commonDivisor 9 = .ok (.iload 8, 2) := by decide +kernel
theorem dX11_commonDivisor_11 : decode cX11_commonDivisor 11 = .ok (.sipush 128, 3) := by decide +kernel
theorem dX11_commonDivisor_14 : decode cX11_commonDivisor 14 = .ok (.if_icmp .ge 31, 3) := by decide +kernel
theorem dX11_commonDivisor_17 : decode cX11_commonDivisor 17 = .ok (.lload 6, 2) := by decide +kernel
theorem dX11_commonDivisor_19 : decode cX11_commonDivisor 19 = .ok (.lconst 0, 1) := by decide +kernel
theorem dX11_commonDivisor_20 : decode cX11_commonDivisor 20 = .ok (.lcmp, 1) := by decide +kernel
theorem dX11_commonDivisor_21 : decode cX11_commonDivisor 21 = .ok (.ifCond .eq 24, 3) := by decide +kernel
theorem dX11_commonDivisor_24 : decode cX11_commonDivisor 24 = .ok (.lload 4, 2) := by decide +kernel
theorem dX11_commonDivisor_26 : decode cX11_commonDivisor 26 = .ok (.lload 6, 2) := by decide +kernel
theorem dX11_commonDivisor_28 : decode cX11_commonDivisor 28 = .ok (.lrem, 1) := by decide +kernel
theorem dX11_commonDivisor_29 : decode cX11_commonDivisor 29 = .ok (.lstore 9, 2) := by decide +kernel
theorem dX11_commonDivisor_31 : decode cX11_commonDivisor 31 = .ok (.lload 6, 2) := by decide +kernel
theorem dX11_commonDivisor_33 : decode cX11_commonDivisor 33 = .ok (.lstore 4, 2) := by decide +kernel
theorem dX11_commonDivisor_35 : decode cX11_commonDivisor 35 = .ok (.lload 9, 2) := by decide +kernel
theorem dX11_commonDivisor_37 : decode cX11_commonDivisor 37 = .ok (.lstore 6, 2) := by decide +kernel
theorem dX11_commonDivisor_39 : decode cX11_commonDivisor 39 = .ok (.iinc 8 1, 3) := by decide +kernel
theorem dX11_commonDivisor_42 : decode cX11_commonDivisor 42 = .ok (.goto (-33), 3) := by decide +kernel
theorem dX11_commonDivisor_45 : decode cX11_commonDivisor 45 = .ok (.lload 4, 2) := by decide +kernel
theorem dX11_commonDivisor_47 : decode cX11_commonDivisor 47 = .ok (.lconst 0, 1) := by decide +kernel
theorem dX11_commonDivisor_48 : decode cX11_commonDivisor 48 = .ok (.lcmp, 1) := by decide +kernel
theorem dX11_commonDivisor_49 : decode cX11_commonDivisor 49 = .ok (.ifCond .le 8, 3) := by decide +kernel
theorem dX11_commonDivisor_52 : decode cX11_commonDivisor 52 = .ok (.lload 4, 2) := by decide +kernel
theorem dX11_commonDivisor_54 : decode cX11_commonDivisor 54 = .ok (.goto 4, 3) := by decide +kernel
theorem dX11_commonDivisor_57 : decode cX11_commonDivisor 57 = .ok (.lconst 1, 1) := by decide +kernel
theorem dX11_commonDivisor_58 : decode cX11_commonDivisor 58 = .ok (.lreturn, 1) := by decide +kernel
set_option maxRecDepth 20000 in
theorem ggX11_commonMultiple_X11_commonDivisor : GoodIn wsX11_commonMultiple wsX11_commonDivisor := goodIn_k tie_wsX11_commonMultiple tie_wsX11_commonDivisor (by decide +kernel)
set_option maxRecDepth 20000 in
theorem gX11_commonMultiple_X11_commonDivisor : GoodIn wsX11_commonMultiple (va_wsS RX11 302 yX11_commonDivisor wsX11_commonDivisor) := goodIn_app (goodIn_k (is := [953, 468, 2]) tie_wsX11_commonMultiple rfl (by decide +kernel)) ggX11_commonMultiple_X11_commonDivisor
theorem dX11_commonMultiple_0 : decode cX11_commonMultiple 0 = .ok (.lload_n 0, 1) := by decide +kernel
theorem dX11_commonMultiple_1 : decode cX11_commonMultiple 1 = .ok (.lload_n 2, 1) := by decide +kernel
theorem dX11_commonMultiple_2 : decode cX11_commonMultiple 2 = .ok (.invokestatic 302, 3) := by decide +kernel
theorem dX11_commonMultiple_5 : decode cX11_commonMultiple 5 = .ok (.lstore 4, 2) := by decide +kernel
theorem dX11_commonMultiple_7 : decode cX11_commonMultiple 7 = .ok (.lload 4, 2) := by decide +kernel
theorem dX11_commonMultiple_9 : decode cX11_commonMultiple 9 = .ok (.lconst 0, 1) := by decide +kernel
theorem dX11_commonMultiple_10 : decode cX11_commonMultiple 10 = .ok (.lcmp, 1) := by decide +kernel
theorem dX11_commonMultiple_11 : decode cX11_commonMultiple 11 = .ok (.ifCond .ne 7, 3) := by decide +kernel
theorem dX11_commonMultiple_14 : decode cX11_commonMultiple 14 = .ok (.lconst 0, 1) := by decide +kernel
theorem dX11_commonMultiple_15 : decode cX11_commonMultiple 15 = .ok (.goto 9, 3) := by decide +kernel
theorem dX11_commonMultiple_18 : decode cX11_commonMultiple 18 = .ok (.lload_n 0, 1) := by decide +kernel
theorem dX11_commonMultiple_19 : decode cX11_commonMultiple 19 = .ok (.lload 4, 2) := by decide +kernel
theorem dX11_commonMultiple_21 : decode cX11_commonMultiple 21 = .ok (.ldiv, 1) := by decide +kernel
theorem dX11_commonMultiple_22 : decode cX11_commonMultiple 22 = .ok (.lload_n 2, 1) := by decide +kernel
theorem dX11_commonMultiple_23 : decode cX11_commonMultiple 23 = .ok (.lmul, 1) := by decide +kernel
theorem dX11_commonMultiple_24 : decode cX11_commonMultiple 24 = .ok (.lreturn, 1) := by decide +kernel
